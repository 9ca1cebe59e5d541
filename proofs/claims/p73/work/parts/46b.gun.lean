/-! ===== the same run once more: its state in pieces, its instructions looked up once ===== -/
noncomputable def s_N (n : Nat) (k : Nat → Bool) : Bool := Nat.rec (motive := fun _ => Bool) (k 0) (fun m _ => k (Nat.succ m)) n
theorem s_N_eq {n : Nat} {k : Nat → Bool} : s_N n k = k n := by cases n <;> rfl
noncomputable def s_Z (z : Int) (k : Int → Bool) : Bool := Int.rec (motive := fun _ => Bool) (fun n => s_N n (fun n => k (Int.ofNat n))) (fun n => s_N n (fun n => k (Int.negSucc n))) z
theorem s_Z_eq {z : Int} {k : Int → Bool} : s_Z z k = k z := by
  cases z with
  | ofNat n => exact s_N_eq (n := n) (k := fun n => k (Int.ofNat n))
  | negSucc n => exact s_N_eq (n := n) (k := fun n => k (Int.negSucc n))
noncomputable def s_V (a : AV) (k : AV → Bool) : Bool := Prod.rec (motive := fun _ => Bool) (fun t q => Prod.rec (motive := fun _ => Bool) (fun b c => s_N t (fun t => s_Z b (fun b => s_Z c (fun c => k (t, b, c))))) q) a
theorem s_V_eq {a : AV} {k : AV → Bool} : s_V a k = k a := by
  obtain ⟨t, b, c⟩ := a
  show s_N t (fun t => s_Z b (fun b => s_Z c (fun c => k (t, b, c)))) = _
  rw [s_N_eq, s_Z_eq, s_Z_eq]
noncomputable def s_I (q : Int × Int) (k : Int × Int → Bool) : Bool := Prod.rec (motive := fun _ => Bool) (fun a b => s_Z a (fun a => s_Z b (fun b => k (a, b)))) q
theorem s_I_eq {q : Int × Int} {k : Int × Int → Bool} : s_I q k = k q := by
  obtain ⟨a, b⟩ := q
  show s_Z a (fun a => s_Z b (fun b => k (a, b))) = _
  rw [s_Z_eq, s_Z_eq]
noncomputable def s_T (q : Nat × Int) (k : Nat × Int → Bool) : Bool := Prod.rec (motive := fun _ => Bool) (fun a b => s_N a (fun a => s_Z b (fun b => k (a, b)))) q
theorem s_T_eq {q : Nat × Int} {k : Nat × Int → Bool} : s_T q k = k q := by
  obtain ⟨a, b⟩ := q
  show s_N a (fun a => s_Z b (fun b => k (a, b))) = _
  rw [s_N_eq, s_Z_eq]
noncomputable def s_P (q : Nat × AV) (k : Nat × AV → Bool) : Bool := Prod.rec (motive := fun _ => Bool) (fun a b => s_N a (fun a => s_V b (fun b => k (a, b)))) q
theorem s_P_eq {q : Nat × AV} {k : Nat × AV → Bool} : s_P q k = k q := by
  obtain ⟨a, b⟩ := q
  show s_N a (fun a => s_V b (fun b => k (a, b))) = _
  rw [s_N_eq, s_V_eq]
noncomputable def s_L {α : Type} (f : α → (α → Bool) → Bool) (l : List α) : (List α → Bool) → Bool := List.rec (motive := fun _ => (List α → Bool) → Bool) (fun k => k []) (fun a _ ih k => f a (fun a => ih (fun r => k (a :: r)))) l
theorem s_L_eq {α : Type} {f : α → (α → Bool) → Bool} (h : ∀ a k, f a k = k a) : ∀ {l : List α} {k : List α → Bool}, s_L f l k = k l
  | [], _ => rfl
  | a :: r, k => by
    show f a (fun a => s_L f r (fun r => k (a :: r))) = _
    rw [h, s_L_eq h]
/-- the first element alone -/
noncomputable def s_H {α : Type} (l : List α) (k : List α → Bool) : Bool := List.rec (motive := fun _ => Bool) (k []) (fun a r _ => k (a :: r)) l
theorem s_H_eq {α : Type} {l : List α} {k : List α → Bool} : s_H l k = k l := by cases l <;> rfl
/-- the spine alone -/
noncomputable def s_S {α : Type} (l : List α) : (List α → Bool) → Bool := List.rec (motive := fun _ => (List α → Bool) → Bool) (fun k => k []) (fun a _ ih k => ih (fun r => k (a :: r))) l
theorem s_S_eq {α : Type} : ∀ {l : List α} {k : List α → Bool}, s_S l k = k l
  | [], _ => rfl
  | a :: r, k => by
    show s_S r (fun r => k (a :: r)) = _
    rw [s_S_eq]
/-- a value that is as it was stays as it stands -/
noncomputable def s_U (a : AV) (k : AV → Bool) : Bool := Prod.rec (motive := fun _ => Bool) (fun t q => Bool.rec (motive := fun _ => Bool) (s_V (t, q) k) (k (t, q)) (Nat.beq t 8)) a
theorem s_U_eq {a : AV} {k : AV → Bool} : s_U a k = k a := by
  obtain ⟨t, q⟩ := a
  show Bool.rec (motive := fun _ => Bool) (s_V (t, q) k) (k (t, q)) (Nat.beq t 8) = _
  cases Nat.beq t 8 with
  | false => exact s_V_eq
  | true => rfl
noncomputable def s_Q (q : Nat × AV) (k : Nat × AV → Bool) : Bool := Prod.rec (motive := fun _ => Bool) (fun a b => s_N a (fun a => s_U b (fun b => k (a, b)))) q
theorem s_Q_eq {q : Nat × AV} {k : Nat × AV → Bool} : s_Q q k = k q := by
  obtain ⟨a, b⟩ := q
  show s_N a (fun a => s_U b (fun b => k (a, b))) = _
  rw [s_N_eq, s_U_eq]
noncomputable def s_B (b : Bool) (k : Bool → Bool) : Bool := Bool.rec (motive := fun _ => Bool) (k false) (k true) b
theorem s_B_eq {b : Bool} {k : Bool → Bool} : s_B b k = k b := by cases b <;> rfl
noncomputable def s_C (c : Bool × AC) (k : Bool × AC → Bool) : Bool := Prod.rec (motive := fun _ => Bool) (fun b c => s_B b (fun b => Sum.rec (motive := fun _ => Bool) (fun o => Prod.rec (motive := fun _ => Bool) (fun n fs => s_N n (fun n => s_L s_U fs (fun fs => k (b, .inl (n, fs))))) o) (fun t => Prod.rec (motive := fun _ => Bool) (fun n sg => s_N n (fun n => s_L s_Q sg (fun sg => k (b, .inr (n, sg))))) t) c)) c
theorem s_C_eq {c : Bool × AC} {k : Bool × AC → Bool} : s_C c k = k c := by
  obtain ⟨b, c⟩ := c
  rcases c with ⟨n, fs⟩ | ⟨n, sg⟩
  · show s_B b (fun b => s_N n (fun n => s_L s_U fs (fun fs => k (b, .inl (n, fs))))) = _
    rw [s_B_eq, s_N_eq, s_L_eq (fun a k => s_U_eq (a := a) (k := k))]
  · show s_B b (fun b => s_N n (fun n => s_L s_Q sg (fun sg => k (b, .inr (n, sg))))) = _
    rw [s_B_eq, s_N_eq, s_L_eq (fun a k => s_Q_eq (q := a) (k := k))]
/-- spines alone -/
noncomputable def s_D (c : Bool × AC) (k : Bool × AC → Bool) : Bool := Prod.rec (motive := fun _ => Bool) (fun b c => Sum.rec (motive := fun _ => Bool) (fun o => Prod.rec (motive := fun _ => Bool) (fun n fs => s_S fs (fun fs => k (b, .inl (n, fs)))) o) (fun t => Prod.rec (motive := fun _ => Bool) (fun n sg => s_L s_Q sg (fun sg => k (b, .inr (n, sg)))) t) c) c
theorem s_D_eq {c : Bool × AC} {k : Bool × AC → Bool} : s_D c k = k c := by
  obtain ⟨b, c⟩ := c
  rcases c with ⟨n, fs⟩ | ⟨n, sg⟩
  · show s_S fs (fun fs => k (b, .inl (n, fs))) = _
    rw [s_S_eq]
  · show s_L s_Q sg (fun sg => k (b, .inr (n, sg))) = _
    rw [s_L_eq (fun a k => s_Q_eq (q := a) (k := k))]
/-- the first of a list worked out, of the rest where it ends -/
noncomputable def s_K {α : Type} (f : α → (α → Bool) → Bool) (l : List α) (k : List α → Bool) : Bool := List.rec (motive := fun _ => Bool) (k []) (fun a r _ => f a (fun a => s_S r (fun r => k (a :: r)))) l
theorem s_K_eq {α : Type} {f : α → (α → Bool) → Bool} (hf : ∀ a k, f a k = k a) {l : List α} {k : List α → Bool} : s_K f l k = k l := by
  cases l with
  | nil => rfl
  | cons a r =>
    show f a (fun a => s_S r (fun r => k (a :: r))) = _
    rw [hf, s_S_eq]
/-- the j-th of a list worked out, and what lies ahead of it gone through -/
noncomputable def s_J {α : Type} (f : α → (α → Bool) → Bool) (l : List α) : Nat → (List α → Bool) → Bool := List.rec (motive := fun _ => Nat → (List α → Bool) → Bool) (fun _ k => k []) (fun a r ih j k => Nat.rec (motive := fun _ => Bool) (f a (fun a => k (a :: r))) (fun j' _ => ih j' (fun r' => k (a :: r'))) j) l
theorem s_J_eq {α : Type} {f : α → (α → Bool) → Bool} (hf : ∀ a k, f a k = k a) : ∀ {l : List α} {j : Nat} {k : List α → Bool}, s_J f l j k = k l
  | [], _, _ => rfl
  | a :: r, 0, k => hf a (fun a => k (a :: r))
  | a :: r, j + 1, k => s_J_eq hf (l := r) (j := j) (k := fun r' => k (a :: r'))
noncomputable def s_W (c : LC) (k : LC → Bool) : Bool := Prod.rec (motive := fun _ => Bool) (fun ts n => s_L s_T ts (fun ts => s_Z n (fun n => k (ts, n)))) c
theorem s_W_eq {c : LC} {k : LC → Bool} : s_W c k = k c := by
  obtain ⟨a, b⟩ := c
  show s_L s_T a (fun ts => s_Z b (fun n => k (ts, n))) = _
  rw [s_L_eq (fun a k => s_T_eq (q := a) (k := k)), s_Z_eq]
abbrev NXT : Type := Nat → List (Nat × AV) → List AV → GI → HP → RLs → Bool
/-- a state taken apart: all of it worked out (0), all but locals, intervals and cells (1), the first local (2), all but locals and cells (3), .. one cell (100 and its place) -/
noncomputable def frM (kd : Nat) (k : NXT) (pc : Nat) (loc : List (Nat × AV)) (st : List AV) (G : GI) (hp : HP) (r : RLs) : Bool := match kd with
    | 1 => s_H loc (fun loc => s_H G (fun G => s_H hp (fun hp => s_H r (fun r => k pc loc st G hp r))))
    | 2 => s_K s_P loc (fun loc => s_H G (fun G => s_H hp (fun hp => s_H r (fun r => k pc loc st G hp r))))
    | 3 => s_H loc (fun loc => s_S G (fun G => s_H hp (fun hp => s_H r (fun r => k pc loc st G hp r))))
    | 4 => s_H loc (fun loc => s_S G (fun G => s_L s_D hp (fun hp => s_H r (fun r => k pc loc st G hp r))))
    | 5 => s_H loc (fun loc => s_S G (fun G => s_L s_C hp (fun hp => s_L s_W r (fun r => k pc loc st G hp r))))
    | 6 => s_H loc (fun loc => s_S G (fun G => s_H hp (fun hp => s_L s_W r (fun r => k pc loc st G hp r))))
    | _ => s_L s_P loc (fun loc => s_L s_I G (fun G => s_L s_C hp (fun hp => s_L s_W r (fun r => k pc loc st G hp r))))
theorem frM_eq {kd : Nat} {k : NXT} {pc : Nat} {loc : List (Nat × AV)} {st : List AV} {G : GI} {hp : HP} {r : RLs} : frM kd k pc loc st G hp r = k pc loc st G hp r := by
  unfold frM
  split
  · rw [s_H_eq, s_H_eq, s_H_eq, s_H_eq]
  · rw [s_K_eq (fun a k => s_P_eq (q := a) (k := k)), s_H_eq, s_H_eq, s_H_eq]
  · rw [s_H_eq, s_S_eq, s_H_eq, s_H_eq]
  · rw [s_H_eq, s_S_eq, s_L_eq (fun a k => s_D_eq (c := a) (k := k)), s_H_eq]
  · rw [s_H_eq, s_S_eq, s_L_eq (fun a k => s_C_eq (c := a) (k := k)), s_L_eq (fun a k => s_W_eq (c := a) (k := k))]
  · rw [s_H_eq, s_S_eq, s_H_eq, s_L_eq (fun a k => s_W_eq (c := a) (k := k))]
  · rw [s_L_eq (fun a k => s_P_eq (q := a) (k := k)), s_L_eq (fun a k => s_I_eq (q := a) (k := k)), s_L_eq (fun a k => s_C_eq (c := a) (k := k)), s_L_eq (fun a k => s_W_eq (c := a) (k := k))]
noncomputable def frc (kd : Nat) (x : ASR) (k : NXT) : Bool := Prod.rec (motive := fun _ => Bool) (fun a r => Prod.rec (motive := fun _ => Bool) (fun pc a1 => Prod.rec (motive := fun _ => Bool) (fun loc a2 => Prod.rec (motive := fun _ => Bool) (fun st a3 => Prod.rec (motive := fun _ => Bool) (fun G hp =>
  s_N pc (fun pc => s_K s_V st (fun st => Bool.rec (motive := fun _ => Bool) (frM kd k pc loc st G hp r) (s_H loc (fun loc => s_H G (fun G => s_J s_D hp (Nat.sub kd 100) (fun hp => s_H r (fun r => k pc loc st G hp r))))) (Nat.ble 100 kd))) ) a3) a2) a1) a) x
theorem frc_eq {kd : Nat} {x : ASR} {k : NXT} : frc kd x k = k x.1.1 x.1.2.1 x.1.2.2.1 x.1.2.2.2.1 x.1.2.2.2.2 x.2 := by
  obtain ⟨⟨pc, loc, st, G, hp⟩, r⟩ := x
  show s_N pc (fun pc => s_K s_V st (fun st => Bool.rec (motive := fun _ => Bool) (frM kd k pc loc st G hp r) (s_H loc (fun loc => s_H G (fun G => s_J s_D hp (Nat.sub kd 100) (fun hp => s_H r (fun r => k pc loc st G hp r))))) (Nat.ble 100 kd))) = _
  rw [s_N_eq, s_K_eq (fun a k => s_V_eq (a := a) (k := k))]
  cases Nat.ble 100 kd with
  | false => exact frM_eq
  | true =>
    show s_H loc (fun loc => s_H G (fun G => s_J s_D hp (Nat.sub kd 100) (fun hp => s_H r (fun r => k pc loc st G hp r)))) = _
    rw [s_H_eq, s_H_eq, s_J_eq (fun a k => s_D_eq (c := a) (k := k)), s_H_eq]
noncomputable def mapR (r : RLs) (o : Option (List AS)) : Option (List ASR) := match o with
  | some L => some (L.map (fun b => (b, r)))
  | none => none
theorem mapA {T : TB} {d : Nat} {BT : List (Nat × Nat)} {FT CT : CTB2} {RW : List Nat} {R : Nat × Nat} {ins : ClassFile.Instr} {len : Nat} {x : ASR} {L : List ASR} (hn : x.1.1 ∉ RW) {o : Option (List AS)} (h1 : stpA T ins len x.1 = o) (h : mapR x.2 o = some L) : stp3 T d BT FT CT RW R ins len x = some L := by
  unfold stp3
  rw [if_neg hn, h1]
  unfold mapR at h
  split at h
  · exact h
  · cases h
theorem mapH {T : TB} {d : Nat} {BT : List (Nat × Nat)} {FT CT : CTB2} {RW : List Nat} {R : Nat × Nat} {ins : ClassFile.Instr} {len : Nat} {x : ASR} {L : List ASR} (hn : x.1.1 ∉ RW) (h0 : stpA T ins len x.1 = none) {o : Option (List AS)} (h1 : stpH T ins len x.1 = o) (h : mapR x.2 o = some L) : stp3 T d BT FT CT RW R ins len x = some L := by
  unfold stp3
  rw [if_neg hn, h0, h1]
  unfold mapR at h
  split at h
  · exact h
  · cases h
theorem set_same {α : Type} : ∀ {l : List α} {i : Nat} {a : α}, l[i]? = some a → l.set i a = l
  | [], _, _, h => by simp at h
  | x :: r, 0, a, h => by simp at h; rw [h]; rfl
  | x :: r, i + 1, a, h => by
    rw [List.set_cons_succ, set_same (l := r) (i := i) (a := a) (by simpa using h)]
/-- a field that is a known number, or has its name: the cells stay -/
noncomputable def gfdQ (T : TB) (i : Nat) (a : AS) : Option (List AS) := match a.2.2.1, look T.2.2.2.2 i with
  | x :: st, some (ci, k, _) => if x.1 = 6 then (match nthG a.2.2.2.2 x.2.1.toNat with
    | some (_, .inl (cj, fs)) => if ci = cj then (match nthG fs k with
      | some v => Bool.rec (motive := fun _ => Option (List AS)) (some [(a.1 + 3, a.2.1, v :: st, a.2.2.2.1, a.2.2.2.2)]) (gfd T i a) (Nat.beq v.1 2 || (Nat.beq v.1 5 || Nat.beq v.1 8))
      | none => none) else none
    | _ => none) else none
  | _, _ => none
theorem nam_id {G : GI} {v : AV} (h : (Nat.beq v.1 2 || (Nat.beq v.1 5 || Nat.beq v.1 8)) = false) : nam G v = some (G, v) := by
  obtain ⟨t, b, c⟩ := v
  rw [Bool.or_eq_false_iff, Bool.or_eq_false_iff] at h
  obtain ⟨h2, h5, h8⟩ := h
  unfold nam
  split
  · rename_i e; have e : t = 2 := e; subst e; cases h2
  · rename_i e; have e : t = 5 := e; subst e; cases h5
  · rename_i e; have e : t = 8 := e; subst e; cases h8
  · rfl
theorem gfdQ_ok {T : TB} {i : Nat} {a : AS} {L : List AS} (h : gfdQ T i a = some L) : gfd T i a = some L := by
  unfold gfdQ at h
  split at h
  · rename_i x st ci k ty h1 h2
    split at h
    · rename_i hx
      split at h
      · rename_i fl cj fs h3
        split at h
        · rename_i hc
          split at h
          · rename_i v h4
            rw [nthG_eq] at h3 h4
            cases hb : (Nat.beq v.1 2 || (Nat.beq v.1 5 || Nat.beq v.1 8)) with
            | true => rw [hb] at h; exact h
            | false =>
              rw [hb] at h
              have h : some [(a.1 + 3, a.2.1, v :: st, a.2.2.2.1, a.2.2.2.2)] = some L := h
              unfold gfd
              rw [h1, h2]
              simp only
              rw [if_pos hx, h3]
              simp only
              rw [if_pos hc, h4]
              simp only
              rw [nam_id hb]
              simp only
              rw [set_same h4, set_same h3]
              exact h
          · cases h
        · cases h
      · cases h
    · cases h
  · cases h
/-- an element of a row of numbers -/
noncomputable def rdAQ (G : GI) (sg : List (Nat × AV)) (lo hi : Nat) : Option (GI × AV) := match ovlQ lo hi sg 0 with
  | [x] => nam G x
  | xs => match hulI G xs with
    | some q => some (mk2 G q)
    | none => match hulL G xs with
      | some q => some (mk5 G q)
      | none => none
theorem rdAQ_eq {G : GI} {sg : List (Nat × AV)} {lo hi : Nat} : rdAQ G sg lo hi = rdA G sg lo hi := by
  unfold rdAQ rdA
  rw [ovlQ_eq] <;> rfl
noncomputable def aldQ (t0 t1 : Nat) (a : AS) : Option (List AS) := match a.2.2.1 with
  | i :: x :: st => if x.1 = 6 then (match nthG a.2.2.2.2 x.2.1.toNat, ivI a.2.2.2.1 i with
    | some (_, .inr (t, sg)), some q => if (t = t0 ∨ t = t1) ∧ 0 ≤ q.1 ∧ q.2 < (tot sg : Int) then (match rdAQ a.2.2.2.1 sg q.1.toNat q.2.toNat with
      | some r => some [(a.1 + 1, a.2.1, r.2 :: st, r.1, a.2.2.2.2)]
      | none => none) else none
    | _, _ => none) else none
  | _ => none
theorem aldQ_eq {t0 t1 : Nat} {a : AS} : aldQ t0 t1 a = ald t0 t1 a := by
  unfold aldQ ald
  simp only [rdAQ_eq, nthG_eq] <;> rfl
/-- an instruction, looked up: how its end is to be worked out, what it does -/
noncomputable def stpO (T : TB) (ins : ClassFile.Instr) (len : Nat) : Option (Nat × (ASR → Option (List ASR))) := match ins with
  | .iconst n => some (1, fun x => mapR x.2 (if len = 1 ∧ -2147483648 ≤ n ∧ n ≤ 2147483647 then some (psh x.1 1 (x.1.2.2.2.1, (0, n, 0))) else none))
  | .bipush n => some (1, fun x => mapR x.2 (if len = 2 ∧ -128 ≤ n ∧ n ≤ 127 then some (psh x.1 2 (x.1.2.2.2.1, (0, n, 0))) else none))
  | .sipush n => some (1, fun x => mapR x.2 (if len = 3 ∧ -32768 ≤ n ∧ n ≤ 32767 then some (psh x.1 3 (x.1.2.2.2.1, (0, n, 0))) else none))
  | .lconst n => some (1, fun x => mapR x.2 (if len = 1 then some (psh x.1 1 (x.1.2.2.2.1, (3, ((n : Nat) : Int), 0))) else none))
  | .ldc2_w i => some (1, fun x => mapR x.2 (if len = 3 then (match look T.2.2.2.1 i with
    | some v => some (psh x.1 3 (x.1.2.2.2.1, (3, v.toInt, 0)))
    | none => none) else none))
  | .iload_n k => some (1, fun x => mapR x.2 (if len = 1 then ldI x.1 k 1 else none))
  | .iload i => some (1, fun x => mapR x.2 (if len = 2 then ldI x.1 i 2 else none))
  | .lload_n k => some (1, fun x => mapR x.2 (if len = 1 then ldL x.1 k 1 else none))
  | .lload i => some (1, fun x => mapR x.2 (if len = 2 then ldL x.1 i 2 else none))
  | .aload_n k => some (1, fun x => mapR x.2 (if len = 1 then ldR x.1 k 1 else none))
  | .aload i => some (1, fun x => mapR x.2 (if len = 2 then ldR x.1 i 2 else none))
  | .istore_n k => some (2, fun x => mapR x.2 (if len = 1 then stI T.2.1 x.1 k 1 else none))
  | .istore i => some (2, fun x => mapR x.2 (if len = 2 then stI T.2.1 x.1 i 2 else none))
  | .iinc i n => some (2, fun x => mapR x.2 (if len = 3 ∧ i < T.2.1 ∧ -2147483648 ≤ n ∧ n ≤ 2147483647 then (match fnd x.1.2.1 i with
    | some v => if v.1 ≤ 2 then (match addI x.1.2.2.2.1 v (0, n, 0) with
      | some r => if r.2.1 ≤ 2 then some [(x.1.1 + 3, (i, r.2) :: flt1 i x.1.2.1, x.1.2.2.1, r.1, x.1.2.2.2.2)] else none
      | none => none) else none
    | none => none) else none))
  | .iadd => some (3, fun x => mapR x.2 (if len = 1 then bin addI x.1 else none))
  | .isub => some (3, fun x => mapR x.2 (if len = 1 then bin subI x.1 else none))
  | .imul => some (3, fun x => mapR x.2 (if len = 1 then bin (binF (cstF (· * ·) mulF)) x.1 else none))
  | .iand => some (3, fun x => mapR x.2 (if len = 1 then bin (binF (cstF (· &&& ·) andF)) x.1 else none))
  | .ior => some (3, fun x => mapR x.2 (if len = 1 then bin (binF (cstF (· ||| ·) topF)) x.1 else none))
  | .i2l => some (1, fun x => mapR x.2 (if len = 1 then (match x.1.2.2.1 with
    | y :: st => (match i2lA y with
      | some r => some [(x.1.1 + 1, x.1.2.1, r :: st, x.1.2.2.2.1, x.1.2.2.2.2)]
      | none => none)
    | _ => none) else none))
  | .dup => some (1, fun x => mapR x.2 (if len = 1 then (match x.1.2.2.1 with
    | y :: st => if y.1 ≤ 2 ∨ y.1 = 6 then some [(x.1.1 + 1, x.1.2.1, y :: y :: st, x.1.2.2.2.1, x.1.2.2.2.2)] else none
    | _ => none) else none))
  | .pop => some (1, fun x => mapR x.2 (if len = 1 then (match x.1.2.2.1 with
    | y :: st => if y.1 ≤ 2 ∨ y.1 = 6 then some [(x.1.1 + 1, x.1.2.1, st, x.1.2.2.2.1, x.1.2.2.2.2)] else none
    | _ => none) else none))
  | .ifCond q off => some (3, fun x => mapR x.2 (if len = 3 then if1 (cnd q) off x.1 else none))
  | .if_icmp q off => some (3, fun x => mapR x.2 (if len = 3 then if2 (cnd q) off x.1 else none))
  | .goto off => some (1, fun x => mapR x.2 (if len = 3 ∧ 0 ≤ (x.1.1 : Int) + off then some [(((x.1.1 : Int) + off).toNat, x.1.2.1, x.1.2.2.1, x.1.2.2.2.1, x.1.2.2.2.2)] else none))
  | .lcmp => some (3, fun x => mapR x.2 (if len = 1 then lcb T x.1 else none))
  | .getfield i => some (3, fun x => if len = 3 then mapR x.2 (gfdQ T i x.1) else none)
  | .putfield i => some (4, fun x => mapR x.2 (if len = 3 then pfd T i x.1 else none))
  | .baload => some (3, fun x => mapR x.2 (if len = 1 then aldQ 0 3 x.1 else none))
  | .laload => some (3, fun x => mapR x.2 (if len = 1 then aldQ 2 2 x.1 else none))
  | .aaload => some (3, fun x => mapR x.2 (if len = 1 then alR x.1 else none))
  | .iastore => some (4, fun x => mapR x.2 (if len = 1 then ast 1 1 x.1 else none))
  | .bastore => some (4, fun x => mapR x.2 (if len = 1 then ast 0 3 x.1 else none))
  | .lastore => some (4, fun x => mapR x.2 (if len = 1 then ast 2 2 x.1 else none))
  | _ => none
theorem stpO_ok {T : TB} {d : Nat} {BT : List (Nat × Nat)} {FT CT : CTB2} {RW : List Nat} {R : Nat × Nat} {ins : ClassFile.Instr} {len : Nat} {p : Nat × (ASR → Option (List ASR))} (hp : stpO T ins len = some p) {x : ASR} {L : List ASR} (hn : x.1.1 ∉ RW) (h : p.2 x = some L) : stp3 T d BT FT CT RW R ins len x = some L := by
  unfold stpO at hp
  split at hp
  all_goals first
    | (cases hp; exact mapA hn rfl h)
    | (cases hp; exact mapH hn rfl rfl h)
    | (cases hp; simp only [aldQ_eq] at h; exact mapH hn rfl rfl h)
    | cases hp
  rename_i i
  have h9 : (if len = 3 then mapR x.2 (gfdQ T i x.1) else none) = some L := h
  clear h
  split at h9
  · rename_i hl
    subst hl
    cases hq : gfdQ T i x.1 with
    | none => rw [hq] at h9; cases h9
    | some L' =>
      rw [hq] at h9
      exact mapH hn rfl (by show gfd T i x.1 = _; exact gfdQ_ok hq) h9
  · cases h9
/-- a call by the contracts that are meant for its place: those of the start's cells first -/
noncomputable def clO (d st i : Nat) (R : Nat × Nat) (FT CA : CTB2) (x : ASR) : Option (List ASR) := match trcFG d st i R x FT with
  | some L => some L
  | none => trcH d R x CA
theorem clO_eq {d st i pc : Nat} {R : Nat × Nat} {FT CT : CTB2} {x : ASR} (hp : x.1.1 = pc) : clO d st i R FT (ctAt pc st i CT) x = trcB d st i R x FT CT := by
  unfold clO trcB
  rw [trcFG_eq, trcH_eq, trcG_eq hp]
  rfl
/-- contracts by which no cell is changed: cells need not be worked out behind them -/
noncomputable def unF (CA : CTB2) : Bool := allQ (fun q => allQ (fun o => allQ (fun c => !c.1) o.2.2.1) q.2.2.2.1.2.2.2) CA
noncomputable def kdCT (FT CA : CTB2) : Nat := Bool.rec (motive := fun _ => Nat) 5 6 (unF FT && unF CA)
noncomputable def stpC (d : Nat) (BT : List (Nat × Nat)) (FT CT : CTB2) (R : Nat × Nat) (pc : Nat) (ins : ClassFile.Instr) (len : Nat) : Option (Nat × (ASR → Option (List ASR))) := match ins with
  | .invokevirtual i => (match look BT i with
    | none => some (kdCT FT (ctAt pc 0 i CT), fun x => if len = 3 then clO d 0 i R FT (ctAt pc 0 i CT) x else none)
    | some _ => none)
  | .invokestatic i => (match look BT i with
    | none => some (kdCT FT (ctAt pc 1 i CT), fun x => if len = 3 then clO d 1 i R FT (ctAt pc 1 i CT) x else none)
    | some 4 => some (kdCT FT (ctAt pc 2 i CT), fun x => if len = 3 then clO d 2 i R FT (ctAt pc 2 i CT) x else none)
    | some _ => none)
  | _ => none
theorem stpC_ok {T : TB} {d : Nat} {BT : List (Nat × Nat)} {FT CT : CTB2} {RW : List Nat} {R : Nat × Nat} {pc : Nat} {ins : ClassFile.Instr} {len : Nat} {p : Nat × (ASR → Option (List ASR))} (hp : stpC d BT FT CT R pc ins len = some p) {x : ASR} {L : List ASR} (hpc : x.1.1 = pc) (hn : x.1.1 ∉ RW) (h : p.2 x = some L) : stp3 T d BT FT CT RW R ins len x = some L := by
  unfold stpC at hp
  split at hp
  · rename_i i
    split at hp
    · rename_i hlk
      cases hp
      have h : (if len = 3 then clO d 0 i R FT (ctAt pc 0 i CT) x else none) = some L := h
      have hB : stpB T BT R (.invokevirtual i) len x.1 = none := by
        show (if len = 3 then (match look BT i with
          | some b => if b = 6 then txL R x.1 else if b = 7 then txC R x.1 else none
          | none => none) else none) = none
        rw [hlk]
        split <;> rfl
      unfold stp3
      rw [if_neg hn, show stpA T (.invokevirtual i) len x.1 = none from rfl, show stpH T (.invokevirtual i) len x.1 = none from rfl, show stpX T BT R (.invokevirtual i) len x.1 = none from rfl, hB]
      show (if len = 3 then trcB d 0 i R x FT CT else none) = some L
      rw [clO_eq hpc] at h
      exact h
    · cases hp
  · rename_i i
    split at hp
    · rename_i hlk
      cases hp
      have h : (if len = 3 then clO d 1 i R FT (ctAt pc 1 i CT) x else none) = some L := h
      have hX : stpX T BT R (.invokestatic i) len x.1 = none := by
        show (if len = 3 then (match look BT i with
          | some 2 => mxm true R x.1
          | some 3 => mxm false R x.1
          | _ => none) else none) = none
        rw [hlk]
        split <;> rfl
      have hB : stpB T BT R (.invokestatic i) len x.1 = none := by
        show (if len = 3 then (match look BT i with
          | some b => if b = 5 then absA R x.1 else none
          | none => none) else none) = none
        rw [hlk]
        split <;> rfl
      unfold stp3
      rw [if_neg hn, show stpA T (.invokestatic i) len x.1 = none from rfl, show stpH T (.invokestatic i) len x.1 = none from rfl, hX, hB]
      rw [clO_eq hpc] at h
      unfold stpD
      dsimp only
      rw [hlk]
      exact h
    · rename_i hlk
      cases hp
      have h : (if len = 3 then clO d 2 i R FT (ctAt pc 2 i CT) x else none) = some L := h
      have hX : stpX T BT R (.invokestatic i) len x.1 = none := by
        show (if len = 3 then (match look BT i with
          | some 2 => mxm true R x.1
          | some 3 => mxm false R x.1
          | _ => none) else none) = none
        rw [hlk]
        split <;> rfl
      have hB : stpB T BT R (.invokestatic i) len x.1 = none := by
        show (if len = 3 then (match look BT i with
          | some b => if b = 5 then absA R x.1 else none
          | none => none) else none) = none
        rw [hlk]
        split <;> rfl
      unfold stp3
      rw [if_neg hn, show stpA T (.invokestatic i) len x.1 = none from rfl, show stpH T (.invokestatic i) len x.1 = none from rfl, hX, hB]
      rw [clO_eq hpc] at h
      unfold stpD
      dsimp only
      rw [hlk]
      exact h
    · cases hp
  · cases hp
noncomputable def memB (n : Nat) (l : List Nat) : Bool := l.any (fun k => Nat.beq k n)
theorem memB_no {n : Nat} {l : List Nat} (h : memB n l = false) : n ∉ l := fun hm => by
  have : memB n l = true := List.any_eq_true.mpr ⟨n, hm, Nat.beq_eq.mpr rfl⟩
  rw [h] at this
  cases this
/-- a number out of a row, quickly; else as the rest -/
noncomputable def stpI (T : TB) (d : Nat) (BT : List (Nat × Nat)) (FT CT : CTB2) (RW : List Nat) (R : Nat × Nat) (ins : ClassFile.Instr) (len : Nat) : Option (Nat × (ASR → Option (List ASR))) := match ins with
  | .iaload => some (3, fun x => Option.rec (motive := fun _ => Option (List ASR)) (stp3 T d BT FT CT RW R .iaload len x) (fun L => some (L.map (fun b => (b, x.2)))) (if len = 1 then aldQ 1 1 x.1 else none))
  | _ => none
theorem stpI_ok {T : TB} {d : Nat} {BT : List (Nat × Nat)} {FT CT : CTB2} {RW : List Nat} {R : Nat × Nat} {ins : ClassFile.Instr} {len : Nat} {p : Nat × (ASR → Option (List ASR))} (hp : stpI T d BT FT CT RW R ins len = some p) {x : ASR} {L : List ASR} (hn : x.1.1 ∉ RW) (h : p.2 x = some L) : stp3 T d BT FT CT RW R ins len x = some L := by
  unfold stpI at hp
  split at hp
  · cases hp
    have h : Option.rec (motive := fun _ => Option (List ASR)) (stp3 T d BT FT CT RW R .iaload len x) (fun L => some (L.map (fun b => (b, x.2)))) (if len = 1 then aldQ 1 1 x.1 else none) = some L := h
    cases hq : (if len = 1 then aldQ 1 1 x.1 else none) with
    | none =>
      rw [hq] at h
      exact h
    | some L' =>
      rw [hq] at h
      have e : stpH T .iaload len x.1 = some L' := by
        show (if len = 1 then ald 1 1 x.1 else none) = some L'
        rw [← aldQ_eq]
        exact hq
      unfold stp3
      rw [if_neg hn, show stpA T .iaload len x.1 = none from rfl, e]
      exact h
  · cases hp
noncomputable def stpQ (T : TB) (d : Nat) (BT : List (Nat × Nat)) (FT CT : CTB2) (RW : List Nat) (R : Nat × Nat) (pc : Nat) (q : ClassFile.Instr × Nat) : Option (Nat × (ASR → Option (List ASR))) := Bool.rec (motive := fun _ => Option (Nat × (ASR → Option (List ASR)))) (Option.rec (motive := fun _ => Option (Nat × (ASR → Option (List ASR)))) (Option.rec (motive := fun _ => Option (Nat × (ASR → Option (List ASR)))) (stpC d BT FT CT R pc q.1 q.2) (fun p => some p) (stpI T d BT FT CT RW R q.1 q.2)) (fun p => some p) (stpO T q.1 q.2)) none (memB pc RW)
noncomputable def gEnd (kd : Nat) (o : Option (List ASR)) (nxt : NXT) : Bool := Option.rec (motive := fun _ => Bool) false (fun L => L.all (fun z => frc kd z nxt)) o
/-- how much is worked out behind a step that has no quick one -/
noncomputable def kdQ (w6 : Bool) (ins : ClassFile.Instr) : Nat := match w6 with
  | true => 6
  | false => match ins with
    | .iaload => 3
    | .l2i => 3
    | .ishl => 3
    | .ishr => 3
    | .iushr => 3
    | .ixor => 3
    | .idiv => 3
    | .irem => 3
    | .ladd => 3
    | .lsub => 3
    | .lmul => 3
    | .ldiv => 3
    | .lrem => 3
    | .tableswitch _ _ _ _ => 3
    | .dup2 => 1
    | .ldc _ => 1
    | .ldc_w _ => 1
    | .getstatic _ => 1
    | .lstore_n _ => 2
    | .lstore _ => 2
    | _ => 0
noncomputable def kn1 (v : AV) : Bool := Nat.beq v.1 0 || Nat.beq v.1 3
/-- nothing new where all is known; one cell where one is written -/
noncomputable def kdC (ins : ClassFile.Instr) : Nat := match ins with
  | .ifCond _ _ => 1
  | .if_icmp _ _ => 2
  | .iadd => 3
  | .isub => 4
  | .getfield _ => 5
  | .putfield _ => 6
  | .iastore => 7
  | .bastore => 7
  | .lastore => 7
  | _ => 0
noncomputable def fldI (ins : ClassFile.Instr) : Nat := match ins with
  | .getfield i => i
  | _ => 0
noncomputable def kdE (T : TB) (kd c i : Nat) (x : ASR) : Nat := Bool.rec (motive := fun _ => Nat)
  (Bool.rec (motive := fun _ => Nat)
    (Bool.rec (motive := fun _ => Nat)
      (Bool.rec (motive := fun _ => Nat)
        (Bool.rec (motive := fun _ => Nat)
          (Bool.rec (motive := fun _ => Nat)
            (Bool.rec (motive := fun _ => Nat)
              (match x.1.2.2.1 with
                | _ :: _ :: w :: _ => Nat.add 100 w.2.1.toNat
                | _ => kd)
              (match x.1.2.2.1 with
                | _ :: w :: _ => Nat.add 100 w.2.1.toNat
                | _ => kd) (Nat.beq c 6))
            (match x.1.2.2.1 with
              | v :: w :: _ => Bool.rec (motive := fun _ => Nat) kd 1 (kn1 v && Nat.ble w.1 1)
              | _ => kd) (Nat.beq c 4))
          (match x.1.2.2.1 with
            | v :: _ => Bool.rec (motive := fun _ => Nat) kd 1 (kn1 v)
            | _ => kd) (Nat.beq c 1))
        (match x.1.2.2.1 with
          | v :: w :: _ => Bool.rec (motive := fun _ => Nat) kd 1 (kn1 v && kn1 w)
          | _ => kd) (Nat.beq c 2))
      (match x.1.2.2.1 with
        | v :: w :: _ => Bool.rec (motive := fun _ => Nat) kd 1 ((kn1 v && Nat.ble w.1 1) || (kn1 w && Nat.ble v.1 1))
        | _ => kd) (Nat.beq c 3))
    (match x.1.2.2.1, look T.2.2.2.2 i with
      | v :: _, some (_, k, _) => (match nthG x.1.2.2.2.2 v.2.1.toNat with
        | some (_, .inl (_, fs)) => (match nthG fs k with
          | some w => Bool.rec (motive := fun _ => Nat) 1 kd (Nat.beq w.1 2 || (Nat.beq w.1 5 || Nat.beq w.1 8))
          | none => kd)
        | _ => kd)
      | _, _ => kd) (Nat.beq c 5))
  kd (Nat.beq c 0)
noncomputable def kdP (os : List POP) : Nat := Bool.rec (motive := fun _ => Nat) 3 0 (os.any (fun o => Nat.beq o.1 4))
/-- one instruction -/
noncomputable def gOne (T : TB) (d : Nat) (BT : List (Nat × Nat)) (FT CT : CTB2) (RW : List Nat) (R : Nat × Nat) (ret : Option FieldType) (n0 : Nat) (outs : List Out2) (pc : Nat) (q : ClassFile.Instr × Nat) (x : ASR) (nxt : NXT) : Bool := Option.rec (motive := fun _ => Bool)
  (Bool.rec (motive := fun _ => Bool) (gEnd (kdQ (memB pc RW) q.1) (stp3 T d BT FT CT RW R q.1 q.2 x) nxt) (finRG ret d n0 outs q.1 q.2 x) (isR q.1))
  (fun p => gEnd (kdE T p.1 (kdC q.1) (fldI q.1) x) (p.2 x) nxt) (stpQ T d BT FT CT RW R pc q)
noncomputable def gStep (T : TB) (d : Nat) (BT : List (Nat × Nat)) (FT CT : CTB2) (RF : List (Nat × List POP)) (RW : List Nat) (R : Nat × Nat) (ret : Option FieldType) (n0 : Nat) (outs : List Out2) (pc : Nat) (x : ASR) (nxt : NXT) : Bool := Option.rec (motive := fun _ => Bool) false
  (fun q => Option.rec (motive := fun _ => Bool) (gOne T d BT FT CT RW R ret n0 outs pc q x nxt)
    (fun os => Option.rec (motive := fun _ => Bool) false (fun X => X.all (fun y => frc (kdP os) y (fun pc' loc st G hp r => Nat.beq pc' pc && gOne T d BT FT CT RW R ret n0 outs pc q ((pc, loc, st, G, hp), r) nxt))) (prA d os x)) (look RF pc)) (look T.1 pc)
noncomputable def cutsAt (CU : List CUT2) (pc : Nat) : List CUT2 := CU.filter (fun k => Nat.beq k.1.1 pc)
noncomputable def atCut (CU : List CUT2) (pc : Nat) : Bool := CU.any (fun k => Nat.beq k.1.1 pc)
noncomputable def gCut (d n0 : Nat) (src : Option CUT2) (ks : List CUT2) (x : ASR) : Bool := ks.any (fun k => qck x.1 k.1 && (cutWG d n0 x k && wCtW d n0 x src k))
noncomputable def runG (T : TB) (d : Nat) (BT : List (Nat × Nat)) (FT CT : CTB2) (RF : List (Nat × List POP)) (RW : List Nat) (R : Nat × Nat) (ret : Option FieldType) (n0 : Nat) (outs : List Out2) (CU : List CUT2) (src : Option CUT2) (f : Nat) : Bool → NXT := Nat.rec (motive := fun _ => Bool → NXT) (fun _ _ _ _ _ _ _ => false)
  (fun _ ih first pc loc st G hp r => Bool.rec (motive := fun _ => Bool) (gStep T d BT FT CT RF RW R ret n0 outs pc ((pc, loc, st, G, hp), r) (ih false)) (gCut d n0 src (cutsAt CU pc) ((pc, loc, st, G, hp), r)) (!first && atCut CU pc)) f
section GUN
variable {T : TB} {d : Nat} {BT : List (Nat × Nat)} {FT CT : CTB2} {RF : List (Nat × List POP)} {RW : List Nat} {R : Nat × Nat} {ret : Option FieldType} {n0 : Nat} {outs : List Out2} {CU : List CUT2} {src : Option CUT2}
theorem gEnd_ok {kd : Nat} {o : Option (List ASR)} {nxt : NXT} (h : gEnd kd o nxt = true) : ∃ L, o = some L ∧ ∀ z ∈ L, nxt z.1.1 z.1.2.1 z.1.2.2.1 z.1.2.2.2.1 z.1.2.2.2.2 z.2 = true := by
  cases o with
  | none => cases h
  | some L => exact ⟨L, rfl, fun z hz => by have := List.all_eq_true.mp h z hz; rwa [frc_eq] at this⟩
theorem gOne_ok {f : Nat} (ih : ∀ pc loc st G hp r, runG T d BT FT CT RF RW R ret n0 outs CU src f false pc loc st G hp r = true → runR T d BT FT CT RF RW R ret n0 outs CU src f false ((pc, loc, st, G, hp), r) = true) {pc : Nat} {q : ClassFile.Instr × Nat} {x : ASR} (hpc : x.1.1 = pc) (h : gOne T d BT FT CT RW R ret n0 outs pc q x (runG T d BT FT CT RF RW R ret n0 outs CU src f false) = true) : (finR ret d n0 outs q.1 q.2 x || (match stp3 T d BT FT CT RW R q.1 q.2 x with
        | some L => L.all (runR T d BT FT CT RF RW R ret n0 outs CU src f false)
        | none => false)) = true := by
  have fin : ∀ L, stp3 T d BT FT CT RW R q.1 q.2 x = some L → (∀ z ∈ L, runG T d BT FT CT RF RW R ret n0 outs CU src f false z.1.1 z.1.2.1 z.1.2.2.1 z.1.2.2.2.1 z.1.2.2.2.2 z.2 = true) → (finR ret d n0 outs q.1 q.2 x || (match stp3 T d BT FT CT RW R q.1 q.2 x with
        | some L => L.all (runR T d BT FT CT RF RW R ret n0 outs CU src f false)
        | none => false)) = true := fun L hL hz => by
    rw [Bool.or_eq_true]
    refine Or.inr ?_
    rw [hL]
    exact List.all_eq_true.mpr (fun z hm => ih _ _ _ _ _ _ (hz z hm))
  unfold gOne at h
  cases hQ : stpQ T d BT FT CT RW R pc q with
  | none =>
    rw [hQ] at h
    cases hR : isR q.1 with
    | true =>
      rw [hR] at h
      rw [Bool.or_eq_true]
      exact Or.inl (finRG_ok h)
    | false =>
      rw [hR] at h
      obtain ⟨L, h1, h2⟩ := gEnd_ok (kd := kdQ (memB pc RW) q.1) h
      exact fin L h1 h2
  | some p =>
    rw [hQ] at h
    obtain ⟨L, h1, h2⟩ := gEnd_ok (kd := kdE T p.1 (kdC q.1) (fldI q.1) x) h
    unfold stpQ at hQ
    cases hm : memB pc RW with
    | true => rw [hm] at hQ; cases hQ
    | false =>
      rw [hm] at hQ
      have hQ : Option.rec (motive := fun _ => Option (Nat × (ASR → Option (List ASR)))) (Option.rec (motive := fun _ => Option (Nat × (ASR → Option (List ASR)))) (stpC d BT FT CT R pc q.1 q.2) (fun p => some p) (stpI T d BT FT CT RW R q.1 q.2)) (fun p => some p) (stpO T q.1 q.2) = some p := hQ
      cases hO : stpO T q.1 q.2 with
      | none =>
        rw [hO] at hQ
        have hQ : Option.rec (motive := fun _ => Option (Nat × (ASR → Option (List ASR)))) (stpC d BT FT CT R pc q.1 q.2) (fun p => some p) (stpI T d BT FT CT RW R q.1 q.2) = some p := hQ
        cases hI : stpI T d BT FT CT RW R q.1 q.2 with
        | none =>
          rw [hI] at hQ
          exact fin L (stpC_ok hQ hpc (by rw [hpc]; exact memB_no hm) h1) h2
        | some p' =>
          rw [hI] at hQ
          cases hQ
          exact fin L (stpI_ok hI (by rw [hpc]; exact memB_no hm) h1) h2
      | some p' =>
        rw [hO] at hQ
        cases hQ
        exact fin L (stpO_ok hO (by rw [hpc]; exact memB_no hm) h1) h2
theorem runG_ok : ∀ {f : Nat} {first : Bool} {pc : Nat} {loc : List (Nat × AV)} {st : List AV} {G : GI} {hp : HP} {r : RLs}, runG T d BT FT CT RF RW R ret n0 outs CU src f first pc loc st G hp r = true → runR T d BT FT CT RF RW R ret n0 outs CU src f first ((pc, loc, st, G, hp), r) = true
  | 0, _, _, _, _, _, _, _, h => by cases h
  | f + 1, first, pc, loc, st, G, hp, r, h => by
    have h : Bool.rec (motive := fun _ => Bool) (gStep T d BT FT CT RF RW R ret n0 outs pc ((pc, loc, st, G, hp), r) (runG T d BT FT CT RF RW R ret n0 outs CU src f false)) (gCut d n0 src (cutsAt CU pc) ((pc, loc, st, G, hp), r)) (!first && atCut CU pc) = true := h
    have hat : atCut CU pc = CU.any (fun k => decide (k.1.1 = pc)) := by
      unfold atCut
      congr 1
      funext k
      by_cases hk : k.1.1 = pc
      · rw [Nat.beq_eq.mpr hk]; exact (decide_eq_true hk).symm
      · rw [decide_eq_false hk]
        cases hb : Nat.beq k.1.1 pc with
        | false => rfl
        | true => exact absurd (Nat.beq_eq.mp hb) hk
    unfold runR
    cases hc : (!first && atCut CU pc) with
    | true =>
      rw [hc] at h
      have h : gCut d n0 src (cutsAt CU pc) ((pc, loc, st, G, hp), r) = true := h
      rw [hat] at hc
      rw [if_pos hc]
      unfold gCut cutsAt at h
      obtain ⟨k, hk, h1⟩ := List.any_eq_true.mp h
      simp only [Bool.and_eq_true, wCtW_eq] at h1
      exact List.any_eq_true.mpr ⟨k, (List.mem_filter.mp hk).1, by simp only [Bool.and_eq_true]; exact ⟨cutWG_ok h1.2.1, h1.2.2⟩⟩
    | false =>
      rw [hc] at h
      have h : gStep T d BT FT CT RF RW R ret n0 outs pc ((pc, loc, st, G, hp), r) (runG T d BT FT CT RF RW R ret n0 outs CU src f false) = true := h
      rw [hat] at hc
      rw [if_neg (by show ¬ (!first && CU.any (fun k => decide (k.1.1 = pc))) = true; rw [hc]; decide)]
      unfold gStep at h
      show (match look T.1 pc with
        | none => false
        | some q => match prA d ((look RF pc).getD []) ((pc, loc, st, G, hp), r) with
          | none => false
          | some X => X.all (fun y => decide (y.1.1 = pc) && (finR ret d n0 outs q.1 q.2 y || (match stp3 T d BT FT CT RW R q.1 q.2 y with
            | some L => L.all (runR T d BT FT CT RF RW R ret n0 outs CU src f false)
            | none => false)))) = true
      cases hq : look T.1 pc with
      | none => rw [hq] at h; cases h
      | some q =>
        rw [hq] at h
        cases hf : look RF pc with
        | none =>
          rw [hf] at h
          have h : gOne T d BT FT CT RW R ret n0 outs pc q ((pc, loc, st, G, hp), r) (runG T d BT FT CT RF RW R ret n0 outs CU src f false) = true := h
          have h1 := gOne_ok (x := ((pc, loc, st, G, hp), r)) (fun pc loc st G hp r => runG_ok) rfl h
          show ([(((pc, loc, st, G, hp), r) : ASR)].all _) = true
          simp only [List.all_cons, List.all_nil, Bool.and_true, Bool.and_eq_true]
          exact ⟨rfl, h1⟩
        | some os =>
          rw [hf] at h
          show (match prA d os ((pc, loc, st, G, hp), r) with
            | none => false
            | some X => X.all _) = true
          cases hX : prA d os ((pc, loc, st, G, hp), r) with
          | none =>
            have h : Option.rec (motive := fun _ => Bool) false (fun X => X.all (fun y => frc (kdP os) y (fun pc' loc st G hp r => Nat.beq pc' pc && gOne T d BT FT CT RW R ret n0 outs pc q ((pc, loc, st, G, hp), r) (runG T d BT FT CT RF RW R ret n0 outs CU src f false)))) (prA d os ((pc, loc, st, G, hp), r)) = true := h
            rw [hX] at h; cases h
          | some X =>
            have h : Option.rec (motive := fun _ => Bool) false (fun X => X.all (fun y => frc (kdP os) y (fun pc' loc st G hp r => Nat.beq pc' pc && gOne T d BT FT CT RW R ret n0 outs pc q ((pc, loc, st, G, hp), r) (runG T d BT FT CT RF RW R ret n0 outs CU src f false)))) (prA d os ((pc, loc, st, G, hp), r)) = true := h
            rw [hX] at h
            refine List.all_eq_true.mpr (fun y hy => ?_)
            have h2 := List.all_eq_true.mp h y hy
            rw [frc_eq] at h2
            simp only [Bool.and_eq_true] at h2 ⊢
            have h3 : y.1.1 = pc := Nat.beq_eq.mp h2.1
            refine ⟨decide_eq_true h3, ?_⟩
            obtain ⟨⟨pc', loc', st', G', hp'⟩, r'⟩ := y
            have h3 : pc' = pc := h3
            subst h3
            exact gOne_ok (fun pc loc st G hp r => runG_ok) rfl h2.2
end GUN
/-- the start of a contract's run; its checks -/
noncomputable def staG (T : TB) (d : Nat) (BT : List (Nat × Nat)) (FT CT : CTB2) (RF : List (Nat × List POP)) (RW : List Nat) (CU : List CUT2) (f : Nat) (k : Con2) : Bool := k.2.2.1.1.all (fun q => decide (q.1 ≠ 8)) && (decide ((k.2.2.1.1.map catA).sum ≤ k.1.2.2.1) && (decide (T.2.1 = k.1.2.2.1) && (cuG2 k.2.2.1.2.2.1 CU && frc 0 ((0, lva 0 k.2.2.1.1, [], k.2.2.1.2.1, k.2.2.1.2.2.1.map (fun c => (false, c))), k.2.2.1.2.2.2) (runG T d BT FT CT RF RW k.2.1 k.1.2.2.2 k.2.2.1.2.1.length k.2.2.2 CU none f true))))
/-- the run from a cut point -/
noncomputable def cutG (T : TB) (d : Nat) (BT : List (Nat × Nat)) (FT CT : CTB2) (RF : List (Nat × List POP)) (RW : List Nat) (CU : List CUT2) (f : Nat) (k : Con2) (q : CUT2) : Bool := (match q.1.2.2.1 with
  | [] => true
  | _ => false) && frc 0 (q.1, q.2.1) (runG T d BT FT CT RF RW k.2.1 k.1.2.2.2 k.2.2.1.2.1.length k.2.2.2 CU (some q) f true)
theorem conG_ok {T : TB} {d : Nat} {BT : List (Nat × Nat)} {FT CT : CTB2} {RF : List (Nat × List POP)} {RW : List Nat} {CU : List CUT2} {f : Nat} {k : Con2} (h : staG T d BT FT CT RF RW CU f k = true) (hC : ∀ q ∈ CU, cutG T d BT FT CT RF RW CU f k q = true) : chkR T d BT FT CT RF RW CU f k = true := by
  unfold staG at h
  unfold chkR
  simp only [Bool.and_eq_true] at h ⊢
  obtain ⟨h1, h2, h3, h4, h5⟩ := h
  rw [frc_eq] at h5
  refine ⟨h1, h2, h3, h4, runG_ok h5, List.all_eq_true.mpr (fun q hq => ?_)⟩
  have h7 := hC q hq
  unfold cutG at h7
  simp only [Bool.and_eq_true] at h7 ⊢
  rw [frc_eq] at h7
  exact ⟨h7.1, runG_ok h7.2⟩
theorem cut_nil {P : CUT2 → Prop} : ∀ q ∈ ([] : List CUT2), P q := fun _ hq => absurd hq List.not_mem_nil
theorem cut_app {P : CUT2 → Prop} {a b : List CUT2} (ha : ∀ q ∈ a, P q) (hb : ∀ q ∈ b, P q) : ∀ q ∈ a ++ b, P q := fun q hq => (List.mem_append.mp hq).elim (ha q) (hb q)
theorem cut_all {P : CUT2 → Bool} {a : List CUT2} (h : a.all P = true) : ∀ q ∈ a, P q = true := List.all_eq_true.mp h
