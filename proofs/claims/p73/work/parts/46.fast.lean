/-! ===== the same run, its states worked out at every step ===== -/
noncomputable def q_fN (n : Nat) (k : Nat → Bool) : Bool := match n with
  | 0 => k 0
  | Nat.succ m => k (Nat.succ m)
theorem q_fN_eq {n : Nat} {k : Nat → Bool} : q_fN n k = k n := by cases n <;> rfl
noncomputable def q_fZ (z : Int) (k : Int → Bool) : Bool := match z with
  | Int.ofNat n => q_fN n (fun n => k (Int.ofNat n))
  | Int.negSucc n => q_fN n (fun n => k (Int.negSucc n))
theorem q_fZ_eq {z : Int} {k : Int → Bool} : q_fZ z k = k z := by cases z <;> simp only [q_fZ, q_fN_eq]
noncomputable def q_fB (b : Bool) (k : Bool → Bool) : Bool := match b with
  | true => k true
  | false => k false
theorem q_fB_eq {b : Bool} {k : Bool → Bool} : q_fB b k = k b := by cases b <;> rfl
noncomputable def q_fV (a : AV) (k : AV → Bool) : Bool := match a with
  | (t, b, c) => q_fN t (fun t => q_fZ b (fun b => q_fZ c (fun c => k (t, b, c))))
theorem q_fV_eq {a : AV} {k : AV → Bool} : q_fV a k = k a := by obtain ⟨t, b, c⟩ := a; simp only [q_fV, q_fN_eq, q_fZ_eq]
noncomputable def q_fI (q : Int × Int) (k : Int × Int → Bool) : Bool := match q with
  | (a, b) => q_fZ a (fun a => q_fZ b (fun b => k (a, b)))
theorem q_fI_eq {q : Int × Int} {k : Int × Int → Bool} : q_fI q k = k q := by obtain ⟨a, b⟩ := q; simp only [q_fI, q_fZ_eq]
noncomputable def q_fT (q : Nat × Int) (k : Nat × Int → Bool) : Bool := match q with
  | (a, b) => q_fN a (fun a => q_fZ b (fun b => k (a, b)))
theorem q_fT_eq {q : Nat × Int} {k : Nat × Int → Bool} : q_fT q k = k q := by obtain ⟨a, b⟩ := q; simp only [q_fT, q_fN_eq, q_fZ_eq]
noncomputable def q_fP (q : Nat × AV) (k : Nat × AV → Bool) : Bool := match q with
  | (a, b) => q_fN a (fun a => q_fV b (fun b => k (a, b)))
theorem q_fP_eq {q : Nat × AV} {k : Nat × AV → Bool} : q_fP q k = k q := by obtain ⟨a, b⟩ := q; simp only [q_fP, q_fN_eq, q_fV_eq]
noncomputable def q_fL {α : Type} (f : α → (α → Bool) → Bool) : List α → (List α → Bool) → Bool
  | [], k => k []
  | a :: r, k => f a (fun a => q_fL f r (fun r => k (a :: r)))
theorem q_fL_eq {α : Type} {f : α → (α → Bool) → Bool} (h : ∀ a k, f a k = k a) : ∀ {l : List α} {k : List α → Bool}, q_fL f l k = k l
  | [], _ => rfl
  | a :: r, k => by
    unfold q_fL
    rw [h, q_fL_eq h]
noncomputable def q_fC (c : Bool × AC) (k : Bool × AC → Bool) : Bool := match c with
  | (b, .inl (n, fs)) => q_fB b (fun b => q_fN n (fun n => q_fL q_fV fs (fun fs => k (b, .inl (n, fs)))))
  | (b, .inr (n, sg)) => q_fB b (fun b => q_fN n (fun n => q_fL q_fP sg (fun sg => k (b, .inr (n, sg)))))
theorem q_fC_eq {c : Bool × AC} {k : Bool × AC → Bool} : q_fC c k = k c := by
  obtain ⟨b, c⟩ := c
  rcases c with ⟨n, fs⟩ | ⟨n, sg⟩
  · simp only [q_fC, q_fB_eq, q_fN_eq, q_fL_eq (fun a k => q_fV_eq (a := a) (k := k))]
  · simp only [q_fC, q_fB_eq, q_fN_eq, q_fL_eq (fun a k => q_fP_eq (q := a) (k := k))]
noncomputable def q_fW (c : LC) (k : LC → Bool) : Bool := match c with
  | (ts, n) => q_fL q_fT ts (fun ts => q_fZ n (fun n => k (ts, n)))
theorem q_fW_eq {c : LC} {k : LC → Bool} : q_fW c k = k c := by obtain ⟨a, b⟩ := c; simp only [q_fW, q_fZ_eq, q_fL_eq (fun a k => q_fT_eq (q := a) (k := k))]
noncomputable def q_fS (x : ASR) (k : ASR → Bool) : Bool := match x with
  | ((pc, loc, st, G, hp), r) => q_fN pc (fun pc => q_fL q_fP loc (fun loc => q_fL q_fV st (fun st => q_fL q_fI G (fun G => q_fL q_fC hp (fun hp => q_fL q_fW r (fun r => k ((pc, loc, st, G, hp), r)))))))
theorem q_fS_eq {x : ASR} {k : ASR → Bool} : q_fS x k = k x := by
  obtain ⟨⟨pc, loc, st, G, hp⟩, r⟩ := x
  simp only [q_fS, q_fN_eq, q_fL_eq (fun a k => q_fP_eq (q := a) (k := k)), q_fL_eq (fun a k => q_fV_eq (a := a) (k := k)), q_fL_eq (fun a k => q_fI_eq (q := a) (k := k)), q_fL_eq (fun a k => q_fC_eq (c := a) (k := k)), q_fL_eq (fun a k => q_fW_eq (c := a) (k := k))]
/-- a cut point's known locals, looked at first -/
noncomputable def qck (a b : AS) : Bool := b.2.1.all (fun q => match q.2.1 with
  | 0 => (match fnd a.2.1 q.1 with
    | some v => (match ivI a.2.2.2.1 v with
      | some p => decide (p.1 = q.2.2.1)
      | none => false)
    | none => false)
  | _ => true)
noncomputable def isR : ClassFile.Instr → Bool
  | .ireturn => true
  | .lreturn => true
  | .return_ => true
  | _ => false
noncomputable def runF (T : TB) (d : Nat) (BT : List (Nat × Nat)) (FT CT : CTB2) (RF : List (Nat × List POP)) (RW : List Nat) (R : Nat × Nat) (ret : Option FieldType) (n0 : Nat) (outs : List Out2) (CU : List CUT2) (src : Option CUT2) : Nat → Bool → ASR → Bool
  | 0, _, _ => false
  | f + 1, first, x => q_fS x (fun x => if !first && CU.any (fun k => decide (k.1.1 = x.1.1)) then CU.any (fun k => decide (k.1.1 = x.1.1) && (qck x.1 k.1 && (cutW d n0 x k && ctW d n0 x src k))) else match look T.1 x.1.1 with
    | none => false
    | some q => match prA d ((look RF x.1.1).getD []) x with
      | none => false
      | some X => X.all (fun y => decide (y.1.1 = x.1.1) && (if isR q.1 then finR ret d n0 outs q.1 q.2 y else (match stp3 T d BT FT CT RW R q.1 q.2 y with
        | some L => L.all (runF T d BT FT CT RF RW R ret n0 outs CU src f false)
        | none => false))))
theorem runF_ok {T : TB} {d : Nat} {BT : List (Nat × Nat)} {FT CT : CTB2} {RF : List (Nat × List POP)} {RW : List Nat} {R : Nat × Nat} {ret : Option FieldType} {n0 : Nat} {outs : List Out2} {CU : List CUT2} {src : Option CUT2} : ∀ {f : Nat} {first : Bool} {x : ASR}, runF T d BT FT CT RF RW R ret n0 outs CU src f first x = true → runR T d BT FT CT RF RW R ret n0 outs CU src f first x = true
  | 0, _, _, h => by simp [runF] at h
  | f + 1, first, x, h => by
    unfold runF at h
    rw [q_fS_eq] at h
    unfold runR
    split at h
    · rename_i hc
      rw [if_pos hc]
      obtain ⟨k, hk, h1⟩ := List.any_eq_true.mp h
      simp only [Bool.and_eq_true] at h1
      exact List.any_eq_true.mpr ⟨k, hk, by simp only [Bool.and_eq_true]; exact h1.2.2⟩
    · rename_i hc
      rw [if_neg hc]
      split at h
      · cases h
      · rename_i q hq
        rw [hq]
        dsimp only
        split at h
        · cases h
        · rename_i X hX
          rw [hX]
          refine List.all_eq_true.mpr (fun y hy => ?_)
          have h2 := List.all_eq_true.mp h y hy
          simp only [Bool.and_eq_true] at h2 ⊢
          refine ⟨h2.1, ?_⟩
          have h3 := h2.2
          rw [Bool.or_eq_true]
          split at h3
          · exact Or.inl h3
          · refine Or.inr ?_
            split at h3
            · rename_i L hL
              rw [hL]
              exact List.all_eq_true.mpr (fun z hz => runF_ok (List.all_eq_true.mp h3 z hz))
            · cases h3
noncomputable def chkF (T : TB) (d : Nat) (BT : List (Nat × Nat)) (FT CT : CTB2) (RF : List (Nat × List POP)) (RW : List Nat) (CU : List CUT2) (f : Nat) (k : Con2) : Bool := k.2.2.1.1.all (fun q => decide (q.1 ≠ 8)) && (decide ((k.2.2.1.1.map catA).sum ≤ k.1.2.2.1) && (decide (T.2.1 = k.1.2.2.1) && (cuG2 k.2.2.1.2.2.1 CU && (runF T d BT FT CT RF RW k.2.1 k.1.2.2.2 k.2.2.1.2.1.length k.2.2.2 CU none f true ((0, lva 0 k.2.2.1.1, [], k.2.2.1.2.1, k.2.2.1.2.2.1.map (fun c => (false, c))), k.2.2.1.2.2.2) && CU.all (fun q => (match q.1.2.2.1 with
  | [] => true
  | _ => false) && runF T d BT FT CT RF RW k.2.1 k.1.2.2.2 k.2.2.1.2.1.length k.2.2.2 CU (some q) f true (q.1, q.2.1))))))
theorem chkF_ok {T : TB} {d : Nat} {BT : List (Nat × Nat)} {FT CT : CTB2} {RF : List (Nat × List POP)} {RW : List Nat} {CU : List CUT2} {f : Nat} {k : Con2} (h : chkF T d BT FT CT RF RW CU f k = true) : chkR T d BT FT CT RF RW CU f k = true := by
  unfold chkF at h
  unfold chkR
  simp only [Bool.and_eq_true] at h ⊢
  obtain ⟨h1, h2, h3, h4, h5, h6⟩ := h
  refine ⟨h1, h2, h3, h4, runF_ok h5, List.all_eq_true.mpr (fun q hq => ?_)⟩
  have h7 := List.all_eq_true.mp h6 q hq
  simp only [Bool.and_eq_true] at h7 ⊢
  exact ⟨h7.1, runF_ok h7.2⟩
