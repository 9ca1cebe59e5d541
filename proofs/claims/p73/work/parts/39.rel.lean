/-! ===== steps that keep words ===== -/
noncomputable def linA (a : AV) : Option LC := match a.1 with
  | 0 => some ([], a.2.1)
  | 3 => some ([], a.2.1)
  | 1 => some ([(a.2.1.toNat, 1)], a.2.2)
  | 4 => some ([(a.2.1.toNat, 1)], a.2.2)
  | _ => none
theorem linA_ok {g : List Int} {V : EV} {a : AV} {v : Value} {w : LC} {z : Int} (h : gam g V a v) (hw : linA a = some w) (hz : numV v = some z) : (∀ t ∈ w.1, t.1 < g.length) ∧ evC g w = z := by
  have key : ∀ (ht : a.1 = 0 ∨ a.1 = 1 ∨ a.1 = 3 ∨ a.1 = 4), evA g a = z := fun ht => evA_gam h ht hz
  unfold linA at hw
  split at hw
  · rename_i ht
    cases hw
    have e := key (Or.inl ht)
    unfold evA at e
    rw [if_neg (by rw [ht]; decide)] at e
    exact ⟨fun t ht => by simp at ht, by simp [evC, evT, e]⟩
  · rename_i ht
    cases hw
    have e := key (Or.inr (Or.inr (Or.inl ht)))
    unfold evA at e
    rw [if_neg (by rw [ht]; decide)] at e
    exact ⟨fun t ht => by simp at ht, by simp [evC, evT, e]⟩
  · rename_i ht
    cases hw
    have e := key (Or.inr (Or.inl ht))
    unfold evA at e
    rw [if_pos (Or.inl ht)] at e
    refine ⟨fun t h2 => ?_, ?_⟩
    · have : t = (a.2.1.toNat, 1) := by simpa using h2
      rw [this]
      exact gam_nm h (Or.inl ht)
    · simp only [evC, evT, Int.one_mul, Int.add_zero]
      exact e
  · rename_i ht
    cases hw
    have e := key (Or.inr (Or.inr (Or.inr ht)))
    unfold evA at e
    rw [if_pos (Or.inr ht)] at e
    refine ⟨fun t h2 => ?_, ?_⟩
    · have : t = (a.2.1.toNat, 1) := by simpa using h2
      rw [this]
      exact gam_nm h (Or.inr ht)
    · simp only [evC, evT, Int.one_mul, Int.add_zero]
      exact e
  · cases hw
theorem sbT_wf {n : Nat} : ∀ {e c : List (Nat × Int)}, (∀ t ∈ e, t.1 < n) → (∀ t ∈ c, t.1 < n) → ∀ t ∈ sbT e c, t.1 < n
  | e, [], he, _ => he
  | e, u :: r, he, hc => by
    unfold sbT
    exact sbT_wf (adT_wf (hc u List.mem_cons_self) he) (fun t ht => hc t (List.mem_cons_of_mem _ ht))
/-- what a comparison tells -/
noncomputable def lcOf (k : Nat) (x y : LC) : RLs := match k with
  | 0 => [sbC x y, sbC y x]
  | 1 => []
  | 2 => [((sbC y x).1, (sbC y x).2 - 1)]
  | 3 => [sbC x y]
  | 4 => [((sbC x y).1, (sbC x y).2 - 1)]
  | _ => [sbC y x]
theorem lcOf_ok {g : List Int} {k : Nat} {x y : LC} (hx : ∀ t ∈ x.1, t.1 < g.length) (hy : ∀ t ∈ y.1, t.1 < g.length) (h : cmpH k (evC g x) (evC g y)) : RLok (lcOf k x y) g := by
  have wf1 : ∀ t ∈ (sbC x y).1, t.1 < g.length := sbT_wf hx hy
  have wf2 : ∀ t ∈ (sbC y x).1, t.1 < g.length := sbT_wf hy hx
  have e1 := sbC_ev (g := g) (e := x) (c := y)
  have e2 := sbC_ev (g := g) (e := y) (c := x)
  have off : ∀ (w : LC), evC g (w.1, w.2 - 1) = evC g w - 1 := fun w => by unfold evC; simp only; omega
  intro c hc
  match k, h, hc with
  | 0, h, hc =>
    have h : evC g x = evC g y := h
    have hc : c ∈ [sbC x y, sbC y x] := hc
    simp only [List.mem_cons, List.not_mem_nil, or_false] at hc
    rcases hc with rfl | rfl
    · exact ⟨wf1, by rw [e1]; omega⟩
    · exact ⟨wf2, by rw [e2]; omega⟩
  | 1, _, hc => exact absurd (show c ∈ [] from hc) List.not_mem_nil
  | 2, h, hc =>
    have h : evC g x < evC g y := h
    rw [List.mem_singleton.mp (show c ∈ [((sbC y x).1, (sbC y x).2 - 1)] from hc)]
    exact ⟨wf2, by rw [off, e2]; omega⟩
  | 3, h, hc =>
    have h : evC g y ≤ evC g x := h
    rw [List.mem_singleton.mp (show c ∈ [sbC x y] from hc)]
    exact ⟨wf1, by rw [e1]; omega⟩
  | 4, h, hc =>
    have h : evC g y < evC g x := h
    rw [List.mem_singleton.mp (show c ∈ [((sbC x y).1, (sbC x y).2 - 1)] from hc)]
    exact ⟨wf1, by rw [off, e1]; omega⟩
  | k + 5, h, hc =>
    have h : evC g x ≤ evC g y := h
    rw [List.mem_singleton.mp (show c ∈ [sbC y x] from hc)]
    exact ⟨wf2, by rw [e2]; omega⟩
noncomputable def eqR (N : Nat) (w : LC) : RLs := [sbC ([(N, 1)], 0) w, sbC w ([(N, 1)], 0)]
theorem eqR_ok {g : List Int} {z : Int} {w : LC} (hw : ∀ t ∈ w.1, t.1 < g.length) (he : evC g w = z) : RLok (eqR g.length w) (g ++ [z]) := by
  have hx : gxt g (g ++ [z]) := gxt_one
  have h1 : evC (g ++ [z]) w = z := by unfold evC; rw [evT_ext hx hw]; exact he
  have h2 : evC (g ++ [z]) ([(g.length, 1)], 0) = z := by simp [evC, evT]
  have wf : ∀ t ∈ w.1, t.1 < (g ++ [z]).length := fun t ht => by have := hw t ht; simp; omega
  have wf2 : ∀ t ∈ ([(g.length, 1)] : List (Nat × Int)), t.1 < (g ++ [z]).length := fun t ht => by
    rw [List.mem_singleton.mp ht]; simp
  intro c hc
  simp only [eqR, List.mem_cons, List.not_mem_nil, or_false] at hc
  rcases hc with rfl | rfl
  · exact ⟨sbT_wf wf2 wf, by rw [sbC_ev]; omega⟩
  · exact ⟨sbT_wf wf wf2, by rw [sbC_ev]; omega⟩
/-- a sum, or a difference, with a name of its own -/
noncomputable def sumI (a : AS) (r : RLs) : Option (List ASR) := match a.2.2.1 with
  | y :: x :: st => (match ivI a.2.2.2.1 x, ivI a.2.2.2.1 y, linA x, linA y with
    | some p, some q, some wx, some wy => if -2147483648 ≤ p.1 + q.1 ∧ p.2 + q.2 ≤ 2147483647 then some [((a.1 + 1, a.2.1, (1, (a.2.2.2.1.length : Int), 0) :: st, a.2.2.2.1 ++ [(p.1 + q.1, p.2 + q.2)], a.2.2.2.2), eqR a.2.2.2.1.length (sbC wx (sbC ([], 0) wy)) ++ r)] else none
    | _, _, _, _ => none)
  | _ => none
noncomputable def difI (a : AS) (r : RLs) : Option (List ASR) := match a.2.2.1 with
  | y :: x :: st => (match ivI a.2.2.2.1 x, ivI a.2.2.2.1 y, linA x, linA y with
    | some p, some q, some wx, some wy => if -2147483648 ≤ p.1 - q.2 ∧ p.2 - q.1 ≤ 2147483647 then some [((a.1 + 1, a.2.1, (1, (a.2.2.2.1.length : Int), 0) :: st, a.2.2.2.1 ++ [(p.1 - q.2, p.2 - q.1)], a.2.2.2.2), eqR a.2.2.2.1.length (sbC wx wy) ++ r)] else none
    | _, _, _, _ => none)
  | _ => none
noncomputable def sumL (a : AS) (r : RLs) : Option (List ASR) := match a.2.2.1 with
  | y :: x :: st => (match ivL a.2.2.2.1 x, ivL a.2.2.2.1 y, linA x, linA y with
    | some p, some q, some wx, some wy => if -9223372036854775808 ≤ p.1 + q.1 ∧ p.2 + q.2 ≤ 9223372036854775807 then some [((a.1 + 1, a.2.1, (4, (a.2.2.2.1.length : Int), 0) :: st, a.2.2.2.1 ++ [(p.1 + q.1, p.2 + q.2)], a.2.2.2.2), eqR a.2.2.2.1.length (sbC wx (sbC ([], 0) wy)) ++ r)] else none
    | _, _, _, _ => none)
  | _ => none
/-- a branch on two ints, with what it tells -/
noncomputable def brsR (k : Nat) (a : AS) (r : RLs) (st : List AV) (x y : AV) (tgt nxt : Nat) : Option (List ASR) := match rfI k a.2.2.2.1 x y, rfI (cmpN k) a.2.2.2.1 x y, linA x, linA y with
  | some L1, some L2, some wx, some wy => some ((L1.map fun G => (((tgt, a.2.1, st, G, a.2.2.2.2) : AS), lcOf k wx wy ++ r)) ++ (L2.map fun G => (((nxt, a.2.1, st, G, a.2.2.2.2) : AS), lcOf (cmpN k) wx wy ++ r)))
  | _, _, _, _ => none
noncomputable def if2R (k : Nat) (off : Int) (a : AS) (r : RLs) : Option (List ASR) := match a.2.2.1 with
  | y :: x :: st => if 0 ≤ (a.1 : Int) + off then brsR k a r st x y ((a.1 : Int) + off).toNat (a.1 + 3) else none
  | _ => none
noncomputable def lcbR (T : TB) (a : AS) (r : RLs) : Option (List ASR) := match a.2.2.1, look T.1 (a.1 + 1) with
  | y :: x :: st, some (.ifCond q off, 3) =>
    if 0 ≤ (a.1 : Int) + 1 + off then (match rfL (cnd q) a.2.2.2.1 x y, rfL (cmpN (cnd q)) a.2.2.2.1 x y, linA x, linA y with
      | some L1, some L2, some wx, some wy => some ((L1.map fun G => (((((a.1 : Int) + 1 + off).toNat, a.2.1, st, G, a.2.2.2.2) : AS), lcOf (cnd q) wx wy ++ r)) ++ (L2.map fun G => (((a.1 + 1 + 3, a.2.1, st, G, a.2.2.2.2) : AS), lcOf (cmpN (cnd q)) wx wy ++ r)))
      | _, _, _, _ => none) else none
  | _, _ => none
/-- a remainder by a number above 0, with a name of its own: it is below the divisor -/
noncomputable def remR (a : AS) (r : RLs) : Option (List ASR) := match a.2.2.1 with
  | y :: x :: st => (match ivL a.2.2.2.1 x, ivL a.2.2.2.1 y, linA y with
    | some p, some q, some wy => if 0 ≤ p.1 ∧ 0 < q.1 then some [((a.1 + 1, a.2.1, (4, (a.2.2.2.1.length : Int), 0) :: st, a.2.2.2.1 ++ [lremF p q], a.2.2.2.2), ((sbC wy ([(a.2.2.2.1.length, 1)], 0)).1, (sbC wy ([(a.2.2.2.1.length, 1)], 0)).2 - 1) :: r)] else none
    | _, _, _ => none)
  | _ => none
/-- a remainder by signs: of a number of at most 0 by one above 0; of one of at least 0 by one below 0 -/
noncomputable def remS (a : AS) (r : RLs) : Option (List ASR) := match a.2.2.1 with
  | y :: x :: st => (match ivL a.2.2.2.1 x, ivL a.2.2.2.1 y, linA y with
    | some p, some q, some wy => if p.2 ≤ 0 ∧ 0 < q.1 then some [((a.1 + 1, a.2.1, (4, (a.2.2.2.1.length : Int), 0) :: st, a.2.2.2.1 ++ [(1 - q.2, 0)], a.2.2.2.2), ((sbC wy ([(a.2.2.2.1.length, -1)], 0)).1, (sbC wy ([(a.2.2.2.1.length, -1)], 0)).2 - 1) :: r)] else if 0 ≤ p.1 ∧ q.2 < 0 then some [((a.1 + 1, a.2.1, (4, (a.2.2.2.1.length : Int), 0) :: st, a.2.2.2.1 ++ [(0, -q.1 - 1)], a.2.2.2.2), ((sbC (sbC ([], 0) wy) ([(a.2.2.2.1.length, 1)], 0)).1, (sbC (sbC ([], 0) wy) ([(a.2.2.2.1.length, 1)], 0)).2 - 1) :: r)] else none
    | _, _, _ => none)
  | _ => none
noncomputable def stpW (T : TB) (ins : ClassFile.Instr) (len : Nat) (x : ASR) : Option (List ASR) := match ins with
  | .iadd => if len = 1 then sumI x.1 x.2 else none
  | .isub => if len = 1 then difI x.1 x.2 else none
  | .ladd => if len = 1 then sumL x.1 x.2 else none
  | .if_icmp q off => if len = 3 then if2R (cnd q) off x.1 x.2 else none
  | .lcmp => if len = 1 then lcbR T x.1 x.2 else none
  | .lrem => if len = 1 then (match remR x.1 x.2 with
    | some L => some L
    | none => remS x.1 x.2) else none
  | _ => none
section STW
variable {p : Program} {l : Launch} {e : Env} {R : Room} {s : State} {m : MethodId} {args : Array Value} {below : List Frame} {meth : Method} {c : Code} {cs0 ss0 : Nat} {Q : State → Prop} {cc : ByteArray} {D : va_G} {cl : List vw_C} {A : Nat → Prop} {H0 : Heap} {V : EV} {cA : Nat → ClassId} {es0 : List va_E} {g0 : List Int}
theorem name_go {nL : Nat} {a : AS} {r' : RLs} {tg pc' : Nat} {q : Int × Int} {st : List AV} (hL : WR (WW p l e R s m args below meth c cs0 ss0 Q) m nL D cl A H0 V cA es0 g0 ((pc', a.2.1, (tg, (a.2.2.2.1.length : Int), 0) :: st, a.2.2.2.1 ++ [q], a.2.2.2.2), r')) {gs g : List Int} {lv : List (Nat × Value)} {sv : List Value} {es : List va_E} {ls : Array Slot} {H : Heap} {locs : List Loc} (hgs : gxt g0 gs) (h0 : gxt gs g) (hG : GS a.2.2.2.1 g) (hlv : lv_has ls nL lv) (hl : zf2 (locR g V) a.2.1 lv) (hs : zf2 (gam g V) st sv) (hH : HS D cl A H0 V cA es0 a.2.2.2.2 g es H locs) {v : Value} {z : Int} (hv : (tg = 1 ∧ ∃ X : Int32, v = .int X ∧ X.toInt = z) ∨ (tg = 4 ∧ ∃ X : Int64, v = .long X ∧ X.toInt = z)) (hz : inI q z) (hr : RLok r' (g ++ [z])) : WW p l e R s m args below meth c cs0 ss0 Q H locs (F0 m pc' ls (v :: sv)) := by
  have hx : gxt g (g ++ [z]) := gxt_one
  have hgl : a.2.2.2.1.length = g.length := zf2_len hG
  refine hL (g ++ [z]) (gxt_tr hgs (gxt_tr h0 hx)) hr (g ++ [z]) lv _ es ls H locs gxt_rf (zf2_app hz hG) hlv (loc_ext hx hl) ⟨?_, st_ext hx hs⟩ (HS_ext hx hH)
  have hgz : (g ++ [z])[(((a.2.2.2.1.length : Int))).toNat]? = some z := by
    rw [Int.toNat_natCast, hgl]
    simp
  rcases hv with ⟨rfl, X, rfl, hX⟩ | ⟨rfl, X, rfl, hX⟩
  · exact ⟨X, rfl, z, hgz, by show X.toInt = z + 0; omega⟩
  · exact ⟨X, rfl, z, hgz, by show X.toInt = z + 0; omega⟩
theorem RLok_app {r r' : RLs} {g : List Int} (h : RLok r g) (h' : RLok r' g) : RLok (r ++ r') g := fun c hc => (List.mem_append.mp hc).elim (h c) (h' c)
theorem sumI_ok {nL : Nat} {a : AS} {r : RLs} {L : List ASR} (h : sumI a r = some L) (hL : ∀ x ∈ L, WR (WW p l e R s m args below meth c cs0 ss0 Q) m nL D cl A H0 V cA es0 g0 x)
    (hrow : ∀ (X Y : Int32) (sv : List Value) (ls : Array Slot) (H : Heap) (locs : List Loc), WW p l e R s m args below meth c cs0 ss0 Q H locs (F0 m (a.1 + 1) ls (.int (X + Y) :: sv)) → WW p l e R s m args below meth c cs0 ss0 Q H locs (F0 m a.1 ls (.int Y :: .int X :: sv))) : WR (WW p l e R s m args below meth c cs0 ss0 Q) m nL D cl A H0 V cA es0 g0 (a, r) := by
  intro gs hgs hrl g lv sv es ls H locs h0 hG hlv hl hs hH
  have hrg : RLok r g := RLok_ext h0 hrl
  unfold sumI at h
  split at h
  · rename_i y x st hst
    split at h
    · rename_i pp qq wx wy hp hq hwx hwy
      split at h
      · rename_i hc
        cases h
        rw [hst] at hs
        obtain ⟨vy, sv1, rfl, hy, hs1⟩ := zf2_cons hs
        obtain ⟨vx, sv2, rfl, hx2, hs2⟩ := zf2_cons hs1
        have hgl : a.2.2.2.1.length = g.length := zf2_len hG
        obtain ⟨X, rfl, hX⟩ := ivI_ok hG hx2 hp
        obtain ⟨Y, rfl, hY⟩ := ivI_ok hG hy hq
        obtain ⟨wf1, ex⟩ := linA_ok hx2 hwx rfl
        obtain ⟨wf2, ey⟩ := linA_ok hy hwy rfl
        unfold inI at hX hY
        refine hrow X Y sv2 ls H locs ?_
        have he : (X + Y).toInt = X.toInt + Y.toInt := by rw [Int32.toInt_add, ae_bm (by omega) (by omega)]
        refine name_go (hL _ (List.mem_singleton.mpr rfl)) hgs h0 hG hlv hl hs2 hH (z := X.toInt + Y.toInt) (Or.inl ⟨rfl, _, rfl, he⟩) (by unfold inI; simp only; omega) (RLok_app ?_ (RLok_ext gxt_one hrg))
        rw [hgl]
        exact eqR_ok (sbT_wf wf1 (sbT_wf (fun t ht => by simp at ht) wf2)) (by rw [sbC_ev, sbC_ev, ex, ey]; simp [evC, evT])
      · cases h
    · cases h
  · cases h
theorem difI_ok {nL : Nat} {a : AS} {r : RLs} {L : List ASR} (h : difI a r = some L) (hL : ∀ x ∈ L, WR (WW p l e R s m args below meth c cs0 ss0 Q) m nL D cl A H0 V cA es0 g0 x)
    (hrow : ∀ (X Y : Int32) (sv : List Value) (ls : Array Slot) (H : Heap) (locs : List Loc), WW p l e R s m args below meth c cs0 ss0 Q H locs (F0 m (a.1 + 1) ls (.int (X - Y) :: sv)) → WW p l e R s m args below meth c cs0 ss0 Q H locs (F0 m a.1 ls (.int Y :: .int X :: sv))) : WR (WW p l e R s m args below meth c cs0 ss0 Q) m nL D cl A H0 V cA es0 g0 (a, r) := by
  intro gs hgs hrl g lv sv es ls H locs h0 hG hlv hl hs hH
  have hrg : RLok r g := RLok_ext h0 hrl
  unfold difI at h
  split at h
  · rename_i y x st hst
    split at h
    · rename_i pp qq wx wy hp hq hwx hwy
      split at h
      · rename_i hc
        cases h
        rw [hst] at hs
        obtain ⟨vy, sv1, rfl, hy, hs1⟩ := zf2_cons hs
        obtain ⟨vx, sv2, rfl, hx2, hs2⟩ := zf2_cons hs1
        have hgl : a.2.2.2.1.length = g.length := zf2_len hG
        obtain ⟨X, rfl, hX⟩ := ivI_ok hG hx2 hp
        obtain ⟨Y, rfl, hY⟩ := ivI_ok hG hy hq
        obtain ⟨wf1, ex⟩ := linA_ok hx2 hwx rfl
        obtain ⟨wf2, ey⟩ := linA_ok hy hwy rfl
        unfold inI at hX hY
        refine hrow X Y sv2 ls H locs ?_
        have he : (X - Y).toInt = X.toInt - Y.toInt := by rw [Int32.toInt_sub, ae_bm (by omega) (by omega)]
        refine name_go (hL _ (List.mem_singleton.mpr rfl)) hgs h0 hG hlv hl hs2 hH (z := X.toInt - Y.toInt) (Or.inl ⟨rfl, _, rfl, he⟩) (by unfold inI; simp only; omega) (RLok_app ?_ (RLok_ext gxt_one hrg))
        rw [hgl]
        exact eqR_ok (sbT_wf wf1 wf2) (by rw [sbC_ev, ex, ey])
      · cases h
    · cases h
  · cases h
theorem sumL_ok {nL : Nat} {a : AS} {r : RLs} {L : List ASR} (h : sumL a r = some L) (hL : ∀ x ∈ L, WR (WW p l e R s m args below meth c cs0 ss0 Q) m nL D cl A H0 V cA es0 g0 x)
    (hrow : ∀ (X Y : Int64) (sv : List Value) (ls : Array Slot) (H : Heap) (locs : List Loc), WW p l e R s m args below meth c cs0 ss0 Q H locs (F0 m (a.1 + 1) ls (.long (X + Y) :: sv)) → WW p l e R s m args below meth c cs0 ss0 Q H locs (F0 m a.1 ls (.long Y :: .long X :: sv))) : WR (WW p l e R s m args below meth c cs0 ss0 Q) m nL D cl A H0 V cA es0 g0 (a, r) := by
  intro gs hgs hrl g lv sv es ls H locs h0 hG hlv hl hs hH
  have hrg : RLok r g := RLok_ext h0 hrl
  unfold sumL at h
  split at h
  · rename_i y x st hst
    split at h
    · rename_i pp qq wx wy hp hq hwx hwy
      split at h
      · rename_i hc
        cases h
        rw [hst] at hs
        obtain ⟨vy, sv1, rfl, hy, hs1⟩ := zf2_cons hs
        obtain ⟨vx, sv2, rfl, hx2, hs2⟩ := zf2_cons hs1
        have hgl : a.2.2.2.1.length = g.length := zf2_len hG
        obtain ⟨X, rfl, hX⟩ := ivL_ok hG hx2 hp
        obtain ⟨Y, rfl, hY⟩ := ivL_ok hG hy hq
        obtain ⟨wf1, ex⟩ := linA_ok hx2 hwx rfl
        obtain ⟨wf2, ey⟩ := linA_ok hy hwy rfl
        unfold inI at hX hY
        refine hrow X Y sv2 ls H locs ?_
        have he : (X + Y).toInt = X.toInt + Y.toInt := by rw [Int64.toInt_add, ae_bmL (by omega) (by omega)]
        refine name_go (hL _ (List.mem_singleton.mpr rfl)) hgs h0 hG hlv hl hs2 hH (z := X.toInt + Y.toInt) (Or.inr ⟨rfl, _, rfl, he⟩) (by unfold inI; simp only; omega) (RLok_app ?_ (RLok_ext gxt_one hrg))
        rw [hgl]
        exact eqR_ok (sbT_wf wf1 (sbT_wf (fun t ht => by simp at ht) wf2)) (by rw [sbC_ev, sbC_ev, ex, ey]; simp [evC, evT])
      · cases h
    · cases h
  · cases h
theorem brsR_ok {nL : Nat} {a : AS} {r : RLs} {k : Nat} {st : List AV} {x y : AV} {tgt nxt : Nat} {L : List ASR} (h : brsR k a r st x y tgt nxt = some L) (hL : ∀ b ∈ L, WR (WW p l e R s m args below meth c cs0 ss0 Q) m nL D cl A H0 V cA es0 g0 b)
    {gs g : List Int} {lv : List (Nat × Value)} {sv : List Value} {es : List va_E} {ls : Array Slot} {H : Heap} {locs : List Loc} {vx vy : Value} (hgs : gxt g0 gs) (h0 : gxt gs g) (hrg : RLok r g) (hG : GS a.2.2.2.1 g) (hlv : lv_has ls nL lv) (hl : zf2 (locR g V) a.2.1 lv) (hx : gam g V x vx) (hy : gam g V y vy) (hs : zf2 (gam g V) st sv) (hH : HS D cl A H0 V cA es0 a.2.2.2.2 g es H locs) :
    ∃ X Y : Int32, vx = .int X ∧ vy = .int Y ∧ (cmpH k X.toInt Y.toInt → WW p l e R s m args below meth c cs0 ss0 Q H locs (F0 m tgt ls sv)) ∧ (¬ cmpH k X.toInt Y.toInt → WW p l e R s m args below meth c cs0 ss0 Q H locs (F0 m nxt ls sv)) := by
  unfold brsR at h
  split at h
  · rename_i L1 L2 wx wy h1 h2 hwx hwy
    cases h
    obtain ⟨X, Y, e1, e2, e3⟩ := rfI_ok hG hx hy h1
    obtain ⟨X', Y', e4, e5, e6⟩ := rfI_ok hG hx hy h2
    subst e1; subst e2
    cases e4; cases e5
    obtain ⟨wf1, ex⟩ := linA_ok hx hwx rfl
    obtain ⟨wf2, ey⟩ := linA_ok hy hwy rfl
    refine ⟨X, Y, rfl, rfl, fun hc => ?_, fun hc => ?_⟩
    · obtain ⟨G', m1, m2⟩ := e3 hc
      exact hL _ (List.mem_append_left _ (List.mem_map.mpr ⟨G', m1, rfl⟩)) g (gxt_tr hgs h0) (RLok_app (lcOf_ok wf1 wf2 (by rw [ex, ey]; exact hc)) hrg) g lv sv es ls H locs gxt_rf m2 hlv hl hs hH
    · obtain ⟨G', m1, m2⟩ := e6 (cmpN_ok hc)
      exact hL _ (List.mem_append_right _ (List.mem_map.mpr ⟨G', m1, rfl⟩)) g (gxt_tr hgs h0) (RLok_app (lcOf_ok wf1 wf2 (by rw [ex, ey]; exact cmpN_ok hc)) hrg) g lv sv es ls H locs gxt_rf m2 hlv hl hs hH
  · cases h
theorem if2R_ok (hx : p.tables.exec = Jvm.exec) (hb : c.code = cc) {nL : Nat} {a : AS} {r : RLs} {q : ClassFile.Cond} {off : Int} {L : List ASR} (hd : decode cc a.1 = .ok (.if_icmp q off, 3)) (h : if2R (cnd q) off a r = some L) (hL : ∀ b ∈ L, WR (WW p l e R s m args below meth c cs0 ss0 Q) m nL D cl A H0 V cA es0 g0 b) : WR (WW p l e R s m args below meth c cs0 ss0 Q) m nL D cl A H0 V cA es0 g0 (a, r) := by
  intro gs hgs hrl g lv sv es ls H locs h0 hG hlv hl hs hH
  have hrg : RLok r g := RLok_ext h0 hrl
  unfold if2R at h
  split at h
  · rename_i y x st hst
    split at h
    · rename_i hp
      have hs : zf2 (gam g V) a.2.2.1 sv := hs
      rw [hst] at hs
      obtain ⟨w, sv1, rfl, h2, hs1⟩ := zf2_cons hs
      obtain ⟨w2, sv2, rfl, h3, hs2⟩ := zf2_cons hs1
      obtain ⟨X, Y, rfl, rfl, kt, kf⟩ := brsR_ok h hL hgs h0 hrg hG hlv hl h3 h2 hs2 hH
      have ht : (a.1 : Int) + off = ((((a.1 : Int) + off).toNat : Nat) : Int) := by omega
      cases q with
      | eq => exact lv_icmp_eq hx hb hd ht (fun hc => kt (Int32.toInt_inj.mpr hc)) (fun hc => kf (fun k => hc (Int32.toInt_inj.mp k)))
      | ne => exact lv_icmp_ne hx hb hd ht (fun hc => kt (fun k => hc (Int32.toInt_inj.mp k))) (fun hc => kf (fun k => k (Int32.toInt_inj.mpr hc)))
      | lt => exact lv_icmp_lt hx hb hd ht (fun hc => kt (Int32.lt_iff_toInt_lt.mp hc)) (fun hc => kf (fun k => hc (Int32.lt_iff_toInt_lt.mpr k)))
      | ge => exact lv_icmp_ge hx hb hd ht (fun hc => kt (Int32.le_iff_toInt_le.mp hc)) (fun hc => kf (fun k => hc (Int32.le_iff_toInt_le.mpr k)))
      | gt => exact lv_icmp_gt hx hb hd ht (fun hc => kt (Int32.lt_iff_toInt_lt.mp hc)) (fun hc => kf (fun k => hc (Int32.lt_iff_toInt_lt.mpr k)))
      | le => exact lv_icmp_le hx hb hd ht (fun hc => kt (Int32.le_iff_toInt_le.mp hc)) (fun hc => kf (fun k => hc (Int32.le_iff_toInt_le.mpr k)))
    · cases h
  · cases h
theorem remR_ok (hx : p.tables.exec = Jvm.exec) (hb : c.code = cc) {nL : Nat} {a : AS} {r : RLs} {L : List ASR} (hd : decode cc a.1 = .ok (.lrem, 1)) (h : remR a r = some L) (hL : ∀ b ∈ L, WR (WW p l e R s m args below meth c cs0 ss0 Q) m nL D cl A H0 V cA es0 g0 b) : WR (WW p l e R s m args below meth c cs0 ss0 Q) m nL D cl A H0 V cA es0 g0 (a, r) := by
  intro gs hgs hrl g lv sv es ls H locs h0 hG hlv hl hs hH
  have hrg : RLok r g := RLok_ext h0 hrl
  unfold remR at h
  split at h
  · rename_i y x st hst
    split at h
    · rename_i pp qq wy hp hq hwy
      split at h
      · rename_i hc
        cases h
        have hs : zf2 (gam g V) a.2.2.1 sv := hs
        rw [hst] at hs
        obtain ⟨vy, sv1, rfl, hy, hs1⟩ := zf2_cons hs
        obtain ⟨vx, sv2, rfl, hx2, hs2⟩ := zf2_cons hs1
        have hgl : a.2.2.2.1.length = g.length := zf2_len hG
        obtain ⟨X, rfl, hX⟩ := ivL_ok hG hx2 hp
        obtain ⟨Y, rfl, hY⟩ := ivL_ok hG hy hq
        obtain ⟨wf2, ey⟩ := linA_ok hy hwy rfl
        have hF := lremF_ok pp qq X Y hX hY
        unfold inI at hX hY
        have he : (X - X / Y * Y).toInt = X.toInt % Y.toInt := ae_lrem (by omega) (by omega)
        have hlt := Int.emod_lt_of_pos X.toInt (show 0 < Y.toInt by omega)
        refine lv_lrem hx hb hd (fun h9 => by rw [h9, show (0 : Int64).toInt = 0 from by decide] at hY; omega) ?_
        refine name_go (hL _ (List.mem_singleton.mpr rfl)) hgs h0 hG hlv hl hs2 hH (z := (X - X / Y * Y).toInt) (Or.inr ⟨rfl, _, rfl, rfl⟩) hF ?_
        intro w hw
        rcases List.mem_cons.mp hw with rfl | hw
        · have wfz : ∀ t ∈ ([(a.2.2.2.1.length, 1)] : List (Nat × Int)), t.1 < (g ++ [(X - X / Y * Y).toInt]).length := fun t ht => by
            rw [List.mem_singleton.mp ht, hgl]; simp
          have wfy : ∀ t ∈ wy.1, t.1 < (g ++ [(X - X / Y * Y).toInt]).length := fun t ht => by have := wf2 t ht; simp; omega
          refine ⟨sbT_wf wfy wfz, ?_⟩
          have e1 := sbC_ev (g := g ++ [(X - X / Y * Y).toInt]) (e := wy) (c := ([(a.2.2.2.1.length, 1)], 0))
          have e2 : evC (g ++ [(X - X / Y * Y).toInt]) wy = Y.toInt := by unfold evC; rw [evT_ext gxt_one wf2]; exact ey
          have e3 : evC (g ++ [(X - X / Y * Y).toInt]) ([(a.2.2.2.1.length, 1)], 0) = (X - X / Y * Y).toInt := by simp [evC, evT, hgl]
          unfold evC at e1 e2 e3 ⊢
          simp only at e1 e3 ⊢
          omega
        · exact LOK_ext gxt_one (hrg w hw)
      · cases h
    · cases h
  · cases h
set_option maxHeartbeats 1000000 in
theorem lcbR_ok (hx : p.tables.exec = Jvm.exec) (hb : c.code = cc) {nL : Nat} {T : TB} (hT : ∀ q ∈ T.1, decode cc q.1 = .ok q.2) {a : AS} {r : RLs} {L : List ASR} (hd : decode cc a.1 = .ok (.lcmp, 1)) (h : lcbR T a r = some L) (hL : ∀ b ∈ L, WR (WW p l e R s m args below meth c cs0 ss0 Q) m nL D cl A H0 V cA es0 g0 b) : WR (WW p l e R s m args below meth c cs0 ss0 Q) m nL D cl A H0 V cA es0 g0 (a, r) := by
  intro gs hgs hrl g lv sv es ls H locs h0 hG hlv hl hs hH
  have hrg : RLok r g := RLok_ext h0 hrl
  have hs : zf2 (gam g V) a.2.2.1 sv := hs
  unfold lcbR at h
  split at h
  · rename_i y x st q off hst hlk
    split at h
    · rename_i hp
      split at h
      · rename_i L1 L2 wx wy h1 h2 hwx hwy
        cases h
        rw [hst] at hs
        obtain ⟨w, sv1, rfl, g2, hs1⟩ := zf2_cons hs
        obtain ⟨w2, sv2, rfl, g3, hs2⟩ := zf2_cons hs1
        obtain ⟨X, Y, e1, e2, e3⟩ := rfL_ok hG g3 g2 h1
        obtain ⟨X', Y', e4, e5, e6⟩ := rfL_ok hG g3 g2 h2
        subst e1; subst e2
        cases e4; cases e5
        obtain ⟨wf1, ex⟩ := linA_ok g3 hwx rfl
        obtain ⟨wf2, ey⟩ := linA_ok g2 hwy rfl
        have kt : cmpH (cnd q) X.toInt Y.toInt → WW p l e R s m args below meth c cs0 ss0 Q H locs (F0 m (((a.1 : Int) + 1 + off).toNat) ls sv2) := fun hc => by
          obtain ⟨G', m1, m2⟩ := e3 hc
          exact hL _ (List.mem_append_left _ (List.mem_map.mpr ⟨G', m1, rfl⟩)) g (gxt_tr hgs h0) (RLok_app (lcOf_ok wf1 wf2 (by rw [ex, ey]; exact hc)) hrg) g lv sv2 es ls H locs gxt_rf m2 hlv hl hs2 hH
        have kf : ¬ cmpH (cnd q) X.toInt Y.toInt → WW p l e R s m args below meth c cs0 ss0 Q H locs (F0 m (a.1 + 1 + 3) ls sv2) := fun hc => by
          obtain ⟨G', m1, m2⟩ := e6 (cmpN_ok hc)
          exact hL _ (List.mem_append_right _ (List.mem_map.mpr ⟨G', m1, rfl⟩)) g (gxt_tr hgs h0) (RLok_app (lcOf_ok wf1 wf2 (by rw [ex, ey]; exact cmpN_ok hc)) hrg) g lv sv2 es ls H locs gxt_rf m2 hlv hl hs2 hH
        have hd2 : decode cc (a.1 + 1) = .ok (.ifCond q off, 3) := hT (a.1 + 1, .ifCond q off, 3) (look_mem hlk)
        have ht : ((a.1 + 1 : Nat) : Int) + off = ((((a.1 : Int) + 1 + off).toNat : Nat) : Int) := by omega
        refine W.lcmp hx hb hd ?_
        cases q with
        | eq => exact lv_if_eq hx hb hd2 ht (fun hc => kt (Int64.toInt_inj.mpr ((lg_cmp_eq X Y).mp hc))) (fun hc => kf (fun k => hc ((lg_cmp_eq X Y).mpr (Int64.toInt_inj.mp k))))
        | ne => exact lv_if_ne hx hb hd2 ht (fun hc => kt (fun k => hc ((lg_cmp_eq X Y).mpr (Int64.toInt_inj.mp k)))) (fun hc => kf (fun k => k (Int64.toInt_inj.mpr ((lg_cmp_eq X Y).mp hc))))
        | lt => exact lv_if_lt hx hb hd2 ht (fun hc => kt (Int64.lt_iff_toInt_lt.mp ((lg_cmp_lt X Y).mp hc))) (fun hc => kf (fun k => hc ((lg_cmp_lt X Y).mpr (Int64.lt_iff_toInt_lt.mpr k))))
        | ge => exact lv_if_ge hx hb hd2 ht (fun hc => kt (Int64.le_iff_toInt_le.mp ((lg_cmp_ge X Y).mp hc))) (fun hc => kf (fun k => hc ((lg_cmp_ge X Y).mpr (Int64.le_iff_toInt_le.mpr k))))
        | gt => exact lv_if_gt hx hb hd2 ht (fun hc => kt (Int64.lt_iff_toInt_lt.mp ((lg_cmp_gt X Y).mp hc))) (fun hc => kf (fun k => hc ((lg_cmp_gt X Y).mpr (Int64.lt_iff_toInt_lt.mpr k))))
        | le => exact lv_if_le hx hb hd2 ht (fun hc => kt (Int64.le_iff_toInt_le.mp ((lg_cmp_le X Y).mp hc))) (fun hc => kf (fun k => hc ((lg_cmp_le X Y).mpr (Int64.le_iff_toInt_le.mpr k))))
      · cases h
    · cases h
  · cases h
theorem ae_lremN {x y : Int64} (hx : x.toInt ≤ 0) (hy : 0 < y.toInt) : (x - x / y * y).toInt = -((-x.toInt) % y.toInt) := by
  have b1 := Int64.le_toInt x
  have h0 : (x / y).toInt = -((-x.toInt) / y.toInt) := by
    rw [Int64.toInt_div_of_ne_right x y (fun h => by rw [h] at hy; exact absurd hy (by decide)), show x.toInt = -(-x.toInt) by omega, Int.neg_tdiv, Int.tdiv_eq_ediv_of_nonneg (by omega), Int.neg_neg]
  have h1 : (-x.toInt) / y.toInt * y.toInt ≤ -x.toInt := Int.ediv_mul_le _ (by omega)
  have h2 : 0 ≤ (-x.toInt) / y.toInt * y.toInt := Int.mul_nonneg (Int.ediv_nonneg (by omega) (by omega)) (by omega)
  have h3 := Int.emod_add_mul_ediv (-x.toInt) y.toInt
  rw [Int.mul_comm] at h3
  have h4 : -((-x.toInt) / y.toInt) * y.toInt = -((-x.toInt) / y.toInt * y.toInt) := Int.neg_mul _ _
  rw [Int64.toInt_sub, Int64.toInt_mul, h0, h4, ae_bmL (z := -((-x.toInt) / y.toInt * y.toInt)) (by omega) (by omega), ae_bmL (by omega) (by omega)]
  omega
theorem ae_lremP {x y : Int64} (hx : 0 ≤ x.toInt) (hy : y.toInt < 0) : (x - x / y * y).toInt = x.toInt % (-y.toInt) := by
  have b1 := Int64.toInt_lt x
  have h0 : (x / y).toInt = -(x.toInt / (-y.toInt)) := by
    rw [Int64.toInt_div_of_ne_left x y (fun h => by rw [h] at hx; exact absurd hx (by decide))]
    have h5 : x.toInt.tdiv y.toInt = x.toInt.tdiv (-(-y.toInt)) := by rw [Int.neg_neg]
    rw [h5, Int.tdiv_neg, Int.tdiv_eq_ediv_of_nonneg hx]
  have h1 : x.toInt / (-y.toInt) * (-y.toInt) ≤ x.toInt := Int.ediv_mul_le _ (by omega)
  have h2 : 0 ≤ x.toInt / (-y.toInt) * (-y.toInt) := Int.mul_nonneg (Int.ediv_nonneg hx (by omega)) (by omega)
  have h3 := Int.emod_add_mul_ediv x.toInt (-y.toInt)
  rw [Int.mul_comm] at h3
  have h4 : -(x.toInt / (-y.toInt)) * y.toInt = x.toInt / (-y.toInt) * (-y.toInt) := by rw [Int.neg_mul, Int.mul_neg]
  rw [Int64.toInt_sub, Int64.toInt_mul, h0, h4, ae_bmL (z := x.toInt / (-y.toInt) * (-y.toInt)) (by omega) (by omega), ae_bmL (by omega) (by omega)]
  omega
theorem remS_ok (hx : p.tables.exec = Jvm.exec) (hb : c.code = cc) {nL : Nat} {a : AS} {r : RLs} {L : List ASR} (hd : decode cc a.1 = .ok (.lrem, 1)) (h : remS a r = some L) (hL : ∀ b ∈ L, WR (WW p l e R s m args below meth c cs0 ss0 Q) m nL D cl A H0 V cA es0 g0 b) : WR (WW p l e R s m args below meth c cs0 ss0 Q) m nL D cl A H0 V cA es0 g0 (a, r) := by
  intro gs hgs hrl g lv sv es ls H locs h0 hG hlv hl hs hH
  have hrg : RLok r g := RLok_ext h0 hrl
  unfold remS at h
  split at h
  · rename_i y x st hst
    split at h
    · rename_i pp qq wy hp hq hwy
      have hs : zf2 (gam g V) a.2.2.1 sv := hs
      rw [hst] at hs
      obtain ⟨vy, sv1, rfl, hy, hs1⟩ := zf2_cons hs
      obtain ⟨vx, sv2, rfl, hx2, hs2⟩ := zf2_cons hs1
      have hgl : a.2.2.2.1.length = g.length := zf2_len hG
      obtain ⟨X, rfl, hX⟩ := ivL_ok hG hx2 hp
      obtain ⟨Y, rfl, hY⟩ := ivL_ok hG hy hq
      obtain ⟨wf2, ey⟩ := linA_ok hy hwy rfl
      unfold inI at hX hY
      have wfy : ∀ t ∈ wy.1, t.1 < (g ++ [(X - X / Y * Y).toInt]).length := fun t ht => by have := wf2 t ht; simp; omega
      have e2 : evC (g ++ [(X - X / Y * Y).toInt]) wy = Y.toInt := by unfold evC; rw [evT_ext gxt_one wf2]; exact ey
      split at h
      · rename_i hc
        cases h
        have he : (X - X / Y * Y).toInt = -((-X.toInt) % Y.toInt) := ae_lremN (by omega) (by omega)
        have hlt := Int.emod_lt_of_pos (-X.toInt) (show 0 < Y.toInt by omega)
        have hnn := Int.emod_nonneg (-X.toInt) (show Y.toInt ≠ 0 by omega)
        refine lv_lrem hx hb hd (fun h9 => by rw [h9, show (0 : Int64).toInt = 0 from by decide] at hY; omega) ?_
        refine name_go (hL _ (List.mem_singleton.mpr rfl)) hgs h0 hG hlv hl hs2 hH (z := (X - X / Y * Y).toInt) (Or.inr ⟨rfl, _, rfl, rfl⟩) (by unfold inI; rw [he]; simp only; omega) ?_
        intro w hw
        rcases List.mem_cons.mp hw with rfl | hw
        · have wfz : ∀ t ∈ ([(a.2.2.2.1.length, -1)] : List (Nat × Int)), t.1 < (g ++ [(X - X / Y * Y).toInt]).length := fun t ht => by
            rw [List.mem_singleton.mp ht, hgl]; simp
          refine ⟨sbT_wf wfy wfz, ?_⟩
          have e1 := sbC_ev (g := g ++ [(X - X / Y * Y).toInt]) (e := wy) (c := ([(a.2.2.2.1.length, -1)], 0))
          have e3 : evC (g ++ [(X - X / Y * Y).toInt]) ([(a.2.2.2.1.length, -1)], 0) = -(X - X / Y * Y).toInt := by simp [evC, evT, hgl]
          unfold evC at e1 e2 e3 ⊢
          simp only at e1 e3 ⊢
          omega
        · exact LOK_ext gxt_one (hrg w hw)
      · split at h
        · rename_i hc
          cases h
          have he : (X - X / Y * Y).toInt = X.toInt % (-Y.toInt) := ae_lremP (by omega) (by omega)
          have hlt := Int.emod_lt_of_pos X.toInt (show 0 < -Y.toInt by omega)
          have hnn := Int.emod_nonneg X.toInt (show -Y.toInt ≠ 0 by omega)
          refine lv_lrem hx hb hd (fun h9 => by rw [h9, show (0 : Int64).toInt = 0 from by decide] at hY; omega) ?_
          refine name_go (hL _ (List.mem_singleton.mpr rfl)) hgs h0 hG hlv hl hs2 hH (z := (X - X / Y * Y).toInt) (Or.inr ⟨rfl, _, rfl, rfl⟩) (by unfold inI; rw [he]; simp only; omega) ?_
          intro w hw
          rcases List.mem_cons.mp hw with rfl | hw
          · have wfz : ∀ t ∈ ([(a.2.2.2.1.length, 1)] : List (Nat × Int)), t.1 < (g ++ [(X - X / Y * Y).toInt]).length := fun t ht => by
              rw [List.mem_singleton.mp ht, hgl]; simp
            have wfn : ∀ t ∈ (sbC ([], 0) wy).1, t.1 < (g ++ [(X - X / Y * Y).toInt]).length := sbT_wf (fun t ht => by cases ht) wfy
            refine ⟨sbT_wf wfn wfz, ?_⟩
            have e1 := sbC_ev (g := g ++ [(X - X / Y * Y).toInt]) (e := sbC ([], 0) wy) (c := ([(a.2.2.2.1.length, 1)], 0))
            have e4 := sbC_ev (g := g ++ [(X - X / Y * Y).toInt]) (e := ([], 0)) (c := wy)
            have e5 : evC (g ++ [(X - X / Y * Y).toInt]) (([], 0) : LC) = 0 := by simp [evC, evT]
            have e3 : evC (g ++ [(X - X / Y * Y).toInt]) ([(a.2.2.2.1.length, 1)], 0) = (X - X / Y * Y).toInt := by simp [evC, evT, hgl]
            rw [e4, e5, e2, e3] at e1
            unfold evC at e1 ⊢
            simp only at e1 ⊢
            omega
          · exact LOK_ext gxt_one (hrg w hw)
        · cases h
    · cases h
  · cases h
theorem stpW_ok (hx : p.tables.exec = Jvm.exec) (hb : c.code = cc) {nL : Nat} {T : TB} (hT : ∀ q ∈ T.1, decode cc q.1 = .ok q.2) {x : ASR} {ins : ClassFile.Instr} {len : Nat} {L : List ASR} (hd : decode cc x.1.1 = .ok (ins, len)) (h : stpW T ins len x = some L) (hL : ∀ b ∈ L, WR (WW p l e R s m args below meth c cs0 ss0 Q) m nL D cl A H0 V cA es0 g0 b) : WR (WW p l e R s m args below meth c cs0 ss0 Q) m nL D cl A H0 V cA es0 g0 x := by
  obtain ⟨a, r⟩ := x
  unfold stpW at h
  split at h
  · split at h
    · rename_i hc; subst hc
      exact sumI_ok h hL (fun X Y sv ls H locs k => lv_iadd hx hb hd k)
    · cases h
  · split at h
    · rename_i hc; subst hc
      exact difI_ok h hL (fun X Y sv ls H locs k => lv_isub hx hb hd k)
    · cases h
  · split at h
    · rename_i hc; subst hc
      exact sumL_ok h hL (fun X Y sv ls H locs k => lv_ladd hx hb hd k)
    · cases h
  · split at h
    · rename_i hc; subst hc
      exact if2R_ok hx hb hd h hL
    · cases h
  · split at h
    · rename_i hc; subst hc
      exact lcbR_ok hx hb hT hd h hL
    · cases h
  · split at h
    · rename_i hc; subst hc
      split at h
      · rename_i L' hL'
        cases h
        exact remR_ok hx hb hd hL' hL
      · exact remS_ok hx hb hd h hL
    · cases h
  · cases h
end STW
