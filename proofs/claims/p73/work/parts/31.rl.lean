/-! ===== linear words on the names ===== -/
/-- c0 g0 + c1 g1 + .. + k is not below 0 -/
abbrev LC : Type := List (Nat × Int) × Int
abbrev RLs : Type := List LC
noncomputable def evT (g : List Int) : List (Nat × Int) → Int
  | [] => 0
  | t :: r => t.2 * g.getD t.1 0 + evT g r
noncomputable def evC (g : List Int) (c : LC) : Int := evT g c.1 + c.2
noncomputable def LOK (c : LC) (g : List Int) : Prop := (∀ t ∈ c.1, t.1 < g.length) ∧ 0 ≤ evC g c
noncomputable def RLok (r : RLs) (g : List Int) : Prop := ∀ c ∈ r, LOK c g
theorem evT_ext {g g' : List Int} (hx : gxt g g') : ∀ {ts : List (Nat × Int)}, (∀ t ∈ ts, t.1 < g.length) → evT g' ts = evT g ts
  | [], _ => rfl
  | t :: r, h => by
    obtain ⟨e, rfl⟩ := hx
    have h1 := h t List.mem_cons_self
    have ih := evT_ext (g := g) (g' := g ++ e) ⟨e, rfl⟩ (ts := r) (fun q hq => h q (List.mem_cons_of_mem _ hq))
    simp only [evT]
    rw [ih, List.getD_eq_getElem?_getD, List.getD_eq_getElem?_getD, List.getElem?_append_left h1]
theorem LOK_ext {g g' : List Int} (hx : gxt g g') {c : LC} (h : LOK c g) : LOK c g' := by
  refine ⟨fun t ht => ?_, ?_⟩
  · obtain ⟨e, rfl⟩ := hx
    rw [List.length_append]
    exact Nat.lt_of_lt_of_le (h.1 t ht) (Nat.le_add_right _ _)
  · unfold evC
    rw [evT_ext hx h.1]
    exact h.2
theorem RLok_ext {g g' : List Int} (hx : gxt g g') {r : RLs} (h : RLok r g) : RLok r g' := fun c hc => LOK_ext hx (h c hc)
/-- a times a name more -/
noncomputable def adT (i : Nat) (c : Int) : List (Nat × Int) → List (Nat × Int)
  | [] => [(i, c)]
  | t :: r => if t.1 = i then (if t.2 + c = 0 then r else (i, t.2 + c) :: r) else t :: adT i c r
theorem adT_ev {g : List Int} {i : Nat} {c : Int} : ∀ {ts : List (Nat × Int)}, evT g (adT i c ts) = c * g.getD i 0 + evT g ts
  | [] => by simp [adT, evT]
  | t :: r => by
    unfold adT
    split
    · rename_i h
      split
      · rename_i h2
        simp only [evT]
        rw [h]
        have : t.2 = -c := by omega
        rw [this, Int.neg_mul]
        omega
      · simp only [evT]
        rw [h, Int.add_mul]
        omega
    · simp only [evT]
      rw [adT_ev (ts := r)]
      omega
theorem adT_wf {i n : Nat} {c : Int} (hi : i < n) : ∀ {ts : List (Nat × Int)}, (∀ t ∈ ts, t.1 < n) → ∀ t ∈ adT i c ts, t.1 < n
  | [], _, t, ht => by
    simp [adT] at ht
    rw [ht]
    exact hi
  | u :: r, h, t, ht => by
    unfold adT at ht
    split at ht
    · split at ht
      · exact h t (List.mem_cons_of_mem _ ht)
      · rcases List.mem_cons.mp ht with rfl | ht
        · exact hi
        · exact h t (List.mem_cons_of_mem _ ht)
    · rcases List.mem_cons.mp ht with rfl | ht
      · exact h _ List.mem_cons_self
      · exact adT_wf hi (fun q hq => h q (List.mem_cons_of_mem _ hq)) t ht
/-- e less c -/
noncomputable def sbT : List (Nat × Int) → List (Nat × Int) → List (Nat × Int)
  | e, [] => e
  | e, t :: r => sbT (adT t.1 (-t.2) e) r
theorem sbT_ev {g : List Int} : ∀ {e c : List (Nat × Int)}, evT g (sbT e c) = evT g e - evT g c
  | e, [] => by simp [sbT, evT]
  | e, t :: r => by
    unfold sbT
    rw [sbT_ev (c := r), adT_ev, Int.neg_mul]
    simp only [evT]
    omega
noncomputable def sbC (e c : LC) : LC := (sbT e.1 c.1, e.2 - c.2)
theorem sbC_ev {g : List Int} {e c : LC} : evC g (sbC e c) = evC g e - evC g c := by
  unfold sbC evC
  rw [sbT_ev]
  omega
/-- the least that it can be, by the intervals -/
noncomputable def lbT (G : GI) : List (Nat × Int) → Option Int
  | [] => some 0
  | t :: r => match nthG G t.1, lbT G r with
    | some q, some z => some ((if 0 ≤ t.2 then t.2 * q.1 else t.2 * q.2) + z)
    | _, _ => none
theorem lbT_ok {G : GI} {g : List Int} (hG : GS G g) : ∀ {ts : List (Nat × Int)} {z : Int}, lbT G ts = some z → z ≤ evT g ts
  | [], z, h => by
    cases h
    exact Int.le_refl 0
  | t :: r, z, h => by
    unfold lbT at h
    split at h
    · rename_i q y hq hy
      rw [nthG_eq] at hq
      cases h
      obtain ⟨w, h1, h2⟩ := zf2_get hG hq
      have ih := lbT_ok hG hy
      unfold inI at h2
      simp only [evT]
      rw [List.getD_eq_getElem?_getD, h1]
      simp only [Option.getD_some]
      split
      · rename_i hc
        have := Int.mul_le_mul_of_nonneg_left h2.1 hc
        omega
      · rename_i hc
        have := Int.mul_le_mul_of_nonpos_left (show t.2 ≤ 0 by omega) h2.2
        omega
    · cases h
noncomputable def nnI (G : GI) (e : LC) : Bool := match lbT G e.1 with
  | some z => decide (0 ≤ z + e.2)
  | none => false
theorem nnI_ok {G : GI} {g : List Int} (hG : GS G g) {e : LC} (h : nnI G e = true) : 0 ≤ evC g e := by
  unfold nnI at h
  split at h
  · rename_i z hz
    have h := of_decide_eq_true h
    have := lbT_ok hG hz
    unfold evC
    omega
  · cases h
/-- two numbers on the same side of 0 -/
noncomputable def sgn2 (a b : Int) : Bool := Int.rec (motive := fun _ => Bool) (fun _ => Int.rec (motive := fun _ => Bool) (fun _ => true) (fun _ => false) b) (fun _ => Int.rec (motive := fun _ => Bool) (fun _ => false) (fun _ => true) b) a
/-- c may take something away from e: they share a name, on the same side (or e has no names) -/
noncomputable def shr (e c : List (Nat × Int)) : Bool := match e with
  | [] => true
  | _ => e.any (fun t => c.any (fun u => Nat.beq t.1 u.1 && sgn2 t.2 u.2))
/-- it follows from the intervals, one word, or two -/
noncomputable def ent (d : Nat) (G : GI) (r : RLs) (e : LC) : Bool := match d with
  | 0 => nnI G e
  | d + 1 => nnI G e || r.any (fun c => shr e.1 c.1 && ent d G r (sbC e c))
theorem ent_ok {G : GI} {g : List Int} (hG : GS G g) {r : RLs} (hr : RLok r g) : ∀ {d : Nat} {e : LC}, ent d G r e = true → 0 ≤ evC g e
  | 0, e, h => nnI_ok hG h
  | d + 1, e, h => by
    unfold ent at h
    rw [Bool.or_eq_true] at h
    rcases h with h | h
    · exact nnI_ok hG h
    · obtain ⟨c, hc, h2⟩ := List.any_eq_true.mp h
      rw [Bool.and_eq_true] at h2
      have := ent_ok hG hr h2.2
      rw [sbC_ev] at this
      have := (hr c hc).2
      omega
/-- the names of a word that stand for values: put in what the values are -/
noncomputable def sbs (xs : List AV) (n0 N : Nat) : List (Nat × Int) → Option LC
  | [] => some ([], 0)
  | t :: r => match sbs xs n0 N r with
    | none => none
    | some (ts, k) => match xs[t.1]? with
      | some x => match x.1 with
        | 0 => some (ts, k + t.2 * x.2.1)
        | 3 => some (ts, k + t.2 * x.2.1)
        | 1 => some (adT x.2.1.toNat t.2 ts, k + t.2 * x.2.2)
        | 4 => some (adT x.2.1.toNat t.2 ts, k + t.2 * x.2.2)
        | _ => none
      | none => if n0 ≤ t.1 then some (adT (N + (t.1 - n0)) t.2 ts, k) else none
