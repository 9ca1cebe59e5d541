/-! ===== cut points: loops ===== -/
/-- a number of a value that is one, or a name and more -/
noncomputable def evA (g : List Int) (a : AV) : Int := if a.1 = 1 ∨ a.1 = 4 then g.getD a.2.1.toNat 0 + a.2.2 else a.2.1
theorem evA_gam {g : List Int} {V : EV} {a : AV} {v : Value} {z : Int} (h : gam g V a v) (ht : a.1 = 0 ∨ a.1 = 1 ∨ a.1 = 3 ∨ a.1 = 4) (hz : numV v = some z) : evA g a = z := by
  obtain ⟨t, b, c⟩ := a
  simp only at ht
  rcases ht with rfl | rfl | rfl | rfl
  · obtain ⟨x, rfl, hx⟩ := h
    have hz : some x.toInt = some z := hz
    cases hz
    simp only at hx
    simp [evA, hx]
  · obtain ⟨x, rfl, w, h1, h2⟩ := h
    have hz : some x.toInt = some z := hz
    cases hz
    simp only at h1 h2
    simp [evA, List.getD_eq_getElem?_getD, h1, h2]
  · obtain ⟨x, rfl, hx⟩ := h
    have hz : some x.toInt = some z := hz
    cases hz
    simp only at hx
    simp [evA, hx]
  · obtain ⟨x, rfl, w, h1, h2⟩ := h
    have hz : some x.toInt = some z := hz
    cases hz
    simp only at h1 h2
    simp [evA, List.getD_eq_getElem?_getD, h1, h2]
/-- a value of the state now (x), as the cut point has it (c), at its place q: a name of the start, or that place's own name -/
noncomputable def cm1 (n0 : Nat) (Ga Gb : GI) (q : Nat) (c x : AV) : Bool := match c.1 with
  | 1 => if c.2.1.toNat < n0 then decide (x = c) && (match nthG Gb (n0 + q) with
      | some r => decide (r.1 ≤ 0 ∧ 0 ≤ r.2)
      | none => false) else decide (c.2.1 = ((n0 + q : Nat) : Int) ∧ c.2.2 = 0) && (match ivI Ga x, nthG Gb (n0 + q) with
      | some p, some r => decide (r.1 ≤ p.1 ∧ p.2 ≤ r.2)
      | _, _ => false)
  | 4 => if c.2.1.toNat < n0 then decide (x = c) && (match nthG Gb (n0 + q) with
      | some r => decide (r.1 ≤ 0 ∧ 0 ≤ r.2)
      | none => false) else decide (c.2.1 = ((n0 + q : Nat) : Int) ∧ c.2.2 = 0) && (match ivL Ga x, nthG Gb (n0 + q) with
      | some p, some r => decide (r.1 ≤ p.1 ∧ p.2 ≤ r.2)
      | _, _ => false)
  | 9 => false
  | 10 => false
  | _ => (if c.1 = 11 then decide (x = c) else subV n0 Ga x c) && (match nthG Gb (n0 + q) with
      | some r => decide (r.1 ≤ 0 ∧ 0 ≤ r.2)
      | none => false)
noncomputable def cms (n0 : Nat) (Ga Gb : GI) : Nat → List AV → List AV → Bool
  | _, [], [] => true
  | q, c :: cs, x :: xs => cm1 n0 Ga Gb q c x && cms n0 Ga Gb (q + 1) cs xs
  | _, _, _ => false
noncomputable def cvl (n0 q : Nat) (c : AV) (v : Value) : Int := if (c.1 = 1 ∨ c.1 = 4) ∧ ¬ c.2.1.toNat < n0 then (numV v).getD 0 else 0
noncomputable def cvs (n0 : Nat) : Nat → List AV → List Value → List Int
  | q, c :: cs, v :: vs => cvl n0 q c v :: cvs n0 (q + 1) cs vs
  | _, _, _ => []
theorem cvs_len {n0 : Nat} : ∀ {q : Nat} {cs : List AV} {vs : List Value}, cs.length = vs.length → (cvs n0 q cs vs).length = cs.length
  | _, [], [], _ => rfl
  | _, [], _ :: _, h => by simp at h
  | _, _ :: _, [], h => by simp at h
  | q, _ :: cs, _ :: vs, h => by
    simp only [cvs, List.length_cons]
    rw [cvs_len (cs := cs) (vs := vs) (by simpa using h)]
theorem cvs_get {n0 : Nat} : ∀ {q : Nat} {cs : List AV} {vs : List Value} {j : Nat} {c : AV} {v : Value}, cs[j]? = some c → vs[j]? = some v → (cvs n0 q cs vs)[j]? = some (cvl n0 (q + j) c v)
  | _, [], _, _, _, _, h, _ => by simp at h
  | _, _ :: _, [], _, _, _, _, h => by simp at h
  | q, a :: cs, b :: vs, 0, c, v, h, h' => by
    simp at h h'
    subst h; subst h'
    simp [cvs]
  | q, a :: cs, b :: vs, j + 1, c, v, h, h' => by
    have := cvs_get (n0 := n0) (q := q + 1) (cs := cs) (vs := vs) (j := j) (c := c) (v := v) (by simpa using h) (by simpa using h')
    simp only [cvs, List.getElem?_cons_succ]
    rw [this, show q + 1 + j = q + (j + 1) by omega]
theorem cms_len {n0 : Nat} {Ga Gb : GI} : ∀ {q : Nat} {cs xs : List AV}, cms n0 Ga Gb q cs xs = true → cs.length = xs.length
  | _, [], [], _ => rfl
  | _, [], _ :: _, h => by simp [cms] at h
  | _, _ :: _, [], h => by simp [cms] at h
  | q, _ :: cs, _ :: xs, h => by
    simp only [cms, Bool.and_eq_true] at h
    simp [cms_len (cs := cs) (xs := xs) h.2]
/-- one value: what the cut point says of it holds, by the new numbers g' -/
theorem cm1_ok {n0 : Nat} {Ga Gb : GI} {g g0 g' : List Int} {V : EV} (hG : GS Ga g) (hx : gxt g0 g) (hn : g0.length = n0) (hx' : gxt g0 g') {q : Nat} {c x : AV} {v : Value} (hv : gam g V x v) (h : cm1 n0 Ga Gb q c x = true) (hg : g'[n0 + q]? = some (cvl n0 q c v)) : gam g' V c v ∧ ∃ r, Gb[n0 + q]? = some r ∧ inI r (cvl n0 q c v) := by
  obtain ⟨t, a, b⟩ := c
  have zero : ∀ {r : Int × Int}, r.1 ≤ 0 ∧ 0 ≤ r.2 → ¬ ((t = 1 ∨ t = 4) ∧ ¬ a.toNat < n0) → inI r (cvl n0 q (t, a, b) v) := by
    intro r hr hne
    unfold cvl
    rw [if_neg hne]
    exact hr
  unfold cm1 at h
  split at h
  · rename_i ht
    simp only at ht
    subst ht
    split at h
    · rename_i hlt
      simp only at hlt
      simp only [Bool.and_eq_true, decide_eq_true_eq] at h
      obtain ⟨rfl, h2⟩ := h
      split at h2
      · rename_i r hr
        rw [nthG_eq] at hr
        refine ⟨gam_ext hx' (gam_cut hx (fun _ => by rw [hn]; exact hlt) hv), r, hr, zero (of_decide_eq_true h2) (fun hh => hh.2 hlt)⟩
      · cases h2
    · rename_i hlt
      simp only at hlt
      simp only [Bool.and_eq_true, decide_eq_true_eq] at h
      obtain ⟨⟨ha, hb⟩, h2⟩ := h
      split at h2
      · rename_i p r hp hr
        rw [nthG_eq] at hr
        have h2 := of_decide_eq_true h2
        obtain ⟨X, rfl, hX⟩ := ivI_ok hG hv hp
        have hc : cvl n0 q ((1, a, b) : AV) (.int X) = X.toInt := by
          unfold cvl
          rw [if_pos ⟨Or.inl rfl, hlt⟩]
          rfl
        rw [hc] at hg ⊢
        unfold inI at hX
        refine ⟨⟨X, rfl, X.toInt, ?_, ?_⟩, r, hr, by unfold inI; omega⟩
        · show g'[a.toNat]? = _
          rw [ha, Int.toNat_natCast]
          exact hg
        · show X.toInt = X.toInt + b
          omega
      · cases h2
  · rename_i ht
    simp only at ht
    subst ht
    split at h
    · rename_i hlt
      simp only at hlt
      simp only [Bool.and_eq_true, decide_eq_true_eq] at h
      obtain ⟨rfl, h2⟩ := h
      split at h2
      · rename_i r hr
        rw [nthG_eq] at hr
        refine ⟨gam_ext hx' (gam_cut hx (fun _ => by rw [hn]; exact hlt) hv), r, hr, zero (of_decide_eq_true h2) (fun hh => hh.2 hlt)⟩
      · cases h2
    · rename_i hlt
      simp only at hlt
      simp only [Bool.and_eq_true, decide_eq_true_eq] at h
      obtain ⟨⟨ha, hb⟩, h2⟩ := h
      split at h2
      · rename_i p r hp hr
        rw [nthG_eq] at hr
        have h2 := of_decide_eq_true h2
        obtain ⟨X, rfl, hX⟩ := ivL_ok hG hv hp
        have hc : cvl n0 q ((4, a, b) : AV) (.long X) = X.toInt := by
          unfold cvl
          rw [if_pos ⟨Or.inr rfl, hlt⟩]
          rfl
        rw [hc] at hg ⊢
        unfold inI at hX
        refine ⟨⟨X, rfl, X.toInt, ?_, ?_⟩, r, hr, by unfold inI; omega⟩
        · show g'[a.toNat]? = _
          rw [ha, Int.toNat_natCast]
          exact hg
        · show X.toInt = X.toInt + b
          omega
      · cases h2
  · cases h
  · cases h
  · rename_i h1 h4 _ _
    simp only [Bool.and_eq_true] at h
    obtain ⟨h2, h3⟩ := h
    split at h3
    · rename_i r hr
      rw [nthG_eq] at hr
      have hne : ¬ ((t = 1 ∨ t = 4) ∧ ¬ a.toNat < n0) := fun hh => by
        rcases hh.1 with e | e
        · exact h1 e
        · exact h4 e
      refine ⟨?_, r, hr, zero (of_decide_eq_true h3) hne⟩
      split at h2
      · rename_i h11
        subst h11
        have h2 := of_decide_eq_true h2
        subst h2
        exact hv
      · exact gam_ext hx' (subV_ok hG hx hv (by rw [hn]; exact h2))
    · cases h3
/-- the new numbers at a stretch of places -/
noncomputable def SP (n0 : Nat) (g' : List Int) (q : Nat) (cs : List AV) (vs : List Value) : Prop := ∀ (j : Nat) (c : AV) (v : Value), cs[j]? = some c → vs[j]? = some v → g'[n0 + (q + j)]? = some (cvl n0 (q + j) c v)
theorem cms_ok {n0 : Nat} {Ga Gb : GI} {g g0 g' : List Int} {V : EV} (hG : GS Ga g) (hx : gxt g0 g) (hn : g0.length = n0) (hx' : gxt g0 g') : ∀ {q : Nat} {cs xs : List AV} {vs : List Value}, zf2 (gam g V) xs vs → cms n0 Ga Gb q cs xs = true → SP n0 g' q cs vs → zf2 (gam g' V) cs vs ∧ ∀ (j : Nat) (c : AV) (v : Value), cs[j]? = some c → vs[j]? = some v → ∃ r, Gb[n0 + (q + j)]? = some r ∧ inI r (cvl n0 (q + j) c v)
  | q, [], [], [], _, _, _ => ⟨trivial, fun j c v h => by simp at h⟩
  | q, [], [], _ :: _, h, _, _ => h.elim
  | q, [], _ :: _, _, _, h, _ => by simp [cms] at h
  | q, _ :: _, [], _, _, h, _ => by simp [cms] at h
  | q, _ :: _, _ :: _, [], h, _, _ => h.elim
  | q, c :: cs, x :: xs, v :: vs, hz, h, hS => by
    simp only [cms, Bool.and_eq_true] at h
    have h0 := hS 0 c v rfl rfl
    rw [Nat.add_zero] at h0
    obtain ⟨k1, r, k2, k3⟩ := cm1_ok hG hx hn hx' hz.1 h.1 h0
    have ih := cms_ok hG hx hn hx' (q := q + 1) (cs := cs) (xs := xs) (vs := vs) hz.2 h.2 (fun j c' v' h1 h2 => by
      have := hS (j + 1) c' v' (by simpa using h1) (by simpa using h2)
      rw [show q + 1 + j = q + (j + 1) by omega]
      exact this)
    refine ⟨⟨k1, ih.1⟩, fun j c' v' h1 h2 => ?_⟩
    cases j with
    | zero =>
      simp at h1 h2
      subst h1; subst h2
      rw [Nat.add_zero]
      exact ⟨r, k2, k3⟩
    | succ j =>
      have := ih.2 j c' v' (by simpa using h1) (by simpa using h2)
      rw [show q + 1 + j = q + (j + 1) by omega] at this
      exact this
theorem SP_app {n0 : Nat} {g' : List Int} {q : Nat} {c1 c2 : List AV} {v1 v2 : List Value} (hl : c1.length = v1.length) (h : SP n0 g' q (c1 ++ c2) (v1 ++ v2)) : SP n0 g' q c1 v1 ∧ SP n0 g' (q + c1.length) c2 v2 := by
  refine ⟨fun j c v h1 h2 => h j c v ?_ ?_, fun j c v h1 h2 => ?_⟩
  · rw [List.getElem?_append_left (List.getElem?_eq_some_iff.mp h1).1]; exact h1
  · rw [List.getElem?_append_left (List.getElem?_eq_some_iff.mp h2).1]; exact h2
  · have := h (c1.length + j) c v (by rw [List.getElem?_append_right (by omega)]; simpa using h1) (by rw [List.getElem?_append_right (by omega), ← hl]; simpa using h2)
    rw [show q + c1.length + j = q + (c1.length + j) by omega]
    exact this
theorem cms_app {n0 : Nat} {Ga Gb : GI} : ∀ {q : Nat} {c1 c2 x1 x2 : List AV}, c1.length = x1.length → cms n0 Ga Gb q (c1 ++ c2) (x1 ++ x2) = true → cms n0 Ga Gb q c1 x1 = true ∧ cms n0 Ga Gb (q + c1.length) c2 x2 = true
  | q, [], c2, [], x2, _, h => ⟨rfl, by simpa using h⟩
  | q, [], _, _ :: _, _, h, _ => by simp at h
  | q, _ :: _, _, [], _, h, _ => by simp at h
  | q, a :: c1, c2, b :: x1, x2, hl, h => by
    simp only [List.cons_append, cms, Bool.and_eq_true] at h
    have ih := cms_app (q := q + 1) (c1 := c1) (c2 := c2) (x1 := x1) (x2 := x2) (by simpa using hl) h.2
    refine ⟨by simp only [cms, Bool.and_eq_true]; exact ⟨h.1, ih.1⟩, ?_⟩
    rw [show q + (a :: c1).length = q + 1 + c1.length by simp; omega]
    exact ih.2
noncomputable def pkL (la : List (Nat × AV)) : List (Nat × AV) → Option (List AV)
  | [] => some []
  | q :: r => match fnd la q.1, pkL la r with
    | some x, some xs => some (x :: xs)
    | _, _ => none
theorem pkL_ok {g : List Int} {V : EV} {la : List (Nat × AV)} {lv : List (Nat × Value)} (hl : zf2 (locR g V) la lv) : ∀ {lb : List (Nat × AV)} {xs : List AV}, pkL la lb = some xs → ∃ vs : List Value, zf2 (gam g V) xs vs ∧ lb.length = vs.length ∧ ∀ (j k : Nat) (c : AV) (v : Value), lb[j]? = some (k, c) → vs[j]? = some v → (k, v) ∈ lv
  | [], xs, h => by cases h; exact ⟨[], trivial, rfl, fun j k c v h => by simp at h⟩
  | q :: r, xs, h => by
    unfold pkL at h
    split at h
    · rename_i x xs' h1 h2
      cases h
      obtain ⟨i, w, e1, e2, -⟩ := fnd_ok hl h1
      obtain ⟨vs, e3, e4, e5⟩ := pkL_ok hl h2
      refine ⟨w :: vs, ⟨e2, e3⟩, by simp [e4], fun j k c v hj hv => ?_⟩
      cases j with
      | zero =>
        simp at hj hv
        subst hv
        rw [hj] at e1
        exact List.mem_of_getElem? e1
      | succ j => exact e5 j k c v (by simpa using hj) (by simpa using hv)
    · cases h
theorem zf2_addr {α β : Type} {R : α → β → Prop} : ∀ {as : List α} {b1 b2 : List β} {n : Nat}, n ≤ as.length → zf2 R (as.take n) b1 → zf2 R (as.drop n) b2 → zf2 R as (b1 ++ b2) := by
  intro as b1 b2 n _ h1 h2
  have := zf2_apps h1 h2
  rwa [List.take_append_drop] at this
