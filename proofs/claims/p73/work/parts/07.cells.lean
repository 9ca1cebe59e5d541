/-! ===== cells, worlds, and what is less than what ===== -/
/-- a value now, as one of the start's (n names there) -/
noncomputable def subV (n : Nat) (G : GI) (a b : AV) : Bool := match b.1 with
  | 0 => match ivI G a with
    | some p => decide (p.1 = b.2.1 ∧ p.2 = b.2.1)
    | none => false
  | 1 => decide (a = b ∧ b.2.1.toNat < n)
  | 2 => match ivI G a with
    | some p => decide (b.2.1 ≤ p.1 ∧ p.2 ≤ b.2.2)
    | none => false
  | 3 => match ivL G a with
    | some p => decide (p.1 = b.2.1 ∧ p.2 = b.2.1)
    | none => false
  | 4 => decide (a = b ∧ b.2.1.toNat < n)
  | 5 => match ivL G a with
    | some p => decide (b.2.1 ≤ p.1 ∧ p.2 ≤ b.2.2)
    | none => false
  | 6 => decide (a = b)
  | 7 => decide (a = b)
  | 8 => decide (a = b)
  | 12 => decide (a = b) || (match ivI G a with
    | some p => inS b.2.1.toNat p
    | none => false)
  | 13 => decide (a = b)
  | _ => false
theorem gam_cut {g g0 : List Int} {V : EV} {b : AV} {v : Value} (hx : gxt g0 g) (hn : b.1 = 1 ∨ b.1 = 4 → b.2.1.toNat < g0.length) (h : gam g V b v) : gam g0 V b v := by
  obtain ⟨t, x, y⟩ := b
  obtain ⟨e, rfl⟩ := hx
  unfold gam at h ⊢
  split at h
  · exact h
  · rename_i ht; simp only at ht
    obtain ⟨u, h1, z, h2, h3⟩ := h
    refine ⟨u, h1, z, ?_, h3⟩
    rw [List.getElem?_append_left (hn (Or.inl ht))] at h2
    exact h2
  · exact h
  · exact h
  · rename_i ht; simp only at ht
    obtain ⟨u, h1, z, h2, h3⟩ := h
    refine ⟨u, h1, z, ?_, h3⟩
    rw [List.getElem?_append_left (hn (Or.inr ht))] at h2
    exact h2
  · exact h
  · exact h
  · exact h
  · exact h
  · exact h
  · exact h
  · exact h
  · exact h.elim
theorem subV_ok {G : GI} {g g0 : List Int} {V : EV} {a b : AV} {v : Value} (hG : GS G g) (hx : gxt g0 g) (ha : gam g V a v) (h : subV g0.length G a b = true) : gam g0 V b v := by
  obtain ⟨t, b1, b2⟩ := b
  unfold subV at h
  split at h
  · rename_i ht; simp only at ht; subst ht
    split at h
    · rename_i p hp
      obtain ⟨x, h1, h2⟩ := ivI_ok hG ha hp
      have h := of_decide_eq_true h
      unfold inI at h2
      simp only at h
      exact ⟨x, h1, by simp only; omega⟩
    · cases h
  · rename_i ht; simp only at ht; subst ht
    have h := of_decide_eq_true h
    obtain ⟨rfl, h2⟩ := h
    exact gam_cut hx (fun _ => h2) ha
  · rename_i ht; simp only at ht; subst ht
    split at h
    · rename_i p hp
      obtain ⟨x, h1, h2⟩ := ivI_ok hG ha hp
      have h := of_decide_eq_true h
      unfold inI at h2
      simp only at h
      exact ⟨x, h1, by simp only; omega, by simp only; omega⟩
    · cases h
  · rename_i ht; simp only at ht; subst ht
    split at h
    · rename_i p hp
      obtain ⟨x, h1, h2⟩ := ivL_ok hG ha hp
      have h := of_decide_eq_true h
      unfold inI at h2
      simp only at h
      exact ⟨x, h1, by simp only; omega⟩
    · cases h
  · rename_i ht; simp only at ht; subst ht
    have h := of_decide_eq_true h
    obtain ⟨rfl, h2⟩ := h
    exact gam_cut hx (fun _ => h2) ha
  · rename_i ht; simp only at ht; subst ht
    split at h
    · rename_i p hp
      obtain ⟨x, h1, h2⟩ := ivL_ok hG ha hp
      have h := of_decide_eq_true h
      unfold inI at h2
      simp only at h
      exact ⟨x, h1, by simp only; omega, by simp only; omega⟩
    · cases h
  · rename_i ht; simp only at ht; subst ht
    have h := of_decide_eq_true h
    subst h
    exact gam_cut hx (fun q => by simp at q) ha
  · rename_i ht; simp only at ht; subst ht
    have h := of_decide_eq_true h
    subst h
    exact gam_cut hx (fun q => by simp at q) ha
  · rename_i ht; simp only at ht; subst ht
    have h := of_decide_eq_true h
    subst h
    exact gam_cut hx (fun q => by simp at q) ha
  · rename_i ht; simp only at ht; subst ht
    simp only [Bool.or_eq_true, decide_eq_true_eq] at h
    rcases h with h | h
    · subst h
      exact gam_cut hx (fun q => by simp at q) ha
    · split at h
      · rename_i p hp
        obtain ⟨x, h1, h2⟩ := ivI_ok hG ha hp
        exact ⟨x, h1, inS_ok h h2⟩
      · cases h
  · rename_i ht; simp only at ht; subst ht
    have h := of_decide_eq_true h
    subst h
    exact gam_cut hx (fun q => by simp at q) ha
  · cases h
noncomputable def subF (n : Nat) (G : GI) : List AV → List AV → Bool
  | [], [] => true
  | a :: as, b :: bs => subV n G a b && subF n G as bs
  | _, _ => false
theorem subF_ok {G : GI} {g g0 : List Int} {V : EV} (hG : GS G g) (hx : gxt g0 g) : ∀ {as bs : List AV} {vs : List Value}, zf2 (gam g V) as vs → subF g0.length G as bs = true → zf2 (gam g0 V) bs vs
  | [], [], [], _, _ => trivial
  | [], _ :: _, _, _, h => by simp [subF] at h
  | _ :: _, [], _, _, h => by simp [subF] at h
  | a :: as, b :: bs, [], hz, _ => hz.elim
  | a :: as, b :: bs, v :: vs, hz, h => by
    simp only [subF, Bool.and_eq_true] at h
    exact ⟨subV_ok hG hx hz.1 h.1, subF_ok hG hx hz.2 h.2⟩
noncomputable def subS (n : Nat) (G : GI) : Nat → List (Nat × AV) → List (Nat × AV) → Bool
  | 0, _, _ => false
  | f + 1, s1, s2 => match s1, s2 with
    | [], [] => true
    | (n1, a) :: r1, (n2, b) :: r2 =>
      if n1 = 0 then subS n G f r1 ((n2, b) :: r2)
      else if n2 = 0 then subS n G f ((n1, a) :: r1) r2
      else subV n G a b && (if n1 = n2 then subS n G f r1 r2 else if n1 < n2 then subS n G f r1 ((n2 - n1, b) :: r2) else subS n G f ((n1 - n2, a) :: r1) r2)
    | (n1, _) :: r1, [] => if n1 = 0 then subS n G f r1 [] else false
    | [], (n2, _) :: r2 => if n2 = 0 then subS n G f [] r2 else false
theorem subS_ok {n : Nat} {G : GI} : ∀ {f : Nat} {s1 s2 : List (Nat × AV)}, subS n G f s1 s2 = true → tot s1 = tot s2 ∧ ∀ (j : Nat) (b : AV), lk s2 j = some b → ∃ a, lk s1 j = some a ∧ subV n G a b = true
  | 0, _, _, h => by simp [subS] at h
  | f + 1, s1, s2, h => by
    unfold subS at h
    split at h
    · exact ⟨rfl, fun j b hb => by cases hb⟩
    · rename_i n1 a r1 n2 b r2
      split at h
      · rename_i h0
        subst h0
        have ih := subS_ok h
        refine ⟨by simp only [tot] at ih ⊢; omega, fun j c hc => ?_⟩
        obtain ⟨d, h1, h2⟩ := ih.2 j c hc
        exact ⟨d, by unfold lk; rw [if_neg (by omega)]; exact h1, h2⟩
      · split at h
        · rename_i h0
          subst h0
          have ih := subS_ok h
          refine ⟨by simp only [tot] at ih ⊢; omega, fun j c hc => ?_⟩
          unfold lk at hc
          rw [if_neg (by omega)] at hc
          exact ih.2 j c hc
        · simp only [Bool.and_eq_true] at h
          obtain ⟨hv, h⟩ := h
          split at h
          · rename_i he
            subst he
            have ih := subS_ok h
            refine ⟨by simp only [tot] at ih ⊢; omega, fun j c hc => ?_⟩
            unfold lk at hc ⊢
            split at hc
            · cases hc
              rename_i hj
              exact ⟨a, by rw [if_pos hj], hv⟩
            · rename_i hj
              obtain ⟨d, h1, h2⟩ := ih.2 _ c hc
              exact ⟨d, by rw [if_neg hj]; exact h1, h2⟩
          · split at h
            · have ih := subS_ok h
              refine ⟨by simp only [tot] at ih ⊢; omega, fun j c hc => ?_⟩
              unfold lk at hc ⊢
              by_cases hj : j < n1
              · rw [if_pos (by omega)] at hc
                cases hc
                exact ⟨a, by rw [if_pos hj], hv⟩
              · rw [if_neg hj]
                refine ih.2 (j - n1) c ?_
                unfold lk
                split at hc
                · rw [if_pos (by omega)]; exact hc
                · rw [if_neg (by omega), show j - n1 - (n2 - n1) = j - n2 by omega]; exact hc
            · have ih := subS_ok h
              refine ⟨by simp only [tot] at ih ⊢; omega, fun j c hc => ?_⟩
              unfold lk at hc ⊢
              split at hc
              · cases hc
                exact ⟨a, by rw [if_pos (by omega)], hv⟩
              · obtain ⟨d, h1, h2⟩ := ih.2 _ c hc
                refine ⟨d, ?_, h2⟩
                unfold lk at h1
                split at h1
                · rw [if_pos (by omega)]; exact h1
                · rw [if_neg (by omega)]
                  rw [show j - n2 - (n1 - n2) = j - n1 by omega] at h1; exact h1
    · split at h
      · rename_i h0
        subst h0
        have ih := subS_ok h
        exact ⟨by simp only [tot] at ih ⊢; omega, fun j c hc => by cases hc⟩
      · cases h
    · split at h
      · rename_i h0
        subst h0
        have ih := subS_ok h
        refine ⟨by simp only [tot] at ih ⊢; omega, fun j c hc => ?_⟩
        unfold lk at hc
        rw [if_neg (by omega)] at hc
        exact ih.2 j c hc
      · cases h
/-- what a cell holds -/
noncomputable def relC (g : List Int) (V : EV) (cA : Nat → ClassId) (a : AC) (e : va_E) : Prop := match a, e with
  | .inl o, .inr q => o.1 = q.1 ∧ zf2 (gam g V) o.2 q.2
  | .inr t, .inl (k, n, .inl f) => (t.1 = 0 ∨ t.1 = 1 ∨ t.1 = 3) ∧ k = cA t.1 ∧ n = tot t.2 ∧ n < 2 ^ 31 ∧ ∀ (i : Nat) (b : AV), lk t.2 i = some b → gam g V b (.int (f i))
  | .inr t, .inl (k, n, .inr (.inl f)) => t.1 = 2 ∧ k = cA t.1 ∧ n = tot t.2 ∧ n < 2 ^ 31 ∧ ∀ (i : Nat) (b : AV), lk t.2 i = some b → gam g V b (.long (f i))
  | .inr t, .inl (k, n, .inr (.inr (.inr (.inr f)))) => t.1 = 4 ∧ k = cA t.1 ∧ n = tot t.2 ∧ n < 2 ^ 31 ∧ ∀ (i : Nat) (b : AV), lk t.2 i = some b → gam g V b (va_rf (f i))
  | _, _ => False
theorem relC_ext {g g' : List Int} {V : EV} {cA : Nat → ClassId} {a : AC} {e : va_E} (hx : gxt g g') (h : relC g V cA a e) : relC g' V cA a e := by
  unfold relC at h ⊢
  split at h
  · exact ⟨h.1, zf2_mono (fun _ _ => gam_ext hx) h.2⟩
  · exact ⟨h.1, h.2.1, h.2.2.1, h.2.2.2.1, fun i b hb => gam_ext hx (h.2.2.2.2 i b hb)⟩
  · exact ⟨h.1, h.2.1, h.2.2.1, h.2.2.2.1, fun i b hb => gam_ext hx (h.2.2.2.2 i b hb)⟩
  · exact ⟨h.1, h.2.1, h.2.2.1, h.2.2.2.1, fun i b hb => gam_ext hx (h.2.2.2.2 i b hb)⟩
  · exact h.elim
noncomputable def subC (n : Nat) (G : GI) (a b : AC) : Bool := match a, b with
  | .inl x, .inl y => decide (x.1 = y.1) && subF n G x.2 y.2
  | .inr x, .inr y => decide (x.1 = y.1) && subS n G (x.2.length + y.2.length + 1) x.2 y.2
  | _, _ => false
theorem subC_ok {G : GI} {g g0 : List Int} {V : EV} {cA : Nat → ClassId} {a b : AC} {e : va_E} (hG : GS G g) (hx : gxt g0 g) (ha : relC g V cA a e) (h : subC g0.length G a b = true) : relC g0 V cA b e := by
  unfold subC at h
  split at h
  · rename_i x y
    simp only [Bool.and_eq_true, decide_eq_true_eq] at h
    unfold relC at ha ⊢
    split at ha
    · rename_i o q hq
      cases hq
      exact ⟨h.1 ▸ ha.1, subF_ok hG hx ha.2 h.2⟩
    · rename_i hq; cases hq
    · rename_i hq; cases hq
    · rename_i hq; cases hq
    · exact ha.elim
  · rename_i x y
    simp only [Bool.and_eq_true, decide_eq_true_eq] at h
    have hs := subS_ok h.2
    unfold relC at ha ⊢
    split at ha
    · rename_i hq; cases hq
    · rename_i t k n f hq
      cases hq
      refine ⟨h.1 ▸ ha.1, h.1 ▸ ha.2.1, ha.2.2.1.trans hs.1, ha.2.2.2.1, fun i c hc => ?_⟩
      obtain ⟨d, h1, h2⟩ := hs.2 i c hc
      exact subV_ok hG hx (ha.2.2.2.2 i d h1) h2
    · rename_i t k n f hq
      cases hq
      refine ⟨h.1 ▸ ha.1, h.1 ▸ ha.2.1, ha.2.2.1.trans hs.1, ha.2.2.2.1, fun i c hc => ?_⟩
      obtain ⟨d, h1, h2⟩ := hs.2 i c hc
      exact subV_ok hG hx (ha.2.2.2.2 i d h1) h2
    · rename_i t k n f hq
      cases hq
      refine ⟨h.1 ▸ ha.1, h.1 ▸ ha.2.1, ha.2.2.1.trans hs.1, ha.2.2.2.1, fun i c hc => ?_⟩
      obtain ⟨d, h1, h2⟩ := hs.2 i c hc
      exact subV_ok hG hx (ha.2.2.2.2 i d h1) h2
    · exact ha.elim
  · cases h
/-- the world: addresses beside what they hold -/
noncomputable def zw : List Nat → List va_E → va_W
  | a :: ad, e :: es => (a, e) :: zw ad es
  | _, _ => []
theorem zw_get : ∀ {ad : List Nat} {es : List va_E} {k a : Nat} {e : va_E}, ad[k]? = some a → es[k]? = some e → (zw ad es)[k]? = some (a, e)
  | [], _, _, _, _, h, _ => by simp at h
  | _ :: _, [], _, _, _, _, h => by simp at h
  | a :: ad, e :: es, 0, _, _, h, h' => by simp at h h'; subst h; subst h'; rfl
  | a :: ad, e :: es, k + 1, b, f, h, h' => by
    have := zw_get (ad := ad) (es := es) (k := k) (a := b) (e := f) (by simpa using h) (by simpa using h')
    simpa [zw] using this
theorem zw_inv : ∀ {ad : List Nat} {es : List va_E} {k : Nat} {q : Nat × va_E}, (zw ad es)[k]? = some q → ad[k]? = some q.1 ∧ es[k]? = some q.2
  | [], _, _, _, h => by simp [zw] at h
  | _ :: _, [], _, _, h => by simp [zw] at h
  | a :: ad, e :: es, 0, q, h => by simp [zw] at h; subst h; exact ⟨rfl, rfl⟩
  | a :: ad, e :: es, k + 1, q, h => by
    have := zw_inv (ad := ad) (es := es) (k := k) (q := q) (by simpa [zw] using h)
    simpa using this
theorem zw_set : ∀ {ad : List Nat} {es : List va_E} {k a : Nat} {e : va_E}, ad[k]? = some a → (zw ad es).set k (a, e) = zw ad (es.set k e)
  | [], _, _, _, _, h => by simp at h
  | _ :: _, [], k, _, _, _ => by cases k <;> simp [zw]
  | a :: ad, e :: es, 0, _, _, h => by simp at h; subst h; rfl
  | a :: ad, e :: es, k + 1, b, f, h => by
    have := zw_set (ad := ad) (es := es) (k := k) (a := b) (e := f) (by simpa using h)
    simp [zw, this]
