/-! ===== rows: elements that stand alone, the rest ===== -/
/-- the segments of one element: where, what -/
noncomputable def sgl : List (Nat × AV) → Nat → List (Nat × AV)
  | [], _ => []
  | q :: r, o => if q.1 = 1 then (o, q.2) :: sgl r (o + 1) else sgl r (o + q.1)
theorem sgl_lk : ∀ {sg : List (Nat × AV)} {o i : Nat} {a : AV}, (i, a) ∈ sgl sg o → o ≤ i ∧ lk sg (i - o) = some a
  | [], _, _, _, h => by simp [sgl] at h
  | (n, b) :: r, o, i, a, h => by
    unfold sgl at h
    split at h
    · rename_i hn
      simp only at hn
      subst hn
      rcases List.mem_cons.mp h with h | h
      · cases h
        refine ⟨Nat.le_refl _, ?_⟩
        unfold lk
        rw [if_pos (by omega)]
      · obtain ⟨h1, h2⟩ := sgl_lk h
        refine ⟨by omega, ?_⟩
        unfold lk
        rw [if_neg (by omega), show i - o - 1 = i - (o + 1) by omega]
        exact h2
    · rename_i hn
      simp only at hn
      obtain ⟨h1, h2⟩ := sgl_lk h
      simp only at h1 h2
      refine ⟨by omega, ?_⟩
      unfold lk
      rw [if_neg (by omega), show i - o - n = i - (o + n) by omega]
      exact h2
/-- an element is one that stands alone, or lies in a longer segment: where that begins, how long it is -/
noncomputable def lng : List (Nat × AV) → Nat → List (Nat × Nat × AV)
  | [], _ => []
  | q :: r, o => if q.1 = 1 then lng r (o + 1) else (o, q.1, q.2) :: lng r (o + q.1)
theorem sgl_or : ∀ {sg : List (Nat × AV)} {o i : Nat} {a : AV}, lk sg i = some a → (o + i, a) ∈ sgl sg o ∨ ∃ s n, (s, n, a) ∈ lng sg o ∧ s ≤ o + i ∧ o + i < s + n
  | [], _, _, _, h => by cases h
  | (n, b) :: r, o, i, a, h => by
    unfold lk at h
    unfold sgl lng
    split at h
    · rename_i hi
      cases h
      by_cases hn : n = 1
      · subst hn
        rw [if_pos rfl, show o + i = o by omega]
        exact Or.inl List.mem_cons_self
      · rw [if_neg hn, if_neg hn]
        exact Or.inr ⟨o, n, List.mem_cons_self, by omega, by omega⟩
    · rename_i hi
      by_cases hn : n = 1
      · subst hn
        rw [if_pos rfl, if_pos rfl]
        rcases sgl_or (o := o + 1) h with h1 | ⟨s, k, h1, h2, h3⟩
        · rw [show o + 1 + (i - 1) = o + i by omega] at h1
          exact Or.inl (List.mem_cons_of_mem _ h1)
        · exact Or.inr ⟨s, k, h1, by omega, by omega⟩
      · rw [if_neg hn, if_neg hn]
        rcases sgl_or (o := o + n) h with h1 | ⟨s, k, h1, h2, h3⟩
        · rw [show o + n + (i - n) = o + i by omega] at h1
          exact Or.inl h1
        · exact Or.inr ⟨s, k, List.mem_cons_of_mem _ h1, by omega, by omega⟩
noncomputable def fA : AC → List AV
  | .inl o => o.2
  | .inr t => (sgl t.2 0).map Prod.snd
noncomputable def elV (e : va_E) (i : Nat) : Value := match e with
  | .inl (_, _, .inl f) => .int (f i)
  | .inl (_, _, .inr (.inl f)) => .long (f i)
  | .inl (_, _, .inr (.inr (.inr (.inr f)))) => va_rf (f i)
  | _ => .null
noncomputable def fV (c : AC) (e : va_E) : List Value := match c with
  | .inl _ => (match e with
    | .inr q => q.2
    | .inl _ => [])
  | .inr t => (sgl t.2 0).map (fun q => elV e q.1)
/-- the same places of another row, or object -/
noncomputable def fXl (u : List (Nat × AV)) : List (Nat × AV) → Option (List AV)
  | [] => some []
  | q :: r => match lk u q.1, fXl u r with
    | some x, some xs => some (x :: xs)
    | _, _ => none
noncomputable def fX (c x : AC) : Option (List AV) := match c, x with
  | .inl _, .inl y => some y.2
  | .inr t, .inr u => fXl u.2 (sgl t.2 0)
  | _, _ => none
/-- what a row says of its elements -/
theorem relC_el {g : List Int} {V : EV} {cA : Nat → ClassId} {t : Nat × List (Nat × AV)} {e : va_E} (h : relC g V cA (.inr t) e) {i : Nat} {b : AV} (hb : lk t.2 i = some b) : gam g V b (elV e i) := by
  unfold relC at h
  split at h
  · rename_i hq; cases hq
  · rename_i hq; cases hq
    exact h.2.2.2.2 i b hb
  · rename_i hq; cases hq
    exact h.2.2.2.2 i b hb
  · rename_i hq; cases hq
    exact h.2.2.2.2 i b hb
  · exact h.elim
/-- the same row, said otherwise -/
theorem relC_as {g g' : List Int} {V V' : EV} {cA : Nat → ClassId} {t u : Nat × List (Nat × AV)} {e : va_E} (h : relC g V cA (.inr t) e) (h1 : t.1 = u.1) (h2 : tot t.2 = tot u.2) (h3 : ∀ (i : Nat) (b : AV), lk u.2 i = some b → gam g' V' b (elV e i)) : relC g' V' cA (.inr u) e := by
  unfold relC at h ⊢
  split at h
  · rename_i hq; cases hq
  · rename_i hq; cases hq
    exact ⟨h1 ▸ h.1, h1 ▸ h.2.1, h.2.2.1.trans h2, h.2.2.2.1, h3⟩
  · rename_i hq; cases hq
    exact ⟨h1 ▸ h.1, h1 ▸ h.2.1, h.2.2.1.trans h2, h.2.2.2.1, h3⟩
  · rename_i hq; cases hq
    exact ⟨h1 ▸ h.1, h1 ▸ h.2.1, h.2.2.1.trans h2, h.2.2.2.1, h3⟩
  · exact h.elim
theorem fXl_ok {g : List Int} {V : EV} {cA : Nat → ClassId} {u : Nat × List (Nat × AV)} {e : va_E} (h : relC g V cA (.inr u) e) : ∀ {qs : List (Nat × AV)} {xs : List AV}, fXl u.2 qs = some xs → zf2 (gam g V) xs (qs.map (fun q => elV e q.1))
  | [], xs, hx => by cases hx; trivial
  | q :: r, xs, hx => by
    unfold fXl at hx
    split at hx
    · rename_i x xs' h1 h2
      cases hx
      exact ⟨relC_el h h1, fXl_ok h h2⟩
    · cases hx
/-- the values at the places of a cell, by the cell as it is now -/
theorem fX_ok {g : List Int} {V : EV} {cA : Nat → ClassId} {c x : AC} {e : va_E} (h : relC g V cA x e) {xs : List AV} (hx : fX c x = some xs) : zf2 (gam g V) xs (fV c e) := by
  unfold fX at hx
  split at hx
  · rename_i o y
    cases hx
    obtain ⟨y1, y2⟩ := y
    obtain ⟨vs, rfl, e5⟩ := relC_obj h
    exact e5
  · exact fXl_ok h hx
  · cases hx
/-- a cell out of what its places say, and its longer segments -/
noncomputable def lgC (P : AV → AV → Bool) (t u : List (Nat × AV)) : Bool := (lng t 0).all (fun q => (ovl q.1 (q.1 + q.2.1 - 1) u 0).all (fun x => P x q.2.2))
