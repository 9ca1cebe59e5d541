/-! ===== a call: what comes back ===== -/
noncomputable def bas (x : AV) (off : Int) (b : Nat) : Option AV := match x.1 with
  | 0 => some (b, x.2.1 + off, 0)
  | 1 => some (b + 1, x.2.1, x.2.2 + off)
  | 2 => some (b + 2, x.2.1 + off, x.2.2 + off)
  | 3 => some (b, x.2.1 + off, 0)
  | 4 => some (b + 1, x.2.1, x.2.2 + off)
  | 5 => some (b + 2, x.2.1 + off, x.2.2 + off)
  | _ => none
theorem bas_num {g : List Int} {V : EV} {x b : AV} {v : Value} {off : Int} {t : Nat} (hx : gam g V x v) (h : bas x off t = some b) : ∃ z, numV v = some z ∧ ((b.1 = t ∧ z + off = b.2.1) ∨ (b.1 = t + 1 ∧ ∃ y, g[b.2.1.toNat]? = some y ∧ z + off = y + b.2.2) ∨ (b.1 = t + 2 ∧ b.2.1 ≤ z + off ∧ z + off ≤ b.2.2)) := by
  obtain ⟨tx, x1, x2⟩ := x
  unfold bas at h
  split at h
  · rename_i ht; simp only at ht; subst ht; cases h
    obtain ⟨y, rfl, h2⟩ := hx
    exact ⟨_, rfl, Or.inl ⟨rfl, by simp only at h2 ⊢; omega⟩⟩
  · rename_i ht; simp only at ht; subst ht; cases h
    obtain ⟨y, rfl, z, h2, h3⟩ := hx
    exact ⟨_, rfl, Or.inr (Or.inl ⟨rfl, z, h2, by simp only at h3 ⊢; omega⟩)⟩
  · rename_i ht; simp only at ht; subst ht; cases h
    obtain ⟨y, rfl, h2, h3⟩ := hx
    exact ⟨_, rfl, Or.inr (Or.inr ⟨rfl, by simp only at h2 h3 ⊢; omega, by simp only at h2 h3 ⊢; omega⟩)⟩
  · rename_i ht; simp only at ht; subst ht; cases h
    obtain ⟨y, rfl, h2⟩ := hx
    exact ⟨_, rfl, Or.inl ⟨rfl, by simp only at h2 ⊢; omega⟩⟩
  · rename_i ht; simp only at ht; subst ht; cases h
    obtain ⟨y, rfl, z, h2, h3⟩ := hx
    exact ⟨_, rfl, Or.inr (Or.inl ⟨rfl, z, h2, by simp only at h3 ⊢; omega⟩)⟩
  · rename_i ht; simp only at ht; subst ht; cases h
    obtain ⟨y, rfl, h2, h3⟩ := hx
    exact ⟨_, rfl, Or.inr (Or.inr ⟨rfl, by simp only at h2 h3 ⊢; omega, by simp only at h2 h3 ⊢; omega⟩)⟩
  · cases h
noncomputable def trV (σ : List Nat) (cv xv : List AV) (a : AV) : Option AV := match a.1 with
  | 1 => match cv[a.2.1.toNat]?, xv[a.2.1.toNat]? with
    | some c, some x => if c.1 = 1 ∨ c.1 = 4 then bas x a.2.2 0 else none
    | _, _ => none
  | 4 => match cv[a.2.1.toNat]?, xv[a.2.1.toNat]? with
    | some c, some x => if c.1 = 1 ∨ c.1 = 4 then bas x a.2.2 3 else none
    | _, _ => none
  | 6 => match σ[a.2.1.toNat]? with
    | some i => some (6, (i : Int), 0)
    | none => none
  | 8 => match cv[a.2.1.toNat]? with
    | some c => if c.1 = 8 then xv[a.2.1.toNat]? else none
    | none => none
  | 0 => some a
  | 2 => some a
  | 3 => some a
  | 5 => some a
  | 7 => some a
  | 12 => some a
  | 13 => if a.2.1.toNat < nKR then some a else none
  | _ => none
theorem gcf_get : ∀ {cs : List AV} {vs : List Value} {k : Nat} {c : AV} {v : Value}, cs[k]? = some c → vs[k]? = some v → (gcf cs vs)[k]? = some (gvl c v)
  | [], _, _, _, _, h, _ => by simp at h
  | _ :: _, [], _, _, _, _, h => by simp at h
  | c :: cs, v :: vs, 0, _, _, h, h' => by simp at h h'; subst h; subst h'; rfl
  | c :: cs, v :: vs, k + 1, _, _, h, h' => by simpa [gcf] using gcf_get (cs := cs) (vs := vs) (k := k) (by simpa using h) (by simpa using h')
theorem trV_ok {σ ac : List Nat} {cv xv : List AV} {g : List Int} {V : EV} {KR va0 W ev : List Value} (hKR : KR.length = nKR) (hVK : V.1 = va0 ++ KR) {va : List Value} (hva : va = W ++ ev) (hW : ∀ (i : Nat) (c : AV), cv[i]? = some c → c.1 = 8 → i < W.length) {a b : AV} {v : Value} (hz : zf2 (gam g V) xv va) (hac : ∀ (r i : Nat), σ[r]? = some i → ac[r]? = V.2[i]?) (hsl : σ.length = ac.length) (ha : gam (gcf cv va) (W ++ KR, ac) a v) (h : trV σ cv xv a = some b) : gam g V b v := by
  obtain ⟨t, a1, a2⟩ := a
  unfold trV at h
  split at h
  · rename_i ht; simp only at ht; subst ht
    split at h
    · rename_i c x hc hxv
      split at h
      · rename_i hct
        obtain ⟨y, rfl, z, h2, h3⟩ := ha
        simp only at h2 h3 hc hxv h
        obtain ⟨u, e1, e2⟩ := zf2_get hz hxv
        have e3 := gcf_get hc e1
        have e4 : z = gvl c u := Option.some.inj (h2.symm.trans e3)
        obtain ⟨w, e5, e6⟩ := bas_num e2 h
        have e7 : gvl c u = w := by unfold gvl; rw [if_pos hct, e5]; rfl
        obtain ⟨tb, b1, b2⟩ := b
        simp only at e6
        rcases e6 with ⟨rfl, e8⟩ | ⟨rfl, q, e8, e9⟩ | ⟨rfl, e8, e9⟩
        · exact ⟨y, rfl, by simp only; omega⟩
        · exact ⟨y, rfl, q, e8, by simp only; omega⟩
        · exact ⟨y, rfl, by simp only; omega, by simp only; omega⟩
      · cases h
    · cases h
  · rename_i ht; simp only at ht; subst ht
    split at h
    · rename_i c x hc hxv
      split at h
      · rename_i hct
        obtain ⟨y, rfl, z, h2, h3⟩ := ha
        simp only at h2 h3 hc hxv h
        obtain ⟨u, e1, e2⟩ := zf2_get hz hxv
        have e3 := gcf_get hc e1
        have e4 : z = gvl c u := Option.some.inj (h2.symm.trans e3)
        obtain ⟨w, e5, e6⟩ := bas_num e2 h
        have e7 : gvl c u = w := by unfold gvl; rw [if_pos hct, e5]; rfl
        obtain ⟨tb, b1, b2⟩ := b
        simp only at e6
        rcases e6 with ⟨rfl, e8⟩ | ⟨rfl, q, e8, e9⟩ | ⟨rfl, e8, e9⟩
        · exact ⟨y, rfl, by simp only; omega⟩
        · exact ⟨y, rfl, q, e8, by simp only; omega⟩
        · exact ⟨y, rfl, by simp only; omega, by simp only; omega⟩
      · cases h
    · cases h
  · rename_i ht; simp only at ht; subst ht
    split at h
    · rename_i i hi
      cases h
      obtain ⟨r, h2, h3⟩ := ha
      simp only at h2 hi
      exact ⟨r, by simp only [Int.toNat_natCast]; rw [← hac _ _ hi]; exact h2, h3⟩
    · cases h
  · rename_i ht; simp only at ht; subst ht
    have ha : (W ++ KR)[a1.toNat]? = some v := ha
    split at h
    · rename_i c hc
      split at h
      · rename_i hc8
        obtain ⟨u, e1, e2⟩ := zf2_get hz h
        simp only at e1 hc
        have hlt := hW _ c hc hc8
        rw [hva, List.getElem?_append_left hlt] at e1
        rw [List.getElem?_append_left hlt] at ha
        rw [ha] at e1
        cases e1
        exact e2
      · cases h
    · cases h
  · rename_i ht; simp only at ht; subst ht; cases h; exact ha
  · rename_i ht; simp only at ht; subst ht; cases h; exact ha
  · rename_i ht; simp only at ht; subst ht; cases h; exact ha
  · rename_i ht; simp only at ht; subst ht; cases h; exact ha
  · rename_i ht; simp only at ht; subst ht; cases h; exact ha
  · rename_i ht; simp only at ht; subst ht; cases h; exact ha
  · rename_i ht; simp only at ht; subst ht
    split at h
    · rename_i hi
      cases h
      obtain ⟨r, h2, h3⟩ := ha
      refine ⟨r, ?_, h3⟩
      rw [hVK]
      exact (kr_rev hKR hi).trans h2
    · cases h
  · cases h
noncomputable def trF (σ : List Nat) (cv xv : List AV) : List AV → Option (List AV)
  | [] => some []
  | a :: r => match trV σ cv xv a, trF σ cv xv r with
    | some b, some s => some (b :: s)
    | _, _ => none
theorem trF_ok {σ ac : List Nat} {cv xv : List AV} {g : List Int} {V : EV} {KR va0 W ev : List Value} (hKR : KR.length = nKR) (hVK : V.1 = va0 ++ KR) {va : List Value} (hva : va = W ++ ev) (hW : ∀ (i : Nat) (c : AV), cv[i]? = some c → c.1 = 8 → i < W.length) (hz : zf2 (gam g V) xv va) (hac : ∀ (r i : Nat), σ[r]? = some i → ac[r]? = V.2[i]?) (hsl : σ.length = ac.length) : ∀ {as bs : List AV} {vs : List Value}, zf2 (gam (gcf cv va) (W ++ KR, ac)) as vs → trF σ cv xv as = some bs → zf2 (gam g V) bs vs
  | [], _, [], _, h => by cases h; trivial
  | [], _, _ :: _, hz', _ => hz'.elim
  | _ :: _, _, [], hz', _ => hz'.elim
  | a :: as, bs, v :: vs, hz', h => by
    unfold trF at h
    split at h
    · rename_i b s h1 h2
      cases h
      exact ⟨trV_ok hKR hVK hva hW hz hac hsl hz'.1 h1, trF_ok hKR hVK hva hW hz hac hsl hz'.2 h2⟩
    · cases h
/-- what the caller learns of its own numbers; none: it can't be so -/
noncomputable def rfn (G : GI) : List AV → List AV → GI → Option GI
  | c :: cs, x :: xs, q :: qs => if c.1 = 1 then (match ivI G x with
      | some r => if q.1 ≤ r.1 ∧ r.2 ≤ q.2 then rfn G cs xs qs else if max r.1 q.1 ≤ min r.2 q.2 then rfn (setG G x (max r.1 q.1, min r.2 q.2)) cs xs qs else none
      | none => rfn G cs xs qs) else if c.1 = 4 then (match ivL G x with
      | some r => if q.1 ≤ r.1 ∧ r.2 ≤ q.2 then rfn G cs xs qs else if max r.1 q.1 ≤ min r.2 q.2 then rfn (setG G x (max r.1 q.1, min r.2 q.2)) cs xs qs else none
      | none => rfn G cs xs qs) else rfn G cs xs qs
  | [], _, _ => some G
  | _, [], _ => some G
  | _, _, [] => some G
theorem rfn_ok {g : List Int} {V : EV} : ∀ {cs xs : List AV} {qs : GI} {vs : List Value} {G : GI}, GS G g → zf2 (gam g V) xs vs → zf2 inI qs (gcf cs vs) → cs.length = vs.length → ∃ G', rfn G cs xs qs = some G' ∧ GS G' g
  | [], xs, qs, vs, G, hG, _, _, _ => ⟨G, by unfold rfn; rfl, hG⟩
  | _ :: _, [], qs, vs, G, hG, _, _, _ => ⟨G, by unfold rfn; rfl, hG⟩
  | _ :: _, _ :: _, [], vs, G, hG, _, _, _ => ⟨G, by unfold rfn; rfl, hG⟩
  | c :: cs, x :: xs, q :: qs, [], G, hG, hz, _, _ => hz.elim
  | c :: cs, x :: xs, q :: qs, v :: vs, G, hG, hz, hq, hl => by
    have hq1 := hq.1
    have ih := fun (G2 : GI) (h2 : GS G2 g) => rfn_ok (cs := cs) (xs := xs) (qs := qs) (vs := vs) (G := G2) h2 hz.2 hq.2 (by simpa using hl)
    unfold rfn
    split
    · rename_i hc
      split
      · rename_i r hr
        obtain ⟨y, rfl, e1⟩ := ivI_ok hG hz.1 hr
        have hgv : gvl c (.int y) = y.toInt := by unfold gvl; rw [if_pos (Or.inl hc)]; rfl
        rw [hgv] at hq1
        unfold inI at hq1 e1
        split
        · exact ih G hG
        rw [if_pos (by omega)]
        exact ih _ (setG_ok hG hz.1 rfl (by unfold inI; simp only; omega))
      · exact ih G hG
    · split
      · rename_i hc
        split
        · rename_i r hr
          obtain ⟨y, rfl, e1⟩ := ivL_ok hG hz.1 hr
          have hgv : gvl c (.long y) = y.toInt := by unfold gvl; rw [if_pos (Or.inr hc)]; rfl
          rw [hgv] at hq1
          unfold inI at hq1 e1
          split
          · exact ih G hG
          rw [if_pos (by omega)]
          exact ih _ (setG_ok hG hz.1 rfl (by unfold inI; simp only; omega))
        · exact ih G hG
      · exact ih G hG
