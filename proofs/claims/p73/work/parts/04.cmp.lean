/-! ===== comparisons, and what each way tells ===== -/
/-- 0 =, 1 ≠, 2 <, 3 ≥, 4 >, 5 ≤ -/
noncomputable def cmpH (k : Nat) (x y : Int) : Prop := match k with
  | 0 => x = y
  | 1 => x ≠ y
  | 2 => x < y
  | 3 => y ≤ x
  | 4 => y < x
  | _ => x ≤ y
noncomputable def cmpN (k : Nat) : Nat := match k with
  | 0 => 1
  | 1 => 0
  | 2 => 3
  | 3 => 2
  | 4 => 5
  | _ => 4
theorem cmpN_ok {k : Nat} {x y : Int} (h : ¬ cmpH k x y) : cmpH (cmpN k) x y := by
  unfold cmpH at h
  unfold cmpN cmpH
  split at h <;> simp only <;> omega
noncomputable def cutR (k : Nat) (p q : Int × Int) : (Int × Int) × (Int × Int) := match k with
  | 0 => ((max p.1 q.1, min p.2 q.2), (max p.1 q.1, min p.2 q.2))
  | 1 => if q.1 = q.2 then ((if p.1 = q.1 then p.1 + 1 else p.1, if p.2 = q.1 then p.2 - 1 else p.2), q) else if p.1 = p.2 then (p, (if q.1 = p.1 then q.1 + 1 else q.1, if q.2 = p.1 then q.2 - 1 else q.2)) else (p, q)
  | 2 => ((p.1, min p.2 (q.2 - 1)), (max q.1 (p.1 + 1), q.2))
  | 3 => ((max p.1 q.1, p.2), (q.1, min q.2 p.2))
  | 4 => ((max p.1 (q.1 + 1), p.2), (q.1, min q.2 (p.2 - 1)))
  | _ => ((p.1, min p.2 q.2), (max q.1 p.1, q.2))
theorem cutR_ok {k : Nat} {p q : Int × Int} {x y : Int} (hx : inI p x) (hy : inI q y) (h : cmpH k x y) : inI (cutR k p q).1 x ∧ inI (cutR k p q).2 y := by
  unfold inI at hx hy ⊢
  unfold cmpH at h
  unfold cutR
  split at h
  · simp only; omega
  · split
    · simp only
      refine ⟨⟨?_, ?_⟩, hy⟩ <;> split <;> omega
    · split
      · simp only
        refine ⟨hx, ⟨?_, ?_⟩⟩ <;> split <;> omega
      · exact ⟨hx, hy⟩
  · simp only; omega
  · simp only; omega
  · simp only; omega
  · simp only; omega
noncomputable def setG (G : GI) (a : AV) (q : Int × Int) : GI := match a.1 with
  | 1 => setN G a.2.1.toNat (q.1 - a.2.2, q.2 - a.2.2)
  | 4 => setN G a.2.1.toNat (q.1 - a.2.2, q.2 - a.2.2)
  | _ => G
theorem zf2_setL {α β : Type} {R : α → β → Prop} {a : α} {b : β} (hr : R a b) : ∀ {as : List α} {bs : List β}, zf2 R as bs → ∀ {i : Nat}, bs[i]? = some b → zf2 R (as.set i a) bs
  | [], [], _, _, _ => trivial
  | _ :: as, c :: bs, h, 0, hb => by
    have : c = b := by simpa using hb
    subst this
    exact ⟨hr, h.2⟩
  | _ :: as, _ :: bs, h, i + 1, hb => ⟨h.1, zf2_setL hr (as := as) (bs := bs) h.2 (i := i) (by simpa using hb)⟩
/-- the number that a value is -/
noncomputable def numV : Value → Option Int
  | .int x => some x.toInt
  | .long x => some x.toInt
  | _ => none
theorem setG_ok {G : GI} {g : List Int} {V : EV} {a : AV} {v : Value} {q : Int × Int} {z : Int} (hG : GS G g) (ha : gam g V a v) (hz : numV v = some z) (hq : inI q z) : GS (setG G a q) g := by
  obtain ⟨t, b, c⟩ := a
  unfold setG
  split
  · rename_i ht; simp only at ht; subst ht
    obtain ⟨x, h1, w, h2, h3⟩ := ha
    subst h1
    cases hz
    unfold inI at hq
    rw [setN_eq]
    exact zf2_setL (b := w) (by unfold inI; simp only at h3 ⊢; omega) hG h2
  · rename_i ht; simp only at ht; subst ht
    obtain ⟨x, h1, w, h2, h3⟩ := ha
    subst h1
    cases hz
    unfold inI at hq
    rw [setN_eq]
    exact zf2_setL (b := w) (by unfold inI; simp only at h3 ⊢; omega) hG h2
  · exact hG
noncomputable def rfC (k : Nat) (G : GI) (a b : AV) (p q : Int × Int) : List GI := if (cutR k p q).1.1 ≤ (cutR k p q).1.2 ∧ (cutR k p q).2.1 ≤ (cutR k p q).2.2 then [setG (setG G a (cutR k p q).1) b (cutR k p q).2] else []
theorem rfC_ok {k : Nat} {G : GI} {g : List Int} {V : EV} {a b : AV} {v w : Value} {p q : Int × Int} {x y : Int} (hG : GS G g) (ha : gam g V a v) (hb : gam g V b w) (hx : numV v = some x) (hy : numV w = some y) (hp : inI p x) (hq : inI q y) (h : cmpH k x y) : ∃ G' ∈ rfC k G a b p q, GS G' g := by
  have hc := cutR_ok hp hq h
  unfold rfC
  have h1 := hc.1
  have h2 := hc.2
  unfold inI at h1 h2
  rw [if_pos ⟨by omega, by omega⟩]
  exact ⟨_, List.mem_singleton.mpr rfl, setG_ok (setG_ok hG ha hx hc.1) hb hy hc.2⟩
/-- unlike: less or more -/
noncomputable def rfX (k : Nat) (G : GI) (a b : AV) (p q : Int × Int) : List GI := if k = 1 then (if p.1 = p.2 ∨ q.1 = q.2 then rfC 2 G a b p q ++ rfC 4 G a b p q else [G]) else rfC k G a b p q
theorem rfX_ok {k : Nat} {G : GI} {g : List Int} {V : EV} {a b : AV} {v w : Value} {p q : Int × Int} {x y : Int} (hG : GS G g) (ha : gam g V a v) (hb : gam g V b w) (hx : numV v = some x) (hy : numV w = some y) (hp : inI p x) (hq : inI q y) (h : cmpH k x y) : ∃ G' ∈ rfX k G a b p q, GS G' g := by
  unfold rfX
  split
  · rename_i hk
    subst hk
    split
    · have h : x ≠ y := h
      rcases (show x < y ∨ y < x by omega) with h | h
      · obtain ⟨G', h1, h2⟩ := rfC_ok (k := 2) hG ha hb hx hy hp hq h
        exact ⟨G', List.mem_append_left _ h1, h2⟩
      · obtain ⟨G', h1, h2⟩ := rfC_ok (k := 4) hG ha hb hx hy hp hq h
        exact ⟨G', List.mem_append_right _ h1, h2⟩
    · exact ⟨G, List.mem_singleton.mpr rfl, hG⟩
  · exact rfC_ok hG ha hb hx hy hp hq h
noncomputable def rfI (k : Nat) (G : GI) (a b : AV) : Option (List GI) :=
  match ivI G a, ivI G b with
  | some p, some q => some (rfX k G a b p q)
  | _, _ => none
noncomputable def rfL (k : Nat) (G : GI) (a b : AV) : Option (List GI) :=
  match ivL G a, ivL G b with
  | some p, some q => some (rfX k G a b p q)
  | _, _ => none
theorem rfI_ok {k : Nat} {G : GI} {g : List Int} {V : EV} {a b : AV} {v w : Value} {L : List GI} (hG : GS G g) (ha : gam g V a v) (hb : gam g V b w) (hL : rfI k G a b = some L) : ∃ x y : Int32, v = .int x ∧ w = .int y ∧ (cmpH k x.toInt y.toInt → ∃ G' ∈ L, GS G' g) := by
  unfold rfI at hL
  split at hL
  · rename_i p q hp hq
    obtain ⟨x, e1, h1⟩ := ivI_ok hG ha hp
    obtain ⟨y, e2, h2⟩ := ivI_ok hG hb hq
    cases hL
    subst e1; subst e2
    exact ⟨x, y, rfl, rfl, fun h => rfX_ok hG ha hb rfl rfl h1 h2 h⟩
  · cases hL
theorem rfL_ok {k : Nat} {G : GI} {g : List Int} {V : EV} {a b : AV} {v w : Value} {L : List GI} (hG : GS G g) (ha : gam g V a v) (hb : gam g V b w) (hL : rfL k G a b = some L) : ∃ x y : Int64, v = .long x ∧ w = .long y ∧ (cmpH k x.toInt y.toInt → ∃ G' ∈ L, GS G' g) := by
  unfold rfL at hL
  split at hL
  · rename_i p q hp hq
    obtain ⟨x, e1, h1⟩ := ivL_ok hG ha hp
    obtain ⟨y, e2, h2⟩ := ivL_ok hG hb hq
    cases hL
    subst e1; subst e2
    exact ⟨x, y, rfl, rfl, fun h => rfX_ok hG ha hb rfl rfl h1 h2 h⟩
  · cases hL
