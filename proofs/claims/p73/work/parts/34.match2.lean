/-! ===== matching with single elements; words on names ===== -/
noncomputable def fAs (cs : List AC) : List AV := cs.flatMap fA
noncomputable def fVs : List AC → List va_E → List Value
  | c :: cs, e :: es => fV c e ++ fVs cs es
  | _, _ => []
noncomputable def fXs : List AC → List AC → Option (List AV)
  | [], [] => some []
  | c :: cs, x :: xs => match fX c x, fXs cs xs with
    | some a, some b => some (a ++ b)
    | _, _ => none
  | _, _ => none
theorem zf2_mm {α β γ : Type} {R : β → γ → Prop} {f : α → β} {h : α → γ} : ∀ {l : List α}, zf2 R (l.map f) (l.map h) → ∀ q ∈ l, R (f q) (h q)
  | [], _, q, hq => by cases hq
  | a :: l, hz, q, hq => by
    rcases List.mem_cons.mp hq with rfl | hq
    · exact hz.1
    · exact zf2_mm (l := l) hz.2 q hq
noncomputable def numA (b : AV) : Bool := decide (b.1 = 0 ∨ b.1 = 2 ∨ b.1 = 3 ∨ b.1 = 5 ∨ b.1 = 12)
noncomputable def kndC (G : GI) (c x : AC) : Bool := match c, x with
  | .inl o, .inl y => decide (o.1 = y.1)
  | .inr t, .inr u => decide (t.1 = u.1 ∧ tot u.2 = tot t.2) && lgC (fun a b => numA b && subV 0 G a b) t.2 u.2
  | _, _ => false
/-- a cell of the contract, out of its places and its longer segments -/
theorem relC_mk {G : GI} {g g' : List Int} {V V' : EV} {cA : Nat → ClassId} {c x : AC} {e : va_E} (hG : GS G g) (hx : relC g V cA x e) (hk : kndC G c x = true) (hz : zf2 (gam g' V') (fA c) (fV c e)) : relC g' V' cA c e := by
  unfold kndC at hk
  split at hk
  · rename_i o y
    obtain ⟨y1, y2⟩ := y
    obtain ⟨vs, rfl, -⟩ := relC_obj hx
    exact ⟨of_decide_eq_true hk, hz⟩
  · rename_i t u
    simp only [Bool.and_eq_true, decide_eq_true_eq] at hk
    obtain ⟨⟨h1, h2⟩, h3⟩ := hk
    refine relC_as hx h1.symm h2 (fun i b hb => ?_)
    rcases sgl_or (o := 0) hb with h4 | ⟨s, n, h4, h5, h6⟩
    · rw [Nat.zero_add] at h4
      exact zf2_mm (f := Prod.snd) (h := fun q => elV e q.1) hz (i, b) h4
    · rw [Nat.zero_add] at h5 h6
      have hlt : i < tot u.2 := by rw [h2]; exact lk_lt hb
      obtain ⟨a, ha⟩ := lk_some hlt
      have h7 := List.all_eq_true.mp h3 (s, n, b) h4
      have h8 := List.all_eq_true.mp h7 a (ovl_mem (s := 0) (i := i) (Nat.zero_le _) h5 (by simp only; omega) ha)
      simp only [Bool.and_eq_true] at h8
      have h9 := subV_ok (g0 := []) hG ⟨g, rfl⟩ (relC_el hx ha) h8.2
      exact gam_num (of_decide_eq_true h8.1) h9
  · cases hk
noncomputable def mtC2 (σ : List Nat) (G Gc : GI) : Nat → List AC → List AC → Bool
  | _, [], [] => true
  | p, c :: cs, x :: xs => (match fX c x with
    | some ys => kndC G c x && mtc σ G Gc p (fA c) ys
    | none => false) && mtC2 σ G Gc (p + (fA c).length) cs xs
  | _, _, _ => false
theorem mtC2_ok {σ : List Nat} {G Gc : GI} {g : List Int} {V : EV} {KR va0 : List Value} (hKR : KR.length = nKR) (hVK : V.1 = va0 ++ KR) {ac : List Nat} {cA : Nat → ClassId} (hG : GS G g) (hac : ∀ (r i : Nat), σ[r]? = some i → ac[r]? = V.2[i]?) {va : List Value} {ga : List Int} : ∀ {cs xs : List AC} {es : List va_E} {pre : List Value} {pg : List Int}, zf2 (relC g V cA) xs es → mtC2 σ G Gc pre.length cs xs = true → va = pre ++ fVs cs es → ga = pg ++ gcf (fAs cs) (fVs cs es) → pg.length = pre.length → zf2 (relC ga (va ++ KR, ac) cA) cs es ∧ (fAs cs).length = (fVs cs es).length ∧ (∃ ys, fXs cs xs = some ys ∧ zf2 (gam g V) ys (fVs cs es)) ∧ ∀ (i : Nat) (z : Int), (gcf (fAs cs) (fVs cs es))[i]? = some z → ∃ r, Gc[pre.length + i]? = some r ∧ inI r z
  | [], [], [], _, _, _, _, _, _, _ => ⟨trivial, rfl, ⟨[], rfl, trivial⟩, fun i z h => by simp [fAs, fVs, gcf] at h⟩
  | [], [], _ :: _, _, _, h, _, _, _, _ => h.elim
  | [], _ :: _, _, _, _, _, h, _, _, _ => by simp [mtC2] at h
  | _ :: _, [], _, _, _, _, h, _, _, _ => by simp [mtC2] at h
  | _ :: _, _ :: _, [], _, _, hz, _, _, _, _ => hz.elim
  | c :: cs, x :: xs, e :: es, pre, pg, hz, h, hva, hga, hpl => by
    simp only [mtC2, Bool.and_eq_true] at h
    obtain ⟨h1, h3⟩ := h
    split at h1
    · rename_i ys hys
      simp only [Bool.and_eq_true] at h1
      obtain ⟨hk, h2⟩ := h1
      have e5 := fX_ok hz.1 hys
      have hlen : (fA c).length = (fV c e).length := (mtc_len h2).trans (zf2_len e5)
      have hA1 : fAs (c :: cs) = fA c ++ fAs cs := by simp [fAs]
      have hV1 : fVs (c :: cs) (e :: es) = fV c e ++ fVs cs es := rfl
      have hga' : ga = pg ++ gcf (fA c) (fV c e) ++ gcf (fAs cs) (fVs cs es) := by
        rw [hga, hA1, hV1, gcf_app hlen, List.append_assoc]
      have k1 := mtc_ok hKR hVK hG hac (va := va) (ga := ga) (pre := pre) (post := fVs cs es) (pg := pg) (qg := gcf (fAs cs) (fVs cs es)) e5 h2 (by rw [hva, hV1, List.append_assoc]) hga' hpl
      have k2 := mtC2_ok hKR hVK hG hac (va := va) (ga := ga) (cs := cs) (xs := xs) (es := es) (pre := pre ++ fV c e) (pg := pg ++ gcf (fA c) (fV c e)) hz.2 (by rw [List.length_append, ← hlen]; exact h3) (by rw [hva, hV1, List.append_assoc]) hga' (by rw [List.length_append, List.length_append, hpl, gcf_len hlen])
      obtain ⟨y2, hy2, hy3⟩ := k2.2.2.1
      refine ⟨⟨relC_mk hG hz.1 hk k1.1, k2.1⟩, ?_, ⟨ys ++ y2, by unfold fXs; rw [hys, hy2], by rw [hV1]; exact zf2_apps e5 hy3⟩, fun i z hi => ?_⟩
      · rw [hA1, hV1, List.length_append, List.length_append, hlen, k2.2.1]
      · rw [hA1, hV1, gcf_app hlen] at hi
        by_cases hlt : i < (fV c e).length
        · rw [List.getElem?_append_left (by rw [gcf_len hlen]; exact hlt)] at hi
          exact k1.2 i z hi
        · rw [List.getElem?_append_right (by rw [gcf_len hlen]; omega), gcf_len hlen] at hi
          obtain ⟨r, r1, r2⟩ := k2.2.2.2 _ z hi
          rw [List.length_append, show pre.length + (fV c e).length + (i - (fV c e).length) = pre.length + i by omega] at r1
          exact ⟨r, r1, r2⟩
    · cases h1
/-- a word on the callee's names, on the caller's -/
noncomputable def trT (cv xv : List AV) : List (Nat × Int) → Option LC
  | [] => some ([], 0)
  | t :: r => match trT cv xv r, cv[t.1]?, xv[t.1]? with
    | some w, some c, some x => if c.1 = 1 ∨ c.1 = 4 then (match x.1 with
      | 0 => some (w.1, w.2 + t.2 * x.2.1)
      | 3 => some (w.1, w.2 + t.2 * x.2.1)
      | 1 => some (adT x.2.1.toNat t.2 w.1, w.2 + t.2 * x.2.2)
      | 4 => some (adT x.2.1.toNat t.2 w.1, w.2 + t.2 * x.2.2)
      | _ => none) else none
    | _, _, _ => none
noncomputable def trL (cv xv : List AV) (c : LC) : Option LC := match trT cv xv c.1 with
  | some w => some (w.1, w.2 + c.2)
  | none => none
theorem gam_nm {g : List Int} {V : EV} {x : AV} {v : Value} (h : gam g V x v) (ht : x.1 = 1 ∨ x.1 = 4) : x.2.1.toNat < g.length := by
  obtain ⟨t, a, b⟩ := x
  simp only at ht
  rcases ht with rfl | rfl
  · obtain ⟨_, _, z, h1, _⟩ := h
    exact (List.getElem?_eq_some_iff.mp h1).1
  · obtain ⟨_, _, z, h1, _⟩ := h
    exact (List.getElem?_eq_some_iff.mp h1).1
theorem gam_isn {g : List Int} {V : EV} {x : AV} {v : Value} (h : gam g V x v) (ht : x.1 = 0 ∨ x.1 = 1 ∨ x.1 = 3 ∨ x.1 = 4) : ∃ z, numV v = some z := by
  obtain ⟨t, a, b⟩ := x
  simp only at ht
  rcases ht with rfl | rfl | rfl | rfl
  · obtain ⟨X, rfl, -⟩ := h; exact ⟨_, rfl⟩
  · obtain ⟨X, rfl, -⟩ := h; exact ⟨_, rfl⟩
  · obtain ⟨X, rfl, -⟩ := h; exact ⟨_, rfl⟩
  · obtain ⟨X, rfl, -⟩ := h; exact ⟨_, rfl⟩
theorem trT_ok {cv xv : List AV} {g : List Int} {V : EV} {va : List Value} (hz : zf2 (gam g V) xv va) : ∀ {ts : List (Nat × Int)} {w : LC}, trT cv xv ts = some w → (∀ t ∈ w.1, t.1 < g.length) ∧ evC g w = evT (gcf cv va) ts
  | [], w, h => by
    cases h
    exact ⟨fun t ht => by simp at ht, rfl⟩
  | t :: r, w, h => by
    unfold trT at h
    split at h
    · rename_i w' c x h1 h2 h3
      split at h
      · rename_i hc
        obtain ⟨v, hv, hx⟩ := zf2_get hz h3
        have ih := trT_ok hz h1
        have hgc : (gcf cv va).getD t.1 0 = (numV v).getD 0 := by
          rw [List.getD_eq_getElem?_getD, gcf_get h2 hv]
          show gvl c v = _
          unfold gvl
          rw [if_pos hc]
        have fin : ∀ (ht : x.1 = 0 ∨ x.1 = 1 ∨ x.1 = 3 ∨ x.1 = 4), evA g x = (gcf cv va).getD t.1 0 := by
          intro ht
          obtain ⟨z, hz2⟩ := gam_isn hx ht
          rw [evA_gam hx ht hz2, hgc, hz2]
          rfl
        have ihe := ih.2
        unfold evC at ihe
        split at h
        · rename_i ht
          cases h
          have e := fin (Or.inl ht)
          unfold evA at e
          rw [if_neg (by rw [ht]; decide)] at e
          refine ⟨ih.1, ?_⟩
          unfold evC
          simp only [evT]
          rw [← e]
          omega
        · rename_i ht
          cases h
          have e := fin (Or.inr (Or.inr (Or.inl ht)))
          unfold evA at e
          rw [if_neg (by rw [ht]; decide)] at e
          refine ⟨ih.1, ?_⟩
          unfold evC
          simp only [evT]
          rw [← e]
          omega
        · rename_i ht
          cases h
          have e := fin (Or.inr (Or.inl ht))
          unfold evA at e
          rw [if_pos (Or.inl ht)] at e
          refine ⟨adT_wf (gam_nm hx (Or.inl ht)) ih.1, ?_⟩
          unfold evC
          simp only [evT]
          rw [adT_ev, ← e, Int.mul_add]
          omega
        · rename_i ht
          cases h
          have e := fin (Or.inr (Or.inr (Or.inr ht)))
          unfold evA at e
          rw [if_pos (Or.inr ht)] at e
          refine ⟨adT_wf (gam_nm hx (Or.inr ht)) ih.1, ?_⟩
          unfold evC
          simp only [evT]
          rw [adT_ev, ← e, Int.mul_add]
          omega
        · cases h
      · cases h
    · cases h
theorem trL_ok {cv xv : List AV} {g : List Int} {V : EV} {va : List Value} (hz : zf2 (gam g V) xv va) {c w : LC} (h : trL cv xv c = some w) : (∀ t ∈ w.1, t.1 < g.length) ∧ evC g w = evC (gcf cv va) c := by
  unfold trL at h
  split at h
  · rename_i u hu
    cases h
    obtain ⟨h1, h2⟩ := trT_ok hz hu
    refine ⟨h1, ?_⟩
    unfold evC at h2 ⊢
    simp only
    omega
  · cases h
/-- words that come back: those that can be said -/
noncomputable def trLs (cv xv : List AV) (r : RLs) : RLs := r.filterMap (trL cv xv)
theorem trLs_ok {cv xv : List AV} {g : List Int} {V : EV} {va : List Value} (hz : zf2 (gam g V) xv va) {r : RLs} (h : RLok r (gcf cv va)) : RLok (trLs cv xv r) g := by
  intro w hw
  obtain ⟨c, hc, h1⟩ := List.mem_filterMap.mp hw
  obtain ⟨h2, h3⟩ := trL_ok hz h1
  exact ⟨h2, by rw [h3]; exact (h c hc).2⟩
/-- words that a callee asks for -/
noncomputable def enL (d : Nat) (G : GI) (r : RLs) (cv xv : List AV) (q : RLs) : Bool := q.all (fun c => c.1.all (fun t => decide (t.1 < cv.length)) && (match trL cv xv c with
  | some w => ent d G r w
  | none => false))
theorem enL_ok {d : Nat} {G : GI} {r q : RLs} {cv xv : List AV} {g : List Int} {V : EV} {va : List Value} (hG : GS G g) (hr : RLok r g) (hz : zf2 (gam g V) xv va) (hl : cv.length = va.length) (h : enL d G r cv xv q = true) : RLok q (gcf cv va) := by
  intro c hc
  have h1 := List.all_eq_true.mp h c hc
  simp only [Bool.and_eq_true] at h1
  refine ⟨fun t ht => ?_, ?_⟩
  · rw [gcf_len hl, ← hl]
    exact of_decide_eq_true (List.all_eq_true.mp h1.1 t ht)
  · have h2 := h1.2
    split at h2
    · rename_i w hw
      have := ent_ok hG hr h2
      rw [(trL_ok hz hw).2] at this
      exact this
    · cases h2
