/-! ===== patterns: ends and cut points ===== -/
/-- places of the cells that are said to have changed -/
noncomputable def fAf (hp : HP) : List AV := hp.flatMap (fun q => if q.1 = true then fA q.2 else [])
noncomputable def fVf : HP → List va_E → List Value
  | q :: hp, e :: es => (if q.1 = true then fV q.2 e else []) ++ fVf hp es
  | _, _ => []
noncomputable def fXf : HP → HP → Option (List AV)
  | [], [] => some []
  | y :: ys, x :: xs => if y.1 = true then (match fX y.2 x.2, fXf ys xs with
      | some a, some b => some (a ++ b)
      | _, _ => none) else fXf ys xs
  | _, _ => none
/-- kinds of cells, flags, longer segments -/
noncomputable def kndN (n0 : Nat) (G : GI) (c x : AC) : Bool := match c, x with
  | .inl o, .inl y => decide (o.1 = y.1 ∧ o.2.length = y.2.length)
  | .inr t, .inr u => decide (t.1 = u.1 ∧ tot u.2 = tot t.2) && lgC (fun a b => subV n0 G a b) t.2 u.2
  | _, _ => false
noncomputable def cmF (n0 : Nat) (G : GI) : HP → HP → Bool
  | [], [] => true
  | y :: ys, x :: xs => (if y.1 = true then kndN n0 G y.2 x.2 else !x.1) && cmF n0 G ys xs
  | _, _ => false
theorem relC_mkN {G : GI} {g g0 g' : List Int} {V : EV} {cA : Nat → ClassId} {n0 : Nat} {c x : AC} {e : va_E} (hG : GS G g) (hg : gxt g0 g) (hn : g0.length = n0) (hg' : gxt g0 g') (hx : relC g V cA x e) (hk : kndN n0 G c x = true) (hz : zf2 (gam g' V) (fA c) (fV c e)) : relC g' V cA c e := by
  unfold kndN at hk
  split at hk
  · rename_i o y
    obtain ⟨y1, y2⟩ := y
    obtain ⟨vs, rfl, -⟩ := relC_obj hx
    exact ⟨(of_decide_eq_true hk).1, hz⟩
  · rename_i t u
    simp only [Bool.and_eq_true, decide_eq_true_eq] at hk
    obtain ⟨⟨h1, h2⟩, h3⟩ := hk
    refine relC_as hx h1.symm h2 (fun i b hb => ?_)
    rcases sgl_or (o := 0) hb with h4 | ⟨s, n, h4, h5, h6⟩
    · rw [Nat.zero_add] at h4
      exact zf2_mm (f := Prod.snd) (h := fun q => elV e q.1) hz (i, b) h4
    · rw [Nat.zero_add] at h5 h6
      have hlt : i < tot u.2 := by rw [h2]; exact lk_lt hb
      obtain ⟨a, ha⟩ := lk_some hlt
      have h7 := List.all_eq_true.mp h3 (s, n, b) h4
      have h8 := List.all_eq_true.mp h7 a (ovl_mem (s := 0) (i := i) (Nat.zero_le _) h5 (by simp only; omega) ha)
      exact gam_ext hg' (subV_ok hG hg (relC_el hx ha) (by rw [hn]; exact h8))
  · cases hk
theorem patF_ok {n0 : Nat} {Ga Gb : GI} {g g0 g' : List Int} {V : EV} {cA : Nat → ClassId} (hG : GS Ga g) (hx : gxt g0 g) (hn : g0.length = n0) (hx' : gxt g0 g') : ∀ {ys xs : HP} {es : List va_E} {q : Nat} {zs : List AV}, zf2 (fun (x : Bool × AC) (y : va_E) => relC g V cA x.2 y) xs es → cmF n0 Ga ys xs = true → fXf ys xs = some zs → cms n0 Ga Gb q (fAf ys) zs = true → SP n0 g' q (fAf ys) (fVf ys es) → zf2 (relK g' V cA) ys es ∧ zf2 (gam g V) zs (fVf ys es) ∧ ∀ (j : Nat) (z : Bool × AC), ys[j]? = some z → z.1 = false → ∃ z', xs[j]? = some z' ∧ z'.1 = false
  | [], [], [], _, zs, _, _, h, _, _ => by
    cases h
    exact ⟨trivial, trivial, fun j z hj => by simp at hj⟩
  | [], [], _ :: _, _, _, h, _, _, _, _ => h.elim
  | [], _ :: _, _, _, _, _, h, _, _, _ => by simp [cmF] at h
  | _ :: _, [], _, _, _, _, h, _, _, _ => by simp [cmF] at h
  | _ :: _, _ :: _, [], _, _, h, _, _, _, _ => h.elim
  | (fy, cy) :: ys, (fx, cx) :: xs, en :: es, q, zs, hz, h, hf, hc, hS => by
    simp only [cmF, Bool.and_eq_true] at h
    obtain ⟨h1, h2⟩ := h
    cases fy with
    | true =>
      rw [if_pos rfl] at h1
      unfold fXf at hf
      rw [if_pos rfl] at hf
      split at hf
      · rename_i a b ha hb
        cases hf
        have e5 := fX_ok hz.1 ha
        have hA1 : fAf ((true, cy) :: ys) = fA cy ++ fAf ys := by simp [fAf]
        have hV1 : fVf ((true, cy) :: ys) (en :: es) = fV cy en ++ fVf ys es := by simp [fVf]
        rw [hA1] at hc
        rw [hA1, hV1] at hS
        have hl1 : (fA cy).length = a.length := by
          have hal := zf2_len e5
          cases cy with
          | inl o =>
            cases cx with
            | inr u => simp [fX] at ha
            | inl y =>
              have h5 := (of_decide_eq_true h1).2
              have h6 : some y.2 = some a := ha
              cases h6
              exact h5
          | inr t => rw [hal]; simp [fA, fV]
        obtain ⟨c1, c2⟩ := cms_app hl1 hc
        obtain ⟨s1, s2⟩ := SP_app (hl1.trans (zf2_len e5)) hS
        have k1 := cms_ok hG hx hn hx' e5 c1 s1
        have ih := patF_ok hG hx hn hx' hz.2 h2 hb c2 s2
        refine ⟨⟨fun _ => relC_mkN hG hx hn hx' hz.1 h1 k1.1, ih.1⟩, by rw [hV1]; exact zf2_apps e5 ih.2.1, fun j z hj hf => ?_⟩
        cases j with
        | zero => simp at hj; subst hj; cases hf
        | succ j => simpa using ih.2.2 j z (by simpa using hj) hf
      · cases hf
    | false =>
      rw [if_neg (by decide)] at h1
      unfold fXf at hf
      rw [if_neg (by simp)] at hf
      have hA1 : fAf ((false, cy) :: ys) = fAf ys := by simp [fAf]
      have hV1 : fVf ((false, cy) :: ys) (en :: es) = fVf ys es := by simp [fVf]
      rw [hA1] at hc
      rw [hA1, hV1] at hS
      have ih := patF_ok hG hx hn hx' hz.2 h2 hf hc hS
      refine ⟨⟨fun h => absurd (show false = true from h) (by decide), ih.1⟩, by rw [hV1]; exact ih.2.1, fun j z hj hf2 => ?_⟩
      cases j with
      | zero => exact ⟨_, rfl, by simpa using h1⟩
      | succ j => simpa using ih.2.2 j z (by simpa using hj) hf2
/-- the places of a pattern: what leads (locals, or the answer), then the cells -/
noncomputable def trN (n0 : Nat) (PB xs : List AV) : List (Nat × Int) → Option LC
  | [] => some ([], 0)
  | t :: r => match trN n0 PB xs r with
    | none => none
    | some w => if t.1 < n0 then some (adT t.1 t.2 w.1, w.2) else (match PB[t.1 - n0]?, xs[t.1 - n0]? with
      | some c, some x => if (c.1 = 1 ∨ c.1 = 4) ∧ ¬ c.2.1.toNat < n0 then (match x.1 with
        | 0 => some (w.1, w.2 + t.2 * x.2.1)
        | 3 => some (w.1, w.2 + t.2 * x.2.1)
        | 1 => some (adT x.2.1.toNat t.2 w.1, w.2 + t.2 * x.2.2)
        | 4 => some (adT x.2.1.toNat t.2 w.1, w.2 + t.2 * x.2.2)
        | _ => none) else none
      | _, _ => none)
theorem trN_ok {n0 : Nat} {PB xs : List AV} {g g0 g' : List Int} {V : EV} {vs : List Value} (hx : gxt g0 g) (hx' : gxt g0 g') (hn : g0.length = n0) (hz : zf2 (gam g V) xs vs) (hSP : SP n0 g' 0 PB vs) : ∀ {ts : List (Nat × Int)} {w : LC}, trN n0 PB xs ts = some w → (∀ t ∈ w.1, t.1 < g.length) ∧ evC g w = evT g' ts
  | [], w, h => by
    cases h
    exact ⟨fun t ht => by simp at ht, rfl⟩
  | t :: r, w, h => by
    unfold trN at h
    split at h
    · cases h
    · rename_i w' hw'
      have ih := trN_ok hx hx' hn hz hSP hw'
      have ihe := ih.2
      unfold evC at ihe
      split at h
      · rename_i hlt
        cases h
        have h1 : g.getD t.1 0 = g'.getD t.1 0 := by
          obtain ⟨e1, rfl⟩ := hx
          obtain ⟨e2, rfl⟩ := hx'
          rw [List.getD_eq_getElem?_getD, List.getD_eq_getElem?_getD, List.getElem?_append_left (by omega), List.getElem?_append_left (by omega)]
        refine ⟨adT_wf ?_ ih.1, ?_⟩
        · obtain ⟨e1, rfl⟩ := hx
          rw [List.length_append]
          omega
        · unfold evC
          simp only [evT]
          rw [adT_ev, h1]
          omega
      · rename_i hlt
        split at h
        · rename_i c x hc hxx
          split at h
          · rename_i hcc
            obtain ⟨v, hv, hgx⟩ := zf2_get hz hxx
            have hg := hSP _ c v hc hv
            rw [show n0 + (0 + (t.1 - n0)) = t.1 by omega] at hg
            have hgd : g'.getD t.1 0 = (numV v).getD 0 := by
              rw [List.getD_eq_getElem?_getD, hg]
              show cvl n0 (0 + (t.1 - n0)) c v = _
              unfold cvl
              rw [if_pos hcc]
            have fin : ∀ (ht : x.1 = 0 ∨ x.1 = 1 ∨ x.1 = 3 ∨ x.1 = 4), evA g x = g'.getD t.1 0 := by
              intro ht
              obtain ⟨z, hz2⟩ := gam_isn hgx ht
              rw [evA_gam hgx ht hz2, hgd, hz2]
              rfl
            split at h
            · rename_i ht
              cases h
              have e := fin (Or.inl ht)
              unfold evA at e
              rw [if_neg (by rw [ht]; decide)] at e
              refine ⟨ih.1, ?_⟩
              unfold evC
              simp only [evT]
              rw [← e]
              omega
            · rename_i ht
              cases h
              have e := fin (Or.inr (Or.inr (Or.inl ht)))
              unfold evA at e
              rw [if_neg (by rw [ht]; decide)] at e
              refine ⟨ih.1, ?_⟩
              unfold evC
              simp only [evT]
              rw [← e]
              omega
            · rename_i ht
              cases h
              have e := fin (Or.inr (Or.inl ht))
              unfold evA at e
              rw [if_pos (Or.inl ht)] at e
              refine ⟨adT_wf (gam_nm hgx (Or.inl ht)) ih.1, ?_⟩
              unfold evC
              simp only [evT]
              rw [adT_ev, ← e, Int.mul_add]
              omega
            · rename_i ht
              cases h
              have e := fin (Or.inr (Or.inr (Or.inr ht)))
              unfold evA at e
              rw [if_pos (Or.inr ht)] at e
              refine ⟨adT_wf (gam_nm hgx (Or.inr ht)) ih.1, ?_⟩
              unfold evC
              simp only [evT]
              rw [adT_ev, ← e, Int.mul_add]
              omega
            · cases h
          · cases h
        · cases h
/-- words of a pattern follow -/
noncomputable def enN (d n0 : Nat) (G : GI) (r : RLs) (PB xs : List AV) (q : RLs) : Bool := q.all (fun c => c.1.all (fun t => decide (t.1 < n0 + PB.length)) && (match trN n0 PB xs c.1 with
  | some w => ent d G r (w.1, w.2 + c.2)
  | none => false))
theorem enN_ok {d n0 : Nat} {G : GI} {r q : RLs} {PB xs : List AV} {g g0 g' : List Int} {V : EV} {vs : List Value} (hG : GS G g) (hr : RLok r g) (hx : gxt g0 g) (hx' : gxt g0 g') (hn : g0.length = n0) (hz : zf2 (gam g V) xs vs) (hSP : SP n0 g' 0 PB vs) (hlg : g'.length = n0 + PB.length) (h : enN d n0 G r PB xs q = true) : RLok q g' := by
  intro c hc
  have h1 := List.all_eq_true.mp h c hc
  simp only [Bool.and_eq_true] at h1
  refine ⟨fun t ht => ?_, ?_⟩
  · rw [hlg]
    exact of_decide_eq_true (List.all_eq_true.mp h1.1 t ht)
  · have h2 := h1.2
    split at h2
    · rename_i w hw
      have h3 := ent_ok hG hr h2
      have h4 := (trN_ok hx hx' hn hz hSP hw).2
      unfold evC at h3 h4 ⊢
      simp only at h3
      omega
    · cases h2
