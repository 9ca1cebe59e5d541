/-! ===== a whole method, with words, names of its ends, cut points ===== -/
noncomputable def isN (n0 : Nat) (c : AV) : Bool := decide ((c.1 = 1 ∨ c.1 = 4) ∧ ¬ c.2.1.toNat < n0)
noncomputable def tgN (n0 : Nat) (c : AV) : Nat := if c.1 = 4 ∧ ¬ c.2.1.toNat < n0 then 4 else 1
noncomputable def evs (n0 : Nat) : List AV → List Value → List Value
  | c :: cs, v :: vs => (if (c.1 = 1 ∨ c.1 = 4) ∧ ¬ c.2.1.toNat < n0 then v else .int 0) :: evs n0 cs vs
  | _, _ => []
theorem evs_nv {n0 : Nat} : ∀ {q : Nat} {cs : List AV} {vs : List Value}, nvs (evs n0 cs vs) = cvs n0 q cs vs
  | _, [], _ => by simp [evs, nvs, cvs]
  | _, _ :: _, [] => by simp [evs, nvs, cvs]
  | q, c :: cs, v :: vs => by
    have ih := evs_nv (n0 := n0) (q := q + 1) (cs := cs) (vs := vs)
    unfold nvs at ih ⊢
    simp only [evs, cvs, List.map_cons]
    rw [ih]
    congr 1
    unfold cvl
    split
    · rfl
    · show (some ((0 : Int32).toInt)).getD 0 = 0
      decide
theorem evs_ok {n0 : Nat} {g : List Int} {V : EV} : ∀ {cs : List AV} {vs : List Value}, zf2 (gam g V) cs vs → okN (cs.map (tgN n0)) (evs n0 cs vs)
  | [], [], _ => trivial
  | [], _ :: _, h => h.elim
  | _ :: _, [], h => h.elim
  | c :: cs, v :: vs, h => by
    refine ⟨?_, evs_ok h.2⟩
    obtain ⟨t, a, b⟩ := c
    unfold tgN
    simp only
    by_cases h4 : t = 4 ∧ ¬ a.toNat < n0
    · rw [if_pos h4, if_pos ⟨Or.inr h4.1, h4.2⟩]
      obtain ⟨x, hx⟩ := gam_long h.1 (by simp only; omega)
      exact Or.inr ⟨rfl, x, hx⟩
    · rw [if_neg h4]
      split
      · rename_i h5
        rcases h5.1 with h6 | h6
        · obtain ⟨x, hx⟩ := gam_int h.1 (by simp only; omega)
          exact Or.inl ⟨rfl, x, hx⟩
        · exact absurd ⟨h6, h5.2⟩ h4
      · exact Or.inl ⟨rfl, 0, rfl⟩
/-- a pattern: what leads it, its intervals, cells, words -/
noncomputable def patM (d n0 : Nat) (a : AS) (r : RLs) (cs xs : List AV) (Gb : GI) (hp : HP) (rl : RLs) : Bool := match fXf hp a.2.2.2.2 with
  | none => false
  | some zs => decide (Gb.length = n0 + (cs ++ fAf hp).length) && (cms n0 a.2.2.2.1 Gb 0 (cs ++ fAf hp) (xs ++ zs) && (subG a.2.2.2.1 (Gb.take n0) && (cmF n0 a.2.2.2.1 hp a.2.2.2.2 && enN d n0 a.2.2.2.1 r (cs ++ fAf hp) (xs ++ zs) rl)))
theorem patM_ok {D : va_G} {cl : List vw_C} {A : Nat → Prop} {H0 : Heap} {V : EV} {cA : Nat → ClassId} {es0 : List va_E} {g0 g : List Int} {n0 d : Nat} {a : AS} {r : RLs} {cs xs : List AV} {Gb : GI} {hp : HP} {rl : RLs} {vs : List Value} (hn : g0.length = n0) (h : patM d n0 a r cs xs Gb hp rl = true) (hx : gxt g0 g) (hG : GS a.2.2.2.1 g) (hr : RLok r g) (hl : cs.length = xs.length) (hz : zf2 (gam g V) xs vs) {es : List va_E} {H : Heap} {locs : List Loc} (hH : HS D cl A H0 V cA es0 a.2.2.2.2 g es H locs) :
    ∃ g', g' = g0 ++ cvs n0 0 (cs ++ fAf hp) (vs ++ fVf hp es) ∧ gxt g0 g' ∧ GS Gb g' ∧ RLok rl g' ∧ zf2 (gam g' V) cs vs ∧ zf2 (gam g' V) (cs ++ fAf hp) (vs ++ fVf hp es) ∧ zf2 (relK g' V cA) hp es ∧ kep hp es0 es ∧ (∃ zs, fXf hp a.2.2.2.2 = some zs ∧ zf2 (gam g V) (xs ++ zs) (vs ++ fVf hp es)) := by
  unfold patM at h
  split at h
  · cases h
  · rename_i zs hzs
    simp only [Bool.and_eq_true, decide_eq_true_eq] at h
    obtain ⟨h1, h3, h2, h4, h5⟩ := h
    have hc2 := cms_app (c1 := cs) (c2 := fAf hp) (x1 := xs) (x2 := zs) hl h3
    have hlen0 := cms_len h3
    have hx' : gxt g0 (g0 ++ cvs n0 0 (cs ++ fAf hp) (vs ++ fVf hp es)) := ⟨_, rfl⟩
    have hSP : SP n0 (g0 ++ cvs n0 0 (cs ++ fAf hp) (vs ++ fVf hp es)) 0 (cs ++ fAf hp) (vs ++ fVf hp es) := by
      intro j c v hc hv
      rw [List.getElem?_append_right (by omega), hn, show n0 + (0 + j) - n0 = j by omega]
      exact cvs_get hc hv
    have hlv : cs.length = vs.length := hl.trans (zf2_len hz)
    have hS2 := SP_app (c1 := cs) (c2 := fAf hp) hlv hSP
    obtain ⟨k1, k2, k3⟩ := patF_ok hG hx hn hx' hH.1 h4 hzs hc2.2 hS2.2
    have hzz : zf2 (gam g V) (xs ++ zs) (vs ++ fVf hp es) := zf2_apps hz k2
    have hk := cms_ok hG hx hn hx' hzz h3 hSP
    have hlen : (cs ++ fAf hp).length = (vs ++ fVf hp es).length := hlen0.trans (zf2_len hzz)
    have hlead := cms_ok hG hx hn hx' hz hc2.1 hS2.1
    refine ⟨_, rfl, hx', ?_, ?_, hlead.1, hk.1, k1, fun j z hj hf => ?_, zs, hzs, hzz⟩
    · refine zf2_addr (n := n0) (by omega) (subG_ok hG hx (by rw [List.length_take]; omega) h2) ?_
      refine zf2_of (by rw [List.length_drop, cvs_len hlen]; omega) (fun i p z hp2 hz2 => ?_)
      rw [List.getElem?_drop] at hp2
      have hi : i < (cs ++ fAf hp).length := by
        have := (List.getElem?_eq_some_iff.mp hz2).1
        rwa [cvs_len hlen] at this
      have hc : (cs ++ fAf hp)[i]? = some (cs ++ fAf hp)[i] := List.getElem?_eq_getElem hi
      have hv : (vs ++ fVf hp es)[i]? = some (vs ++ fVf hp es)[i] := List.getElem?_eq_getElem (by rw [← hlen]; exact hi)
      obtain ⟨r', q1, q2⟩ := hk.2 i _ _ hc hv
      rw [Nat.zero_add] at q1 q2
      rw [hp2] at q1
      cases q1
      have := cvs_get (n0 := n0) (q := 0) hc hv
      rw [Nat.zero_add] at this
      rw [hz2] at this
      cases this
      exact q2
    · exact enN_ok hG hr hx hx' hn hzz hSP (by rw [List.length_append, cvs_len hlen, hn]) h5
    · obtain ⟨z', q1, q2⟩ := k3 j z hj hf
      exact hH.2.1 j z' q1 q2
noncomputable def leadO (o : Out2) : List AV := if o.1.1 = 9 then [] else [o.1]
noncomputable def finO (d n0 : Nat) (a : AS) (r : RLs) (v : Option AV) (o : Out2) : Bool := match v with
  | none => decide (o.1.1 = 9) && (decide (o.2.2.2.2 = (leadO o ++ fAf o.2.2.1).map (tgN n0)) && patM d n0 a r (leadO o) [] o.2.1 o.2.2.1 o.2.2.2.1)
  | some x => decide (o.1.1 ≠ 9) && (decide (o.2.2.2.2 = (leadO o ++ fAf o.2.2.1).map (tgN n0)) && patM d n0 a r (leadO o) [x] o.2.1 o.2.2.1 o.2.2.2.1)
theorem finO_ok {D : va_G} {cl : List vw_C} {A : Nat → Prop} {H0 : Heap} {gv : List Value} {ad : List Nat} {cA : Nat → ClassId} {es0 : List va_E} {g0 g : List Int} {d : Nat} {a : AS} {r : RLs} {v : Option AV} {outs : List Out2} (h : outs.any (finO d g0.length a r v) = true) (hx : gxt g0 g) (hG : GS a.2.2.2.1 g) (hr : RLok r g) {es : List va_E} {H : Heap} {locs : List Loc} {oc : Outcome} (hH : HS D cl A H0 (gv, ad) cA es0 a.2.2.2.2 g es H locs) (hoc : (v = none ∧ oc = .returned none) ∨ ∃ x w, v = some x ∧ oc = .returned (some w) ∧ gam g (gv, ad) x w) {t : State} (ht : t.heap = H) : OutC2 D cl cA outs g0 gv ad es0 oc t := by
  obtain ⟨o, ho, h1⟩ := List.any_eq_true.mp h
  have core : ∀ (xs : List AV) (vs : List Value), (leadO o).length = xs.length → zf2 (gam g (gv, ad)) xs vs → o.2.2.2.2 = (leadO o ++ fAf o.2.2.1).map (tgN g0.length) → patM d g0.length a r (leadO o) xs o.2.1 o.2.2.1 o.2.2.2.1 = true → (∀ g', zf2 (gam g' (gv, ad)) (leadO o) vs → retR g' (gv, ad) o.1 oc) → OutC2 D cl cA outs g0 gv ad es0 oc t := by
    intro xs vs hl hz htg hp hret
    obtain ⟨g', e1, -, e3, e4, e5, e6, e7, e8, -⟩ := patM_ok rfl hp hx hG hr hl hz hH
    have hev : g' = g0 ++ nvs (evs g0.length (leadO o ++ fAf o.2.2.1) (vs ++ fVf o.2.2.1 es)) := by rw [evs_nv (q := 0)]; exact e1
    refine ⟨o, ho, evs g0.length (leadO o ++ fAf o.2.2.1) (vs ++ fVf o.2.2.1 es), es, by rw [htg]; exact evs_ok e6, ?_, ?_, ?_, ?_, e8, by rw [ht]; exact hH.2.2.1, hH.2.2.2.2.2⟩
    · rw [← hev]; exact hret g' e5
    · rw [← hev]; exact e3
    · rw [← hev]; exact e4
    · rw [← hev]; exact e7
  unfold finO at h1
  split at h1
  · simp only [Bool.and_eq_true, decide_eq_true_eq] at h1
    obtain ⟨q1, q2, q3⟩ := h1
    rcases hoc with ⟨-, h3⟩ | ⟨x, w, h3, -⟩
    · refine core [] [] (by unfold leadO; rw [if_pos q1]) trivial q2 q3 (fun g' _ => Or.inl ⟨q1, h3⟩)
    · cases h3
  · rename_i x
    simp only [Bool.and_eq_true, decide_eq_true_eq] at h1
    obtain ⟨q1, q2, q3⟩ := h1
    rcases hoc with ⟨h3, -⟩ | ⟨x', w, h3, h4, h5⟩
    · cases h3
    · cases h3
      refine core [x] [w] (by unfold leadO; rw [if_neg q1]; rfl) ⟨h5, trivial⟩ q2 q3 (fun g' hz => Or.inr ⟨q1, w, h4, ?_⟩)
      unfold leadO at hz
      rw [if_neg q1] at hz
      exact hz.1
noncomputable def finR (ret : Option FieldType) (d n0 : Nat) (outs : List Out2) (ins : ClassFile.Instr) (len : Nat) (x : ASR) : Bool := match ins with
  | .ireturn => match x.1.2.2.1 with
    | [v] => decide (len = 1 ∧ v.1 ≤ 2) && ((decide (ret = some .int) || (decide (ret = some .boolean) && (match ivI x.1.2.2.2.1 v with
      | some q => decide (0 ≤ q.1 ∧ q.2 ≤ 1)
      | none => false))) && outs.any (finO d n0 x.1 x.2 (some v)))
    | _ => false
  | .lreturn => match x.1.2.2.1 with
    | [v] => decide (len = 1 ∧ 3 ≤ v.1 ∧ v.1 ≤ 5 ∧ ret = some .long) && outs.any (finO d n0 x.1 x.2 (some v))
    | _ => false
  | .return_ => match x.1.2.2.1 with
    | [] => decide (len = 1 ∧ ret = none) && outs.any (finO d n0 x.1 x.2 none)
    | _ => false
  | _ => false
/-- a cut point: its state (stack empty), its words, its rank (a word on its names) -/
abbrev CUT2 : Type := AS × RLs × LC
noncomputable def pB (b : AS) : List AV := b.2.1.map Prod.snd ++ fAf b.2.2.2.2
noncomputable def pX (a b : AS) : Option (List AV) := match pkL a.2.1 b.2.1, fXf b.2.2.2.2 a.2.2.2.2 with
  | some xs, some zs => some (xs ++ zs)
  | _, _ => none
noncomputable def cutW (d n0 : Nat) (x : ASR) (k : CUT2) : Bool := match pkL x.1.2.1 k.1.2.1, x.1.2.2.1, k.1.2.2.1 with
  | some xs, [], [] => decide (x.1.1 = k.1.1) && (k.1.2.1.all (fun q => decide (q.2.1 ≠ 8)) && patM d n0 x.1 x.2 (k.1.2.1.map Prod.snd) xs k.1.2.2.2.1 k.1.2.2.2.2 k.2.1)
  | _, _, _ => false
noncomputable def rkv2 (g : List Int) (k : CUT2) : Int := evC g k.2.2
/-- the rank is not below 0, and below that of the cut point that the way began at -/
noncomputable def ctW (d n0 : Nat) (x : ASR) (src : Option CUT2) (k : CUT2) : Bool := match pX x.1 k.1 with
  | none => false
  | some xs => match trN n0 (pB k.1) xs k.2.2.1 with
    | none => false
    | some w => ent d x.1.2.2.2.1 x.2 (w.1, w.2 + k.2.2.2) && (match src with
      | none => true
      | some s => ent d x.1.2.2.2.1 x.2 (sbC (sbC s.2.2 (w.1, w.2 + k.2.2.2)) ([], 1)))
