/-! ===== ahead of a step: intervals drawn tighter, numbers taken apart, elements set alone ===== -/
/-- what is done (0 tighter, by the words; 1 taken apart; 2 cut in two; 3 a set's number, on the stack; 4 elements set alone), of what (0 stack, 1 local, 2 a cell's field or element), bounds -/
abbrev POP : Type := Nat × (Nat × Nat × Nat) × Int × Int
noncomputable def tgV (a : AS) (q : Nat × Nat × Nat) : Option AV := match q.1 with
  | 0 => a.2.2.1[q.2.1]?
  | 1 => fnd a.2.1 q.2.1
  | 2 => match a.2.2.2.2[q.2.1]? with
    | some (_, .inl o) => o.2[q.2.2]?
    | some (_, .inr t) => lk t.2 q.2.2
    | none => none
  | _ => none
noncomputable def wG (a : AS) (G : GI) : AS := (a.1, a.2.1, a.2.2.1, G, a.2.2.2.2)
noncomputable def ivN (G : GI) (x : AV) : Option (Int × Int) := if x.1 = 1 then ivI G x else ivL G x
noncomputable def tgt (d : Nat) (a : AS) (r : RLs) (x : AV) (lo hi : Int) : Option (List ASR) := if x.1 = 1 ∨ x.1 = 4 then (if ent d a.2.2.2.1 r ([(x.2.1.toNat, -1)], hi - x.2.2) && ent d a.2.2.2.1 r ([(x.2.1.toNat, 1)], x.2.2 - lo) then some [(wG a (setG a.2.2.2.1 x (lo, hi)), r)] else none) else (if x.1 = 0 ∨ x.1 = 3 then some [(a, r)] else none)
noncomputable def spl (a : AS) (r : RLs) (x : AV) : Nat → Int → List ASR
  | 0, _ => []
  | n + 1, v => (wG a (setG a.2.2.2.1 x (v, v)), r) :: spl a r x n (v + 1)
noncomputable def sp1 (a : AS) (r : RLs) (x : AV) : Option (List ASR) := if x.1 = 1 ∨ x.1 = 4 then (match ivN a.2.2.2.1 x with
  | some p => if p.2 - p.1 ≤ 4000 then some (spl a r x (p.2 - p.1 + 1).toNat p.1) else none
  | none => none) else some [(a, r)]
noncomputable def sp2 (a : AS) (r : RLs) (x : AV) (t : Int) : Option (List ASR) := if x.1 = 1 ∨ x.1 = 4 then (match ivN a.2.2.2.1 x with
  | some p => some ((if p.1 ≤ t - 1 then [(wG a (setG a.2.2.2.1 x (p.1, min p.2 (t - 1))), r)] else []) ++ (if t ≤ p.2 then [(wG a (setG a.2.2.2.1 x (max p.1 t, p.2)), r)] else []))
  | none => none) else some [(a, r)]
noncomputable def sp3 (a : AS) (r : RLs) (i : Nat) : Option (List ASR) := match a.2.2.1[i]? with
  | some v => if v.1 = 12 then some ((setT.getD v.2.1.toNat []).map (fun q => ((a.1, a.2.1, a.2.2.1.set i (1, (a.2.2.2.1.length : Int), 0), a.2.2.2.1 ++ [q], a.2.2.2.2), r))) else some [(a, r)]
  | none => none
noncomputable def iso1 (a : AS) (c i : Nat) : Option AS := match a.2.2.2.2[c]? with
  | some (fl, .inr (t, sg)) => match lk sg i with
    | some v => match nam a.2.2.2.1 v with
      | some r => some (a.1, a.2.1, a.2.2.1, r.1, a.2.2.2.2.set c (fl, .inr (t, stA sg i r.2)))
      | none => none
    | none => none
  | _ => none
noncomputable def isoN (c : Nat) : Nat → Nat → AS → Option AS
  | 0, _, a => some a
  | n + 1, i, a => match iso1 a c i with
    | some b => isoN c n (i + 1) b
    | none => none
noncomputable def prS (d : Nat) (o : POP) (x : ASR) : Option (List ASR) := match o.1 with
  | 0 => match tgV x.1 o.2.1 with
    | some v => tgt d x.1 x.2 v o.2.2.1 o.2.2.2
    | none => none
  | 1 => match tgV x.1 o.2.1 with
    | some v => sp1 x.1 x.2 v
    | none => none
  | 2 => match tgV x.1 o.2.1 with
    | some v => sp2 x.1 x.2 v o.2.2.1
    | none => none
  | 3 => sp3 x.1 x.2 o.2.1.2.1
  | 4 => match isoN o.2.1.2.1 o.2.2.2.toNat o.2.2.1.toNat x.1 with
    | some b => some [(b, x.2)]
    | none => none
  | _ => none
section PRE
variable {p : Program} {l : Launch} {e : Env} {R : Room} {s : State} {m : MethodId} {args : Array Value} {below : List Frame} {meth : Method} {c : Code} {cs0 ss0 : Nat} {Q : State → Prop} {D : va_G} {cl : List vw_C} {A : Nat → Prop} {H0 : Heap} {V : EV} {cA : Nat → ClassId} {es0 : List va_E} {g0 : List Int}
theorem tgV_ok {a : AS} {q : Nat × Nat × Nat} {v : AV} (h : tgV a q = some v) {g : List Int} {lv : List (Nat × Value)} {sv : List Value} {es : List va_E} {H : Heap} {locs : List Loc} (hl : zf2 (locR g V) a.2.1 lv) (hs : zf2 (gam g V) a.2.2.1 sv) (hH : HS D cl A H0 V cA es0 a.2.2.2.2 g es H locs) : ∃ w, gam g V v w := by
  unfold tgV at h
  split at h
  · obtain ⟨w, -, hg⟩ := zf2_get hs h
    exact ⟨w, hg⟩
  · obtain ⟨k, w, h1, h2, -⟩ := fnd_ok hl h
    exact ⟨w, h2⟩
  · split at h
    · rename_i fl o hc
      obtain ⟨en, e1, e2⟩ := zf2_get hH.1 hc
      obtain ⟨o1, o2⟩ := o
      obtain ⟨vs, rfl, e5⟩ := relC_obj e2
      obtain ⟨w, -, hg⟩ := zf2_get e5 h
      exact ⟨w, hg⟩
    · rename_i fl t hc
      obtain ⟨en, e1, e2⟩ := zf2_get hH.1 hc
      exact ⟨_, relC_el e2 h⟩
    · cases h
  · cases h
theorem setGn_ok {G : GI} {g : List Int} {x : AV} {v : Value} {z : Int} {q : Int × Int} (hG : GS G g) (hx : gam g V x v) (ht : x.1 = 1 ∨ x.1 = 4) (hz : numV v = some z) (hq : inI q z) : GS (setG G x q) g := by
  obtain ⟨t, a, b⟩ := x
  simp only at ht
  unfold inI at hq
  rcases ht with rfl | rfl
  · obtain ⟨X, rfl, w, h1, h2⟩ := hx
    have hz : some X.toInt = some z := hz
    cases hz
    simp only at h1 h2
    show GS (setN G a.toNat (q.1 - b, q.2 - b)) g
    rw [setN_eq]
    exact zf2_setL (show inI (q.1 - b, q.2 - b) w from by unfold inI; simp only; omega) hG h1
  · obtain ⟨X, rfl, w, h1, h2⟩ := hx
    have hz : some X.toInt = some z := hz
    cases hz
    simp only at h1 h2
    show GS (setN G a.toNat (q.1 - b, q.2 - b)) g
    rw [setN_eq]
    exact zf2_setL (show inI (q.1 - b, q.2 - b) w from by unfold inI; simp only; omega) hG h1
theorem ivN_ok {G : GI} {g : List Int} {x : AV} {v : Value} {q : Int × Int} (hG : GS G g) (hx : gam g V x v) (h : ivN G x = some q) : ∃ z, numV v = some z ∧ inI q z := by
  unfold ivN at h
  split at h
  · obtain ⟨X, rfl, hX⟩ := ivI_ok hG hx h
    exact ⟨X.toInt, rfl, hX⟩
  · obtain ⟨X, rfl, hX⟩ := ivL_ok hG hx h
    exact ⟨X.toInt, rfl, hX⟩
theorem spl_mem {a : AS} {r : RLs} {x : AV} : ∀ {n : Nat} {v z : Int}, v ≤ z → z < v + (n : Int) → (wG a (setG a.2.2.2.1 x (z, z)), r) ∈ spl a r x n v
  | 0, v, z, h1, h2 => by omega
  | n + 1, v, z, h1, h2 => by
    unfold spl
    by_cases h : z = v
    · subst h
      exact List.mem_cons_self
    · exact List.mem_cons_of_mem _ (spl_mem (by omega) (by omega))
theorem iso1_ok {a b : AS} {c i : Nat} (h : iso1 a c i = some b) {g : List Int} {es : List va_E} {H : Heap} {locs : List Loc} (hG : GS a.2.2.2.1 g) (hH : HS D cl A H0 V cA es0 a.2.2.2.2 g es H locs) : ∃ g', gxt g g' ∧ GS b.2.2.2.1 g' ∧ HS D cl A H0 V cA es0 b.2.2.2.2 g' es H locs ∧ b.1 = a.1 ∧ b.2.1 = a.2.1 ∧ b.2.2.1 = a.2.2.1 := by
  unfold iso1 at h
  split at h
  · rename_i fl t sg hc
    split at h
    · rename_i v hv
      split at h
      · rename_i r hr
        cases h
        obtain ⟨en, e1, e2⟩ := zf2_get hH.1 hc
        obtain ⟨g', x1, x2, x3⟩ := nam_ok hG (relC_el e2 hv) hr
        refine ⟨g', x1, x2, ?_, rfl, rfl, rfl⟩
        have hH' := HS_ext x1 hH
        refine ⟨zf2_setL (R := fun (x : Bool × AC) (y : va_E) => relC g' V cA x.2 y) (b := en) ?_ hH'.1 e1, kep_same hH'.2.1 hc, hH'.2.2⟩
        refine relC_as (relC_ext x1 e2) rfl stA_tot.symm (fun j bb hb => ?_)
        rcases stA_lk hb with ⟨rfl, rfl⟩ | ⟨-, h4⟩
        · exact x3
        · exact gam_ext x1 (relC_el e2 h4)
      · cases h
    · cases h
  · cases h
theorem isoN_ok {c : Nat} : ∀ {n i : Nat} {a b : AS}, isoN c n i a = some b → ∀ {g : List Int} {es : List va_E} {H : Heap} {locs : List Loc}, GS a.2.2.2.1 g → HS D cl A H0 V cA es0 a.2.2.2.2 g es H locs → ∃ g', gxt g g' ∧ GS b.2.2.2.1 g' ∧ HS D cl A H0 V cA es0 b.2.2.2.2 g' es H locs ∧ b.1 = a.1 ∧ b.2.1 = a.2.1 ∧ b.2.2.1 = a.2.2.1
  | 0, i, a, b, h, g, es, H, locs, hG, hH => by
    cases h
    exact ⟨g, gxt_rf, hG, hH, rfl, rfl, rfl⟩
  | n + 1, i, a, b, h, g, es, H, locs, hG, hH => by
    unfold isoN at h
    split at h
    · rename_i b1 hb1
      obtain ⟨g1, x1, x2, x3, x4, x5, x6⟩ := iso1_ok hb1 hG hH
      obtain ⟨g2, y1, y2, y3, y4, y5, y6⟩ := isoN_ok h x2 x3
      exact ⟨g2, gxt_tr x1 y1, y2, y3, y4.trans x4, y5.trans x5, y6.trans x6⟩
    · cases h
theorem zf2_setS {g : List Int} {x : AV} {w : Value} : ∀ {st : List AV} {sv : List Value} {i : Nat}, zf2 (gam g V) st sv → sv[i]? = some w → gam g V x w → zf2 (gam g V) (st.set i x) sv
  | [], [], _, _, _, _ => trivial
  | [], _ :: _, _, h, _, _ => h.elim
  | _ :: _, [], _, h, _, _ => h.elim
  | _ :: st, v :: sv, 0, h, hw, hx => by
    have : v = w := by simpa using hw
    subst this
    exact ⟨hx, h.2⟩
  | _ :: st, _ :: sv, i + 1, h, hw, hx => ⟨h.1, zf2_setS (st := st) (sv := sv) (i := i) h.2 (by simpa using hw) hx⟩
theorem prS_ok {nL : Nat} {x : ASR} {d : Nat} {o : POP} {L : List ASR} (h : prS d o x = some L) (hL : ∀ b ∈ L, WR (WW p l e R s m args below meth c cs0 ss0 Q) m nL D cl A H0 V cA es0 g0 b) : WR (WW p l e R s m args below meth c cs0 ss0 Q) m nL D cl A H0 V cA es0 g0 x := by
  obtain ⟨a, r⟩ := x
  intro gs hgs hrl g lv sv es ls H locs h0 hG hlv hl hs hH
  have hrg : RLok r g := RLok_ext h0 hrl
  have go : ∀ (G' : GI), (wG a G', r) ∈ L → GS G' g → WW p l e R s m args below meth c cs0 ss0 Q H locs (F0 m a.1 ls sv) := fun G' hm hG' => hL _ hm g (gxt_tr hgs h0) hrg g lv sv es ls H locs gxt_rf hG' hlv hl hs hH
  have same : (a, r) ∈ L → WW p l e R s m args below meth c cs0 ss0 Q H locs (F0 m a.1 ls sv) := fun hm => hL _ hm g (gxt_tr hgs h0) hrg g lv sv es ls H locs gxt_rf hG hlv hl hs hH
  unfold prS at h
  split at h
  · split at h
    · rename_i v hv
      obtain ⟨w, hg⟩ := tgV_ok hv hl hs hH
      unfold tgt at h
      split at h
      · rename_i ht
        split at h
        · rename_i hc
          simp only [Bool.and_eq_true] at hc
          cases h
          have e1 := ent_ok hG hrg hc.1
          have e2 := ent_ok hG hrg hc.2
          obtain ⟨z, hz⟩ := gam_isn hg (by rcases ht with e | e <;> rw [e] <;> decide)
          have hev : evA g v = z := evA_gam hg (by rcases ht with e | e <;> rw [e] <;> decide) hz
          unfold evA at hev
          rw [if_pos ht] at hev
          simp only [evC, evT] at e1 e2
          exact go _ (List.mem_singleton.mpr rfl) (setGn_ok hG hg ht hz (by unfold inI; simp only; omega))
        · cases h
      · split at h
        · cases h
          exact same (List.mem_singleton.mpr rfl)
        · cases h
    · cases h
  · split at h
    · rename_i v hv
      obtain ⟨w, hg⟩ := tgV_ok hv hl hs hH
      unfold sp1 at h
      split at h
      · rename_i ht
        split at h
        · rename_i pp hp
          split at h
          · cases h
            obtain ⟨z, hz, hX⟩ := ivN_ok hG hg hp
            unfold inI at hX
            exact go _ (spl_mem (z := z) (by omega) (by omega)) (setGn_ok hG hg ht hz ⟨Int.le_refl _, Int.le_refl _⟩)
          · cases h
        · cases h
      · cases h
        exact same (List.mem_singleton.mpr rfl)
    · cases h
  · split at h
    · rename_i v hv
      obtain ⟨w, hg⟩ := tgV_ok hv hl hs hH
      unfold sp2 at h
      split at h
      · rename_i ht
        split at h
        · rename_i pp hp
          cases h
          obtain ⟨z, hz, hX⟩ := ivN_ok hG hg hp
          unfold inI at hX
          by_cases hlt : z ≤ o.2.2.1 - 1
          · refine go _ (List.mem_append_left _ (by rw [if_pos (by omega)]; exact List.mem_singleton.mpr rfl)) (setGn_ok hG hg ht hz ?_)
            unfold inI; simp only; omega
          · refine go _ (List.mem_append_right _ (by rw [if_pos (by omega)]; exact List.mem_singleton.mpr rfl)) (setGn_ok hG hg ht hz ?_)
            unfold inI; simp only; omega
        · cases h
      · cases h
        exact same (List.mem_singleton.mpr rfl)
    · cases h
  · unfold sp3 at h
    split at h
    · rename_i v hv
      split at h
      · rename_i ht
        cases h
        obtain ⟨w, hw, hg⟩ := zf2_get hs hv
        obtain ⟨t, k, b⟩ := v
        simp only at ht
        subst ht
        obtain ⟨X, rfl, q, hq, hX⟩ := hg
        have hgx : gxt g (g ++ [X.toInt]) := gxt_one
        have hgl : a.2.2.2.1.length = g.length := zf2_len hG
        refine hL _ (List.mem_map.mpr ⟨q, hq, rfl⟩) g (gxt_tr hgs h0) hrg (g ++ [X.toInt]) lv sv es ls H locs hgx (zf2_app hX hG) hlv (loc_ext hgx hl) (zf2_setS (st_ext hgx hs) hw ?_) (HS_ext hgx hH)
        refine ⟨X, rfl, X.toInt, ?_, ?_⟩
        · show (g ++ [X.toInt])[((a.2.2.2.1.length : Int)).toNat]? = _
          rw [Int.toNat_natCast, hgl]
          simp
        · show X.toInt = X.toInt + 0
          omega
      · cases h
        exact same (List.mem_singleton.mpr rfl)
    · cases h
  · split at h
    · rename_i b hb
      cases h
      obtain ⟨g', x1, x2, x3, x4, x5, x6⟩ := isoN_ok hb hG hH
      have := hL _ (List.mem_singleton.mpr rfl) g (gxt_tr hgs h0) hrg g' lv sv es ls H locs x1 x2 hlv (by rw [x5]; exact loc_ext x1 hl) (by rw [x6]; exact st_ext x1 hs) x3
      rw [x4] at this
      exact this
    · cases h
  · cases h
end PRE
