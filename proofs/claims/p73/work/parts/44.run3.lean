/-! ===== the run is right ===== -/
section RUN3
variable {p : Program} {l : Launch} {e : Env} {R : Room} {s : State} {m : MethodId} {args : Array Value} {below : List Frame} {meth : Method} {c : Code} {cc : ByteArray} {own : String} {Ts : List Jvm.Cond} {D : va_G} {cl : List vw_C} {cA : Nat → ClassId} {es0 : List va_E} {g0 : List Int} {gv : List Value} {ad : List Nat} {outs : List Out2}
theorem finR_ok (hx : p.tables.exec = Jvm.exec) (hb : c.code = cc) {nL : Nat} {ret : Option FieldType} (hr : meth.sig.returnType = ret) (hlocks : meth.locks = false) {d : Nat} {x : ASR} {ins : ClassFile.Instr} {len : Nat} (hd : decode cc x.1.1 = .ok (ins, len)) (h : finR ret d g0.length outs ins len x = true) :
    WR (WW p l e R s m args below meth c 0 0 (MQ below (QcC2 D cl cA outs g0 gv ad es0 s.heap.size) args s 0 0 (va_A (zw ad es0) s.heap.size))) m nL D cl (va_A (zw ad es0) s.heap.size) s.heap (gv, ad) cA es0 g0 x := by
  intro gs hgs hrl g lv sv es ls H locs h0 hG hlv hl hs hH
  have hrg : RLok x.2 g := RLok_ext h0 hrl
  have hx0 : gxt g0 g := gxt_tr hgs h0
  unfold finR at h
  split at h
  · split at h
    · rename_i v hst
      simp only [Bool.and_eq_true, decide_eq_true_eq] at h
      obtain ⟨⟨rfl, h1⟩, h2, h3⟩ := h
      rw [hst] at hs
      obtain ⟨w, sv1, rfl, g1, hs1⟩ := zf2_cons hs
      cases sv1 with
      | cons _ _ => exact hs1.elim
      | nil =>
        obtain ⟨X, rfl⟩ := gam_int g1 h1
        have hout : ∀ t : State, t.heap = H → s.WarmedH t.vm → QcC2 D cl cA outs g0 gv ad es0 s.heap.size args s (.returned (some (.int X))) t := fun t ht _ => ⟨finO_ok h3 hx0 hG hrg hH (Or.inr ⟨_, _, rfl, rfl, g1⟩) ht, hH.2.2.2.2.1.F ht⟩
        simp only [Bool.or_eq_true, Bool.and_eq_true, decide_eq_true_eq] at h2
        rcases h2 with rfl | ⟨rfl, h2⟩
        · exact W.iret hx hb hr hout hH.2.2.2.2.1.2.2 hd hlocks
        · split at h2
          · rename_i q hq
            have h2 := of_decide_eq_true h2
            obtain ⟨Y, e1, e2⟩ := ivI_ok hG g1 hq
            cases e1
            unfold inI at e2
            rcases ae_b01 (x := X) (by omega) (by omega) with rfl | rfl
            · exact W.zret hx hb hr rfl hout hH.2.2.2.2.1.2.2 hd hlocks
            · exact W.zret hx hb hr rfl hout hH.2.2.2.2.1.2.2 hd hlocks
          · cases h2
    · cases h
  · split at h
    · rename_i v hst
      simp only [Bool.and_eq_true, decide_eq_true_eq] at h
      obtain ⟨⟨rfl, h1, h1', rfl⟩, h3⟩ := h
      rw [hst] at hs
      obtain ⟨w, sv1, rfl, g1, hs1⟩ := zf2_cons hs
      cases sv1 with
      | cons _ _ => exact hs1.elim
      | nil =>
        obtain ⟨X, rfl⟩ := gam_long g1 ⟨h1, h1'⟩
        have hout : ∀ t : State, t.heap = H → s.WarmedH t.vm → QcC2 D cl cA outs g0 gv ad es0 s.heap.size args s (.returned (some (.long X))) t := fun t ht _ => ⟨finO_ok h3 hx0 hG hrg hH (Or.inr ⟨_, _, rfl, rfl, g1⟩) ht, hH.2.2.2.2.1.F ht⟩
        exact W.lret hx hb hr hout hH.2.2.2.2.1.2.2 hd hlocks
    · cases h
  · split at h
    · rename_i hst
      simp only [Bool.and_eq_true, decide_eq_true_eq] at h
      obtain ⟨⟨rfl, rfl⟩, h3⟩ := h
      rw [hst] at hs
      cases sv with
      | cons _ _ => exact hs.elim
      | nil =>
        have hout : ∀ t : State, t.heap = H → s.WarmedH t.vm → QcC2 D cl cA outs g0 gv ad es0 s.heap.size args s (.returned none) t := fun t ht _ => ⟨finO_ok h3 hx0 hG hrg hH (Or.inl ⟨rfl, rfl⟩) ht, hH.2.2.2.2.1.F ht⟩
        exact W.vret hx hb hr hout hH.2.2.2.2.1.2.2 hd hlocks
    · cases h
  · cases h
theorem stp3_ok (hx : p.tables.exec = Jvm.exec) (hb : c.code = cc) {T : TB} (hml : c.maxLocals = T.2.1) (hown : s.vm.findClass own = some m.cls) (hts : ∀ w ∈ Ts, w.before args s = true) (hK : va_K D cl (tysA cA) s) (hN : NOK s) {E : EvK} (hE : EOK E s s.heap) (hgood : ∀ w ∈ Ts, GoodIn Ts (w :: Ts)) (hT : TOK own cl Ts cc T) {BT : List (Nat × Nat)} (hBT : BOK own Ts BT) (hXT : XOK own Ts BT) {FT : CTB2} (hFT : FTOK2 l own cl Ts es0 FT) {CT : CTB2} (hCT : CTOK2 l own cl Ts CT) {d : Nat} {RW : List Nat} {A : Nat → Prop} {V : EV} {Q : State → Prop} (hA : ∀ q, s.heap.size ≤ q → A q) (hA0 : ∀ q, A q → E.2.2.2 q) {va0 : List Value} (hVK : V.1 = va0 ++ KRof E) {x : ASR} {ins : ClassFile.Instr} {len : Nat} {L : List ASR} (hd : decode cc x.1.1 = .ok (ins, len)) (h : stp3 T d BT FT CT RW (R.frames, R.locals) ins len x = some L) (hL : ∀ b ∈ L, WR (WW p l e R s m args below meth c 0 0 Q) m T.2.1 D cl A s.heap V cA es0 g0 b) : WR (WW p l e R s m args below meth c 0 0 Q) m T.2.1 D cl A s.heap V cA es0 g0 x := by
  unfold stp3 at h
  split at h
  · exact stpW_ok hx hb hT.1 hd h hL
  · split at h
    · rename_i L' h1
      cases h
      exact pure_ok hL (fun gs hall => stpA_ok hx hb hown hts hT hd h1 hall)
    · split at h
      · rename_i L' h1
        cases h
        exact pure_ok hL (fun gs hall => stpH_ok hx hb hown hts hK hT hd h1 hall)
      · split at h
        · rename_i L' h1
          cases h
          exact pure_ok hL (fun gs hall => stpX_ok hx hb hml hown hts hT hXT (Nat.zero_le _) (Nat.zero_le _) hd h1 hall)
        · split at h
          · rename_i L' h1
            cases h
            exact pure_ok hL (fun gs hall => stpB_ok hx hb hml hown hts hgood hN hA hK hXT hE hA0 hVK (Nat.zero_le _) (Nat.zero_le _) hd h1 hall)
          · have callB : ∀ (st i : Nat), decode cc x.1.1 = .ok (if st = 0 then .invokevirtual i else .invokestatic i, 3) → trcB d st i (R.frames, R.locals) x FT CT = some L → WR (WW p l e R s m args below meth c 0 0 Q) m T.2.1 D cl A s.heap V cA es0 g0 x := by
              intro st i hdd hh
              obtain ⟨a, r⟩ := x
              unfold trcB at hh
              split at hh
              · rename_i L' hL'
                cases hh
                obtain ⟨q, q1, q2, q3, q4, q5⟩ := trcF_mem hL'
                obtain ⟨v1, v2⟩ := hFT _ q1
                rw [q2, q3] at v2
                exact cll2_ok hx hb hml hown hts hK hN hE hA0 hVK hA (Nat.zero_le _) (Nat.zero_le _) hgood v2 (fun es ec hk hec => v1 ec (by rw [unch_ok hk q4]; exact hec)) hdd q5 hL
              · obtain ⟨q, q1, q2, q3, q4⟩ := trc2_mem hh
                obtain ⟨v1, v2⟩ := hCT _ q1
                rw [q2, q3] at v2
                exact cll2_ok hx hb hml hown hts hK hN hE hA0 hVK hA (Nat.zero_le _) (Nat.zero_le _) hgood v2 (fun es ec _ _ => v1 ec) hdd q4 hL
            unfold stpD at h
            split at h
            · split at h
              · rename_i hc
                subst hc
                exact callB 0 _ (by rw [if_pos rfl]; exact hd) h
              · cases h
            · split at h
              · rename_i hc
                subst hc
                split at h
                · rename_i hlk2
                  split at h
                  · rename_i L' h1
                    cases h
                    exact pure_ok hL (fun gs hall => acp_ok hx hb hml hown hts hK (hBT _ (look_mem hlk2) rfl) hd h1 hall)
                  · split at h
                    · rename_i L' h1
                      cases h
                      intro gs hgs hrl
                      exact acpW_ok hx hb hml hown hts hK (hBT _ (look_mem hlk2) rfl) hd h1 hrl (fun b hb2 => hL (b, x.2) (List.mem_map.mpr ⟨b, hb2, rfl⟩) gs hgs hrl)
                    · cases h
                · exact callB 2 _ (by rw [if_neg (by decide)]; exact hd) h
                · exact callB 1 _ (by rw [if_neg (by decide)]; exact hd) h
              · cases h
            · cases h
/-- a state that fits a cut point, said by it -/
theorem cutW_ok {A : Nat → Prop} {H0 : Heap} {V : EV} {d : Nat} {x : ASR} {k : CUT2} {cells : List AC} {nL : Nat} (hcu : ceq cells k.1.2.2.2.2 = true) (hc0 : zf2 (relC g0 V cA) cells es0) (h : cutW d g0.length x k = true) {g : List Int} {lv : List (Nat × Value)} {sv : List Value} {es : List va_E} {ls : Array Slot} {H : Heap} {locs : List Loc} (hx : gxt g0 g) (hr : RLok x.2 g) (hG : GS x.1.2.2.2.1 g) (hlv : lv_has ls nL lv) (hl : zf2 (locR g V) x.1.2.1 lv) (hs : zf2 (gam g V) x.1.2.2.1 sv) (hH : HS D cl A H0 V cA es0 x.1.2.2.2.2 g es H locs) :
    x.1.1 = k.1.1 ∧ sv = [] ∧ ∃ (g' : List Int) (lv' : List (Nat × Value)), gxt g0 g' ∧ GS k.1.2.2.2.1 g' ∧ RLok k.2.1 g' ∧ lv_has ls nL lv' ∧ zf2 (locR g' V) k.1.2.1 lv' ∧ HS D cl A H0 V cA es0 k.1.2.2.2.2 g' es H locs ∧
      ∃ (xs : List AV) (vs : List Value), pX x.1 k.1 = some xs ∧ zf2 (gam g V) xs vs ∧ SP g0.length g' 0 (pB k.1) vs := by
  unfold cutW at h
  split at h
  · rename_i xs hpk hsa hsb
    simp only [Bool.and_eq_true, decide_eq_true_eq] at h
    obtain ⟨h1, h2, h3⟩ := h
    obtain ⟨vs, e1, e2, e3⟩ := pkL_ok hl hpk
    have hll : (k.1.2.1.map Prod.snd).length = xs.length := by rw [List.length_map, e2, ← zf2_len e1]
    obtain ⟨g', xg, x1, x2, x3, x4, x5, x6, x7, zs, x8, x9⟩ := patM_ok rfl h3 hx hG hr hll e1 hH
    have hsv : sv = [] := by
      rw [hsa] at hs
      cases sv with
      | nil => rfl
      | cons _ _ => exact hs.elim
    refine ⟨h1, hsv, g', (k.1.2.1.map Prod.fst).zip vs, x1, x2, x3, ?_, ?_, ⟨ceq_ok x1 hc0 hcu x6 x7, x7, hH.2.2.1, hH.2.2.2.1, hH.2.2.2.2.1, hH.2.2.2.2.2⟩, ?_⟩
    · refine ⟨hlv.1, hlv.2.1, fun q hq => hlv.2.2 q ?_⟩
      obtain ⟨j, hj⟩ := List.getElem?_of_mem hq
      rw [List.getElem?_zip_eq_some] at hj
      obtain ⟨j1, j2⟩ := hj
      rw [List.getElem?_map] at j1
      cases hb : k.1.2.1[j]? with
      | none => rw [hb] at j1; cases j1
      | some w =>
        rw [hb] at j1
        have j1 : some w.1 = some q.1 := j1
        have j3 := Option.some.inj j1
        exact e3 j q.1 w.2 q.2 (by rw [hb, ← j3]) j2
    · refine zf2_of (by simp [e2]) (fun i u y hu hy => ?_)
      rw [List.getElem?_zip_eq_some] at hy
      obtain ⟨y1, y2⟩ := hy
      rw [List.getElem?_map, hu] at y1
      have y1 : some u.1 = some y.1 := y1
      have hpi : (k.1.2.1.map Prod.snd)[i]? = some u.2 := by rw [List.getElem?_map, hu]; rfl
      obtain ⟨w, k1, k2⟩ := zf2_get x4 hpi
      rw [y2] at k1
      cases k1
      exact ⟨Option.some.inj y1, k2, of_decide_eq_true (List.all_eq_true.mp h2 u (List.mem_of_getElem? hu))⟩
    · refine ⟨xs ++ zs, vs ++ fVf k.1.2.2.2.2 es, ?_, x9, ?_⟩
      · unfold pX
        rw [hpk, x8]
      · intro j c v hc hv
        rw [xg, List.getElem?_append_right (by omega), show g0.length + (0 + j) - g0.length = j by omega]
        exact cvs_get hc hv
  · cases h
end RUN3
