/-! ===== a call by such a contract is right ===== -/
section CLL2
variable {p : Program} {l : Launch} {e : Env} {R : Room} {s : State} {m : MethodId} {args : Array Value} {below : List Frame} {meth : Method} {c : Code} {cs0 ss0 : Nat} {Q : State → Prop} {cc : ByteArray} {own : String} {Ts : List Jvm.Cond} {D : va_G} {cl : List vw_C} {A : Nat → Prop} {V : EV} {cA : Nat → ClassId} {es0 : List va_E} {g0 : List Int}
/-- what a state with words says -/
noncomputable def WR (Wf : Heap → List Loc → JFrame → Prop) (m : MethodId) (nL : Nat) (D : va_G) (cl : List vw_C) (A : Nat → Prop) (H0 : Heap) (V : EV) (cA : Nat → ClassId) (es0 : List va_E) (g0 : List Int) (x : ASR) : Prop := ∀ gs : List Int, gxt g0 gs → RLok x.2 gs → WA Wf m nL D cl A H0 V cA es0 gs x.1
theorem HS_gx {H0 : Heap} {hp : HP} {g g' : List Int} {es : List va_E} {H : Heap} {locs : List Loc} (hx : gxt g g') (h : HS D cl A H0 V cA es0 hp g es H locs) : HS D cl A H0 V cA es0 hp g' es H locs := HS_ext hx h
set_option maxHeartbeats 2000000 in
theorem cll2_ok (hx : p.tables.exec = Jvm.exec) (hb : c.code = cc) {nL : Nat} (hml : c.maxLocals = nL) (hown : s.vm.findClass own = some m.cls) (hts : ∀ w ∈ Ts, w.before args s = true) (hK : va_K D cl (tysA cA) s) (hN : NOK s) {E : EvK} (hE : EOK E s s.heap) (hA0 : ∀ q, A q → E.2.2.2 q) {va0 : List Value} (hVK : V.1 = va0 ++ KRof E) (hA : ∀ q, s.heap.size ≤ q → A q) (hcs : cs0 ≤ R.cells) (hss : ss0 ≤ R.slots) (hgood : ∀ w ∈ Ts, GoodIn Ts (w :: Ts)) {k : Con2} {i b : Nat} (hC : COK2 own cl Ts i b k) {a : AS} {r : RLs} {σ : List Nat} (hv : ∀ es ec : List va_E, kep a.2.2.2.2 es0 es → gAll es σ = some ec → VldE l cl Ts k ec) {d : Nat} {L : List ASR}
    (hd : decode cc a.1 = .ok (if b = 0 then .invokevirtual i else .invokestatic i, 3)) (h : cll2 d (R.frames, R.locals) a r k σ = some L) (hL : ∀ x ∈ L, WR (WW p l e R s m args below meth c cs0 ss0 Q) m nL D cl A s.heap V cA es0 g0 x) : WR (WW p l e R s m args below meth c cs0 ss0 Q) m nL D cl A s.heap V cA es0 g0 (a, r) := by
  intro gs hgs hrl g lv sv es ls H locs h0 hG hlv hl hs hH
  have hrg : RLok r g := RLok_ext h0 hrl
  unfold cll2 at h
  split at h
  · rename_i hc0
    obtain ⟨hn1, hnd, ⟨hsum, hall⟩, hfr, hlo⟩ := hc0
    split at h
    · cases h
    · rename_i cells hce
      split at h
      · cases h
      · rename_i ys hys
        split at h
        · rename_i hm
          simp only [Bool.and_eq_true, decide_eq_true_eq] at hm
          obtain ⟨hm1, hm2, hm3, hm4⟩ := hm
          obtain ⟨hz1, hz2⟩ := zf2_take (n := k.2.2.1.1.length) hs
          have hvs := zf2_rev hz1
          generalize hvse : (sv.take k.2.2.1.1.length).reverse = vs at hvs
          generalize hrse : sv.drop k.2.2.1.1.length = rs at hz2
          obtain ⟨ec, hec, hzc0⟩ := gAll_zf hH.1 hce
          have hzc : zf2 (relC g V cA) (cells.map Prod.snd) ec := zf2_map hzc0
          obtain ⟨ac, hac0⟩ := gAll_len (m := V.2) hH.2.2.2.2.2 hec
          have hac : ∀ (r j : Nat), σ[r]? = some j → ac[r]? = V.2[j]? := fun r j hj => ((gAll_ok hac0).2 r j hj).1
          have hsl : σ.length = ac.length := (gAll_ok hac0).1
          have hecl : ec.length = ac.length := by rw [← (gAll_ok hec).1]; exact hsl
          have hlen1 : k.2.2.1.1.length = vs.length := (mtc_len hm1).trans (zf2_len hvs)
          obtain ⟨k1, k1g⟩ := mtc_ok (KR_len E) hVK hG hac (va := vs ++ fVs k.2.2.1.2.2.1 ec) (ga := gcf (k.2.2.1.1 ++ fAs k.2.2.1.2.2.1) (vs ++ fVs k.2.2.1.2.2.1 ec)) (pre := []) (post := fVs k.2.2.1.2.2.1 ec) (pg := []) (qg := gcf (fAs k.2.2.1.2.2.1) (fVs k.2.2.1.2.2.1 ec)) hvs hm1 (by simp) (by rw [gcf_app hlen1]; simp) rfl
          obtain ⟨k2, k2l, ⟨ys', k2y, k2z⟩, k2g⟩ := mtC2_ok (KR_len E) hVK hG hac (va := vs ++ fVs k.2.2.1.2.2.1 ec) (ga := gcf (k.2.2.1.1 ++ fAs k.2.2.1.2.2.1) (vs ++ fVs k.2.2.1.2.2.1 ec)) (pre := vs) (pg := gcf k.2.2.1.1 vs) hzc (by rw [← hlen1]; exact hm2) rfl (gcf_app hlen1) (gcf_len hlen1)
          rw [hys] at k2y
          cases k2y
          have hcvl : (k.2.2.1.1 ++ fAs k.2.2.1.2.2.1).length = (vs ++ fVs k.2.2.1.2.2.1 ec).length := by rw [List.length_append, List.length_append, hlen1, k2l]
          have hxv : zf2 (gam g V) ((a.2.2.1.take k.2.2.1.1.length).reverse ++ ys) (vs ++ fVs k.2.2.1.2.2.1 ec) := zf2_apps hvs k2z
          have hrc : RLok k.2.2.1.2.2.2 (gcf (k.2.2.1.1 ++ fAs k.2.2.1.2.2.1) (vs ++ fVs k.2.2.1.2.2.1 ec)) := enL_ok hG hrg hxv hcvl hm4
          have hGc : GS k.2.2.1.2.1 (gcf (k.2.2.1.1 ++ fAs k.2.2.1.2.2.1) (vs ++ fVs k.2.2.1.2.2.1 ec)) := by
            refine zf2_of (by rw [hm3, gcf_len hcvl, hcvl]) (fun j r z hr hz => ?_)
            rw [gcf_app hlen1] at hz
            by_cases hlt : j < vs.length
            · rw [List.getElem?_append_left (by rw [gcf_len hlen1]; exact hlt)] at hz
              obtain ⟨r', e1, e2⟩ := k1g j z hz
              simp only [List.length_nil, Nat.zero_add] at e1
              rw [hr] at e1; cases e1; exact e2
            · rw [List.getElem?_append_right (by rw [gcf_len hlen1]; omega), gcf_len hlen1] at hz
              obtain ⟨r', e1, e2⟩ := k2g _ z hz
              rw [show vs.length + (j - vs.length) = j by omega] at e1
              rw [hr] at e1; cases e1; exact e2
          have hM := hv es ec hH.2.1 hec E D cA _ (vs ++ fVs k.2.2.1.2.2.1 ec) ac vs H.size hGc hrc k1 k2 hecl
          have hsub := zw_sub hac0 hec
          have hPs := va_P_sub hH.2.2.1 hsub
          have hDs := hH.2.2.2.1.sub σ hnd hsub
          have hFc := va_free hH.2.2.2.1 hH.2.2.2.2.1 hA σ hsub
          obtain ⟨c1, c3, c4, c5⟩ := hC
          have hblind : FrameBlind (PcE E D cl cA vs ac ec H.size) := fun a' U g' mk q => by
            obtain ⟨q0, q1, qP, qK, qD, qN, qE, qA⟩ := q
            exact ⟨q0, q1, qP, va_K.moved (u := U) (U := U.calling g' mk a') (Vm.Alike.refl U.vm) qK, qD, NOK_same rfl qN, EOK_same rfl qE, qA⟩
          have hpre : ∀ U : State, U.heap = H → s.WarmedH U.vm → PcE E D cl cA vs ac ec H.size vs.toArray U := fun U hU hW => ⟨rfl, by rw [hU], by rw [hU]; exact hPs, va_K.moved hW.alike hK, hDs.weaken (fun _ _ _ _ => trivial), NOK_warm hW hN, by rw [hU]; exact EOK_warm hW hA0 hH.2.2.2.2.1 hE, fun q hq => hA0 q (hFc q hq)⟩
          have hroom : 2 * (F0 m a.1 ls rs).monitorRoom + (rs.map fun v => v.category).sum ≤ 8 := lv_room (m := m) (pc := a.1) (ls := ls) (rest := rs) (st := rs) (by rw [cat_sum hz2 hall]; exact hsum)
          have hsv : sv = vs.reverse ++ rs := by rw [← hvse, ← hrse, List.reverse_reverse, List.take_append_drop]
          have hrun : va_Run p l e R s m args below meth c H locs cs0 ss0 0 0 (F0 m a.1 ls sv) rs (fun st oc t => OutC2 D cl cA k.2.2.2 (gcf (k.2.2.1.1 ++ fAs k.2.2.1.2.2.1) (vs ++ fVs k.2.2.1.2.2.1 ec)) ((vs ++ fVs k.2.2.1.2.2.1 ec) ++ KRof E) ac ec oc t ∧ va_F (va_A (zw ac ec) H.size) st t) (va_A (zw ac ec) H.size) := by
            rcases c5 with ⟨rfl, d0, d1, d2⟩ | ⟨rfl, d0, d1, d2⟩ | ⟨rfl, d0, d1, d2, ⟨as, d3, d4⟩, ci, fs, F, N, d5, d6⟩
            · exact va_runS (As := vs) (rest := rs) ⟨hx, hb, hml, hown, hts⟩ hM ⟨callB_of k.2.2.1.1.length hts (hgood _ c1) rfl rfl rfl (hts _ c3) (hts _ d0) ⟨c4.1, c4.2, d2⟩ ⟨hfr, hlo⟩, hts _ d1⟩ ⟨hblind, hpre⟩ rfl hlen1.symm hlv.1 hsv hroom hd ⟨hcs, hss⟩
            · exact va_runSN (As := vs) (rest := rs) ⟨hx, hb, hml, hown, hts⟩ hM ⟨va_cnB k.2.2.1.1.length hts (hgood _ c1) rfl rfl rfl (hN _ d0) (hts _ c3) ⟨c4.1, c4.2, d2⟩ ⟨hfr, hlo⟩, hts _ d1, trivial⟩ ⟨hblind, hpre⟩ rfl hlen1.symm hlv.1 hsv hroom hd ⟨hcs, hss⟩
            · rw [d3] at k1
              obtain ⟨v0, As, rfl, k3, k4⟩ := zf2_cons k1
              obtain ⟨r0, k5, k6⟩ := k3
              subst k6
              obtain ⟨e0, k7, k8⟩ := zf2_get k2 d5
              obtain ⟨fv, rfl, k9⟩ := relC_obj k8
              have hrec := va_recv hK hPs d6 (zw_get (k := 0) k5 k7)
              exact va_runV (As := As) (rest := rs) ⟨hx, hb, hml, hown, hts⟩ hM ⟨callB_of as.length hts (hgood _ c1) rfl rfl rfl (hts _ c3) (hts _ d0) ⟨c4.1, c4.2, d4⟩ ⟨hfr, hlo⟩, hts _ d1, hts _ d2⟩ ⟨hblind, hrec, hpre⟩ rfl (by have := zf2_len k4; omega) hlv.1 (by show sv = _; rw [hsv]; simp) hroom hd ⟨hcs, hss⟩
          refine my_call (A0 := A) hrun hH.2.2.2.2.1 (fun q _ hq => hFc q hq) hFc (fun v t H1 locs1 ht hO hsz hk hS1 => ?_)
          obtain ⟨o, ho, ev, es', hev, hret, hGo, hRo, hzo, hkp, hPo, hel⟩ := hO
          rw [ht] at hPo
          obtain ⟨L', hL', hsubL⟩ := cOuts2_mem h ho
          unfold cOut2 at hL'
          split at hL'
          · rename_i hol
            have hgx : gxt g (g ++ selV (o.2.1.drop (k.2.2.1.1 ++ fAs k.2.2.1.2.2.1).length) ev) := ⟨_, rfl⟩
            have hcv' : gcf ((k.2.2.1.1 ++ fAs k.2.2.1.2.2.1) ++ nmT (k.2.2.1.1 ++ fAs k.2.2.1.2.2.1).length 0 o.2.2.2.2) ((vs ++ fVs k.2.2.1.2.2.1 ec) ++ ev) = gcf (k.2.2.1.1 ++ fAs k.2.2.1.2.2.1) (vs ++ fVs k.2.2.1.2.2.1 ec) ++ nvs ev := by rw [gcf_app hcvl, gcf_nm hev]
            have hgl : a.2.2.2.1.length = g.length := zf2_len hG
            have h7 : zf2 inI (o.2.1.drop (k.2.2.1.1 ++ fAs k.2.2.1.2.2.1).length) (nvs ev) := by
              have h7 := (zf2_take (n := (k.2.2.1.1 ++ fAs k.2.2.1.2.2.1).length) hGo).2
              have h8 : (gcf (k.2.2.1.1 ++ fAs k.2.2.1.2.2.1) (vs ++ fVs k.2.2.1.2.2.1 ec) ++ nvs ev).drop (k.2.2.1.1 ++ fAs k.2.2.1.2.2.1).length = nvs ev := by
                have h9 : (k.2.2.1.1 ++ fAs k.2.2.1.2.2.1).length = (gcf (k.2.2.1.1 ++ fAs k.2.2.1.2.2.1) (vs ++ fVs k.2.2.1.2.2.1 ec)).length := by rw [gcf_len hcvl, hcvl]
                rw [h9, List.drop_left]
              rw [h8] at h7
              exact h7
            have hxv' : zf2 (gam (g ++ selV (o.2.1.drop (k.2.2.1.1 ++ fAs k.2.2.1.2.2.1).length) ev) V) (((a.2.2.1.take k.2.2.1.1.length).reverse ++ ys) ++ (shfs (lenG a.2.2.2.1) (cmpR 0 o.2.2.2.2 (o.2.1.drop (k.2.2.1.1 ++ fAs k.2.2.1.2.2.1).length)))) ((vs ++ fVs k.2.2.1.2.2.1 ec) ++ ev) := by
              rw [lenG_eq, hgl]
              exact zf2_apps (st_ext hgx hxv) (cmp_ok (pre := g) (k := 0) (N := g.length) hev h7 rfl).1
            have hzev : o.2.2.2.2.length = ev.length := zf2_len hev
            have hGx : GS (a.2.2.2.1 ++ cmpQ (o.2.1.drop (k.2.2.1.1 ++ fAs k.2.2.1.2.2.1).length)) (g ++ selV (o.2.1.drop (k.2.2.1.1 ++ fAs k.2.2.1.2.2.1).length) ev) := by
              exact zf2_apps hG (cmp_ok (V := V) (pre := g) (k := 0) (N := g.length) hev h7 rfl).2
            have hGo' : zf2 inI o.2.1 (gcf ((k.2.2.1.1 ++ fAs k.2.2.1.2.2.1) ++ nmT (k.2.2.1.1 ++ fAs k.2.2.1.2.2.1).length 0 o.2.2.2.2) ((vs ++ fVs k.2.2.1.2.2.1 ec) ++ ev)) := by rw [hcv']; exact hGo
            have hRw : RLok (trLs ((k.2.2.1.1 ++ fAs k.2.2.1.2.2.1) ++ nmT (k.2.2.1.1 ++ fAs k.2.2.1.2.2.1).length 0 o.2.2.2.2) (((a.2.2.1.take k.2.2.1.1.length).reverse ++ ys) ++ (shfs (lenG a.2.2.2.1) (cmpR 0 o.2.2.2.2 (o.2.1.drop (k.2.2.1.1 ++ fAs k.2.2.1.2.2.1).length)))) o.2.2.2.1 ++ r) (g ++ selV (o.2.1.drop (k.2.2.1.1 ++ fAs k.2.2.1.2.2.1).length) ev) := by
              intro w hw
              rcases List.mem_append.mp hw with hw | hw
              · exact trLs_ok (cv := (k.2.2.1.1 ++ fAs k.2.2.1.2.2.1) ++ nmT (k.2.2.1.1 ++ fAs k.2.2.1.2.2.1).length 0 o.2.2.2.2) hxv' (by rw [hcv']; exact hRo) w hw
              · exact LOK_ext hgx (hrg w hw)
            split at hL'
            · cases hL'
            · rename_i cs hcs2
              have hac' : ∀ (r j : Nat), σ[r]? = some j → ac[r]? = V.2[j]? := hac
              have hvx : gxt (gcf (k.2.2.1.1 ++ fAs k.2.2.1.2.2.1) (vs ++ fVs k.2.2.1.2.2.1 ec)) (gcf (k.2.2.1.1 ++ fAs k.2.2.1.2.2.1) (vs ++ fVs k.2.2.1.2.2.1 ec) ++ nvs ev) := ⟨_, rfl⟩
              have hW8 : ∀ (j : Nat) (c : AV), ((k.2.2.1.1 ++ fAs k.2.2.1.2.2.1) ++ nmT (k.2.2.1.1 ++ fAs k.2.2.1.2.2.1).length 0 o.2.2.2.2)[j]? = some c → c.1 = 8 → j < (vs ++ fVs k.2.2.1.2.2.1 ec).length := by
                intro j c hj hc8
                rw [← hcvl]
                rcases Nat.lt_or_ge j (k.2.2.1.1 ++ fAs k.2.2.1.2.2.1).length with q | q
                · exact q
                · rw [List.getElem?_append_right q] at hj
                  exact absurd hc8 (nmT_not8 hev hj)
              obtain ⟨t1, t2, t3⟩ := trH2_ok (KR_len E) hVK (W := vs ++ fVs k.2.2.1.2.2.1 ec) (ev := ev) rfl hW8 hxv' hac hsl (by rw [hcv']; exact hzo) (zf2_mono (fun _ _ => relC_ext hgx) hzc0) hkp hcs2
              obtain ⟨G', r1, r2⟩ := rfn2_ok (cs := (k.2.2.1.1 ++ fAs k.2.2.1.2.2.1)) hG hgx hGx hxv hGo hcvl
              rw [r1] at hL'
              dsimp only at hL'
              have hJ := HS_join (es' := es') (HS_ext hgx hH) hnd hce hec hac0 t1 t2 hel t3 hk hPo hS1
              split at hL'
              · rename_i h9
                cases hL'
                have hvn : v = none := by
                  rcases hret with ⟨-, q2⟩ | ⟨q1, -⟩
                  · cases q2; rfl
                  · exact absurd h9 q1
                subst hvn
                exact hL _ (hsubL _ (List.mem_singleton.mpr rfl)) (g ++ selV (o.2.1.drop (k.2.2.1.1 ++ fAs k.2.2.1.2.2.1).length) ev) (gxt_tr hgs (gxt_tr h0 hgx)) hRw (g ++ selV (o.2.1.drop (k.2.2.1.1 ++ fAs k.2.2.1.2.2.1).length) ev) lv _ _ ls H1 locs1 gxt_rf r2 hlv (loc_ext hgx hl) (by simpa using st_ext hgx hz2) hJ
              · rename_i h9
                split at hL'
                · cases hL'
                · rename_i r' hr'
                  split at hL'
                  · cases hL'
                  · rename_i q hq
                    cases hL'
                    have hvs2 : ∃ w, v = some w ∧ gam (gcf (k.2.2.1.1 ++ fAs k.2.2.1.2.2.1) (vs ++ fVs k.2.2.1.2.2.1 ec) ++ nvs ev) ((vs ++ fVs k.2.2.1.2.2.1 ec) ++ KRof E, ac) o.1 w := by
                      rcases hret with ⟨q1, -⟩ | ⟨-, w, q2, q3⟩
                      · exact absurd q1 h9
                      · cases q2; exact ⟨w, rfl, q3⟩
                    obtain ⟨w, rfl, hw⟩ := hvs2
                    have hw2 := trV_ok (KR_len E) hVK (W := vs ++ fVs k.2.2.1.2.2.1 ec) (ev := ev) rfl hW8 hxv' hac hsl (by rw [hcv']; exact hw) hr'
                    obtain ⟨g', x1, x2, x3⟩ := nam_ok r2 hw2 hq
                    exact hL _ (hsubL _ (List.mem_singleton.mpr rfl)) (g ++ selV (o.2.1.drop (k.2.2.1.1 ++ fAs k.2.2.1.2.2.1).length) ev) (gxt_tr hgs (gxt_tr h0 hgx)) hRw g' lv _ _ ls H1 locs1 x1 x2 hlv (loc_ext (gxt_tr hgx x1) hl) ⟨x3, st_ext (gxt_tr hgx x1) hz2⟩ (HS_ext x1 hJ)
          · cases hL'
        · cases h
  · cases h
end CLL2
