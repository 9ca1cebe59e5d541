/-! ===== a call by a contract is right ===== -/
theorem va_P_sub {D : va_G} {cl : List vw_C} {ws ws' : va_W} {H : Heap} {σ : List Nat} (h : va_P D cl ws H) (hs : σ.map (fun i => ws[i]?) = ws'.map some) : va_P D cl ws' H := fun k q hk => by
  have h1 : (σ.map (fun i => ws[i]?))[k]? = some (some q) := by rw [hs, List.getElem?_map, hk]; rfl
  rw [List.getElem?_map] at h1
  cases hi : σ[k]? with
  | none => rw [hi] at h1; cases h1
  | some i => rw [hi] at h1; exact h i q (Option.some.inj h1)
theorem sg_or (σ : List Nat) (j : Nat) : (∃ k : Nat, σ[k]? = some j) ∨ j ∉ σ := by
  by_cases h : j ∈ σ
  · exact Or.inl (List.getElem?_of_mem h)
  · exact Or.inr h
theorem HS_join {D : va_G} {cl : List vw_C} {A : Nat → Prop} {H0 : Heap} {V : EV} {cA : Nat → ClassId} {es0 : List va_E} {hp : HP} {g : List Int} {es : List va_E} {H H1 : Heap} {locs locs1 : List Loc} {σ ac : List Nat} {ec es' : List va_E} {cells cs : HP} (h : HS D cl A H0 V cA es0 hp g es H locs) (hnd : va_nd σ = true) (hce : gAll hp σ = some cells) (hec : gAll es σ = some ec) (hac : gAll V.2 σ = some ac) (hcs : zf2 (fun (x : Bool × AC) (y : va_E) => relC g V cA x.2 y) cs es') (hcl : cs.length = cells.length) (hel : es'.length = ac.length) (hkp : ∀ (j : Nat) (q : Bool × AC), cs[j]? = some q → q.1 = false → cells[j]? = some q ∧ es'[j]? = ec[j]?)
    (hk : ∀ q : Nat, q < H.size → ¬ va_A (zw ac ec) H.size q → H1[q]? = H[q]?) (hP1 : va_P D cl (zw ac es') H1) (hS1 : va_S A H0 H1 locs1) : HS D cl A H0 V cA es0 (sAll hp σ cs) g (sAll es σ es') H1 locs1 := by
  obtain ⟨a1, a2, a3, a4, a5, a6⟩ := h
  have kc := gAll_ok hce
  have ke := gAll_ok hec
  have ka := gAll_ok hac
  have hb1 : ∀ j ∈ σ, j < hp.length := fun j hj => by
    obtain ⟨k, hk⟩ := List.getElem?_of_mem hj
    obtain ⟨-, x, hx⟩ := kc.2 k j hk
    exact (List.getElem?_eq_some_iff.mp hx).1
  have hb2 : ∀ j ∈ σ, j < es.length := fun j hj => by rw [← zf2_len a1]; exact hb1 j hj
  have hl1 : σ.length = cs.length := kc.1.trans hcl.symm
  have hl2 : σ.length = es'.length := ka.1.trans hel.symm
  refine ⟨?_, ?_, ?_, ?_, hS1, by rw [sAll_len]; exact a6⟩
  · refine zf2_of (by rw [sAll_len, sAll_len]; exact zf2_len a1) (fun i x y hx hy => ?_)
    rcases sg_or σ i with ⟨k, hk⟩ | hno
    · rw [sAll_in hnd hl1 hb1 hk] at hx
      rw [sAll_in hnd hl2 hb2 hk] at hy
      obtain ⟨b, e1, e2⟩ := zf2_get hcs hx
      rw [hy] at e1
      cases e1
      exact e2
    · rw [sAll_out hno] at hx hy
      obtain ⟨b, e1, e2⟩ := zf2_get a1 hx
      rw [hy] at e1
      cases e1
      exact e2
  · intro j q hj hq
    rcases sg_or σ j with ⟨k, hk⟩ | hno
    · rw [sAll_in hnd hl1 hb1 hk] at hj
      obtain ⟨e1, e2⟩ := hkp k q hj hq
      rw [sAll_in hnd hl2 hb2 hk, e2, (ke.2 k j hk).1]
      exact a2 j q ((kc.2 k j hk).1.symm.trans e1) hq
    · rw [sAll_out hno] at hj ⊢
      exact a2 j q hj hq
  · intro i q hq
    obtain ⟨q1, q2⟩ := zw_inv hq
    rcases sg_or σ i with ⟨k, hk'⟩ | hno
    · rw [sAll_in hnd hl2 hb2 hk'] at q2
      have h3 : ac[k]? = some q.1 := (ka.2 k i hk').1.trans q1
      exact hP1 k q (zw_get h3 q2)
    · rw [sAll_out hno] at q2
      have h4 : (zw V.2 es)[i]? = some q := zw_get q1 q2
      have h5 := a3 i q h4
      refine h5.kept (hk q.1 h5.lt (fun hA => ?_))
      rcases hA with ⟨k, e, h6⟩ | h6
      · have h7 := (zw_inv h6).1
        have h7e := (zw_inv h6).2
        have hkl : k < σ.length := by rw [ka.1]; exact (List.getElem?_eq_some_iff.mp h7).1
        have h8 : σ[k]? = some σ[k] := List.getElem?_eq_getElem hkl
        have h9 := (ka.2 k _ h8).1
        have h10 := (ke.2 k _ h8).1
        have h11 : (zw V.2 es)[σ[k]]? = some (q.1, e) := zw_get (h9.symm.trans h7) (h10.symm.trans h7e)
        have := a4.1 i σ[k] _ _ h4 h11 rfl
        exact hno (by rw [this]; exact List.getElem_mem hkl)
      · exact absurd h5.lt (by omega)
  · exact va_D_len a4 a6
section CLL
variable {p : Program} {l : Launch} {e : Env} {R : Room} {s : State} {m : MethodId} {args : Array Value} {below : List Frame} {meth : Method} {c : Code} {cs0 ss0 : Nat} {Q : State → Prop} {cc : ByteArray} {own : String} {Ts : List Jvm.Cond} {D : va_G} {cl : List vw_C} {A : Nat → Prop} {V : EV} {cA : Nat → ClassId} {es0 : List va_E} {g0 : List Int}
set_option maxHeartbeats 2000000 in
theorem cll_ok (hx : p.tables.exec = Jvm.exec) (hb : c.code = cc) {nL : Nat} (hml : c.maxLocals = nL) (hown : s.vm.findClass own = some m.cls) (hts : ∀ w ∈ Ts, w.before args s = true) (hK : va_K D cl (tysA cA) s) (hN : NOK s) (hA : ∀ q, s.heap.size ≤ q → A q) (hcs : cs0 ≤ R.cells) (hss : ss0 ≤ R.slots) (hgood : ∀ w ∈ Ts, GoodIn Ts (w :: Ts)) {k : Con} (hv : Vld l cl Ts k) {i : Nat} {b : Bool} (hC : COK own cl Ts i b k) {a : AS} {σ : List Nat} {L : List AS}
    (hd : decode cc a.1 = .ok (if b then .invokestatic i else .invokevirtual i, 3)) (h : cll (R.frames, R.locals) a k σ = some L) (hL : ∀ x ∈ L, WA (WW p l e R s m args below meth c cs0 ss0 Q) m nL D cl A s.heap V cA es0 g0 x) : WA (WW p l e R s m args below meth c cs0 ss0 Q) m nL D cl A s.heap V cA es0 g0 a := by
  intro g lv sv es ls H locs h0 hG hlv hl hs hH
  unfold cll at h
  split at h
  · rename_i hc0
    obtain ⟨hn1, hnd, ⟨hsum, hall⟩, hfr, hlo⟩ := hc0
    split at h
    · cases h
    · rename_i cells hce
      split at h
      · rename_i hm
        simp only [Bool.and_eq_true, decide_eq_true_eq] at hm
        obtain ⟨hm1, hm2, hm3⟩ := hm
        obtain ⟨hz1, hz2⟩ := zf2_take (n := k.2.2.1.1.length) hs
        have hvs := zf2_rev hz1
        generalize hvse : (sv.take k.2.2.1.1.length).reverse = vs at hvs
        generalize hrse : sv.drop k.2.2.1.1.length = rs at hz2
        obtain ⟨ec, hec, hzc0⟩ := gAll_zf hH.1 hce
        have hzc : zf2 (relC g V cA) (cells.map Prod.snd) ec := zf2_map hzc0
        obtain ⟨ac, hac0⟩ := gAll_len (m := V.2) hH.2.2.2.2.2 hec
        have hac : ∀ (r j : Nat), σ[r]? = some j → ac[r]? = V.2[j]? := fun r j hj => ((gAll_ok hac0).2 r j hj).1
        have hsl : σ.length = ac.length := (gAll_ok hac0).1
        have hecl : ec.length = ac.length := by rw [← (gAll_ok hec).1]; exact hsl
        have hlen1 : k.2.2.1.1.length = vs.length := (mtc_len hm1).trans (zf2_len hvs)
        obtain ⟨k1, k1g⟩ := mtc_ok hG hac (va := vs ++ ec.flatMap fldE) (ga := gcf (k.2.2.1.1 ++ k.2.2.1.2.2.flatMap fldA) (vs ++ ec.flatMap fldE)) (pre := []) (post := ec.flatMap fldE) (pg := []) (qg := gcf (k.2.2.1.2.2.flatMap fldA) (ec.flatMap fldE)) hvs hm1 (by simp) (by rw [gcf_app hlen1]; simp) rfl
        obtain ⟨k2, k2l, k2g⟩ := mtC_ok hG hac (va := vs ++ ec.flatMap fldE) (ga := gcf (k.2.2.1.1 ++ k.2.2.1.2.2.flatMap fldA) (vs ++ ec.flatMap fldE)) (pre := vs) (pg := gcf k.2.2.1.1 vs) hzc (by rw [← hlen1]; exact hm2) rfl (gcf_app hlen1) (gcf_len hlen1)
        have hcvl : (k.2.2.1.1 ++ k.2.2.1.2.2.flatMap fldA).length = (vs ++ ec.flatMap fldE).length := by rw [List.length_append, List.length_append, hlen1, k2l]
        have hGc : GS k.2.2.1.2.1 (gcf (k.2.2.1.1 ++ k.2.2.1.2.2.flatMap fldA) (vs ++ ec.flatMap fldE)) := by
          refine zf2_of (by rw [hm3, gcf_len hcvl, hcvl]) (fun j r z hr hz => ?_)
          rw [gcf_app hlen1] at hz
          by_cases hlt : j < vs.length
          · rw [List.getElem?_append_left (by rw [gcf_len hlen1]; exact hlt)] at hz
            obtain ⟨r', e1, e2⟩ := k1g j z hz
            simp only [List.length_nil, Nat.zero_add] at e1
            rw [hr] at e1; cases e1; exact e2
          · rw [List.getElem?_append_right (by rw [gcf_len hlen1]; omega), gcf_len hlen1] at hz
            obtain ⟨r', e1, e2⟩ := k2g _ z hz
            rw [show vs.length + (j - vs.length) = j by omega] at e1
            rw [hr] at e1; cases e1; exact e2
        have hM := hv D cA _ (vs ++ ec.flatMap fldE) ac ec vs H.size hGc k1 k2 hecl
        have hsub := zw_sub hac0 hec
        have hPs := va_P_sub hH.2.2.1 hsub
        have hDs := hH.2.2.2.1.sub σ hnd hsub
        have hFc := va_free hH.2.2.2.1 hH.2.2.2.2.1 hA σ hsub
        obtain ⟨c1, c2, c3, c4, c5, c6⟩ := hC
        have hblind : FrameBlind (PcC D cl cA vs ac ec H.size) := fun a' U g' mk q => by
          obtain ⟨q0, q1, qP, qK, qD, qN⟩ := q
          exact ⟨q0, q1, qP, va_K.moved (u := U) (U := U.calling g' mk a') (Vm.Alike.refl U.vm) qK, qD, NOK_same rfl qN⟩
        have hpre : ∀ U : State, U.heap = H → s.WarmedH U.vm → PcC D cl cA vs ac ec H.size vs.toArray U := fun U hU hW => ⟨rfl, by rw [hU], by rw [hU]; exact hPs, va_K.moved hW.alike hK, hDs.weaken (fun _ _ _ _ => trivial), NOK_warm hW hN⟩
        have hroom : 2 * (F0 m a.1 ls rs).monitorRoom + (rs.map fun v => v.category).sum ≤ 8 := lv_room (m := m) (pc := a.1) (ls := ls) (rest := rs) (st := rs) (by rw [cat_sum hz2 hall]; exact hsum)
        have hsv : sv = vs.reverse ++ rs := by rw [← hvse, ← hrse, List.reverse_reverse, List.take_append_drop]
        have hrun : va_Run p l e R s m args below meth c H locs cs0 ss0 0 0 (F0 m a.1 ls sv) rs (fun st oc t => OutC D cl cA k.2.2.2 (gcf (k.2.2.1.1 ++ k.2.2.1.2.2.flatMap fldA) (vs ++ ec.flatMap fldE)) (vs ++ ec.flatMap fldE) ac ec oc t ∧ va_F (va_A (zw ac ec) H.size) st t) (va_A (zw ac ec) H.size) := by
          cases b with
          | true =>
            obtain ⟨d1, d2⟩ := c5 rfl
            exact va_runS (As := vs) (rest := rs) ⟨hx, hb, hml, hown, hts⟩ hM ⟨callB_of k.2.2.1.1.length hts (hgood _ c1) rfl rfl rfl (hts _ c3) (hts _ c2) ⟨c4.1, c4.2, d2⟩ ⟨hfr, hlo⟩, hts _ d1⟩ ⟨hblind, hpre⟩ rfl hlen1.symm hlv.1 hsv hroom hd ⟨hcs, hss⟩
          | false =>
            obtain ⟨d1, d2, ⟨as, d3, d4⟩, ci, fs, F, N, d5, d6⟩ := c6 rfl
            rw [d3] at k1
            obtain ⟨v0, As, rfl, k3, k4⟩ := zf2_cons k1
            obtain ⟨r, k5, k6⟩ := k3
            subst k6
            obtain ⟨e0, k7, k8⟩ := zf2_get k2 d5
            obtain ⟨fv, rfl, k9⟩ := relC_obj k8
            have hrec := va_recv hK hPs d6 (zw_get (k := 0) k5 k7)
            exact va_runV (As := As) (rest := rs) ⟨hx, hb, hml, hown, hts⟩ hM ⟨callB_of as.length hts (hgood _ c1) rfl rfl rfl (hts _ c3) (hts _ c2) ⟨c4.1, c4.2, d4⟩ ⟨hfr, hlo⟩, hts _ d1, hts _ d2⟩ ⟨hblind, hrec, hpre⟩ rfl (by have := zf2_len k4; omega) hlv.1 (by show sv = _; rw [hsv]; simp) hroom hd ⟨hcs, hss⟩
        refine my_call (A0 := A) hrun hH.2.2.2.2.1 (fun q _ hq => hFc q hq) hFc (fun v t H1 locs1 ht hO hsz hk hS1 => ?_)
        obtain ⟨o, ho, es', hret, hGo, hzo, hkp, hPo, hel⟩ := hO
        rw [ht] at hPo
        obtain ⟨L', hL', hsubL⟩ := cOuts_mem h ho
        have hxv : zf2 (gam g V) ((a.2.2.1.take k.2.2.1.1.length).reverse ++ (cells.map Prod.snd).flatMap fldA) (vs ++ ec.flatMap fldE) := zf2_apps hvs (zf2_fld hzc)
        unfold cOut at hL'
        split at hL'
        · rename_i hol
          split at hL'
          · cases hL'
          · rename_i cs hcs
            obtain ⟨t1, t2, t3⟩ := trH_ok hxv hac hsl hzo hzc0 hkp hcs
            obtain ⟨G', r1, r2⟩ := rfn_ok hG hxv hGo hcvl
            rw [r1] at hL'
            dsimp only at hL'
            have hJ := HS_join (es' := es') hH hnd hce hec hac0 t1 t2 (hel) t3 hk hPo hS1
            split at hL'
            · rename_i h9
              cases hL'
              have hvn : v = none := by
                rcases hret with ⟨-, q2⟩ | ⟨q1, -⟩
                · cases q2; rfl
                · exact absurd h9 q1
              subst hvn
              exact hL _ (hsubL _ (List.mem_singleton.mpr rfl)) g lv _ _ ls H1 locs1 h0 r2 hlv hl (by simpa using hz2) hJ
            · rename_i h9
              split at hL'
              · cases hL'
              · rename_i r hr
                split at hL'
                · cases hL'
                · rename_i q hq
                  cases hL'
                  have hvs2 : ∃ w, v = some w ∧ gam (gcf (k.2.2.1.1 ++ k.2.2.1.2.2.flatMap fldA) (vs ++ ec.flatMap fldE)) (vs ++ ec.flatMap fldE, ac) o.1 w := by
                    rcases hret with ⟨q1, -⟩ | ⟨-, w, q2, q3⟩
                    · exact absurd q1 h9
                    · cases q2; exact ⟨w, rfl, q3⟩
                  obtain ⟨w, rfl, hw⟩ := hvs2
                  have hw2 := trV_ok hxv hac hsl hw hr
                  obtain ⟨g', x1, x2, x3⟩ := nam_ok r2 hw2 hq
                  exact hL _ (hsubL _ (List.mem_singleton.mpr rfl)) g' lv _ _ ls H1 locs1 (gxt_tr h0 x1) x2 hlv (loc_ext x1 hl) ⟨x3, st_ext x1 hz2⟩ (HS_ext x1 hJ)
        · cases hL'
      · cases h
  · cases h
end CLL
