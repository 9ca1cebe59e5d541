/-! ===== the law's loop ===== -/
noncomputable def sVals (xs : Nat → Int32) (i : Nat) : List Int := (List.range 6).map (fun j => (xs (i + j)).toInt)
noncomputable def XSN (N : Nat) : List (AV × AV) := (List.range 6).map (fun j => ((1, 3, ((j : Nat) : Int)), (1, ((N + j : Nat) : Int), 0)))
noncomputable def aWh (lcs : List (Nat × AV)) (G : GI) (hp : HP) : AS := (27, lcs, [], G.set 3 (0, 3066) ++ [topI, topI, topI, topI, topI, topI], hp)
theorem toI_len {L : Nat} (h : L ≤ 3072) : (Int32.ofNat L).toInt = (L : Int) := by
  rw [Int32.toInt_ofNat']
  exact ae_bm (by omega) (by omega)
theorem sVals_get {g : List Int} {xs : Nat → Int32} {i j : Nat} (hj : j < 6) : (g ++ sVals xs i)[g.length + j]? = some (xs (i + j)).toInt := by
  rw [List.getElem?_append_right (by omega), show g.length + j - g.length = j by omega]
  unfold sVals
  rw [List.getElem?_map, List.getElem?_range hj]
  rfl
theorem sVals_ok {xs : Nat → Int32} {i : Nat} : GS [topI, topI, topI, topI, topI, topI] (sVals xs i) := ⟨topI_ok _, topI_ok _, topI_ok _, topI_ok _, topI_ok _, topI_ok _, trivial⟩
theorem xsn_one {V : EV} {xs : Nat → Int32} {L j : Nat} (hj : j < 6) {g g' : List Int} {z : Int} (hz : g[3]? = some z) (h0 : 0 ≤ z) (hL : z + 6 ≤ (L : Int)) (hx : gxt (g ++ sVals xs z.toNat) g') {v : Value} (hv : gam g' V (1, 3, (j : Int)) v) : ∃ X : Int32, v = .int X ∧ vp_in X L ∧ gam g' V (1, ((g.length + j : Nat) : Int), 0) (.int (xs X.toNatClampNeg)) := by
  obtain ⟨X, h1, w, h2, h3⟩ := hv
  have h4 : g'[3]? = some z := gxt_get (gxt_tr ⟨_, rfl⟩ hx) hz
  have h2 : g'[3]? = some w := h2
  rw [h4] at h2
  cases h2
  have h3 : X.toInt = z + (j : Int) := h3
  have hc : X.toNatClampNeg = z.toNat + j := by rw [ae_cl, h3]; omega
  refine ⟨X, h1, vp_in_iff.mpr ⟨by omega, by omega⟩, ?_⟩
  rw [hc]
  refine ⟨_, rfl, (xs (z.toNat + j)).toInt, ?_, ?_⟩
  · show g'[(((g.length + j : Nat) : Int)).toNat]? = _
    rw [Int.toNat_natCast]
    exact gxt_get hx (sVals_get hj)
  · show (xs (z.toNat + j)).toInt = (xs (z.toNat + j)).toInt + 0
    omega
section LAW3
variable {p : Program} {l : Launch} {e : Env} {s : State} {m : MethodId} {below : List Frame} {meth : Method} {c : Code} {cs0 ss0 : Nat} {b : Nat} {Ts : List Jvm.Cond} {D : va_G} {cl : List vw_C} {V : EV} {cA : Nat → ClassId} {es0 : List va_E} {L : Nat} {xs : Nat → Int32}
set_option maxHeartbeats 1000000 in
theorem law_loop (hx : p.tables.exec = Jvm.exec) (hb : c.code = code) (hr : meth.sig.returnType = ret) (hlocks : meth.locks = false) {T : TB} (hml : c.maxLocals = T.2.1) (hown : s.vm.findClass R_law = some m.cls) (hts : ∀ w ∈ Ts, w.before #[Value.ref b] s = true) (hK : va_K D cl (tysA cA) s) (hN : NOK s) {E : EvK} (hE : EOK E s s.heap) (hA0 : ∀ q : Nat, s.heap.size ≤ q → E.2.2.2 q) {va0 : List Value} (hVK : V.1 = va0 ++ KRof E) (hgood : ∀ w ∈ Ts, GoodIn Ts (w :: Ts)) (hT : TOK R_law cl Ts code T) {CT : CTB2} (hCT : CTOK2 l R_law cl Ts CT) (hcs : cs0 ≤ 600000) (hss : ss0 ≤ 7302250) (hX : va_X b L xs s s.heap) (hbl : b < s.heap.size) (hV : V.1[0]? = some (.ref b)) (hL : L ≤ 3072)
    {mx : Int} {G : GI} {hp : HP} {rl : RLs} {k : CUT2} {dd : Nat} {RF : List (Nat × List POP)} {CX : List (Nat × Nat)} {XS : List (AV × AV)} {aSw : AS} {dt lo hi : Int} {offs : Array Int} {len : Nat}
    (hk : k = ((18, [(0, (11, 0, 0)), (1, (6, 0, 0)), (2, (6, mx, 0)), (3, (1, 3, 0))], [], G, hp), rl, ([(3, -1)], 3072))) (hG3 : G[3]? = some (0, 3072)) (hkT : allT hp = true) (hXS : XS = XSN G.length)
    (d18 : decode code 18 = .ok (.iload_n 3, 1)) (d19 : decode code 19 = .ok (.aload_n 0, 1)) (d20 : decode code 20 = .ok (.arraylength, 1)) (d21 : decode code 21 = .ok (.bipush 6, 2)) (d23 : decode code 23 = .ok (.isub, 1)) (d24 : decode code 24 = .ok (.if_icmp .gt 2254, 3)) (d78 : decode code 2278 = .ok (.iconst 1, 1)) (d79 : decode code 2279 = .ok (.ireturn, 1)) (d33 : decode code 33 = .ok (.tableswitch dt lo hi offs, len))
    (hpc : aSw.1 = 33) (hrunS : runS T XS 33 20 (aWh [(0, (11, 0, 0)), (1, (6, 0, 0)), (2, (6, mx, 0)), (3, (1, 3, 0))] G hp) = some aSw)
    (hsw : ∃ Ls, tsd aSw dt lo hi offs = some Ls ∧ ∀ y ∈ Ls, ∃ (TL : List (Nat × ClassFile.Instr × Nat)) (f : Nat), (∀ q ∈ TL, decode code q.1 = .ok q.2) ∧ runW TL T dd CT RF CX XS (room_1.frames, room_1.locals) k f (y, rl) = true) :
    ∀ (M : Nat) (g : List Int) (lv : List (Nat × Value)) (es : List va_E) (ls : Array Slot) (H : Heap) (locs : List Loc), GS G g → RLok rl g → lv_has ls T.2.1 lv → zf2 (locR g V) [(0, (11, 0, 0)), (1, (6, 0, 0)), (2, (6, mx, 0)), (3, (1, 3, 0))] lv → HS D cl (fun q : Nat => s.heap.size ≤ q) s.heap V cA es0 hp g es H locs → 0 ≤ rkv2 g k → rkv2 g k < (M : Int) → WW p l e room_1 s m #[Value.ref b] below meth c cs0 ss0 (lw_Z below #[Value.ref b] s) H locs (F0 m 18 ls []) := by
  intro M
  induction M with
  | zero => intro g lv es ls H locs _ _ _ _ _ h0 h1; omega
  | succ M ih =>
    intro g lv es ls H locs hG hRL hlv hl hH hr0 hrM
    have hbA : ¬ (fun q : Nat => s.heap.size ≤ q) b := Nat.not_le.mpr hbl
    have hl' := hl
    obtain ⟨⟨n0, v0⟩, lv0, rfl, q0, hl1⟩ := zf2_cons hl'
    obtain ⟨⟨n1, v1⟩, lv1, rfl, q1, hl2⟩ := zf2_cons hl1
    obtain ⟨⟨n2, v2⟩, lv2, rfl, q2, hl3⟩ := zf2_cons hl2
    obtain ⟨⟨n3, v3⟩, lv3, rfl, q3, hl4⟩ := zf2_cons hl3
    have e0 : 0 = n0 := q0.1
    have e3 : 3 = n3 := q3.1
    subst e0
    subst e3
    have hv0 : v0 = .ref b := by
      obtain ⟨r, k1, k2⟩ := q0.2.1
      have k1 : V.1[0]? = some (.ref r) := k1
      rw [hV] at k1
      cases k1
      exact k2
    subst hv0
    obtain ⟨X, hX3, z, hz, hXz⟩ := q3.2.1
    have hX3 : v3 = .int X := hX3
    subst hX3
    have hz : g[3]? = some z := hz
    have hXz : X.toInt = z + 0 := hXz
    obtain ⟨z', hz', hzi⟩ := zf2_get hG hG3
    rw [hz] at hz'
    cases hz'
    obtain ⟨hz0, hz1⟩ := hzi
    have hz0 : (0 : Int) ≤ z := hz0
    have hLi : (Int32.ofNat L).toInt = (L : Int) := toI_len hL
    refine lv_iload_n hx hb d18 rfl (lv_at hlv 3 rfl) ?_
    refine lv_aload_n hx hb d19 rfl (lv_at hlv 0 rfl) ?_
    refine va_slen hx hb hX hbl hbA hH.2.2.2.2.1 d20 ?_
    refine lv_bipush hx hb d21 (v := 6) (by decide) ?_
    refine lv_isub hx hb d23 ?_
    have h6 : (Int32.ofNat L - 6).toInt = (L : Int) - 6 := by
      rw [Int32.toInt_sub, hLi, show (6 : Int32).toInt = 6 from by decide, ae_bm (by omega) (by omega)]
    refine lv_icmp_gt hx hb d24 (tgt := 2278) (by decide) (fun _ => ?_) (fun hge => ?_)
    · refine lv_iconst hx hb d78 (v := 1) (by decide) ?_
      refine va_forget (fun q hq => hH.2.2.2.2.1.2.2 q hq) ?_
      refine W.widen (k := 600000) (n := 7302250) hcs hss ?_
      exact lw_ret hx hb hr hlocks d79
    · have hzL : z + 6 ≤ (L : Int) := by
        rw [Int32.lt_iff_toInt_lt, h6, hXz] at hge
        omega
      have hXS' : ∀ q ∈ XS, ∀ (g' : List Int) (v : Value), gxt (g ++ sVals xs z.toNat) g' → gam g' V q.1 v → ∃ X : Int32, v = .int X ∧ vp_in X L ∧ gam g' V q.2 (.int (xs X.toNatClampNeg)) := by
        intro q hq g' v hg hv
        rw [hXS] at hq
        obtain ⟨j, hj, rfl⟩ := List.mem_map.mp hq
        have hgl : G.length = g.length := zf2_len hG
        rw [hgl]
        exact xsn_one (List.mem_range.mp hj) hz hz0 hzL hg hv
      have hgk : gxt g (g ++ sVals xs z.toNat) := ⟨_, rfl⟩
      have h3l : 3 < g.length := (List.getElem?_eq_some_iff.mp hz).1
      have hkr : rkv2 (g ++ sVals xs z.toNat) k = rkv2 g k := by
        unfold rkv2 evC
        rw [evT_ext hgk (by
          intro t ht
          rw [hk] at ht
          rw [List.mem_singleton.mp ht]
          exact h3l)]
      have hGk : GS (G.set 3 (0, 3066) ++ [topI, topI, topI, topI, topI, topI]) (g ++ sVals xs z.toNat) := zf2_apps (zf2_setL (b := z) ⟨hz0, by show z ≤ 3066; omega⟩ hG hz) sVals_ok
      obtain ⟨Ls, hL1, hL2⟩ := hsw
      have hsub : ∀ gs, gxt (g ++ sVals xs z.toNat) gs → RLok rl gs → WA (WW p l e room_1 s m #[Value.ref b] below meth c cs0 ss0 (lw_Z below #[Value.ref b] s)) m T.2.1 D cl (fun q : Nat => s.heap.size ≤ q) s.heap V cA es0 gs aSw := by
        intro gs hgs hrl
        refine stpH_ok (T := T) (ins := .tableswitch dt lo hi offs) (len := len) hx hb hown hts hK hT (by rw [hpc]; exact d33) hL1 (fun y hy => ?_)
        obtain ⟨TL, f, hTL, hrun⟩ := hL2 y hy
        refine runW_ok (k := k) (d := dd) (RF := RF) (CX := CX) (f := f) (x := (y, rl)) hx hb hr hlocks hml hown hts hK hN hE hA0 hVK hgood hT hCT hcs hss hX hbl hV hXS' hTL (by rw [hk]; exact hkT) (by
          intro t ht
          rw [hk] at ht
          rw [List.mem_singleton.mp ht, List.length_append]
          show 3 < _
          omega) ?_ hrun gs hgs hrl
        intro g1 lv1 es1 ls1 H1 locs1 a1 a2 a3 a4 a5 a6 a7
        rw [hkr] at a7
        rw [hk] at a1 a2 a4 a5 ⊢
        exact ih g1 lv1 es1 ls1 H1 locs1 a1 a2 a3 a4 a5 a6 (by omega)
      exact runS_ok hx hb hown hts hT hX hbl hV hXS' 20 _ aSw hrunS (hsub _ gxt_rf (RLok_ext hgk hRL)) (g ++ sVals xs z.toNat) _ [] es ls H locs gxt_rf hGk hlv (loc_ext hgk hl) trivial (HS_ext hgk hH)
end LAW3
