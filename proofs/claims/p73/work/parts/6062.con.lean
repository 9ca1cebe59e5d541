/-! ===== contracts, 62 ===== -/
/-- RookHustingModel leaves -/
noncomputable def gi_2703 : GI := jl_n [gp_162, gp_788, gp_737, jl_r 240 (jl_u), jl_m 5 16, gp_788]
noncomputable def con_2552 : Con2 := ((yX12_leaves, cX12_leaves, 4, (some .int)), (9, 213), ([(6, 0, 0), (1, 1, 0), (1, 2, 0)], gi_2700, hc_234, []), [((1, 315, 0), gi_2703, hq_955, [], tg_1)])
theorem hd_2552 : con_2552.1 = (yX12_leaves, cX12_leaves, 4, (some .int)) := rfl
noncomputable def ct_2552 : CTB2 := [(3, 432, 0, con_1929, [0, 1, 2, 3, 4, 5, 6, 7, 8, 9, 10, 11, 12, 13, 14, 15]), (3, 432, 0, con_2081, [0, 1, 2, 3, 4, 5, 6, 7, 8, 9, 10, 11, 12, 13, 14, 15]), (3, 432, 0, con_2225, [0, 1, 2, 3, 4, 5, 6, 7, 8, 9, 10, 11, 12, 13, 14, 15]), (3, 432, 0, con_2369, [0, 1, 2, 3, 4, 5, 6, 7, 8, 9, 10, 11, 12, 13, 14, 15]), (3, 432, 0, con_2513, [0, 1, 2, 3, 4, 5, 6, 7, 8, 9, 10, 11, 12, 13, 14, 15]), (3, 432, 0, con_2516, [0, 1, 2, 3, 4, 5, 6, 7, 8, 9, 10, 11, 12, 13, 14, 15]), (14, 441, 0, con_2549, [0, 1, 15])]
noncomputable def rf_2552 : List (Nat × List POP) := [(0, [(2, (1, 1, 0), 0, 0), (2, (1, 1, 0), 1, 0), (2, (1, 1, 0), 2, 0), (2, (1, 1, 0), 3, 0), (2, (1, 1, 0), 4, 0)])]
noncomputable def cu_2552 : List CUT2 := []
theorem ch_2552 : staG tb_X12_leaves 1 bt_RX12 [] ct_2552 rf_2552 [] cu_2552 15 con_2552 = true := by decide +kernel
theorem cto_2552 (l : Launch) : CTOK2 l RX12 vwCl gTbl ct_2552 := ct2_cons (vl_1929 l) ck_RX12_432_1929 (ct2_cons (vl_2081 l) ck_RX12_432_2081 (ct2_cons (vl_2225 l) ck_RX12_432_2225 (ct2_cons (vl_2369 l) ck_RX12_432_2369 (ct2_cons (vl_2513 l) ck_RX12_432_2513 (ct2_cons (vl_2516 l) ck_RX12_432_2516 (ct2_cons (vl_2549 l) ck_RX12_441_2549 (ct2_nil)))))))
theorem vl_2552 (l : Launch) : Vld2 l vwCl gTbl con_2552 := conR_ok3 gT_all (hd_2552) rfl pn_RX12 tk_X12_leaves bo_RX12 xo_RX12 (cto_2552 l) ch_2552 cut_nil
/-- RookHusting gainOf -/
noncomputable def gi_2704 : GI := jl_n [gp_789, gp_422, gp_259, gp_413]
noncomputable def ac_1370 : AC := .inl (11, jl_n [jl_8 7 2, jl_6 2 1, jl_8 11 3, jl_6 5 1, jl_6 4 1, jl_8 14 1, jl_6 12 1, jl_8 21 6])
noncomputable def ac_1371 : AC := .inl (4, jl_n [vp_63, jl_8 27 2, jl_1 28 1, jl_8 31 3, jl_6 15 1, jl_6 13 1, jl_8 34 1, jl_6 20 2, jl_8 40 4])
noncomputable def ac_1372 : AC := .inl (3, jl_n [jl_6 18 1, vp_10, jl_6 23 3, jl_6 17 1, jl_1 57 2])
noncomputable def hc_235 : List AC := [ac_1370, .inl (9, [(6, 2, 0), (8, 22, 0)]), ac_1371, .inl (7, [(6, 5, 0), (6, 7, 0), (6, 9, 0), (1, 43, 0)]), .inl (7, [(6, 6, 0), (6, 8, 0), (6, 10, 0), (1, 47, 0)]), am_3, am_3, am_1, am_1, am_1, am_1, ac_1372, am_4, am_0, am_11, am_0, am_1, am_0, am_4, am_10, am_0, am_0, am_9]
noncomputable def gi_2705 : GI := jl_n [gp_789, gp_422, gp_259, gp_413, jl_t, gp_387]
noncomputable def ac_1373 : AC := .inl (3, jl_n [jl_6 18 1, vp_10, jl_6 23 3, jl_6 17 1, jl_1 70 1, jl_1 25 1])
noncomputable def hq_956 : HP := [(false, ac_1370), (false, .inl (9, [(6, 2, 0), (8, 22, 0)])), (false, ac_1371), (true, .inl (7, [(6, 5, 0), (6, 7, 0), (6, 9, 0), (1, 47, 0)])), (false, .inl (7, [(6, 6, 0), (6, 8, 0), (6, 10, 0), (1, 47, 0)])), (true, am_3), (false, am_3), (true, am_1), (false, am_1), (true, am_1), (false, am_1), (true, ac_1373), (false, am_4), (true, am_0), (false, am_11), (true, am_0), (true, am_1), (true, am_0), (false, am_4), (false, am_10), (true, am_0), (true, am_0), (true, am_9)]
noncomputable def con_2558 : Con2 := ((yX11_gainOf, cX11_gainOf, 6, (some .int)), (3, 74), ([(6, 0, 0), (1, 1, 0), (1, 2, 0), (1, 3, 0), (1, 4, 0)], gi_2704, hc_235, []), [((1, 57, 0), gi_2705, hq_956, [], tg_19)])
theorem hd_2558 : con_2558.1 = (yX11_gainOf, cX11_gainOf, 6, (some .int)) := rfl
noncomputable def ct_2558 : CTB2 := [(24, 332, 0, con_1212, [3, 4, 5, 6, 7, 8, 9, 10]), (91, 372, 0, con_899, [11, 2, 3, 12, 13, 14, 15, 7, 16, 5, 17, 18, 19, 20, 21, 22, 9])]
noncomputable def cu_2558 : List CUT2 := []
theorem ch_2558 : staG tb_X11_gainOf 1 bt_RX11 [] ct_2558 [] [] cu_2558 69 con_2558 = true := by decide +kernel
theorem cto_2558 (l : Launch) : CTOK2 l RX11 vwCl gTbl ct_2558 := ct2_cons (vl_1212 l) ck_RX11_332_1212 (ct2_cons (vl_899 l) ck_RX11_372_899 (ct2_nil))
theorem vl_2558 (l : Launch) : Vld2 l vwCl gTbl con_2558 := conR_ok3 gT_all (hd_2558) rfl pn_RX11 tk_X11_gainOf bo_RX11 xo_RX11 (cto_2558 l) ch_2558 cut_nil
/-- RookHusting rests -/
noncomputable def gi_2706 : GI := jl_n [gp_364, gp_790]
noncomputable def ac_1374 : AC := .inl (11, jl_n [vp_57, vp_151, jl_8 16 3, vp_102])
noncomputable def ac_1375 : AC := .inl (4, jl_n [vp_123, vp_75, jl_8 37 2, jl_6 10 1])
noncomputable def ac_1376 : AC := .inl (3, jl_n [vp_142, jl_1 130 2])
noncomputable def hc_236 : List AC := [ac_1374, .inl (9, [(6, 2, 0), (6, 11, 0)]), ac_1375, .inl (7, [(6, 4, 0), (6, 5, 0), (6, 6, 0), (1, 41, 0)]), am_3, am_1, am_1, am_1, .inl (1, [(6, 2, 0), (8, 43, 0)]), am_5, am_7, .inl (0, [(1, 44, 0), (6, 12, 0), (6, 13, 0), (6, 14, 0)]), ac_642, am_12, ac_643, ac_1059, am_4, am_0, am_11, am_0, am_1, am_0, am_4, am_10, am_0, am_0, am_9, .inl (7, [(6, 28, 0), (6, 29, 0), (6, 30, 0), (1, 120, 0)]), am_3, am_1, am_1, ac_1376, am_0, am_0, am_1, am_0, am_0, am_0, am_9]
noncomputable def gi_2707 : GI := jl_n [gp_364, gp_790, gp_792]
noncomputable def ac_1377 : AC := .inl (11, jl_n [vp_57, vp_151, jl_8 16 3, jl_1 145 1, jl_8 19 2])
noncomputable def ac_1378 : AC := .inl (3, jl_n [vp_78, jl_1 160 2])
noncomputable def ac_1379 : AC := .inl (3, jl_n [vp_142, jl_1 173 2])
noncomputable def hq_957 : HP := [(true, ac_1377), (false, .inl (9, [(6, 2, 0), (6, 11, 0)])), (false, ac_1375), (true, .inl (7, [(6, 4, 0), (6, 5, 0), (6, 6, 0), (1, 150, 0)])), (true, am_3), (true, am_1), (true, am_1), (false, am_1), (false, .inl (1, [(6, 2, 0), (8, 43, 0)])), (false, am_5), (false, am_7), (false, .inl (0, [(1, 44, 0), (6, 12, 0), (6, 13, 0), (6, 14, 0)])), (false, ac_642), (false, am_12), (false, ac_643), (true, ac_1378), (false, am_4), (true, am_0), (false, am_11), (true, am_0), (true, am_1), (true, am_0), (false, am_4), (false, am_10), (true, am_0), (true, am_0), (true, am_9), (true, .inl (7, [(6, 28, 0), (6, 29, 0), (6, 30, 0), (1, 163, 0)])), (true, am_3), (true, am_1), (true, am_1), (true, ac_1379), (true, am_0), (true, am_0), (true, am_1), (true, am_0), (true, am_0), (true, am_0), (true, am_9)]
noncomputable def con_2559 : Con2 := ((yX11_rests, cX11_rests, 8, (some .int)), (6, 151), ([(6, 0, 0), (1, 1, 0), (1, 2, 0)], gi_2706, hc_236, rq_6), [((1, 130, 0), gi_2707, hq_957, [], tg_20)])
theorem hd_2559 : con_2559.1 = (yX11_rests, cX11_rests, 8, (some .int)) := rfl
theorem ck_RX11_360_2558 : COK2 RX11 vwCl gTbl 360 0 con_2558 := ⟨wd_1266, wd_125, mh_X11_gainOf, .inr (.inr ⟨rfl, wd_1263, wd_1265, wd_46, ⟨_, rfl, pd_X11_gainOf⟩, 11, _, TX11, 16, rfl, rfl⟩)⟩
noncomputable def ct_2559 : CTB2 := [(2, 139, 0, con_643, [0, 1, 2]), (10, 139, 0, con_643, [0, 1, 2]), (25, 208, 0, con_900, [0, 1, 3, 2, 4, 5, 6, 7, 8, 9, 10, 11, 12, 13, 14, 15, 16, 17, 18, 19, 20, 21, 22, 23, 24, 25, 26]), (55, 360, 0, con_2558, [0, 1, 2, 27, 3, 28, 4, 29, 5, 30, 6, 31, 16, 32, 18, 33, 34, 35, 22, 23, 36, 37, 38]), (67, 360, 0, con_2558, [0, 1, 2, 27, 3, 28, 4, 29, 5, 30, 6, 31, 16, 32, 18, 33, 34, 35, 22, 23, 36, 37, 38]), (87, 360, 0, con_2558, [0, 1, 2, 27, 3, 28, 4, 29, 5, 30, 6, 31, 16, 32, 18, 33, 34, 35, 22, 23, 36, 37, 38]), (99, 360, 0, con_2558, [0, 1, 2, 27, 3, 28, 4, 29, 5, 30, 6, 31, 16, 32, 18, 33, 34, 35, 22, 23, 36, 37, 38])]
noncomputable def gi_2708 : GI := jl_n [gp_296, gp_274, gp_721, gp_278, gp_413, gp_779, jl_i 0 2, gp_793]
noncomputable def ac_1380 : AC := .inl (11, jl_n [vp_57, vp_151, jl_8 16 3, jl_c 1, jl_8 19 2])
noncomputable def ac_1381 : AC := .inl (3, jl_n [vp_78, jl_1 164 2])
noncomputable def ac_1382 : AC := .inl (3, jl_n [vp_142, jl_1 177 2])
noncomputable def hq_958 : HP := [(true, ac_1380), (false, .inl (9, [(6, 2, 0), (6, 11, 0)])), (false, ac_1375), (true, .inl (7, [(6, 4, 0), (6, 5, 0), (6, 6, 0), (1, 154, 0)])), (true, am_3), (true, am_1), (true, am_1), (false, am_1), (false, .inl (1, [(6, 2, 0), (8, 43, 0)])), (false, am_5), (false, am_7), (false, .inl (0, [(1, 44, 0), (6, 12, 0), (6, 13, 0), (6, 14, 0)])), (false, ac_642), (false, am_12), (false, ac_643), (true, ac_1381), (false, am_4), (true, am_0), (false, am_11), (true, am_0), (true, am_1), (true, am_0), (false, am_4), (false, am_10), (true, am_0), (true, am_0), (true, am_9), (true, .inl (7, [(6, 28, 0), (6, 29, 0), (6, 30, 0), (1, 167, 0)])), (true, am_3), (true, am_1), (true, am_1), (true, ac_1382), (true, am_0), (true, am_0), (true, am_1), (true, am_0), (true, am_0), (true, am_0), (true, am_9)]
noncomputable def gi_2709 : GI := jl_n [gp_296, gp_274, gp_721, gp_278, gp_413, gp_779, jl_i 0 1, jl_i 0 2, gp_793]
noncomputable def ac_1383 : AC := .inl (3, jl_n [vp_78, jl_1 165 2])
noncomputable def ac_1384 : AC := .inl (3, jl_n [vp_142, jl_1 178 2])
noncomputable def hq_959 : HP := [(true, ac_1380), (false, .inl (9, [(6, 2, 0), (6, 11, 0)])), (false, ac_1375), (true, .inl (7, [(6, 4, 0), (6, 5, 0), (6, 6, 0), (1, 155, 0)])), (true, am_3), (true, am_1), (true, am_1), (false, am_1), (false, .inl (1, [(6, 2, 0), (8, 43, 0)])), (false, am_5), (false, am_7), (false, .inl (0, [(1, 44, 0), (6, 12, 0), (6, 13, 0), (6, 14, 0)])), (false, ac_642), (false, am_12), (false, ac_643), (true, ac_1383), (false, am_4), (true, am_0), (false, am_11), (true, am_0), (true, am_1), (true, am_0), (false, am_4), (false, am_10), (true, am_0), (true, am_0), (true, am_9), (true, .inl (7, [(6, 28, 0), (6, 29, 0), (6, 30, 0), (1, 168, 0)])), (true, am_3), (true, am_1), (true, am_1), (true, ac_1384), (true, am_0), (true, am_0), (true, am_1), (true, am_0), (true, am_0), (true, am_0), (true, am_9)]
noncomputable def cu_2559 : List CUT2 := [((33, [lq 0 6 0, lq 1 1 1, lq 2 1 2, lq 3 1 133, lq 4 1 134], [], gi_2708, hq_958), rq_6, ([(134, (-4))], 11)), ((42, [lq 0 6 0, lq 1 1 1, lq 2 1 2, lq 3 1 133, lq 4 1 134, lq 5 1 135], [], gi_2709, hq_959), rq_6, ([(134, (-4)), (135, (-1))], 10))]
theorem ch_2559 : staG tb_X11_rests 1 bt_RX11 [] ct_2559 [] [] cu_2559 58 con_2559 = true := by decide +kernel
theorem cc_2559 : cu_2559.all (cutG tb_X11_rests 1 bt_RX11 [] ct_2559 [] [] cu_2559 58 con_2559) = true := by decide +kernel
theorem cto_2559 (l : Launch) : CTOK2 l RX11 vwCl gTbl ct_2559 := ct2_cons (vl_643 l) ck_RX11_139_643 (ct2_cons (vl_643 l) ck_RX11_139_643 (ct2_cons (vl_900 l) ck_RX11_208_900 (ct2_cons (vl_2558 l) ck_RX11_360_2558 (ct2_cons (vl_2558 l) ck_RX11_360_2558 (ct2_cons (vl_2558 l) ck_RX11_360_2558 (ct2_cons (vl_2558 l) ck_RX11_360_2558 (ct2_nil)))))))
theorem vl_2559 (l : Launch) : Vld2 l vwCl gTbl con_2559 := conR_ok3 gT_all (hd_2559) rfl pn_RX11 tk_X11_rests bo_RX11 xo_RX11 (cto_2559 l) ch_2559 (cut_all cc_2559)
/-- RookHustingModel areFields -/
noncomputable def gi_2710 : GI := jl_n [gp_296, jl_z 45, gp_169]
noncomputable def con_2560 : Con2 := ((yX12_areFields, cX12_areFields, 3, (some .boolean)), (2, 47), ([(6, 0, 0), (1, 1, 0), (1, 2, 0)], gi_304, [ac_439, ac_440], []), [((0, 0, 0), gi_539, [(false, ac_439), (false, ac_440)], [], [1]), ((0, 1, 0), gi_2710, [(false, ac_439), (false, ac_440)], [], [1])])
theorem hd_2560 : con_2560.1 = (yX12_areFields, cX12_areFields, 3, (some .boolean)) := rfl
noncomputable def ct_2560 : CTB2 := [(3, 109, 0, con_647, [0, 1]), (12, 109, 0, con_647, [0, 1])]
noncomputable def cu_2560 : List CUT2 := []
theorem ch_2560 : staG tb_X12_areFields 1 bt_RX12 [] ct_2560 [] [] cu_2560 18 con_2560 = true := by decide +kernel
theorem cto_2560 (l : Launch) : CTOK2 l RX12 vwCl gTbl ct_2560 := ct2_cons (vl_647 l) ck_RX12_109_647 (ct2_cons (vl_647 l) ck_RX12_109_647 (ct2_nil))
theorem vl_2560 (l : Launch) : Vld2 l vwCl gTbl con_2560 := conR_ok3 gT_all (hd_2560) rfl pn_RX12 tk_X12_areFields bo_RX12 xo_RX12 (cto_2560 l) ch_2560 cut_nil
/-- RookHustingModel getsBy -/
noncomputable def gi_2711 : GI := jl_n [gp_789, gp_293]
noncomputable def ac_1385 : AC := .inl (12, jl_n [jl_8 7 1, jl_6 2 1, jl_8 21 13, vp_44, jl_1 24 1, jl_6 7 3, jl_1 31 4, vp_112, jl_8 51 14])
noncomputable def ac_1386 : AC := .inr (1, jl_n [js_1 60 9, sp_124])
noncomputable def hc_237 : List AC := [ac_1385, ac_1386, am_8, am_6, am_3, am_3, am_1, am_0, am_0, am_0, am_13, am_14, am_15]
noncomputable def gi_2712 : GI := jl_n [gp_789, gp_293, gp_354, gp_354]
noncomputable def ac_1387 : AC := .inl (12, jl_n [jl_8 7 1, jl_6 2 1, jl_8 21 13, vp_86, jl_1 98 1, vp_42, vp_112, jl_8 51 14])
noncomputable def hq_960 : HP := [(true, ac_1387), (false, ac_1386), (true, am_8), (true, am_6), (true, am_3), (true, am_3), (true, am_1), (true, am_0), (true, am_0), (true, am_0), (true, am_13), (true, am_14), (true, am_15)]
noncomputable def con_2568 : Con2 := ((yX12_getsBy, cX12_getsBy, 6, (some .int)), (8, 188), ([(6, 0, 0), (1, 1, 0), (1, 2, 0), (1, 3, 0), (1, 4, 0), (0, 0, 0)], gi_2711, hc_237, []), [((1, 74, 0), gi_2712, hq_960, [], tg_1)])
theorem hd_2568 : con_2568.1 = (yX12_getsBy, cX12_getsBy, 6, (some .int)) := rfl
noncomputable def ct_2568 : CTB2 := [(1, 345, 0, con_905, [0, 1, 2, 3, 4, 5, 6]), (17, 363, 0, con_1108, [0, 1, 7, 8, 5, 6, 9, 10, 11, 12]), (26, 103, 0, con_1100, [0, 1])]
noncomputable def cu_2568 : List CUT2 := []
theorem ch_2568 : staG tb_X12_getsBy 1 bt_RX12 [] ct_2568 [] [] cu_2568 35 con_2568 = true := by decide +kernel
theorem cto_2568 (l : Launch) : CTOK2 l RX12 vwCl gTbl ct_2568 := ct2_cons (vl_905 l) ck_RX12_345_905 (ct2_cons (vl_1108 l) ck_RX12_363_1108 (ct2_cons (vl_1100 l) ck_RX12_103_1100 (ct2_nil)))
theorem vl_2568 (l : Launch) : Vld2 l vwCl gTbl con_2568 := conR_ok3 gT_all (hd_2568) rfl pn_RX12 tk_X12_getsBy bo_RX12 xo_RX12 (cto_2568 l) ch_2568 cut_nil
/-- RookHustingModel getsBy -/
noncomputable def con_2569 : Con2 := ((yX12_getsBy, cX12_getsBy, 6, (some .int)), (8, 188), ([(6, 0, 0), (1, 1, 0), (1, 2, 0), (1, 3, 0), (1, 4, 0), (0, 1, 0)], gi_2711, hc_237, []), [((1, 74, 0), gi_2712, hq_960, [], tg_1)])
theorem hd_2569 : con_2569.1 = (yX12_getsBy, cX12_getsBy, 6, (some .int)) := rfl
noncomputable def cu_2569 : List CUT2 := []
theorem ch_2569 : staG tb_X12_getsBy 1 bt_RX12 [] ct_2568 [] [] cu_2569 33 con_2569 = true := by decide +kernel
theorem vl_2569 (l : Launch) : Vld2 l vwCl gTbl con_2569 := conR_ok3 gT_all (hd_2569) rfl pn_RX12 tk_X12_getsBy bo_RX12 xo_RX12 (cto_2568 l) ch_2569 cut_nil
/-- RookHustingModel rests -/
noncomputable def gi_2713 : GI := jl_n [gp_362, gp_414]
noncomputable def ac_1388 : AC := .inl (12, jl_n [vp_51, vp_141, vp_112, jl_8 48 14])
noncomputable def hq_961 : HP := [(true, ac_1388), (false, ac_440), (true, am_8), (true, am_6), (true, am_3), (true, am_3), (true, am_1), (true, am_0), (true, am_0), (true, am_0), (true, am_13), (true, am_14), (true, am_15)]
noncomputable def con_2570 : Con2 := ((yX12_rests, cX12_rests, 8, (some .int)), (9, 213), ([(6, 0, 0), (1, 1, 0), (1, 2, 0)], gi_746, hc_149, []), [((1, 71, 0), gi_2713, hq_961, [], tg_1)])
theorem hd_2570 : con_2570.1 = (yX12_rests, cX12_rests, 8, (some .int)) := rfl
theorem ck_RX12_447_2569 : COK2 RX12 vwCl gTbl 447 0 con_2569 := ⟨wd_2094, wd_137, mh_X12_getsBy, .inr (.inr ⟨rfl, wd_2091, wd_2093, wd_119, ⟨_, rfl, pd_X12_getsBy⟩, 12, _, TX12, 45, rfl, rfl⟩)⟩
theorem ck_RX12_447_2568 : COK2 RX12 vwCl gTbl 447 0 con_2568 := ⟨wd_2094, wd_137, mh_X12_getsBy, .inr (.inr ⟨rfl, wd_2091, wd_2093, wd_119, ⟨_, rfl, pd_X12_getsBy⟩, 12, _, TX12, 45, rfl, rfl⟩)⟩
theorem ck_RX12_444_2560 : COK2 RX12 vwCl gTbl 444 0 con_2560 := ⟨wd_2090, wd_137, mh_X12_areFields, .inr (.inr ⟨rfl, wd_2087, wd_2089, wd_118, ⟨_, rfl, pd_X12_areFields⟩, 12, _, TX12, 45, rfl, rfl⟩)⟩
noncomputable def ct_2570 : CTB2 := [(3, 444, 0, con_2560, [0, 1]), (43, 447, 0, con_2568, [0, 1, 2, 3, 4, 5, 6, 7, 8, 9, 10, 11, 12]), (56, 447, 0, con_2568, [0, 1, 2, 3, 4, 5, 6, 7, 8, 9, 10, 11, 12]), (70, 447, 0, con_2569, [0, 1, 2, 3, 4, 5, 6, 7, 8, 9, 10, 11, 12]), (83, 447, 0, con_2569, [0, 1, 2, 3, 4, 5, 6, 7, 8, 9, 10, 11, 12])]
noncomputable def gi_2714 : GI := jl_n [gp_296, gp_370, jl_z 17, gp_302, gp_288]
noncomputable def ac_1389 : AC := .inl (12, jl_n [vp_49, jl_1 94 1, jl_6 7 3, jl_1 101 4, vp_112, jl_8 48 14])
noncomputable def hq_962 : HP := [(true, ac_1389), (false, ac_440), (true, am_8), (true, am_6), (true, am_3), (true, am_3), (true, am_1), (true, am_0), (true, am_0), (true, am_0), (true, am_13), (true, am_14), (true, am_15)]
noncomputable def cu_2570 : List CUT2 := [((17, [lq 0 6 0, lq 1 1 1, lq 2 1 2, lq 3 1 74, lq 4 1 75], [], gi_2714, hq_962), [], ([(75, (-1))], 4))]
theorem ch_2570 : staG tb_X12_rests 1 bt_RX12 [] ct_2570 [] [] cu_2570 62 con_2570 = true := by decide +kernel
theorem cc_2570 : cu_2570.all (cutG tb_X12_rests 1 bt_RX12 [] ct_2570 [] [] cu_2570 62 con_2570) = true := by decide +kernel
theorem cto_2570 (l : Launch) : CTOK2 l RX12 vwCl gTbl ct_2570 := ct2_cons (vl_2560 l) ck_RX12_444_2560 (ct2_cons (vl_2568 l) ck_RX12_447_2568 (ct2_cons (vl_2568 l) ck_RX12_447_2568 (ct2_cons (vl_2569 l) ck_RX12_447_2569 (ct2_cons (vl_2569 l) ck_RX12_447_2569 (ct2_nil)))))
theorem vl_2570 (l : Launch) : Vld2 l vwCl gTbl con_2570 := conR_ok3 gT_all (hd_2570) rfl pn_RX12 tk_X12_rests bo_RX12 xo_RX12 (cto_2570 l) ch_2570 (cut_all cc_2570)
/-- RookHusting gets -/
noncomputable def gi_2715 : GI := jl_n [gp_795, gp_790]
noncomputable def ac_1390 : AC := .inl (11, jl_n [jl_8 7 2, vp_23, vp_151, jl_8 18 3, jl_1 19 1, jl_8 21 2])
noncomputable def ac_1391 : AC := .inr (1, jl_n [js_1 80 30])
noncomputable def ac_1392 : AC := .inr (1, jl_n [js_1 110 30])
noncomputable def ac_1393 : AC := .inl (3, jl_n [vp_78, jl_1 119 2])
noncomputable def ac_1394 : AC := .inl (3, jl_n [vp_142, jl_1 132 2])
noncomputable def hc_238 : List AC := [ac_1390, .inl (9, [(6, 2, 0), (6, 11, 0)]), ac_507, .inl (7, [(6, 4, 0), (6, 5, 0), (6, 6, 0), (1, 43, 0)]), am_3, am_1, am_1, am_1, .inl (1, [(6, 2, 0), (8, 45, 0)]), am_5, am_7, .inl (0, [(1, 46, 0), (6, 12, 0), (6, 13, 0), (6, 14, 0)]), ac_1391, am_12, ac_1392, ac_1393, am_4, am_0, am_11, am_0, am_1, am_0, am_4, am_10, am_0, am_0, am_9, .inl (7, [(6, 28, 0), (6, 29, 0), (6, 30, 0), (1, 122, 0)]), am_3, am_1, am_1, ac_1394, am_0, am_0, am_1, am_0, am_0, am_0, am_9]
noncomputable def rq_10 : RLs := [([(50, 12), (80, (-1))], 4), ([(51, 12), (81, (-1))], 4), ([(52, 12), (82, (-1))], 4), ([(53, 12), (83, (-1))], 4), ([(54, 12), (84, (-1))], 4), ([(55, 12), (85, (-1))], 4), ([(56, 12), (86, (-1))], 4), ([(57, 12), (87, (-1))], 4), ([(58, 12), (88, (-1))], 4), ([(59, 12), (89, (-1))], 4), ([(60, 12), (90, (-1))], 4), ([(61, 12), (91, (-1))], 4), ([(62, 12), (92, (-1))], 4), ([(63, 12), (93, (-1))], 4), ([(64, 12), (94, (-1))], 4), ([(65, 12), (95, (-1))], 4), ([(66, 12), (96, (-1))], 4), ([(67, 12), (97, (-1))], 4), ([(68, 12), (98, (-1))], 4), ([(69, 12), (99, (-1))], 4), ([(70, 12), (100, (-1))], 4), ([(71, 12), (101, (-1))], 4), ([(72, 12), (102, (-1))], 4), ([(73, 12), (103, (-1))], 4), ([(74, 12), (104, (-1))], 4), ([(75, 12), (105, (-1))], 4), ([(76, 12), (106, (-1))], 4), ([(77, 12), (107, (-1))], 4), ([(78, 12), (108, (-1))], 4), ([(79, 12), (109, (-1))], 4)]
noncomputable def gi_2716 : GI := jl_n [gp_795, gp_790, gp_792]
noncomputable def ac_1395 : AC := .inl (11, jl_n [jl_8 7 2, vp_23, vp_151, jl_8 18 3, jl_1 147 1, jl_8 21 2])
noncomputable def ac_1396 : AC := .inl (3, jl_n [vp_78, jl_1 162 2])
noncomputable def hq_963 : HP := [(true, ac_1395), (false, .inl (9, [(6, 2, 0), (6, 11, 0)])), (false, ac_507), (true, .inl (7, [(6, 4, 0), (6, 5, 0), (6, 6, 0), (1, 152, 0)])), (true, am_3), (true, am_1), (true, am_1), (false, am_1), (false, .inl (1, [(6, 2, 0), (8, 45, 0)])), (false, am_5), (false, am_7), (false, .inl (0, [(1, 46, 0), (6, 12, 0), (6, 13, 0), (6, 14, 0)])), (false, ac_1391), (false, am_12), (false, ac_1392), (true, ac_1396), (false, am_4), (true, am_0), (false, am_11), (true, am_0), (true, am_1), (true, am_0), (false, am_4), (false, am_10), (true, am_0), (true, am_0), (true, am_9), (true, .inl (7, [(6, 28, 0), (6, 29, 0), (6, 30, 0), (1, 165, 0)])), (true, am_3), (true, am_1), (true, am_1), (true, ac_800), (true, am_0), (true, am_0), (true, am_1), (true, am_0), (true, am_0), (true, am_0), (true, am_9)]
noncomputable def con_2571 : Con2 := ((yX11_gets, cX11_gets, 5, (some .int)), (6, 151), ([(6, 0, 0), (1, 1, 0), (1, 2, 0), (1, 3, 0), (1, 4, 0)], gi_2715, hc_238, rq_10), [((1, 132, 0), gi_2716, hq_963, [], tg_20)])
theorem hd_2571 : con_2571.1 = (yX11_gets, cX11_gets, 5, (some .int)) := rfl
noncomputable def ct_2571 : CTB2 := [(2, 139, 0, con_643, [0, 1, 2]), (10, 139, 0, con_643, [0, 1, 2]), (22, 143, 1, con_644, []), (30, 143, 1, con_644, []), (41, 208, 0, con_900, [0, 1, 3, 2, 4, 5, 6, 7, 8, 9, 10, 11, 12, 13, 14, 15, 16, 17, 18, 19, 20, 21, 22, 23, 24, 25, 26]), (50, 360, 0, con_2558, [0, 1, 2, 27, 3, 28, 4, 29, 5, 30, 6, 31, 16, 32, 18, 33, 34, 35, 22, 23, 36, 37, 38])]
noncomputable def cu_2571 : List CUT2 := []
theorem ch_2571 : staG tb_X11_gets 1 bt_RX11 [] ct_2571 [] [] cu_2571 28 con_2571 = true := by decide +kernel
theorem cto_2571 (l : Launch) : CTOK2 l RX11 vwCl gTbl ct_2571 := ct2_cons (vl_643 l) ck_RX11_139_643 (ct2_cons (vl_643 l) ck_RX11_139_643 (ct2_cons (vl_644 l) ck_RX11_143_644 (ct2_cons (vl_644 l) ck_RX11_143_644 (ct2_cons (vl_900 l) ck_RX11_208_900 (ct2_cons (vl_2558 l) ck_RX11_360_2558 (ct2_nil))))))
theorem vl_2571 (l : Launch) : Vld2 l vwCl gTbl con_2571 := conR_ok3 gT_all (hd_2571) rfl pn_RX11 tk_X11_gets bo_RX11 xo_RX11 (cto_2571 l) ch_2571 cut_nil
/-- RookHustingModel gets -/
noncomputable def gi_2717 : GI := jl_n [gp_794, gp_289]
noncomputable def ac_1397 : AC := .inl (12, jl_n [vp_152, jl_1 23 1, jl_6 7 3, jl_1 30 4, vp_112, jl_8 50 14])
noncomputable def ac_1398 : AC := .inr (1, jl_n [js_1 59 9, sp_124])
noncomputable def hc_239 : List AC := [ac_1397, ac_1398, am_8, am_6, am_3, am_3, am_1, am_0, am_0, am_0, am_13, am_14, am_15]
noncomputable def gi_2718 : GI := jl_n [gp_794, gp_289, gp_414]
noncomputable def ac_1399 : AC := .inl (12, jl_n [vp_152, jl_1 92 1, jl_6 7 3, jl_1 99 4, vp_112, jl_8 50 14])
noncomputable def hq_964 : HP := [(true, ac_1399), (false, ac_1398), (true, am_8), (true, am_6), (true, am_3), (true, am_3), (true, am_1), (true, am_0), (true, am_0), (true, am_0), (true, am_13), (true, am_14), (true, am_15)]
noncomputable def con_2572 : Con2 := ((yX12_gets, cX12_gets, 5, (some .int)), (9, 213), ([(6, 0, 0), (1, 1, 0), (1, 2, 0), (1, 3, 0), (1, 4, 0)], gi_2717, hc_239, []), [((1, 73, 0), gi_2718, hq_964, [], tg_1)])
theorem hd_2572 : con_2572.1 = (yX12_gets, cX12_gets, 5, (some .int)) := rfl
noncomputable def ct_2572 : CTB2 := [(3, 444, 0, con_2560, [0, 1]), (13, 91, 1, con_648, []), (24, 91, 1, con_648, []), (37, 447, 0, con_2568, [0, 1, 2, 3, 4, 5, 6, 7, 8, 9, 10, 11, 12])]
noncomputable def cu_2572 : List CUT2 := []
theorem ch_2572 : staG tb_X12_gets 1 bt_RX12 [] ct_2572 [] [] cu_2572 28 con_2572 = true := by decide +kernel
theorem cto_2572 (l : Launch) : CTOK2 l RX12 vwCl gTbl ct_2572 := ct2_cons (vl_2560 l) ck_RX12_444_2560 (ct2_cons (vl_648 l) ck_RX12_91_648 (ct2_cons (vl_648 l) ck_RX12_91_648 (ct2_cons (vl_2568 l) ck_RX12_447_2568 (ct2_nil))))
theorem vl_2572 (l : Launch) : Vld2 l vwCl gTbl con_2572 := conR_ok3 gT_all (hd_2572) rfl pn_RX12 tk_X12_gets bo_RX12 xo_RX12 (cto_2572 l) ch_2572 cut_nil
/-- RookHusting isChanceDay -/
noncomputable def gi_2719 : GI := jl_n [gp_229, jl_z 19, jl_i 1 16, jl_z 16]
noncomputable def con_2573 : Con2 := ((yX11_isChanceDay, cX11_isChanceDay, 2, (some .boolean)), (1, 21), ([(6, 0, 0), (1, 1, 0)], gi_748, [ac_431, .inl (9, [(6, 2, 0), (8, 19, 0)]), ac_628], []), [((0, 0, 0), gi_749, hq_573, [], [1]), ((0, 1, 0), gi_2719, hq_573, [], [1])])
theorem hd_2573 : con_2573.1 = (yX11_isChanceDay, cX11_isChanceDay, 2, (some .boolean)) := rfl
noncomputable def ct_2573 : CTB2 := [(2, 272, 0, con_1120, [0, 1, 2])]
noncomputable def cu_2573 : List CUT2 := []
theorem ch_2573 : staG tb_X11_isChanceDay 1 bt_RX11 [] ct_2573 [] [] cu_2573 12 con_2573 = true := by decide +kernel
theorem cto_2573 (l : Launch) : CTOK2 l RX11 vwCl gTbl ct_2573 := ct2_cons (vl_1120 l) ck_RX11_272_1120 (ct2_nil)
theorem vl_2573 (l : Launch) : Vld2 l vwCl gTbl con_2573 := conR_ok3 gT_all (hd_2573) rfl pn_RX11 tk_X11_isChanceDay bo_RX11 xo_RX11 (cto_2573 l) ch_2573 cut_nil
/-- RookHusting$Harvest frighten -/
noncomputable def gi_2720 : GI := jl_n [gp_796, gp_250, jl_z 22]
noncomputable def con_2581 : Con2 := ((yX3_frighten, cX3_frighten, 8, none), (1, 21), ([(6, 0, 0), (6, 1, 0), (6, 2, 0), (1, 3, 0)], gi_2720, hc_99, []), [((9, 0, 0), gi_2720, hq_491, [], [])])
theorem hd_2581 : con_2581.1 = (yX3_frighten, cX3_frighten, 8, none) := rfl
noncomputable def gi_2721 : GI := jl_n [gp_796, gp_250, jl_z 26, jl_i 0 5]
noncomputable def cu_2581 : List CUT2 := [((3, [lq 0 6 0, lq 1 6 1, lq 2 6 2, lq 3 1 3, lq 4 1 38], [], gi_2721, hq_491), [], ([(38, (-1))], 5))]
theorem ch_2581 : staG tb_X3_frighten 1 bt_RX3 [] ct_883 [] [] cu_2581 66 con_2581 = true := by decide +kernel
theorem cc_2581 : cu_2581.all (cutG tb_X3_frighten 1 bt_RX3 [] ct_883 [] [] cu_2581 66 con_2581) = true := by decide +kernel
theorem vl_2581 (l : Launch) : Vld2 l vwCl gTbl con_2581 := conR_ok3 gT_all (hd_2581) rfl pn_RX3 tk_X3_frighten bo_RX3 xo_RX3 (cto_883 l) ch_2581 (cut_all cc_2581)
/-- RookHusting$Harvest passDays -/
noncomputable def gi_2722 : GI := jl_n [gp_796, gp_260]
noncomputable def gi_2723 : GI := jl_n [gp_796, gp_258, jl_z 15, gp_261, gp_112]
noncomputable def con_2582 : Con2 := ((yX3_passDays, cX3_passDays, 5, none), (2, 50), ([(6, 0, 0), (6, 1, 0), (6, 2, 0), (1, 3, 0)], gi_2722, hc_102, []), [((9, 0, 0), gi_2723, hq_494, [], tg_13)])
theorem hd_2582 : con_2582.1 = (yX3_passDays, cX3_passDays, 5, none) := rfl
theorem ck_RX3_45_2581 : COK2 RX3 vwCl gTbl 45 0 con_2581 := ⟨wd_874, wd_134, mh_X3_frighten, .inr (.inr ⟨rfl, wd_871, wd_873, wd_20, ⟨_, rfl, pd_X3_frighten⟩, 3, _, TX3, 9, rfl, rfl⟩)⟩
theorem ck_RX3_62_885 : COK2 RX3 vwCl gTbl 62 0 con_885 := ⟨wd_886, wd_134, mh_X3_eatAndFly, .inr (.inr ⟨rfl, wd_883, wd_885, wd_22, ⟨_, rfl, pd_X3_eatAndFly⟩, 3, _, TX3, 9, rfl, rfl⟩)⟩
theorem ck_RX3_49_884 : COK2 RX3 vwCl gTbl 49 0 con_884 := ⟨wd_882, wd_134, mh_X3_beginNextDay, .inr (.inr ⟨rfl, wd_879, wd_881, wd_21, ⟨_, rfl, pd_X3_beginNextDay⟩, 3, _, TX3, 9, rfl, rfl⟩)⟩
theorem ck_RX3_45_883 : COK2 RX3 vwCl gTbl 45 0 con_883 := ⟨wd_874, wd_134, mh_X3_frighten, .inr (.inr ⟨rfl, wd_871, wd_873, wd_20, ⟨_, rfl, pd_X3_frighten⟩, 3, _, TX3, 9, rfl, rfl⟩)⟩
noncomputable def ct_2582 : CTB2 := [(79, 45, 0, con_883, [0, 1, 2, 7, 8, 9, 10, 11, 12]), (85, 49, 0, con_884, [0, 4, 6, 13, 14, 15]), (94, 58, 2, con_46, []), (104, 62, 0, con_885, [0, 2, 4, 10, 6, 13, 16, 15, 14]), (117, 45, 0, con_2581, [0, 1, 2, 7, 8, 9, 10, 11, 12])]
noncomputable def gi_2724 : GI := jl_n [gp_796, gp_260, gp_257, jl_z 9]
noncomputable def gi_2725 : GI := jl_n [gp_796, gp_260, jl_z 4, jl_i 0 8, gp_249]
noncomputable def cu_2582 : List CUT2 := [((16, [lq 0 6 0, lq 1 6 1, lq 2 6 2, lq 3 1 3, lq 4 1 38], [], gi_2724, hq_495), [], ([(38, (-1))], 14)), ((68, [lq 0 6 0, lq 1 6 1, lq 2 6 2, lq 3 1 3, lq 4 1 38], [], gi_2725, hq_496), [], ([(38, (-1))], 8))]
theorem ch_2582 : staG tb_X3_passDays 1 bt_RX3 [] ct_2582 [] [] cu_2582 29 con_2582 = true := by decide +kernel
theorem cc_2582 : cu_2582.all (cutG tb_X3_passDays 1 bt_RX3 [] ct_2582 [] [] cu_2582 29 con_2582) = true := by decide +kernel
theorem cto_2582 (l : Launch) : CTOK2 l RX3 vwCl gTbl ct_2582 := ct2_cons (vl_883 l) ck_RX3_45_883 (ct2_cons (vl_884 l) ck_RX3_49_884 (ct2_cons (vl_46 l) ck_RX3_58_46 (ct2_cons (vl_885 l) ck_RX3_62_885 (ct2_cons (vl_2581 l) ck_RX3_45_2581 (ct2_nil)))))
theorem vl_2582 (l : Launch) : Vld2 l vwCl gTbl con_2582 := conR_ok3 gT_all (hd_2582) rfl pn_RX3 tk_X3_passDays bo_RX3 xo_RX3 (cto_2582 l) ch_2582 (cut_all cc_2582)
/-- RookHusting power10 -/
noncomputable def con_2586 : Con2 := ((yX11_power10, cX11_power10, 4, (some .long)), (0, 0), ([(1, 0, 0)], [(1, 8)], [], []), [((4, 1, 0), [(1, 8), ((-9223372036854775808), 9223372036854775807)], [], [], [4])])
theorem hd_2586 : con_2586.1 = (yX11_power10, cX11_power10, 4, (some .long)) := rfl
noncomputable def gi_2726 : GI := jl_n [jl_i 1 8, jl_z 1, jl_u, jl_i 0 8]
noncomputable def cu_2586 : List CUT2 := [((4, [lq 0 1 0, lq 1 4 2, lq 3 1 3], [], gi_2726, []), [], ([(3, (-1))], 8))]
theorem ch_2586 : staG tb_X11_power10 1 bt_RX11 [] ct_3 [] [] cu_2586 12 con_2586 = true := by decide +kernel
theorem cc_2586 : cu_2586.all (cutG tb_X11_power10 1 bt_RX11 [] ct_3 [] [] cu_2586 12 con_2586) = true := by decide +kernel
theorem vl_2586 (l : Launch) : Vld2 l vwCl gTbl con_2586 := conR_ok3 gT_all (hd_2586) rfl pn_RX11 tk_X11_power10 bo_RX11 xo_RX11 (cto_3 l) ch_2586 (cut_all cc_2586)
/-- RookHusting commonDivisor -/
noncomputable def gi_2727 : GI := jl_n [jl_r 2 (jl_u)]
noncomputable def gi_2728 : GI := jl_n [jl_r 3 (jl_u)]
noncomputable def con_2587 : Con2 := ((yX11_commonDivisor, cX11_commonDivisor, 7, (some .long)), (0, 0), ([(4, 0, 0), (4, 1, 0)], gi_2727, [], []), [((4, 2, 0), gi_2728, [], [], [4])])
theorem hd_2587 : con_2587.1 = (yX11_commonDivisor, cX11_commonDivisor, 7, (some .long)) := rfl
noncomputable def gi_2729 : GI := jl_n [jl_r 4 (jl_u), jl_i 0 100]
noncomputable def cu_2587 : List CUT2 := [((3, [lq 0 4 2, lq 2 4 3, lq 4 1 4], [], gi_2729, []), [], ([(4, (-1))], 100))]
theorem ch_2587 : staG tb_X11_commonDivisor 1 bt_RX11 [] ct_3 [] [] cu_2587 19 con_2587 = true := by decide +kernel
theorem cc_2587 : cu_2587.all (cutG tb_X11_commonDivisor 1 bt_RX11 [] ct_3 [] [] cu_2587 19 con_2587) = true := by decide +kernel
theorem vl_2587 (l : Launch) : Vld2 l vwCl gTbl con_2587 := conR_ok3 gT_all (hd_2587) rfl pn_RX11 tk_X11_commonDivisor bo_RX11 xo_RX11 (cto_3 l) ch_2587 (cut_all cc_2587)
/-- RookHusting partOf -/
noncomputable def gi_2730 : GI := jl_n [jl_r 2 (jl_u), jl_i 0 1]
noncomputable def gi_2731 : GI := jl_n [jl_r 2 (jl_u), jl_i 0 1, jl_u]
noncomputable def con_2588 : Con2 := ((yX11_partOf, cX11_partOf, 7, (some .long)), (1, 26), ([(4, 0, 0), (4, 1, 0), (1, 2, 0)], gi_2730, [], []), [((4, 3, 0), gi_2731, [], [], [4])])
theorem hd_2588 : con_2588.1 = (yX11_partOf, cX11_partOf, 7, (some .long)) := rfl
theorem ck_RX11_492_2587 : COK2 RX11 vwCl gTbl 492 1 con_2587 := ⟨wd_987, wd_125, mh_X11_commonDivisor, .inl ⟨rfl, wd_985, wd_986, pd_X11_commonDivisor⟩⟩
noncomputable def ct_2588 : CTB2 := [(2, 492, 1, con_2587, [])]
noncomputable def cu_2588 : List CUT2 := []
theorem ch_2588 : staG tb_X11_partOf 1 bt_RX11 [] ct_2588 [] [] cu_2588 16 con_2588 = true := by decide +kernel
theorem cto_2588 (l : Launch) : CTOK2 l RX11 vwCl gTbl ct_2588 := ct2_cons (vl_2587 l) ck_RX11_492_2587 (ct2_nil)
theorem vl_2588 (l : Launch) : Vld2 l vwCl gTbl con_2588 := conR_ok3 gT_all (hd_2588) rfl pn_RX11 tk_X11_partOf bo_RX11 xo_RX11 (cto_2588 l) ch_2588 cut_nil
/-- RookHusting windWeight -/
noncomputable def gi_2732 : GI := jl_n [jl_z 1, jl_i 0 255, jl_i 1 8, jl_z 21, gp_797]
noncomputable def ac_1400 : AC := .inl (4, jl_n [jl_8 24 3, jl_1 25 1, jl_8 38 13])
noncomputable def gi_2733 : GI := jl_n [jl_z 1, jl_i 0 255, jl_i 1 8, jl_z 21, gp_797, jl_u]
noncomputable def hq_965 : HP := [(false, ac_433), (false, .inl (9, [(6, 2, 0), (8, 20, 0)])), (false, ac_1400)]
noncomputable def con_2618 : Con2 := ((yX11_windWeight, cX11_windWeight, 6, (some .long)), (1, 21), ([(6, 0, 0), (1, 1, 0), (1, 2, 0)], gi_2732, [ac_433, .inl (9, [(6, 2, 0), (8, 20, 0)]), ac_1400], []), [((4, 38, 0), gi_2733, hq_965, [], [4])])
theorem hd_2618 : con_2618.1 = (yX11_windWeight, cX11_windWeight, 6, (some .long)) := rfl
noncomputable def ct_2618 : CTB2 := [(15, 183, 1, con_46, [])]
noncomputable def gi_2734 : GI := jl_n [jl_z 1, jl_i 0 255, jl_i 1 8, jl_z 21, jl_i 0 10, jl_z 16, jl_u, jl_i 0 8]
noncomputable def cu_2618 : List CUT2 := [((5, [lq 0 6 0, lq 1 1 1, lq 2 1 2, lq 3 4 41, lq 5 1 42], [], gi_2734, hq_965), [], ([(42, (-1))], 8))]
theorem ch_2618 : staG tb_X11_windWeight 1 bt_RX11 [] ct_2618 [] [] cu_2618 22 con_2618 = true := by decide +kernel
theorem cc_2618 : cu_2618.all (cutG tb_X11_windWeight 1 bt_RX11 [] ct_2618 [] [] cu_2618 22 con_2618) = true := by decide +kernel
theorem cto_2618 (l : Launch) : CTOK2 l RX11 vwCl gTbl ct_2618 := ct2_cons (vl_46 l) ck_RX11_183_46 (ct2_nil)
theorem vl_2618 (l : Launch) : Vld2 l vwCl gTbl con_2618 := conR_ok3 gT_all (hd_2618) rfl pn_RX11 tk_X11_windWeight bo_RX11 xo_RX11 (cto_2618 l) ch_2618 (cut_all cc_2618)
/-- RookHusting chance -/
noncomputable def gi_2735 : GI := jl_n [gp_795, gp_799]
noncomputable def ac_1401 : AC := .inl (4, jl_n [jl_8 24 1, jl_1 28 4, jl_8 29 1, jl_1 31 2, vp_75, jl_8 39 2, jl_6 10 1])
noncomputable def hc_240 : List AC := [ac_1390, .inl (9, [(6, 2, 0), (6, 11, 0)]), ac_1401, .inl (7, [(6, 4, 0), (6, 5, 0), (6, 6, 0), (1, 43, 0)]), am_3, am_1, am_1, am_1, .inl (1, [(6, 2, 0), (8, 45, 0)]), am_5, am_7, .inl (0, [(1, 46, 0), (6, 12, 0), (6, 13, 0), (6, 14, 0)]), ac_1391, am_12, ac_1392, ac_1393, am_4, am_0, am_11, am_0, am_1, am_0, am_4, am_10, am_0, am_0, am_9, .inl (7, [(6, 28, 0), (6, 29, 0), (6, 30, 0), (1, 122, 0)]), am_3, am_1, am_1, ac_1394, am_0, am_0, am_1, am_0, am_0, am_0, am_9]
noncomputable def gi_2736 : GI := jl_n [gp_795, gp_799, jl_u, gp_791]
noncomputable def hq_966 : HP := [(true, ac_1395), (false, .inl (9, [(6, 2, 0), (6, 11, 0)])), (false, ac_1401), (true, .inl (7, [(6, 4, 0), (6, 5, 0), (6, 6, 0), (1, 152, 0)])), (true, am_3), (true, am_1), (true, am_1), (false, am_1), (false, .inl (1, [(6, 2, 0), (8, 45, 0)])), (false, am_5), (false, am_7), (false, .inl (0, [(1, 46, 0), (6, 12, 0), (6, 13, 0), (6, 14, 0)])), (false, ac_1391), (false, am_12), (false, ac_1392), (true, ac_1396), (false, am_4), (true, am_0), (false, am_11), (true, am_0), (true, am_1), (true, am_0), (false, am_4), (false, am_10), (true, am_0), (true, am_0), (true, am_9), (true, .inl (7, [(6, 28, 0), (6, 29, 0), (6, 30, 0), (1, 165, 0)])), (true, am_3), (true, am_1), (true, am_1), (true, ac_800), (true, am_0), (true, am_0), (true, am_1), (true, am_0), (true, am_0), (true, am_0), (true, am_9)]
noncomputable def con_2619 : Con2 := ((yX11_chance, cX11_chance, 9, (some .long)), (6, 151), ([(6, 0, 0), (1, 1, 0), (1, 2, 0), (1, 3, 0), (1, 4, 0)], gi_2735, hc_240, rq_10), [((4, 132, 0), gi_2736, hq_966, [], tg_22)])
theorem hd_2619 : con_2619.1 = (yX11_chance, cX11_chance, 9, (some .long)) := rfl
theorem ck_RX11_247_2588 : COK2 RX11 vwCl gTbl 247 1 con_2588 := ⟨wd_984, wd_125, mh_X11_partOf, .inl ⟨rfl, wd_982, wd_983, pd_X11_partOf⟩⟩
theorem ck_RX11_380_2586 : COK2 RX11 vwCl gTbl 380 1 con_2586 := ⟨wd_1286, wd_125, mh_X11_power10, .inl ⟨rfl, wd_1284, wd_1285, pd_X11_power10⟩⟩
theorem ck_RX11_376_2618 : COK2 RX11 vwCl gTbl 376 0 con_2618 := ⟨wd_1283, wd_125, mh_X11_windWeight, .inr (.inr ⟨rfl, wd_1280, wd_1282, wd_48, ⟨_, rfl, pd_X11_windWeight⟩, 11, _, TX11, 16, rfl, rfl⟩)⟩
theorem ck_RX11_372_2582 : COK2 RX11 vwCl gTbl 372 0 con_2582 := ⟨wd_870, wd_134, mh_X3_passDays, .inr (.inr ⟨rfl, wd_867, wd_868, wd_869, ⟨_, rfl, pd_X3_passDays⟩, 3, _, TX3, 9, rfl, rfl⟩)⟩
theorem ck_RX11_364_2573 : COK2 RX11 vwCl gTbl 364 0 con_2573 := ⟨wd_1278, wd_125, mh_X11_isChanceDay, .inr (.inr ⟨rfl, wd_1275, wd_1277, wd_47, ⟨_, rfl, pd_X11_isChanceDay⟩, 11, _, TX11, 16, rfl, rfl⟩)⟩
noncomputable def ct_2619 : CTB2 := [(2, 139, 0, con_643, [0, 1, 2]), (10, 364, 0, con_2573, [0, 1, 2]), (29, 143, 1, con_644, []), (40, 208, 0, con_900, [0, 1, 3, 2, 4, 5, 6, 7, 8, 9, 10, 11, 12, 13, 14, 15, 16, 17, 18, 19, 20, 21, 22, 23, 24, 25, 26]), (51, 332, 0, con_1212, [27, 3, 28, 4, 29, 5, 30, 6]), (100, 372, 0, con_2582, [31, 2, 27, 16, 32, 18, 33, 29, 34, 28, 35, 22, 23, 36, 37, 38, 30]), (129, 376, 0, con_2618, [0, 1, 2]), (145, 380, 1, con_2586, []), (150, 247, 1, con_2588, [])]
noncomputable def gi_2737 : GI := jl_n [gp_52, jl_i 0 7, jl_i 0 300, jl_i 0 1, gp_274, gp_118, jl_i 1 5, gp_798, jl_z 6, jl_u, jl_i 0 256, gp_793]
noncomputable def ac_1402 : AC := .inl (11, jl_n [jl_8 7 2, vp_23, vp_151, jl_8 18 3, jl_c 1, jl_8 21 2])
noncomputable def ac_1403 : AC := .inl (3, jl_n [vp_78, jl_1 169 2])
noncomputable def ac_1404 : AC := .inl (3, jl_n [vp_142, jl_1 182 2])
noncomputable def hq_967 : HP := [(true, ac_1402), (false, .inl (9, [(6, 2, 0), (6, 11, 0)])), (false, ac_1401), (true, .inl (7, [(6, 4, 0), (6, 5, 0), (6, 6, 0), (1, 159, 0)])), (true, am_3), (true, am_1), (true, am_1), (false, am_1), (false, .inl (1, [(6, 2, 0), (8, 45, 0)])), (false, am_5), (false, am_7), (false, .inl (0, [(1, 46, 0), (6, 12, 0), (6, 13, 0), (6, 14, 0)])), (false, ac_1391), (false, am_12), (false, ac_1392), (true, ac_1403), (false, am_4), (true, am_0), (false, am_11), (true, am_0), (true, am_1), (true, am_0), (false, am_4), (false, am_10), (true, am_0), (true, am_0), (true, am_9), (true, .inl (7, [(6, 28, 0), (6, 29, 0), (6, 30, 0), (1, 172, 0)])), (true, am_3), (true, am_1), (true, am_1), (true, ac_1404), (true, am_0), (true, am_0), (true, am_1), (true, am_0), (true, am_0), (true, am_0), (true, am_9)]
noncomputable def cu_2619 : List CUT2 := [((65, [lq 0 6 0, lq 1 1 1, lq 2 1 2, lq 3 1 3, lq 4 1 4, (5, (1, 2, 1)), lq 6 4 138, lq 8 1 139], [], gi_2737, hq_967), rq_10, ([(139, (-1))], 256))]
theorem ch_2619 : staG tb_X11_chance 1 bt_RX11 [] ct_2619 [] [] cu_2619 41 con_2619 = true := by decide +kernel
theorem cc_2619 : cu_2619.all (cutG tb_X11_chance 1 bt_RX11 [] ct_2619 [] [] cu_2619 41 con_2619) = true := by decide +kernel
theorem cto_2619 (l : Launch) : CTOK2 l RX11 vwCl gTbl ct_2619 := ct2_cons (vl_643 l) ck_RX11_139_643 (ct2_cons (vl_2573 l) ck_RX11_364_2573 (ct2_cons (vl_644 l) ck_RX11_143_644 (ct2_cons (vl_900 l) ck_RX11_208_900 (ct2_cons (vl_1212 l) ck_RX11_332_1212 (ct2_cons (vl_2582 l) ck_RX11_372_2582 (ct2_cons (vl_2618 l) ck_RX11_376_2618 (ct2_cons (vl_2586 l) ck_RX11_380_2586 (ct2_cons (vl_2588 l) ck_RX11_247_2588 (ct2_nil)))))))))
theorem vl_2619 (l : Launch) : Vld2 l vwCl gTbl con_2619 := conR_ok3 gT_all (hd_2619) rfl pn_RX11 tk_X11_chance bo_RX11 xo_RX11 (cto_2619 l) ch_2619 (cut_all cc_2619)
/-- RookHustingModel isWinds -/
noncomputable def gi_2738 : GI := jl_n [gp_229, gp_230, gp_365, gp_204]
noncomputable def con_2620 : Con2 := ((yX12_isWinds, cX12_isWinds, 3, (some .boolean)), (2, 47), ([(6, 0, 0), (1, 1, 0), (1, 2, 0)], gi_304, [ac_439, ac_440], []), [((0, 0, 0), gi_539, [(false, ac_439), (false, ac_440)], [], [1]), ((0, 1, 0), gi_2738, [(false, ac_439), (false, ac_440)], [], [1])])
theorem hd_2620 : con_2620.1 = (yX12_isWinds, cX12_isWinds, 3, (some .boolean)) := rfl
noncomputable def ct_2620 : CTB2 := [(3, 372, 0, con_1124, [0, 1]), (15, 91, 1, con_819, []), (25, 91, 1, con_648, [])]
noncomputable def cu_2620 : List CUT2 := []
theorem ch_2620 : staG tb_X12_isWinds 1 bt_RX12 [] ct_2620 [] [] cu_2620 22 con_2620 = true := by decide +kernel
theorem cto_2620 (l : Launch) : CTOK2 l RX12 vwCl gTbl ct_2620 := ct2_cons (vl_1124 l) ck_RX12_372_1124 (ct2_cons (vl_819 l) ck_RX12_91_819 (ct2_cons (vl_648 l) ck_RX12_91_648 (ct2_nil)))
theorem vl_2620 (l : Launch) : Vld2 l vwCl gTbl con_2620 := conR_ok3 gT_all (hd_2620) rfl pn_RX12 tk_X12_isWinds bo_RX12 xo_RX12 (cto_2620 l) ch_2620 cut_nil
/-- RookHustingModel bit -/
noncomputable def con_2621 : Con2 := ((yX12_bit, cX12_bit, 2, (some .int)), (0, 0), ([(0, 0, 0), (0, 5, 0)], [(0, 0), (0, 0)], [], []), [((0, 0, 0), [(0, 0), (0, 0), (0, 0)], [], [], [1])])
theorem hd_2621 : con_2621.1 = (yX12_bit, cX12_bit, 2, (some .int)) := rfl
noncomputable def cu_2621 : List CUT2 := []
theorem ch_2621 : staG tb_X12_bit 1 bt_RX12 [] ct_2 [] [] cu_2621 8 con_2621 = true := by decide +kernel
theorem vl_2621 (l : Launch) : Vld2 l vwCl gTbl con_2621 := conR_ok3 gT_all (hd_2621) rfl pn_RX12 tk_X12_bit bo_RX12 xo_RX12 (cto_2 l) ch_2621 cut_nil
/-- RookHustingModel bit -/
noncomputable def con_2622 : Con2 := ((yX12_bit, cX12_bit, 2, (some .int)), (0, 0), ([(0, 0, 0), (0, 6, 0)], [(0, 0), (0, 0)], [], []), [((0, 0, 0), [(0, 0), (0, 0), (0, 0)], [], [], [1])])
theorem hd_2622 : con_2622.1 = (yX12_bit, cX12_bit, 2, (some .int)) := rfl
noncomputable def cu_2622 : List CUT2 := []
theorem ch_2622 : staG tb_X12_bit 1 bt_RX12 [] ct_2 [] [] cu_2622 8 con_2622 = true := by decide +kernel
theorem vl_2622 (l : Launch) : Vld2 l vwCl gTbl con_2622 := conR_ok3 gT_all (hd_2622) rfl pn_RX12 tk_X12_bit bo_RX12 xo_RX12 (cto_2 l) ch_2622 cut_nil
/-- RookHustingModel bit -/
noncomputable def con_2623 : Con2 := ((yX12_bit, cX12_bit, 2, (some .int)), (0, 0), ([(0, 0, 0), (0, 7, 0)], [(0, 0), (0, 0)], [], []), [((0, 0, 0), [(0, 0), (0, 0), (0, 0)], [], [], [1])])
theorem hd_2623 : con_2623.1 = (yX12_bit, cX12_bit, 2, (some .int)) := rfl
noncomputable def cu_2623 : List CUT2 := []
theorem ch_2623 : staG tb_X12_bit 1 bt_RX12 [] ct_2 [] [] cu_2623 8 con_2623 = true := by decide +kernel
theorem vl_2623 (l : Launch) : Vld2 l vwCl gTbl con_2623 := conR_ok3 gT_all (hd_2623) rfl pn_RX12 tk_X12_bit bo_RX12 xo_RX12 (cto_2 l) ch_2623 cut_nil
/-- RookHustingModel bit -/
noncomputable def con_2627 : Con2 := ((yX12_bit, cX12_bit, 2, (some .int)), (0, 0), ([(0, 255, 0), (0, 0, 0)], [(0, 0), (0, 0)], [], []), [((0, 1, 0), [(0, 0), (0, 0), (0, 0)], [], [], [1])])
theorem hd_2627 : con_2627.1 = (yX12_bit, cX12_bit, 2, (some .int)) := rfl
noncomputable def cu_2627 : List CUT2 := []
theorem ch_2627 : staG tb_X12_bit 1 bt_RX12 [] ct_2 [] [] cu_2627 8 con_2627 = true := by decide +kernel
theorem vl_2627 (l : Launch) : Vld2 l vwCl gTbl con_2627 := conR_ok3 gT_all (hd_2627) rfl pn_RX12 tk_X12_bit bo_RX12 xo_RX12 (cto_2 l) ch_2627 cut_nil
/-- RookHustingModel bit -/
noncomputable def con_2628 : Con2 := ((yX12_bit, cX12_bit, 2, (some .int)), (0, 0), ([(0, 255, 0), (0, 1, 0)], [(0, 0), (0, 0)], [], []), [((0, 1, 0), [(0, 0), (0, 0), (0, 0)], [], [], [1])])
theorem hd_2628 : con_2628.1 = (yX12_bit, cX12_bit, 2, (some .int)) := rfl
noncomputable def cu_2628 : List CUT2 := []
theorem ch_2628 : staG tb_X12_bit 1 bt_RX12 [] ct_2 [] [] cu_2628 8 con_2628 = true := by decide +kernel
theorem vl_2628 (l : Launch) : Vld2 l vwCl gTbl con_2628 := conR_ok3 gT_all (hd_2628) rfl pn_RX12 tk_X12_bit bo_RX12 xo_RX12 (cto_2 l) ch_2628 cut_nil
/-- RookHustingModel bit -/
noncomputable def con_2629 : Con2 := ((yX12_bit, cX12_bit, 2, (some .int)), (0, 0), ([(0, 255, 0), (0, 2, 0)], [(0, 0), (0, 0)], [], []), [((0, 1, 0), [(0, 0), (0, 0), (0, 0)], [], [], [1])])
theorem hd_2629 : con_2629.1 = (yX12_bit, cX12_bit, 2, (some .int)) := rfl
noncomputable def cu_2629 : List CUT2 := []
theorem ch_2629 : staG tb_X12_bit 1 bt_RX12 [] ct_2 [] [] cu_2629 8 con_2629 = true := by decide +kernel
theorem vl_2629 (l : Launch) : Vld2 l vwCl gTbl con_2629 := conR_ok3 gT_all (hd_2629) rfl pn_RX12 tk_X12_bit bo_RX12 xo_RX12 (cto_2 l) ch_2629 cut_nil
/-- RookHustingModel bit -/
noncomputable def con_2630 : Con2 := ((yX12_bit, cX12_bit, 2, (some .int)), (0, 0), ([(0, 255, 0), (0, 3, 0)], [(0, 0), (0, 0)], [], []), [((0, 1, 0), [(0, 0), (0, 0), (0, 0)], [], [], [1])])
theorem hd_2630 : con_2630.1 = (yX12_bit, cX12_bit, 2, (some .int)) := rfl
noncomputable def cu_2630 : List CUT2 := []
theorem ch_2630 : staG tb_X12_bit 1 bt_RX12 [] ct_2 [] [] cu_2630 8 con_2630 = true := by decide +kernel
theorem vl_2630 (l : Launch) : Vld2 l vwCl gTbl con_2630 := conR_ok3 gT_all (hd_2630) rfl pn_RX12 tk_X12_bit bo_RX12 xo_RX12 (cto_2 l) ch_2630 cut_nil
/-- RookHustingModel bit -/
noncomputable def con_2631 : Con2 := ((yX12_bit, cX12_bit, 2, (some .int)), (0, 0), ([(0, 255, 0), (0, 4, 0)], [(0, 0), (0, 0)], [], []), [((0, 1, 0), [(0, 0), (0, 0), (0, 0)], [], [], [1])])
theorem hd_2631 : con_2631.1 = (yX12_bit, cX12_bit, 2, (some .int)) := rfl
noncomputable def cu_2631 : List CUT2 := []
theorem ch_2631 : staG tb_X12_bit 1 bt_RX12 [] ct_2 [] [] cu_2631 8 con_2631 = true := by decide +kernel
theorem vl_2631 (l : Launch) : Vld2 l vwCl gTbl con_2631 := conR_ok3 gT_all (hd_2631) rfl pn_RX12 tk_X12_bit bo_RX12 xo_RX12 (cto_2 l) ch_2631 cut_nil
/-- RookHustingModel bit -/
noncomputable def con_2632 : Con2 := ((yX12_bit, cX12_bit, 2, (some .int)), (0, 0), ([(0, 255, 0), (0, 5, 0)], [(0, 0), (0, 0)], [], []), [((0, 1, 0), [(0, 0), (0, 0), (0, 0)], [], [], [1])])
theorem hd_2632 : con_2632.1 = (yX12_bit, cX12_bit, 2, (some .int)) := rfl
noncomputable def cu_2632 : List CUT2 := []
theorem ch_2632 : staG tb_X12_bit 1 bt_RX12 [] ct_2 [] [] cu_2632 8 con_2632 = true := by decide +kernel
theorem vl_2632 (l : Launch) : Vld2 l vwCl gTbl con_2632 := conR_ok3 gT_all (hd_2632) rfl pn_RX12 tk_X12_bit bo_RX12 xo_RX12 (cto_2 l) ch_2632 cut_nil
/-- RookHustingModel bit -/
noncomputable def con_2633 : Con2 := ((yX12_bit, cX12_bit, 2, (some .int)), (0, 0), ([(0, 255, 0), (0, 6, 0)], [(0, 0), (0, 0)], [], []), [((0, 1, 0), [(0, 0), (0, 0), (0, 0)], [], [], [1])])
theorem hd_2633 : con_2633.1 = (yX12_bit, cX12_bit, 2, (some .int)) := rfl
noncomputable def cu_2633 : List CUT2 := []
theorem ch_2633 : staG tb_X12_bit 1 bt_RX12 [] ct_2 [] [] cu_2633 8 con_2633 = true := by decide +kernel
theorem vl_2633 (l : Launch) : Vld2 l vwCl gTbl con_2633 := conR_ok3 gT_all (hd_2633) rfl pn_RX12 tk_X12_bit bo_RX12 xo_RX12 (cto_2 l) ch_2633 cut_nil
/-- RookHustingModel bit -/
noncomputable def con_2634 : Con2 := ((yX12_bit, cX12_bit, 2, (some .int)), (0, 0), ([(0, 255, 0), (0, 7, 0)], [(0, 0), (0, 0)], [], []), [((0, 1, 0), [(0, 0), (0, 0), (0, 0)], [], [], [1])])
theorem hd_2634 : con_2634.1 = (yX12_bit, cX12_bit, 2, (some .int)) := rfl
noncomputable def cu_2634 : List CUT2 := []
theorem ch_2634 : staG tb_X12_bit 1 bt_RX12 [] ct_2 [] [] cu_2634 8 con_2634 = true := by decide +kernel
theorem vl_2634 (l : Launch) : Vld2 l vwCl gTbl con_2634 := conR_ok3 gT_all (hd_2634) rfl pn_RX12 tk_X12_bit bo_RX12 xo_RX12 (cto_2 l) ch_2634 cut_nil
/-- RookHustingModel layWinds -/
noncomputable def gi_2739 : GI := jl_n [gp_801, gp_124]
noncomputable def ac_1405 : AC := .inl (12, jl_n [vp_56, jl_1 22 1, jl_6 7 3, jl_1 29 4, vp_112, jl_8 42 7, jl_4 45 3, jl_8 49 4])
noncomputable def hc_241 : List AC := [ac_1405, ac_461, am_8, am_6, am_3, am_3, am_1, am_0, am_0, am_0, am_13, am_14, am_15]
noncomputable def gi_2740 : GI := jl_n [gp_803, jl_i 0 255, jl_z 16, gp_805]
noncomputable def ac_1406 : AC := .inl (12, jl_n [vp_153, jl_1 94 1, vp_154, jl_4 113 3, jl_8 49 4])
noncomputable def hq_968 : HP := [(true, ac_1406), (false, ac_461), (true, am_8), (true, am_6), (true, am_3), (true, am_3), (true, am_1), (true, am_0), (true, am_0), (true, am_0), (true, am_13), (true, am_14), (true, am_15)]
noncomputable def con_2635 : Con2 := ((yX12_layWinds, cX12_layWinds, 8, none), (8, 188), ([(6, 0, 0), (1, 1, 0), (0, 7, 0), (1, 3, 0)], gi_2739, hc_241, []), [((9, 0, 0), gi_2740, hq_968, [], tg_23)])
theorem hd_2635 : con_2635.1 = (yX12_layWinds, cX12_layWinds, 8, none) := rfl
theorem ck_RX12_199_2621 : COK2 RX12 vwCl gTbl 199 1 con_2621 := ⟨wd_1648, wd_137, mh_X12_bit, .inl ⟨rfl, wd_1646, wd_1647, pd_X12_bit⟩⟩
theorem ck_RX12_199_2622 : COK2 RX12 vwCl gTbl 199 1 con_2622 := ⟨wd_1648, wd_137, mh_X12_bit, .inl ⟨rfl, wd_1646, wd_1647, pd_X12_bit⟩⟩
theorem ck_RX12_199_2623 : COK2 RX12 vwCl gTbl 199 1 con_2623 := ⟨wd_1648, wd_137, mh_X12_bit, .inl ⟨rfl, wd_1646, wd_1647, pd_X12_bit⟩⟩
theorem ck_RX12_199_2627 : COK2 RX12 vwCl gTbl 199 1 con_2627 := ⟨wd_1648, wd_137, mh_X12_bit, .inl ⟨rfl, wd_1646, wd_1647, pd_X12_bit⟩⟩
theorem ck_RX12_199_2628 : COK2 RX12 vwCl gTbl 199 1 con_2628 := ⟨wd_1648, wd_137, mh_X12_bit, .inl ⟨rfl, wd_1646, wd_1647, pd_X12_bit⟩⟩
theorem ck_RX12_199_2629 : COK2 RX12 vwCl gTbl 199 1 con_2629 := ⟨wd_1648, wd_137, mh_X12_bit, .inl ⟨rfl, wd_1646, wd_1647, pd_X12_bit⟩⟩
theorem ck_RX12_199_2630 : COK2 RX12 vwCl gTbl 199 1 con_2630 := ⟨wd_1648, wd_137, mh_X12_bit, .inl ⟨rfl, wd_1646, wd_1647, pd_X12_bit⟩⟩
theorem ck_RX12_199_2631 : COK2 RX12 vwCl gTbl 199 1 con_2631 := ⟨wd_1648, wd_137, mh_X12_bit, .inl ⟨rfl, wd_1646, wd_1647, pd_X12_bit⟩⟩
theorem ck_RX12_199_2632 : COK2 RX12 vwCl gTbl 199 1 con_2632 := ⟨wd_1648, wd_137, mh_X12_bit, .inl ⟨rfl, wd_1646, wd_1647, pd_X12_bit⟩⟩
theorem ck_RX12_199_2633 : COK2 RX12 vwCl gTbl 199 1 con_2633 := ⟨wd_1648, wd_137, mh_X12_bit, .inl ⟨rfl, wd_1646, wd_1647, pd_X12_bit⟩⟩
theorem ck_RX12_199_2634 : COK2 RX12 vwCl gTbl 199 1 con_2634 := ⟨wd_1648, wd_137, mh_X12_bit, .inl ⟨rfl, wd_1646, wd_1647, pd_X12_bit⟩⟩
noncomputable def ct_2635 : CTB2 := [(16, 345, 0, con_905, [0, 1, 2, 3, 4, 5, 6]), (48, 199, 1, con_2634, []), (48, 199, 1, con_2633, []), (48, 199, 1, con_2632, []), (48, 199, 1, con_2631, []), (48, 199, 1, con_2630, []), (48, 199, 1, con_2629, []), (48, 199, 1, con_2628, []), (48, 199, 1, con_2627, []), (48, 199, 1, con_2623, []), (48, 199, 1, con_2622, []), (48, 199, 1, con_2621, []), (48, 199, 1, con_383, []), (48, 199, 1, con_386, []), (48, 199, 1, con_387, []), (48, 199, 1, con_388, []), (48, 199, 1, con_389, []), (48, 199, 1, con_390, []), (101, 363, 0, con_1108, [0, 1, 7, 8, 5, 6, 9, 10, 11, 12]), (157, 375, 0, con_1133, [0, 1, 7])]
noncomputable def rf_2635 : List (Nat × List POP) := [(19, [(2, (2, 1, 2), 1, 0), (2, (2, 1, 2), 10, 0)]), (30, [(2, (1, 4, 0), 255, 0)]), (111, [(0, (0, 1, 0), 0, 25600000000)])]
noncomputable def gi_2741 : GI := jl_n [gp_808, jl_z 64]
noncomputable def ac_1407 : AC := .inl (12, jl_n [vp_55, vp_86, vp_154, jl_x (3, 0, 0), jl_x (3, 0, 0), jl_x (3, 0, 0), jl_8 49 4])
noncomputable def hq_969 : HP := [(true, ac_1407), (false, ac_461), (true, am_8), (true, am_6), (true, am_3), (true, am_3), (true, am_1), (false, am_0), (false, am_0), (false, am_0), (false, am_13), (false, am_14), (false, am_15)]
noncomputable def gi_2742 : GI := jl_n [gp_810, jl_z 64]
noncomputable def gi_2743 : GI := jl_n [gp_812, jl_z 64]
noncomputable def gi_2744 : GI := jl_n [gp_808, jl_z 66]
noncomputable def gi_2745 : GI := jl_n [gp_810, jl_z 66]
noncomputable def gi_2746 : GI := jl_n [gp_812, jl_z 66]
noncomputable def gi_2747 : GI := jl_n [gp_814, jl_z 46]
noncomputable def gi_2748 : GI := jl_n [gp_815, jl_z 46]
noncomputable def gi_2749 : GI := jl_n [gp_816, jl_z 46]
noncomputable def gi_2750 : GI := jl_n [gp_817, jl_z 46]
noncomputable def gi_2751 : GI := jl_n [gp_818, jl_z 46]
noncomputable def gi_2752 : GI := jl_n [gp_819, jl_z 46]
noncomputable def gi_2753 : GI := jl_n [gp_820, jl_z 46]
noncomputable def gi_2754 : GI := jl_n [gp_813, jl_i 1 43046721, jl_z 46]
noncomputable def gi_2755 : GI := jl_n [gp_822, jl_i 1 255, jl_i 0 100000000, gp_826]
noncomputable def ac_1408 : AC := .inl (12, jl_n [vp_153, jl_1 101 1, vp_155])
noncomputable def hq_970 : HP := [(true, ac_1408), (false, ac_461), (true, am_8), (true, am_6), (true, am_3), (true, am_3), (true, am_1), (true, am_0), (true, am_0), (true, am_0), (true, am_13), (true, am_14), (true, am_15)]
noncomputable def gi_2756 : GI := jl_n [gp_827, jl_i 1 255, jl_i 1 43046721, gp_829]
noncomputable def gi_2757 : GI := jl_n [gp_830, jl_i 1 255, jl_i 0 100000000, gp_831]
noncomputable def gi_2758 : GI := jl_n [gp_832, jl_z 23, gp_823, gp_825]
noncomputable def gi_2759 : GI := jl_n [gp_833, jl_z 23, gp_823, gp_828]
noncomputable def gi_2760 : GI := jl_n [gp_834, jl_z 23, gp_823, gp_805]
noncomputable def gi_2761 : GI := jl_n [gp_832, jl_i 0 10, gp_826]
noncomputable def gi_2762 : GI := jl_n [gp_833, jl_i 1 9, gp_829]
noncomputable def gi_2763 : GI := jl_n [gp_834, jl_i 0 10, gp_831]
noncomputable def gi_2764 : GI := jl_n [gp_832, jl_i 0 100, gp_826]
noncomputable def gi_2765 : GI := jl_n [gp_833, jl_i 1 81, gp_829]
noncomputable def gi_2766 : GI := jl_n [gp_834, jl_i 0 100, gp_831]
noncomputable def gi_2767 : GI := jl_n [gp_832, jl_i 0 1000, gp_826]
noncomputable def gi_2768 : GI := jl_n [gp_833, jl_i 1 729, gp_829]
noncomputable def gi_2769 : GI := jl_n [gp_834, jl_i 0 1000, gp_831]
noncomputable def gi_2770 : GI := jl_n [gp_832, jl_i 0 10000, gp_826]
noncomputable def gi_2771 : GI := jl_n [gp_833, jl_i 1 6561, gp_829]
noncomputable def gi_2772 : GI := jl_n [gp_834, jl_i 0 10000, gp_831]
noncomputable def gi_2773 : GI := jl_n [gp_832, jl_i 0 100000, gp_826]
noncomputable def gi_2774 : GI := jl_n [gp_833, jl_i 1 59049, gp_829]
noncomputable def gi_2775 : GI := jl_n [gp_834, jl_i 0 100000, gp_831]
noncomputable def gi_2776 : GI := jl_n [gp_832, jl_i 0 1000000, gp_826]
noncomputable def gi_2777 : GI := jl_n [gp_833, jl_i 1 531441, gp_829]
noncomputable def gi_2778 : GI := jl_n [gp_834, jl_i 0 1000000, gp_831]
noncomputable def gi_2779 : GI := jl_n [gp_832, jl_i 0 10000000, gp_826]
noncomputable def gi_2780 : GI := jl_n [gp_833, jl_i 1 4782969, gp_829]
noncomputable def gi_2781 : GI := jl_n [gp_834, jl_i 0 10000000, gp_831]
noncomputable def gi_2782 : GI := jl_n [gp_832, jl_i 0 100000000, gp_826]
noncomputable def gi_2783 : GI := jl_n [gp_833, jl_i 1 43046721, gp_829]
noncomputable def gi_2784 : GI := jl_n [gp_834, jl_i 0 100000000, gp_831]
noncomputable def gi_2785 : GI := jl_n [gp_835, gp_823, gp_825]
noncomputable def gi_2786 : GI := jl_n [gp_836, gp_823, gp_828]
noncomputable def gi_2787 : GI := jl_n [gp_837, gp_823, gp_805]
noncomputable def gi_2788 : GI := jl_n [gp_814, gp_829]
noncomputable def gi_2789 : GI := jl_n [gp_815, gp_829]
noncomputable def gi_2790 : GI := jl_n [gp_816, gp_829]
noncomputable def gi_2791 : GI := jl_n [gp_817, gp_829]
noncomputable def gi_2792 : GI := jl_n [gp_818, gp_829]
noncomputable def gi_2793 : GI := jl_n [gp_819, gp_829]
noncomputable def gi_2794 : GI := jl_n [gp_820, gp_829]
noncomputable def gi_2795 : GI := jl_n [gp_813, jl_i 1 43046721, gp_829]
noncomputable def gi_2796 : GI := jl_n [gp_838, jl_i 100000000 25700000000, gp_804]
noncomputable def ac_1409 : AC := .inl (12, jl_n [vp_153, jl_c 255, vp_155])
noncomputable def hq_971 : HP := [(true, ac_1409), (false, ac_461), (true, am_8), (true, am_6), (true, am_3), (true, am_3), (true, am_1), (true, am_0), (true, am_0), (true, am_0), (true, am_13), (true, am_14), (true, am_15)]
noncomputable def gi_2797 : GI := jl_n [gp_813, jl_i 1 43046721, jl_z 39, gp_828]
noncomputable def cu_2635_0 : List CUT2 := [((22, [lq 0 6 0, lq 1 1 1, lq 2 0 7, lq 3 1 3, lq 4 0 0], [], gi_2741, hq_969), [], ([], 2569)), ((22, [lq 0 6 0, lq 1 1 1, lq 2 0 7, lq 3 1 3, lq 4 0 0], [], gi_2742, hq_969), [], ([], 2569)), ((22, [lq 0 6 0, lq 1 1 1, lq 2 0 7, lq 3 1 3, lq 4 0 0], [], gi_2743, hq_969), [], ([], 2569)), ((36, [lq 0 6 0, lq 1 1 1, lq 2 0 7, lq 3 1 3, lq 4 0 0, lq 5 3 1, lq 7 0 0], [], gi_2744, hq_969), [], ([], 2568)), ((36, [lq 0 6 0, lq 1 1 1, lq 2 0 7, lq 3 1 3, lq 4 0 0, lq 5 3 1, lq 7 0 0], [], gi_2745, hq_969), [], ([], 2568)), ((36, [lq 0 6 0, lq 1 1 1, lq 2 0 7, lq 3 1 3, lq 4 0 0, lq 5 3 1, lq 7 0 0], [], gi_2746, hq_969), [], ([], 2568)), ((36, [lq 0 6 0, lq 1 1 1, lq 2 0 7, lq 3 1 3, lq 4 0 0, lq 5 3 0, lq 7 0 1], [], gi_2744, hq_969), [], ([], 2567)), ((36, [lq 0 6 0, lq 1 1 1, lq 2 0 7, lq 3 1 3, lq 4 0 0, lq 5 4 77, lq 7 0 1], [], gi_2747, hq_969), [], ([], 2567)), ((36, [lq 0 6 0, lq 1 1 1, lq 2 0 7, lq 3 1 3, lq 4 0 0, lq 5 3 10, lq 7 0 1], [], gi_2746, hq_969), [], ([], 2567)), ((36, [lq 0 6 0, lq 1 1 1, lq 2 0 7, lq 3 1 3, lq 4 0 0, lq 5 3 0, lq 7 0 2], [], gi_2744, hq_969), [], ([], 2566)), ((36, [lq 0 6 0, lq 1 1 1, lq 2 0 7, lq 3 1 3, lq 4 0 0, lq 5 4 77, lq 7 0 2], [], gi_2748, hq_969), [], ([], 2566)), ((36, [lq 0 6 0, lq 1 1 1, lq 2 0 7, lq 3 1 3, lq 4 0 0, lq 5 3 100, lq 7 0 2], [], gi_2746, hq_969), [], ([], 2566)), ((36, [lq 0 6 0, lq 1 1 1, lq 2 0 7, lq 3 1 3, lq 4 0 0, lq 5 3 0, lq 7 0 3], [], gi_2744, hq_969), [], ([], 2565)), ((36, [lq 0 6 0, lq 1 1 1, lq 2 0 7, lq 3 1 3, lq 4 0 0, lq 5 4 77, lq 7 0 3], [], gi_2749, hq_969), [], ([], 2565)), ((36, [lq 0 6 0, lq 1 1 1, lq 2 0 7, lq 3 1 3, lq 4 0 0, lq 5 3 1000, lq 7 0 3], [], gi_2746, hq_969), [], ([], 2565)), ((36, [lq 0 6 0, lq 1 1 1, lq 2 0 7, lq 3 1 3, lq 4 0 0, lq 5 3 0, lq 7 0 4], [], gi_2744, hq_969), [], ([], 2564)), ((36, [lq 0 6 0, lq 1 1 1, lq 2 0 7, lq 3 1 3, lq 4 0 0, lq 5 4 77, lq 7 0 4], [], gi_2750, hq_969), [], ([], 2564)), ((36, [lq 0 6 0, lq 1 1 1, lq 2 0 7, lq 3 1 3, lq 4 0 0, lq 5 3 10000, lq 7 0 4], [], gi_2746, hq_969), [], ([], 2564)), ((36, [lq 0 6 0, lq 1 1 1, lq 2 0 7, lq 3 1 3, lq 4 0 0, lq 5 3 0, lq 7 0 5], [], gi_2744, hq_969), [], ([], 2563)), ((36, [lq 0 6 0, lq 1 1 1, lq 2 0 7, lq 3 1 3, lq 4 0 0, lq 5 4 77, lq 7 0 5], [], gi_2751, hq_969), [], ([], 2563)), ((36, [lq 0 6 0, lq 1 1 1, lq 2 0 7, lq 3 1 3, lq 4 0 0, lq 5 3 100000, lq 7 0 5], [], gi_2746, hq_969), [], ([], 2563)), ((36, [lq 0 6 0, lq 1 1 1, lq 2 0 7, lq 3 1 3, lq 4 0 0, lq 5 3 0, lq 7 0 6], [], gi_2744, hq_969), [], ([], 2562)), ((36, [lq 0 6 0, lq 1 1 1, lq 2 0 7, lq 3 1 3, lq 4 0 0, lq 5 4 77, lq 7 0 6], [], gi_2752, hq_969), [], ([], 2562)), ((36, [lq 0 6 0, lq 1 1 1, lq 2 0 7, lq 3 1 3, lq 4 0 0, lq 5 3 1000000, lq 7 0 6], [], gi_2746, hq_969), [], ([], 2562)), ((36, [lq 0 6 0, lq 1 1 1, lq 2 0 7, lq 3 1 3, lq 4 0 0, lq 5 3 0, lq 7 0 7], [], gi_2744, hq_969), [], ([], 2561)), ((36, [lq 0 6 0, lq 1 1 1, lq 2 0 7, lq 3 1 3, lq 4 0 0, lq 5 4 77, lq 7 0 7], [], gi_2753, hq_969), [], ([], 2561)), ((36, [lq 0 6 0, lq 1 1 1, lq 2 0 7, lq 3 1 3, lq 4 0 0, lq 5 3 10000000, lq 7 0 7], [], gi_2746, hq_969), [], ([], 2561)), ((36, [lq 0 6 0, lq 1 1 1, lq 2 0 7, lq 3 1 3, lq 4 0 0, lq 5 3 0, lq 7 0 8], [], gi_2744, hq_969), [], ([], 2560)), ((36, [lq 0 6 0, lq 1 1 1, lq 2 0 7, lq 3 1 3, lq 4 0 0, lq 5 4 77, lq 7 0 8], [], gi_2754, hq_969), [], ([], 2560)), ((36, [lq 0 6 0, lq 1 1 1, lq 2 0 7, lq 3 1 3, lq 4 0 0, lq 5 3 100000000, lq 7 0 8], [], gi_2746, hq_969), [], ([], 2560)), ((22, [lq 0 6 0, lq 1 1 1, lq 2 0 7, lq 3 1 3, lq 4 1 76, lq 5 4 77, lq 7 0 8], [], gi_2755, hq_970), [([(76, 100000000), (117, (-1))], 0)], ([(76, (-10))], 2569)), ((22, [lq 0 6 0, lq 1 1 1, lq 2 0 7, lq 3 1 3, lq 4 1 76, lq 5 4 77, lq 7 0 8], [], gi_2756, hq_970), [([(76, 100000000), (117, (-1))], 0)], ([(76, (-10))], 2569)), ((22, [lq 0 6 0, lq 1 1 1, lq 2 0 7, lq 3 1 3, lq 4 1 76, lq 5 4 77, lq 7 0 8], [], gi_2757, hq_970), [([(76, 100000000), (117, (-1))], 0)], ([(76, (-10))], 2569)), ((36, [lq 0 6 0, lq 1 1 1, lq 2 0 7, lq 3 1 3, lq 4 1 76, lq 5 3 1, lq 7 0 0], [], gi_2758, hq_970), [([(76, 100000000), (117, (-1))], 0)], ([(76, (-10))], 2568)), ((36, [lq 0 6 0, lq 1 1 1, lq 2 0 7, lq 3 1 3, lq 4 1 76, lq 5 3 1, lq 7 0 0], [], gi_2759, hq_970), [([(76, 100000000), (117, (-1))], 0)], ([(76, (-10))], 2568)), ((36, [lq 0 6 0, lq 1 1 1, lq 2 0 7, lq 3 1 3, lq 4 1 76, lq 5 3 1, lq 7 0 0], [], gi_2760, hq_970), [([(76, 100000000), (117, (-1))], 0)], ([(76, (-10))], 2568))]
noncomputable def cu_2635_1 : List CUT2 := [((36, [lq 0 6 0, lq 1 1 1, lq 2 0 7, lq 3 1 3, lq 4 1 76, lq 5 4 77, lq 7 0 1], [], gi_2761, hq_970), [([(76, 100000000), (117, (-1))], 0)], ([(76, (-10))], 2567)), ((36, [lq 0 6 0, lq 1 1 1, lq 2 0 7, lq 3 1 3, lq 4 1 76, lq 5 4 77, lq 7 0 1], [], gi_2762, hq_970), [([(76, 100000000), (117, (-1))], 0)], ([(76, (-10))], 2567)), ((36, [lq 0 6 0, lq 1 1 1, lq 2 0 7, lq 3 1 3, lq 4 1 76, lq 5 4 77, lq 7 0 1], [], gi_2763, hq_970), [([(76, 100000000), (117, (-1))], 0)], ([(76, (-10))], 2567)), ((36, [lq 0 6 0, lq 1 1 1, lq 2 0 7, lq 3 1 3, lq 4 1 76, lq 5 4 77, lq 7 0 2], [], gi_2764, hq_970), [([(76, 100000000), (117, (-1))], 0)], ([(76, (-10))], 2566)), ((36, [lq 0 6 0, lq 1 1 1, lq 2 0 7, lq 3 1 3, lq 4 1 76, lq 5 4 77, lq 7 0 2], [], gi_2765, hq_970), [([(76, 100000000), (117, (-1))], 0)], ([(76, (-10))], 2566)), ((36, [lq 0 6 0, lq 1 1 1, lq 2 0 7, lq 3 1 3, lq 4 1 76, lq 5 4 77, lq 7 0 2], [], gi_2766, hq_970), [([(76, 100000000), (117, (-1))], 0)], ([(76, (-10))], 2566)), ((36, [lq 0 6 0, lq 1 1 1, lq 2 0 7, lq 3 1 3, lq 4 1 76, lq 5 4 77, lq 7 0 3], [], gi_2767, hq_970), [([(76, 100000000), (117, (-1))], 0)], ([(76, (-10))], 2565)), ((36, [lq 0 6 0, lq 1 1 1, lq 2 0 7, lq 3 1 3, lq 4 1 76, lq 5 4 77, lq 7 0 3], [], gi_2768, hq_970), [([(76, 100000000), (117, (-1))], 0)], ([(76, (-10))], 2565)), ((36, [lq 0 6 0, lq 1 1 1, lq 2 0 7, lq 3 1 3, lq 4 1 76, lq 5 4 77, lq 7 0 3], [], gi_2769, hq_970), [([(76, 100000000), (117, (-1))], 0)], ([(76, (-10))], 2565)), ((36, [lq 0 6 0, lq 1 1 1, lq 2 0 7, lq 3 1 3, lq 4 1 76, lq 5 4 77, lq 7 0 4], [], gi_2770, hq_970), [([(76, 100000000), (117, (-1))], 0)], ([(76, (-10))], 2564)), ((36, [lq 0 6 0, lq 1 1 1, lq 2 0 7, lq 3 1 3, lq 4 1 76, lq 5 4 77, lq 7 0 4], [], gi_2771, hq_970), [([(76, 100000000), (117, (-1))], 0)], ([(76, (-10))], 2564)), ((36, [lq 0 6 0, lq 1 1 1, lq 2 0 7, lq 3 1 3, lq 4 1 76, lq 5 4 77, lq 7 0 4], [], gi_2772, hq_970), [([(76, 100000000), (117, (-1))], 0)], ([(76, (-10))], 2564)), ((36, [lq 0 6 0, lq 1 1 1, lq 2 0 7, lq 3 1 3, lq 4 1 76, lq 5 4 77, lq 7 0 5], [], gi_2773, hq_970), [([(76, 100000000), (117, (-1))], 0)], ([(76, (-10))], 2563)), ((36, [lq 0 6 0, lq 1 1 1, lq 2 0 7, lq 3 1 3, lq 4 1 76, lq 5 4 77, lq 7 0 5], [], gi_2774, hq_970), [([(76, 100000000), (117, (-1))], 0)], ([(76, (-10))], 2563)), ((36, [lq 0 6 0, lq 1 1 1, lq 2 0 7, lq 3 1 3, lq 4 1 76, lq 5 4 77, lq 7 0 5], [], gi_2775, hq_970), [([(76, 100000000), (117, (-1))], 0)], ([(76, (-10))], 2563)), ((36, [lq 0 6 0, lq 1 1 1, lq 2 0 7, lq 3 1 3, lq 4 1 76, lq 5 4 77, lq 7 0 6], [], gi_2776, hq_970), [([(76, 100000000), (117, (-1))], 0)], ([(76, (-10))], 2562)), ((36, [lq 0 6 0, lq 1 1 1, lq 2 0 7, lq 3 1 3, lq 4 1 76, lq 5 4 77, lq 7 0 6], [], gi_2777, hq_970), [([(76, 100000000), (117, (-1))], 0)], ([(76, (-10))], 2562)), ((36, [lq 0 6 0, lq 1 1 1, lq 2 0 7, lq 3 1 3, lq 4 1 76, lq 5 4 77, lq 7 0 6], [], gi_2778, hq_970), [([(76, 100000000), (117, (-1))], 0)], ([(76, (-10))], 2562)), ((36, [lq 0 6 0, lq 1 1 1, lq 2 0 7, lq 3 1 3, lq 4 1 76, lq 5 4 77, lq 7 0 7], [], gi_2779, hq_970), [([(76, 100000000), (117, (-1))], 0)], ([(76, (-10))], 2561)), ((36, [lq 0 6 0, lq 1 1 1, lq 2 0 7, lq 3 1 3, lq 4 1 76, lq 5 4 77, lq 7 0 7], [], gi_2780, hq_970), [([(76, 100000000), (117, (-1))], 0)], ([(76, (-10))], 2561)), ((36, [lq 0 6 0, lq 1 1 1, lq 2 0 7, lq 3 1 3, lq 4 1 76, lq 5 4 77, lq 7 0 7], [], gi_2781, hq_970), [([(76, 100000000), (117, (-1))], 0)], ([(76, (-10))], 2561)), ((36, [lq 0 6 0, lq 1 1 1, lq 2 0 7, lq 3 1 3, lq 4 1 76, lq 5 4 77, lq 7 0 8], [], gi_2782, hq_970), [([(76, 100000000), (117, (-1))], 0)], ([(76, (-10))], 2560)), ((36, [lq 0 6 0, lq 1 1 1, lq 2 0 7, lq 3 1 3, lq 4 1 76, lq 5 4 77, lq 7 0 8], [], gi_2783, hq_970), [([(76, 100000000), (117, (-1))], 0)], ([(76, (-10))], 2560)), ((36, [lq 0 6 0, lq 1 1 1, lq 2 0 7, lq 3 1 3, lq 4 1 76, lq 5 4 77, lq 7 0 8], [], gi_2784, hq_970), [([(76, 100000000), (117, (-1))], 0)], ([(76, (-10))], 2560))]
noncomputable def cu_2635_2 : List CUT2 := [((36, [lq 0 6 0, lq 1 1 1, lq 2 0 7, lq 3 1 3, lq 4 0 255, lq 5 3 1, lq 7 0 0], [], gi_2785, hq_970), [([(117, (-1))], 25500000000)], ([], 18)), ((36, [lq 0 6 0, lq 1 1 1, lq 2 0 7, lq 3 1 3, lq 4 0 255, lq 5 3 1, lq 7 0 0], [], gi_2786, hq_970), [([(117, (-1))], 25500000000)], ([], 18)), ((36, [lq 0 6 0, lq 1 1 1, lq 2 0 7, lq 3 1 3, lq 4 0 255, lq 5 3 1, lq 7 0 0], [], gi_2787, hq_970), [([(117, (-1))], 25500000000)], ([], 18)), ((36, [lq 0 6 0, lq 1 1 1, lq 2 0 7, lq 3 1 3, lq 4 0 255, lq 5 3 10, lq 7 0 1], [], gi_2785, hq_970), [([(117, (-1))], 25500000000)], ([], 17)), ((36, [lq 0 6 0, lq 1 1 1, lq 2 0 7, lq 3 1 3, lq 4 0 255, lq 5 4 77, lq 7 0 1], [], gi_2788, hq_970), [([(117, (-1))], 25500000000)], ([], 17)), ((36, [lq 0 6 0, lq 1 1 1, lq 2 0 7, lq 3 1 3, lq 4 0 255, lq 5 3 0, lq 7 0 1], [], gi_2787, hq_970), [([(117, (-1))], 25500000000)], ([], 17)), ((36, [lq 0 6 0, lq 1 1 1, lq 2 0 7, lq 3 1 3, lq 4 0 255, lq 5 3 100, lq 7 0 2], [], gi_2785, hq_970), [([(117, (-1))], 25500000000)], ([], 16)), ((36, [lq 0 6 0, lq 1 1 1, lq 2 0 7, lq 3 1 3, lq 4 0 255, lq 5 4 77, lq 7 0 2], [], gi_2789, hq_970), [([(117, (-1))], 25500000000)], ([], 16)), ((36, [lq 0 6 0, lq 1 1 1, lq 2 0 7, lq 3 1 3, lq 4 0 255, lq 5 3 0, lq 7 0 2], [], gi_2787, hq_970), [([(117, (-1))], 25500000000)], ([], 16)), ((36, [lq 0 6 0, lq 1 1 1, lq 2 0 7, lq 3 1 3, lq 4 0 255, lq 5 3 1000, lq 7 0 3], [], gi_2785, hq_970), [([(117, (-1))], 25500000000)], ([], 15)), ((36, [lq 0 6 0, lq 1 1 1, lq 2 0 7, lq 3 1 3, lq 4 0 255, lq 5 4 77, lq 7 0 3], [], gi_2790, hq_970), [([(117, (-1))], 25500000000)], ([], 15)), ((36, [lq 0 6 0, lq 1 1 1, lq 2 0 7, lq 3 1 3, lq 4 0 255, lq 5 3 0, lq 7 0 3], [], gi_2787, hq_970), [([(117, (-1))], 25500000000)], ([], 15)), ((36, [lq 0 6 0, lq 1 1 1, lq 2 0 7, lq 3 1 3, lq 4 0 255, lq 5 3 10000, lq 7 0 4], [], gi_2785, hq_970), [([(117, (-1))], 25500000000)], ([], 14)), ((36, [lq 0 6 0, lq 1 1 1, lq 2 0 7, lq 3 1 3, lq 4 0 255, lq 5 4 77, lq 7 0 4], [], gi_2791, hq_970), [([(117, (-1))], 25500000000)], ([], 14)), ((36, [lq 0 6 0, lq 1 1 1, lq 2 0 7, lq 3 1 3, lq 4 0 255, lq 5 3 0, lq 7 0 4], [], gi_2787, hq_970), [([(117, (-1))], 25500000000)], ([], 14)), ((36, [lq 0 6 0, lq 1 1 1, lq 2 0 7, lq 3 1 3, lq 4 0 255, lq 5 3 100000, lq 7 0 5], [], gi_2785, hq_970), [([(117, (-1))], 25500000000)], ([], 13)), ((36, [lq 0 6 0, lq 1 1 1, lq 2 0 7, lq 3 1 3, lq 4 0 255, lq 5 4 77, lq 7 0 5], [], gi_2792, hq_970), [([(117, (-1))], 25500000000)], ([], 13)), ((36, [lq 0 6 0, lq 1 1 1, lq 2 0 7, lq 3 1 3, lq 4 0 255, lq 5 3 0, lq 7 0 5], [], gi_2787, hq_970), [([(117, (-1))], 25500000000)], ([], 13)), ((36, [lq 0 6 0, lq 1 1 1, lq 2 0 7, lq 3 1 3, lq 4 0 255, lq 5 3 1000000, lq 7 0 6], [], gi_2785, hq_970), [([(117, (-1))], 25500000000)], ([], 12)), ((36, [lq 0 6 0, lq 1 1 1, lq 2 0 7, lq 3 1 3, lq 4 0 255, lq 5 4 77, lq 7 0 6], [], gi_2793, hq_970), [([(117, (-1))], 25500000000)], ([], 12)), ((36, [lq 0 6 0, lq 1 1 1, lq 2 0 7, lq 3 1 3, lq 4 0 255, lq 5 3 0, lq 7 0 6], [], gi_2787, hq_970), [([(117, (-1))], 25500000000)], ([], 12)), ((36, [lq 0 6 0, lq 1 1 1, lq 2 0 7, lq 3 1 3, lq 4 0 255, lq 5 3 10000000, lq 7 0 7], [], gi_2785, hq_970), [([(117, (-1))], 25500000000)], ([], 11)), ((36, [lq 0 6 0, lq 1 1 1, lq 2 0 7, lq 3 1 3, lq 4 0 255, lq 5 4 77, lq 7 0 7], [], gi_2794, hq_970), [([(117, (-1))], 25500000000)], ([], 11)), ((36, [lq 0 6 0, lq 1 1 1, lq 2 0 7, lq 3 1 3, lq 4 0 255, lq 5 3 0, lq 7 0 7], [], gi_2787, hq_970), [([(117, (-1))], 25500000000)], ([], 11)), ((36, [lq 0 6 0, lq 1 1 1, lq 2 0 7, lq 3 1 3, lq 4 0 255, lq 5 3 100000000, lq 7 0 8], [], gi_2785, hq_970), [([(117, (-1))], 25500000000)], ([], 10)), ((36, [lq 0 6 0, lq 1 1 1, lq 2 0 7, lq 3 1 3, lq 4 0 255, lq 5 4 77, lq 7 0 8], [], gi_2795, hq_970), [([(117, (-1))], 25500000000)], ([], 10)), ((36, [lq 0 6 0, lq 1 1 1, lq 2 0 7, lq 3 1 3, lq 4 0 255, lq 5 3 0, lq 7 0 8], [], gi_2787, hq_970), [([(117, (-1))], 25500000000)], ([], 10)), ((22, [lq 0 6 0, lq 1 1 1, lq 2 0 7, lq 3 1 3, lq 4 0 256, lq 5 3 100000000, lq 7 0 8], [], gi_2796, hq_971), [([(117, (-1))], 25600000000)], ([], 9)), ((22, [lq 0 6 0, lq 1 1 1, lq 2 0 7, lq 3 1 3, lq 4 0 256, lq 5 4 77, lq 7 0 8], [], gi_2797, hq_971), [([(117, (-1))], 25600000000)], ([], 9)), ((22, [lq 0 6 0, lq 1 1 1, lq 2 0 7, lq 3 1 3, lq 4 0 256, lq 5 3 0, lq 7 0 8], [], gi_2787, hq_970), [([(117, (-1))], 25600000000)], ([], 9))]
noncomputable def cu_2635 : List CUT2 := cu_2635_0 ++ (cu_2635_1 ++ (cu_2635_2))
theorem ch_2635 : staG tb_X12_layWinds 2 bt_RX12 [] ct_2635 rf_2635 [111] cu_2635 54 con_2635 = true := by decide +kernel
theorem cc_2635_0 : cu_2635_0.all (cutG tb_X12_layWinds 2 bt_RX12 [] ct_2635 rf_2635 [111] cu_2635 54 con_2635) = true := by decide +kernel
theorem cc_2635_1 : cu_2635_1.all (cutG tb_X12_layWinds 2 bt_RX12 [] ct_2635 rf_2635 [111] cu_2635 54 con_2635) = true := by decide +kernel
theorem cc_2635_2 : cu_2635_2.all (cutG tb_X12_layWinds 2 bt_RX12 [] ct_2635 rf_2635 [111] cu_2635 54 con_2635) = true := by decide +kernel
theorem cto_2635 (l : Launch) : CTOK2 l RX12 vwCl gTbl ct_2635 := ct2_cons (vl_905 l) ck_RX12_345_905 (ct2_cons (vl_2634 l) ck_RX12_199_2634 (ct2_cons (vl_2633 l) ck_RX12_199_2633 (ct2_cons (vl_2632 l) ck_RX12_199_2632 (ct2_cons (vl_2631 l) ck_RX12_199_2631 (ct2_cons (vl_2630 l) ck_RX12_199_2630 (ct2_cons (vl_2629 l) ck_RX12_199_2629 (ct2_cons (vl_2628 l) ck_RX12_199_2628 (ct2_cons (vl_2627 l) ck_RX12_199_2627 (ct2_cons (vl_2623 l) ck_RX12_199_2623 (ct2_cons (vl_2622 l) ck_RX12_199_2622 (ct2_cons (vl_2621 l) ck_RX12_199_2621 (ct2_cons (vl_383 l) ck_RX12_199_383 (ct2_cons (vl_386 l) ck_RX12_199_386 (ct2_cons (vl_387 l) ck_RX12_199_387 (ct2_cons (vl_388 l) ck_RX12_199_388 (ct2_cons (vl_389 l) ck_RX12_199_389 (ct2_cons (vl_390 l) ck_RX12_199_390 (ct2_cons (vl_1108 l) ck_RX12_363_1108 (ct2_cons (vl_1133 l) ck_RX12_375_1133 (ct2_nil))))))))))))))))))))
theorem vl_2635 (l : Launch) : Vld2 l vwCl gTbl con_2635 := conR_ok3 gT_all (hd_2635) rfl pn_RX12 tk_X12_layWinds bo_RX12 xo_RX12 (cto_2635 l) ch_2635 (cut_app (cut_all cc_2635_0) (cut_app (cut_all cc_2635_1) (cut_all cc_2635_2)))
/-- RookHustingModel divisor -/
noncomputable def gi_2798 : GI := jl_n [gp_839]
noncomputable def gi_2799 : GI := jl_n [gp_839, jl_k 9223372036854775805 0]
noncomputable def gi_2800 : GI := jl_n [jl_u, jl_r 2 (jl_i 1 9223372036854775807)]
noncomputable def con_2636 : Con2 := ((yX12_divisor, cX12_divisor, 10, (some .long)), (1, 13), ([(4, 0, 0), (4, 1, 0)], gi_2798, [], []), [((4, 2, 0), gi_2799, [], [], [4]), ((4, 2, 0), gi_2800, [], [], [4])])
theorem hd_2636 : con_2636.1 = (yX12_divisor, cX12_divisor, 10, (some .long)) := rfl
noncomputable def gi_2801 : GI := jl_n [gp_840, gp_129]
noncomputable def gi_2802 : GI := jl_n [gp_840, jl_i 1 9223372036854775807, jl_r 2 (jl_i 0 9223372036854775806)]
noncomputable def gi_2803 : GI := jl_n [gp_840, jl_i 1 9223372036854775807, jl_r 2 (jl_m 9223372036854775805 0)]
noncomputable def gi_2804 : GI := jl_n [gp_840, jl_k 9223372036854775805 0, jl_r 2 (jl_i 0 9223372036854775805)]
noncomputable def cu_2636 : List CUT2 := [((9, [lq 0 4 0, lq 2 4 1, lq 4 4 4, lq 6 4 1], [], gi_2801, []), [], ([(1, 1)], 0)), ((9, [lq 0 4 0, lq 2 4 1, lq 4 4 4, lq 6 4 5, lq 8 4 6], [], gi_2802, []), [], ([(5, 1)], 0)), ((9, [lq 0 4 0, lq 2 4 1, lq 4 4 4, lq 6 4 5, lq 8 4 6], [], gi_2803, []), [], ([(5, (-1))], 0)), ((9, [lq 0 4 0, lq 2 4 1, lq 4 4 4, lq 6 4 5, lq 8 4 6], [], gi_2804, []), [], ([(5, 1)], 0))]
theorem ch_2636 : staG tb_X12_divisor 1 bt_RX12 [] ct_2 [(16, [(2, (1, 4, 0), 0, 0)])] [20] cu_2636 15 con_2636 = true := by decide +kernel
theorem cc_2636 : cu_2636.all (cutG tb_X12_divisor 1 bt_RX12 [] ct_2 [(16, [(2, (1, 4, 0), 0, 0)])] [20] cu_2636 15 con_2636) = true := by decide +kernel
theorem vl_2636 (l : Launch) : Vld2 l vwCl gTbl con_2636 := conR_ok3 gT_all (hd_2636) rfl pn_RX12 tk_X12_divisor bo_RX12 xo_RX12 (cto_2 l) ch_2636 (cut_all cc_2636)
/-- RookHustingModel part -/
noncomputable def gi_2805 : GI := jl_n [gp_839, jl_i 0 1]
noncomputable def gi_2806 : GI := jl_n [gp_839, jl_i 0 1, jl_u]
noncomputable def con_2637 : Con2 := ((yX12_part, cX12_part, 5, (some .long)), (2, 42), ([(4, 0, 0), (4, 1, 0), (1, 2, 0)], gi_2805, [], []), [((4, 3, 0), gi_2806, [], [], [4])])
theorem hd_2637 : con_2637.1 = (yX12_part, cX12_part, 5, (some .long)) := rfl
theorem ck_RX12_312_2636 : COK2 RX12 vwCl gTbl 312 1 con_2636 := ⟨wd_1810, wd_137, mh_X12_divisor, .inl ⟨rfl, wd_1808, wd_1809, pd_X12_divisor⟩⟩
noncomputable def ct_2637 : CTB2 := [(12, 312, 1, con_2636, [])]
noncomputable def cu_2637 : List CUT2 := []
theorem ch_2637 : staG tb_X12_part 1 bt_RX12 [] ct_2637 [] [] cu_2637 11 con_2637 = true := by decide +kernel
theorem cto_2637 (l : Launch) : CTOK2 l RX12 vwCl gTbl ct_2637 := ct2_cons (vl_2636 l) ck_RX12_312_2636 (ct2_nil)
theorem vl_2637 (l : Launch) : Vld2 l vwCl gTbl con_2637 := conR_ok3 gT_all (hd_2637) rfl pn_RX12 tk_X12_part bo_RX12 xo_RX12 (cto_2637 l) ch_2637 cut_nil
/-- RookHustingModel bit -/
noncomputable def con_2638 : Con2 := ((yX12_bit, cX12_bit, 2, (some .int)), (0, 0), ([(0, 127, 0), (0, 0, 0)], [(0, 0), (0, 0)], [], []), [((0, 1, 0), [(0, 0), (0, 0), (0, 0)], [], [], [1])])
theorem hd_2638 : con_2638.1 = (yX12_bit, cX12_bit, 2, (some .int)) := rfl
noncomputable def cu_2638 : List CUT2 := []
theorem ch_2638 : staG tb_X12_bit 1 bt_RX12 [] ct_2 [] [] cu_2638 8 con_2638 = true := by decide +kernel
theorem vl_2638 (l : Launch) : Vld2 l vwCl gTbl con_2638 := conR_ok3 gT_all (hd_2638) rfl pn_RX12 tk_X12_bit bo_RX12 xo_RX12 (cto_2 l) ch_2638 cut_nil
/-- RookHustingModel bit -/
noncomputable def con_2639 : Con2 := ((yX12_bit, cX12_bit, 2, (some .int)), (0, 0), ([(0, 127, 0), (0, 1, 0)], [(0, 0), (0, 0)], [], []), [((0, 1, 0), [(0, 0), (0, 0), (0, 0)], [], [], [1])])
theorem hd_2639 : con_2639.1 = (yX12_bit, cX12_bit, 2, (some .int)) := rfl
noncomputable def cu_2639 : List CUT2 := []
theorem ch_2639 : staG tb_X12_bit 1 bt_RX12 [] ct_2 [] [] cu_2639 8 con_2639 = true := by decide +kernel
theorem vl_2639 (l : Launch) : Vld2 l vwCl gTbl con_2639 := conR_ok3 gT_all (hd_2639) rfl pn_RX12 tk_X12_bit bo_RX12 xo_RX12 (cto_2 l) ch_2639 cut_nil
/-- RookHustingModel bit -/
noncomputable def con_2640 : Con2 := ((yX12_bit, cX12_bit, 2, (some .int)), (0, 0), ([(0, 127, 0), (0, 2, 0)], [(0, 0), (0, 0)], [], []), [((0, 1, 0), [(0, 0), (0, 0), (0, 0)], [], [], [1])])
theorem hd_2640 : con_2640.1 = (yX12_bit, cX12_bit, 2, (some .int)) := rfl
noncomputable def cu_2640 : List CUT2 := []
theorem ch_2640 : staG tb_X12_bit 1 bt_RX12 [] ct_2 [] [] cu_2640 8 con_2640 = true := by decide +kernel
theorem vl_2640 (l : Launch) : Vld2 l vwCl gTbl con_2640 := conR_ok3 gT_all (hd_2640) rfl pn_RX12 tk_X12_bit bo_RX12 xo_RX12 (cto_2 l) ch_2640 cut_nil
/-- RookHustingModel bit -/
noncomputable def con_2641 : Con2 := ((yX12_bit, cX12_bit, 2, (some .int)), (0, 0), ([(0, 127, 0), (0, 3, 0)], [(0, 0), (0, 0)], [], []), [((0, 1, 0), [(0, 0), (0, 0), (0, 0)], [], [], [1])])
theorem hd_2641 : con_2641.1 = (yX12_bit, cX12_bit, 2, (some .int)) := rfl
noncomputable def cu_2641 : List CUT2 := []
theorem ch_2641 : staG tb_X12_bit 1 bt_RX12 [] ct_2 [] [] cu_2641 8 con_2641 = true := by decide +kernel
theorem vl_2641 (l : Launch) : Vld2 l vwCl gTbl con_2641 := conR_ok3 gT_all (hd_2641) rfl pn_RX12 tk_X12_bit bo_RX12 xo_RX12 (cto_2 l) ch_2641 cut_nil
/-- RookHustingModel bit -/
noncomputable def con_2642 : Con2 := ((yX12_bit, cX12_bit, 2, (some .int)), (0, 0), ([(0, 127, 0), (0, 4, 0)], [(0, 0), (0, 0)], [], []), [((0, 1, 0), [(0, 0), (0, 0), (0, 0)], [], [], [1])])
theorem hd_2642 : con_2642.1 = (yX12_bit, cX12_bit, 2, (some .int)) := rfl
noncomputable def cu_2642 : List CUT2 := []
theorem ch_2642 : staG tb_X12_bit 1 bt_RX12 [] ct_2 [] [] cu_2642 8 con_2642 = true := by decide +kernel
theorem vl_2642 (l : Launch) : Vld2 l vwCl gTbl con_2642 := conR_ok3 gT_all (hd_2642) rfl pn_RX12 tk_X12_bit bo_RX12 xo_RX12 (cto_2 l) ch_2642 cut_nil
/-- RookHustingModel bit -/
noncomputable def con_2643 : Con2 := ((yX12_bit, cX12_bit, 2, (some .int)), (0, 0), ([(0, 127, 0), (0, 5, 0)], [(0, 0), (0, 0)], [], []), [((0, 1, 0), [(0, 0), (0, 0), (0, 0)], [], [], [1])])
theorem hd_2643 : con_2643.1 = (yX12_bit, cX12_bit, 2, (some .int)) := rfl
noncomputable def cu_2643 : List CUT2 := []
theorem ch_2643 : staG tb_X12_bit 1 bt_RX12 [] ct_2 [] [] cu_2643 8 con_2643 = true := by decide +kernel
theorem vl_2643 (l : Launch) : Vld2 l vwCl gTbl con_2643 := conR_ok3 gT_all (hd_2643) rfl pn_RX12 tk_X12_bit bo_RX12 xo_RX12 (cto_2 l) ch_2643 cut_nil
/-- RookHustingModel bit -/
noncomputable def con_2644 : Con2 := ((yX12_bit, cX12_bit, 2, (some .int)), (0, 0), ([(0, 127, 0), (0, 6, 0)], [(0, 0), (0, 0)], [], []), [((0, 1, 0), [(0, 0), (0, 0), (0, 0)], [], [], [1])])
theorem hd_2644 : con_2644.1 = (yX12_bit, cX12_bit, 2, (some .int)) := rfl
noncomputable def cu_2644 : List CUT2 := []
theorem ch_2644 : staG tb_X12_bit 1 bt_RX12 [] ct_2 [] [] cu_2644 8 con_2644 = true := by decide +kernel
theorem vl_2644 (l : Launch) : Vld2 l vwCl gTbl con_2644 := conR_ok3 gT_all (hd_2644) rfl pn_RX12 tk_X12_bit bo_RX12 xo_RX12 (cto_2 l) ch_2644 cut_nil
