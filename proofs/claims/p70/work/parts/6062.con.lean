/-! ===== contracts, 62 ===== -/
/-- RookHustingModel leaves -/
noncomputable def gi_2702 : GI := jl_n [gp_163, gp_777, gp_727, jl_r 240 (jl_u), jl_m 5 16, gp_777]
noncomputable def con_2796 : Con2 := ((yX12_leaves, cX12_leaves, 4, (some .int)), (9, 213), ([(6, 0, 0), (1, 1, 0), (1, 2, 0)], gi_2699, hc_234, []), [((1, 315, 0), gi_2702, hq_955, [], tg_1)])
theorem hd_2796 : con_2796.1 = (yX12_leaves, cX12_leaves, 4, (some .int)) := rfl
noncomputable def ct_2796 : CTB2 := [(3, 432, 0, con_2173, [0, 1, 2, 3, 4, 5, 6, 7, 8, 9, 10, 11, 12, 13, 14, 15]), (3, 432, 0, con_2325, [0, 1, 2, 3, 4, 5, 6, 7, 8, 9, 10, 11, 12, 13, 14, 15]), (3, 432, 0, con_2469, [0, 1, 2, 3, 4, 5, 6, 7, 8, 9, 10, 11, 12, 13, 14, 15]), (3, 432, 0, con_2613, [0, 1, 2, 3, 4, 5, 6, 7, 8, 9, 10, 11, 12, 13, 14, 15]), (3, 432, 0, con_2757, [0, 1, 2, 3, 4, 5, 6, 7, 8, 9, 10, 11, 12, 13, 14, 15]), (3, 432, 0, con_2760, [0, 1, 2, 3, 4, 5, 6, 7, 8, 9, 10, 11, 12, 13, 14, 15]), (14, 441, 0, con_2793, [0, 1, 15])]
noncomputable def rf_2796 : List (Nat × List POP) := [(0, [(2, (1, 1, 0), 0, 0), (2, (1, 1, 0), 1, 0), (2, (1, 1, 0), 2, 0), (2, (1, 1, 0), 3, 0), (2, (1, 1, 0), 4, 0)])]
noncomputable def cu_2796 : List CUT2 := []
theorem ch_2796 : staG tb_X12_leaves 1 bt_RX12 [] ct_2796 rf_2796 [] cu_2796 15 con_2796 = true := by decide +kernel
theorem cto_2796 (l : Launch) : CTOK2 l RX12 vwCl gTbl ct_2796 := ct2_cons (vl_2173 l) ck_RX12_432_2173 (ct2_cons (vl_2325 l) ck_RX12_432_2325 (ct2_cons (vl_2469 l) ck_RX12_432_2469 (ct2_cons (vl_2613 l) ck_RX12_432_2613 (ct2_cons (vl_2757 l) ck_RX12_432_2757 (ct2_cons (vl_2760 l) ck_RX12_432_2760 (ct2_cons (vl_2793 l) ck_RX12_441_2793 (ct2_nil)))))))
theorem vl_2796 (l : Launch) : Vld2 l vwCl gTbl con_2796 := conR_ok3 gT_all (hd_2796) rfl pn_RX12 tk_X12_leaves bo_RX12 xo_RX12 (cto_2796 l) ch_2796 cut_nil
/-- RookHusting gainOf -/
noncomputable def gi_2703 : GI := jl_n [gp_778, gp_418, gp_254, gp_410]
noncomputable def ac_1370 : AC := .inl (11, jl_n [jl_8 7 2, jl_6 2 1, jl_8 11 3, jl_6 5 1, jl_6 4 1, jl_8 14 1, jl_6 12 1, jl_8 21 6])
noncomputable def ac_1371 : AC := .inl (4, jl_n [vp_62, jl_8 27 2, jl_1 28 1, jl_8 31 3, jl_6 15 1, jl_6 13 1, jl_8 34 1, jl_6 20 2, jl_8 40 4])
noncomputable def ac_1372 : AC := .inl (3, jl_n [jl_6 18 1, vp_10, jl_6 23 3, jl_6 17 1, jl_1 57 2])
noncomputable def hc_235 : List AC := [ac_1370, .inl (9, [(6, 2, 0), (8, 22, 0)]), ac_1371, .inl (7, [(6, 5, 0), (6, 7, 0), (6, 9, 0), (1, 43, 0)]), .inl (7, [(6, 6, 0), (6, 8, 0), (6, 10, 0), (1, 47, 0)]), am_7, am_7, am_1, am_1, am_1, am_1, ac_1372, am_2, am_0, am_10, am_0, am_1, am_0, am_2, am_9, am_0, am_0, am_12]
noncomputable def gi_2704 : GI := jl_n [gp_778, gp_418, gp_254, gp_410, jl_t, gp_385]
noncomputable def ac_1373 : AC := .inl (3, jl_n [jl_6 18 1, vp_10, jl_6 23 3, jl_6 17 1, jl_1 70 1, jl_1 25 1])
noncomputable def hq_956 : HP := [(false, ac_1370), (false, .inl (9, [(6, 2, 0), (8, 22, 0)])), (false, ac_1371), (true, .inl (7, [(6, 5, 0), (6, 7, 0), (6, 9, 0), (1, 47, 0)])), (false, .inl (7, [(6, 6, 0), (6, 8, 0), (6, 10, 0), (1, 47, 0)])), (true, am_7), (false, am_7), (true, am_1), (false, am_1), (true, am_1), (false, am_1), (true, ac_1373), (false, am_2), (true, am_0), (false, am_10), (true, am_0), (true, am_1), (true, am_0), (false, am_2), (false, am_9), (true, am_0), (true, am_0), (true, am_12)]
noncomputable def con_2802 : Con2 := ((yX11_gainOf, cX11_gainOf, 6, (some .int)), (3, 74), ([(6, 0, 0), (1, 1, 0), (1, 2, 0), (1, 3, 0), (1, 4, 0)], gi_2703, hc_235, []), [((1, 57, 0), gi_2704, hq_956, [], tg_19)])
theorem hd_2802 : con_2802.1 = (yX11_gainOf, cX11_gainOf, 6, (some .int)) := rfl
noncomputable def ct_2802 : CTB2 := [(24, 332, 0, con_1456, [3, 4, 5, 6, 7, 8, 9, 10]), (91, 372, 0, con_928, [11, 2, 3, 12, 13, 14, 15, 7, 16, 5, 17, 18, 19, 20, 21, 22, 9])]
noncomputable def cu_2802 : List CUT2 := []
theorem ch_2802 : staG tb_X11_gainOf 1 bt_RX11 [] ct_2802 [] [] cu_2802 69 con_2802 = true := by decide +kernel
theorem cto_2802 (l : Launch) : CTOK2 l RX11 vwCl gTbl ct_2802 := ct2_cons (vl_1456 l) ck_RX11_332_1456 (ct2_cons (vl_928 l) ck_RX11_372_928 (ct2_nil))
theorem vl_2802 (l : Launch) : Vld2 l vwCl gTbl con_2802 := conR_ok3 gT_all (hd_2802) rfl pn_RX11 tk_X11_gainOf bo_RX11 xo_RX11 (cto_2802 l) ch_2802 cut_nil
/-- RookHusting rests -/
noncomputable def gi_2705 : GI := jl_n [gp_363, gp_779]
noncomputable def ac_1374 : AC := .inl (11, jl_n [vp_56, vp_150, jl_8 16 3, vp_100])
noncomputable def ac_1375 : AC := .inl (4, jl_n [vp_121, vp_74, jl_8 37 2, jl_6 10 1])
noncomputable def ac_1376 : AC := .inl (3, jl_n [vp_140, jl_1 130 2])
noncomputable def hc_236 : List AC := [ac_1374, .inl (9, [(6, 2, 0), (6, 11, 0)]), ac_1375, .inl (7, [(6, 4, 0), (6, 5, 0), (6, 6, 0), (1, 41, 0)]), am_7, am_1, am_1, am_1, .inl (1, [(6, 2, 0), (8, 43, 0)]), am_4, am_6, .inl (0, [(1, 44, 0), (6, 12, 0), (6, 13, 0), (6, 14, 0)]), ac_642, am_11, ac_643, ac_1059, am_2, am_0, am_10, am_0, am_1, am_0, am_2, am_9, am_0, am_0, am_12, .inl (7, [(6, 28, 0), (6, 29, 0), (6, 30, 0), (1, 120, 0)]), am_7, am_1, am_1, ac_1376, am_0, am_0, am_1, am_0, am_0, am_0, am_12]
noncomputable def gi_2706 : GI := jl_n [gp_363, gp_779, gp_780]
noncomputable def ac_1377 : AC := .inl (11, jl_n [vp_56, vp_150, jl_8 16 3, jl_1 145 1, jl_8 19 2])
noncomputable def ac_1378 : AC := .inl (3, jl_n [vp_77, jl_1 160 2])
noncomputable def ac_1379 : AC := .inl (3, jl_n [vp_140, jl_1 173 2])
noncomputable def hq_957 : HP := [(true, ac_1377), (false, .inl (9, [(6, 2, 0), (6, 11, 0)])), (false, ac_1375), (true, .inl (7, [(6, 4, 0), (6, 5, 0), (6, 6, 0), (1, 150, 0)])), (true, am_7), (true, am_1), (true, am_1), (false, am_1), (false, .inl (1, [(6, 2, 0), (8, 43, 0)])), (false, am_4), (false, am_6), (false, .inl (0, [(1, 44, 0), (6, 12, 0), (6, 13, 0), (6, 14, 0)])), (false, ac_642), (false, am_11), (false, ac_643), (true, ac_1378), (false, am_2), (true, am_0), (false, am_10), (true, am_0), (true, am_1), (true, am_0), (false, am_2), (false, am_9), (true, am_0), (true, am_0), (true, am_12), (true, .inl (7, [(6, 28, 0), (6, 29, 0), (6, 30, 0), (1, 163, 0)])), (true, am_7), (true, am_1), (true, am_1), (true, ac_1379), (true, am_0), (true, am_0), (true, am_1), (true, am_0), (true, am_0), (true, am_0), (true, am_12)]
noncomputable def con_2803 : Con2 := ((yX11_rests, cX11_rests, 8, (some .int)), (6, 151), ([(6, 0, 0), (1, 1, 0), (1, 2, 0)], gi_2705, hc_236, rq_6), [((1, 130, 0), gi_2706, hq_957, [], tg_20)])
theorem hd_2803 : con_2803.1 = (yX11_rests, cX11_rests, 8, (some .int)) := rfl
theorem ck_RX11_360_2802 : COK2 RX11 vwCl gTbl 360 0 con_2802 := ⟨wd_1266, wd_125, mh_X11_gainOf, .inr (.inr ⟨rfl, wd_1263, wd_1265, wd_46, ⟨_, rfl, pd_X11_gainOf⟩, 11, _, TX11, 16, rfl, rfl⟩)⟩
noncomputable def ct_2803 : CTB2 := [(2, 139, 0, con_647, [0, 1, 2]), (10, 139, 0, con_647, [0, 1, 2]), (25, 208, 0, con_929, [0, 1, 3, 2, 4, 5, 6, 7, 8, 9, 10, 11, 12, 13, 14, 15, 16, 17, 18, 19, 20, 21, 22, 23, 24, 25, 26]), (55, 360, 0, con_2802, [0, 1, 2, 27, 3, 28, 4, 29, 5, 30, 6, 31, 16, 32, 18, 33, 34, 35, 22, 23, 36, 37, 38]), (67, 360, 0, con_2802, [0, 1, 2, 27, 3, 28, 4, 29, 5, 30, 6, 31, 16, 32, 18, 33, 34, 35, 22, 23, 36, 37, 38]), (87, 360, 0, con_2802, [0, 1, 2, 27, 3, 28, 4, 29, 5, 30, 6, 31, 16, 32, 18, 33, 34, 35, 22, 23, 36, 37, 38]), (99, 360, 0, con_2802, [0, 1, 2, 27, 3, 28, 4, 29, 5, 30, 6, 31, 16, 32, 18, 33, 34, 35, 22, 23, 36, 37, 38])]
noncomputable def gi_2707 : GI := jl_n [gp_290, gp_269, gp_711, gp_273, gp_410, gp_768, jl_i 0 2, gp_781]
noncomputable def ac_1380 : AC := .inl (11, jl_n [vp_56, vp_150, jl_8 16 3, jl_c 1, jl_8 19 2])
noncomputable def ac_1381 : AC := .inl (3, jl_n [vp_77, jl_1 164 2])
noncomputable def ac_1382 : AC := .inl (3, jl_n [vp_140, jl_1 177 2])
noncomputable def hq_958 : HP := [(true, ac_1380), (false, .inl (9, [(6, 2, 0), (6, 11, 0)])), (false, ac_1375), (true, .inl (7, [(6, 4, 0), (6, 5, 0), (6, 6, 0), (1, 154, 0)])), (true, am_7), (true, am_1), (true, am_1), (false, am_1), (false, .inl (1, [(6, 2, 0), (8, 43, 0)])), (false, am_4), (false, am_6), (false, .inl (0, [(1, 44, 0), (6, 12, 0), (6, 13, 0), (6, 14, 0)])), (false, ac_642), (false, am_11), (false, ac_643), (true, ac_1381), (false, am_2), (true, am_0), (false, am_10), (true, am_0), (true, am_1), (true, am_0), (false, am_2), (false, am_9), (true, am_0), (true, am_0), (true, am_12), (true, .inl (7, [(6, 28, 0), (6, 29, 0), (6, 30, 0), (1, 167, 0)])), (true, am_7), (true, am_1), (true, am_1), (true, ac_1382), (true, am_0), (true, am_0), (true, am_1), (true, am_0), (true, am_0), (true, am_0), (true, am_12)]
noncomputable def gi_2708 : GI := jl_n [gp_290, gp_269, gp_711, gp_273, gp_410, gp_768, jl_i 0 1, jl_i 0 2, gp_781]
noncomputable def ac_1383 : AC := .inl (3, jl_n [vp_77, jl_1 165 2])
noncomputable def ac_1384 : AC := .inl (3, jl_n [vp_140, jl_1 178 2])
noncomputable def hq_959 : HP := [(true, ac_1380), (false, .inl (9, [(6, 2, 0), (6, 11, 0)])), (false, ac_1375), (true, .inl (7, [(6, 4, 0), (6, 5, 0), (6, 6, 0), (1, 155, 0)])), (true, am_7), (true, am_1), (true, am_1), (false, am_1), (false, .inl (1, [(6, 2, 0), (8, 43, 0)])), (false, am_4), (false, am_6), (false, .inl (0, [(1, 44, 0), (6, 12, 0), (6, 13, 0), (6, 14, 0)])), (false, ac_642), (false, am_11), (false, ac_643), (true, ac_1383), (false, am_2), (true, am_0), (false, am_10), (true, am_0), (true, am_1), (true, am_0), (false, am_2), (false, am_9), (true, am_0), (true, am_0), (true, am_12), (true, .inl (7, [(6, 28, 0), (6, 29, 0), (6, 30, 0), (1, 168, 0)])), (true, am_7), (true, am_1), (true, am_1), (true, ac_1384), (true, am_0), (true, am_0), (true, am_1), (true, am_0), (true, am_0), (true, am_0), (true, am_12)]
noncomputable def cu_2803 : List CUT2 := [((33, [lq 0 6 0, lq 1 1 1, lq 2 1 2, lq 3 1 133, lq 4 1 134], [], gi_2707, hq_958), rq_6, ([(134, (-4))], 11)), ((42, [lq 0 6 0, lq 1 1 1, lq 2 1 2, lq 3 1 133, lq 4 1 134, lq 5 1 135], [], gi_2708, hq_959), rq_6, ([(134, (-4)), (135, (-1))], 10))]
theorem ch_2803 : staG tb_X11_rests 1 bt_RX11 [] ct_2803 [] [] cu_2803 58 con_2803 = true := by decide +kernel
theorem cc_2803 : cu_2803.all (cutG tb_X11_rests 1 bt_RX11 [] ct_2803 [] [] cu_2803 58 con_2803) = true := by decide +kernel
theorem cto_2803 (l : Launch) : CTOK2 l RX11 vwCl gTbl ct_2803 := ct2_cons (vl_647 l) ck_RX11_139_647 (ct2_cons (vl_647 l) ck_RX11_139_647 (ct2_cons (vl_929 l) ck_RX11_208_929 (ct2_cons (vl_2802 l) ck_RX11_360_2802 (ct2_cons (vl_2802 l) ck_RX11_360_2802 (ct2_cons (vl_2802 l) ck_RX11_360_2802 (ct2_cons (vl_2802 l) ck_RX11_360_2802 (ct2_nil)))))))
theorem vl_2803 (l : Launch) : Vld2 l vwCl gTbl con_2803 := conR_ok3 gT_all (hd_2803) rfl pn_RX11 tk_X11_rests bo_RX11 xo_RX11 (cto_2803 l) ch_2803 (cut_all cc_2803)
/-- RookHustingModel areFields -/
noncomputable def gi_2709 : GI := jl_n [gp_290, jl_z 45, gp_169]
noncomputable def con_2804 : Con2 := ((yX12_areFields, cX12_areFields, 3, (some .boolean)), (2, 47), ([(6, 0, 0), (1, 1, 0), (1, 2, 0)], gi_303, [ac_439, ac_440], []), [((0, 0, 0), gi_538, [(false, ac_439), (false, ac_440)], [], [1]), ((0, 1, 0), gi_2709, [(false, ac_439), (false, ac_440)], [], [1])])
theorem hd_2804 : con_2804.1 = (yX12_areFields, cX12_areFields, 3, (some .boolean)) := rfl
noncomputable def ct_2804 : CTB2 := [(3, 109, 0, con_651, [0, 1]), (12, 109, 0, con_651, [0, 1])]
noncomputable def cu_2804 : List CUT2 := []
theorem ch_2804 : staG tb_X12_areFields 1 bt_RX12 [] ct_2804 [] [] cu_2804 18 con_2804 = true := by decide +kernel
theorem cto_2804 (l : Launch) : CTOK2 l RX12 vwCl gTbl ct_2804 := ct2_cons (vl_651 l) ck_RX12_109_651 (ct2_cons (vl_651 l) ck_RX12_109_651 (ct2_nil))
theorem vl_2804 (l : Launch) : Vld2 l vwCl gTbl con_2804 := conR_ok3 gT_all (hd_2804) rfl pn_RX12 tk_X12_areFields bo_RX12 xo_RX12 (cto_2804 l) ch_2804 cut_nil
/-- RookHustingModel getsBy -/
noncomputable def gi_2710 : GI := jl_n [gp_778, gp_287]
noncomputable def ac_1385 : AC := .inl (12, jl_n [jl_8 7 1, jl_6 2 1, jl_8 21 13, vp_43, jl_1 24 1, jl_6 7 3, jl_1 31 4, vp_110, jl_8 51 14])
noncomputable def ac_1386 : AC := .inr (1, jl_n [js_1 60 9, sp_124])
noncomputable def hc_237 : List AC := [ac_1385, ac_1386, am_8, am_5, am_7, am_7, am_1, am_0, am_0, am_0, am_13, am_14, am_15]
noncomputable def gi_2711 : GI := jl_n [gp_778, gp_287, gp_352, gp_352]
noncomputable def ac_1387 : AC := .inl (12, jl_n [jl_8 7 1, jl_6 2 1, jl_8 21 13, vp_83, jl_c 0, jl_1 98 1, vp_112, jl_8 51 14])
noncomputable def hq_960 : HP := [(true, ac_1387), (false, ac_1386), (true, am_8), (true, am_5), (true, am_7), (true, am_7), (true, am_1), (true, am_0), (true, am_0), (true, am_0), (true, am_13), (true, am_14), (true, am_15)]
noncomputable def con_2812 : Con2 := ((yX12_getsBy, cX12_getsBy, 6, (some .int)), (8, 188), ([(6, 0, 0), (1, 1, 0), (1, 2, 0), (1, 3, 0), (1, 4, 0), (0, 0, 0)], gi_2710, hc_237, []), [((1, 74, 0), gi_2711, hq_960, [], tg_1)])
theorem hd_2812 : con_2812.1 = (yX12_getsBy, cX12_getsBy, 6, (some .int)) := rfl
noncomputable def ct_2812 : CTB2 := [(1, 345, 0, con_934, [0, 1, 2, 3, 4, 5, 6]), (17, 363, 0, con_1352, [0, 1, 7, 8, 5, 6, 9, 10, 11, 12]), (26, 103, 0, con_1344, [0, 1])]
noncomputable def cu_2812 : List CUT2 := []
theorem ch_2812 : staG tb_X12_getsBy 1 bt_RX12 [] ct_2812 [] [] cu_2812 35 con_2812 = true := by decide +kernel
theorem cto_2812 (l : Launch) : CTOK2 l RX12 vwCl gTbl ct_2812 := ct2_cons (vl_934 l) ck_RX12_345_934 (ct2_cons (vl_1352 l) ck_RX12_363_1352 (ct2_cons (vl_1344 l) ck_RX12_103_1344 (ct2_nil)))
theorem vl_2812 (l : Launch) : Vld2 l vwCl gTbl con_2812 := conR_ok3 gT_all (hd_2812) rfl pn_RX12 tk_X12_getsBy bo_RX12 xo_RX12 (cto_2812 l) ch_2812 cut_nil
/-- RookHustingModel getsBy -/
noncomputable def con_2813 : Con2 := ((yX12_getsBy, cX12_getsBy, 6, (some .int)), (8, 188), ([(6, 0, 0), (1, 1, 0), (1, 2, 0), (1, 3, 0), (1, 4, 0), (0, 1, 0)], gi_2710, hc_237, []), [((1, 74, 0), gi_2711, hq_960, [], tg_1)])
theorem hd_2813 : con_2813.1 = (yX12_getsBy, cX12_getsBy, 6, (some .int)) := rfl
noncomputable def cu_2813 : List CUT2 := []
theorem ch_2813 : staG tb_X12_getsBy 1 bt_RX12 [] ct_2812 [] [] cu_2813 33 con_2813 = true := by decide +kernel
theorem vl_2813 (l : Launch) : Vld2 l vwCl gTbl con_2813 := conR_ok3 gT_all (hd_2813) rfl pn_RX12 tk_X12_getsBy bo_RX12 xo_RX12 (cto_2812 l) ch_2813 cut_nil
/-- RookHustingModel rests -/
noncomputable def gi_2712 : GI := jl_n [gp_360, gp_411]
noncomputable def ac_1388 : AC := .inl (12, jl_n [vp_50, vp_139, vp_110, jl_8 48 14])
noncomputable def hq_961 : HP := [(true, ac_1388), (false, ac_440), (true, am_8), (true, am_5), (true, am_7), (true, am_7), (true, am_1), (true, am_0), (true, am_0), (true, am_0), (true, am_13), (true, am_14), (true, am_15)]
noncomputable def con_2814 : Con2 := ((yX12_rests, cX12_rests, 8, (some .int)), (9, 213), ([(6, 0, 0), (1, 1, 0), (1, 2, 0)], gi_745, hc_149, []), [((1, 71, 0), gi_2712, hq_961, [], tg_1)])
theorem hd_2814 : con_2814.1 = (yX12_rests, cX12_rests, 8, (some .int)) := rfl
theorem ck_RX12_447_2813 : COK2 RX12 vwCl gTbl 447 0 con_2813 := ⟨wd_2094, wd_137, mh_X12_getsBy, .inr (.inr ⟨rfl, wd_2091, wd_2093, wd_119, ⟨_, rfl, pd_X12_getsBy⟩, 12, _, TX12, 45, rfl, rfl⟩)⟩
theorem ck_RX12_447_2812 : COK2 RX12 vwCl gTbl 447 0 con_2812 := ⟨wd_2094, wd_137, mh_X12_getsBy, .inr (.inr ⟨rfl, wd_2091, wd_2093, wd_119, ⟨_, rfl, pd_X12_getsBy⟩, 12, _, TX12, 45, rfl, rfl⟩)⟩
theorem ck_RX12_444_2804 : COK2 RX12 vwCl gTbl 444 0 con_2804 := ⟨wd_2090, wd_137, mh_X12_areFields, .inr (.inr ⟨rfl, wd_2087, wd_2089, wd_118, ⟨_, rfl, pd_X12_areFields⟩, 12, _, TX12, 45, rfl, rfl⟩)⟩
noncomputable def ct_2814 : CTB2 := [(3, 444, 0, con_2804, [0, 1]), (43, 447, 0, con_2812, [0, 1, 2, 3, 4, 5, 6, 7, 8, 9, 10, 11, 12]), (56, 447, 0, con_2812, [0, 1, 2, 3, 4, 5, 6, 7, 8, 9, 10, 11, 12]), (70, 447, 0, con_2813, [0, 1, 2, 3, 4, 5, 6, 7, 8, 9, 10, 11, 12]), (83, 447, 0, con_2813, [0, 1, 2, 3, 4, 5, 6, 7, 8, 9, 10, 11, 12])]
noncomputable def gi_2713 : GI := jl_n [gp_290, gp_369, jl_z 17, gp_298, gp_282]
noncomputable def ac_1389 : AC := .inl (12, jl_n [vp_48, jl_1 94 1, jl_6 7 3, jl_1 101 4, vp_110, jl_8 48 14])
noncomputable def hq_962 : HP := [(true, ac_1389), (false, ac_440), (true, am_8), (true, am_5), (true, am_7), (true, am_7), (true, am_1), (true, am_0), (true, am_0), (true, am_0), (true, am_13), (true, am_14), (true, am_15)]
noncomputable def cu_2814 : List CUT2 := [((17, [lq 0 6 0, lq 1 1 1, lq 2 1 2, lq 3 1 74, lq 4 1 75], [], gi_2713, hq_962), [], ([(75, (-1))], 4))]
theorem ch_2814 : staG tb_X12_rests 1 bt_RX12 [] ct_2814 [] [] cu_2814 62 con_2814 = true := by decide +kernel
theorem cc_2814 : cu_2814.all (cutG tb_X12_rests 1 bt_RX12 [] ct_2814 [] [] cu_2814 62 con_2814) = true := by decide +kernel
theorem cto_2814 (l : Launch) : CTOK2 l RX12 vwCl gTbl ct_2814 := ct2_cons (vl_2804 l) ck_RX12_444_2804 (ct2_cons (vl_2812 l) ck_RX12_447_2812 (ct2_cons (vl_2812 l) ck_RX12_447_2812 (ct2_cons (vl_2813 l) ck_RX12_447_2813 (ct2_cons (vl_2813 l) ck_RX12_447_2813 (ct2_nil)))))
theorem vl_2814 (l : Launch) : Vld2 l vwCl gTbl con_2814 := conR_ok3 gT_all (hd_2814) rfl pn_RX12 tk_X12_rests bo_RX12 xo_RX12 (cto_2814 l) ch_2814 (cut_all cc_2814)
/-- RookHusting gets -/
noncomputable def gi_2714 : GI := jl_n [gp_783, gp_779]
noncomputable def ac_1390 : AC := .inl (11, jl_n [jl_8 7 2, vp_22, vp_150, jl_8 18 3, jl_1 19 1, jl_8 21 2])
noncomputable def ac_1391 : AC := .inr (1, jl_n [js_1 80 30])
noncomputable def ac_1392 : AC := .inr (1, jl_n [js_1 110 30])
noncomputable def ac_1393 : AC := .inl (3, jl_n [vp_77, jl_1 119 2])
noncomputable def ac_1394 : AC := .inl (3, jl_n [vp_140, jl_1 132 2])
noncomputable def hc_238 : List AC := [ac_1390, .inl (9, [(6, 2, 0), (6, 11, 0)]), ac_507, .inl (7, [(6, 4, 0), (6, 5, 0), (6, 6, 0), (1, 43, 0)]), am_7, am_1, am_1, am_1, .inl (1, [(6, 2, 0), (8, 45, 0)]), am_4, am_6, .inl (0, [(1, 46, 0), (6, 12, 0), (6, 13, 0), (6, 14, 0)]), ac_1391, am_11, ac_1392, ac_1393, am_2, am_0, am_10, am_0, am_1, am_0, am_2, am_9, am_0, am_0, am_12, .inl (7, [(6, 28, 0), (6, 29, 0), (6, 30, 0), (1, 122, 0)]), am_7, am_1, am_1, ac_1394, am_0, am_0, am_1, am_0, am_0, am_0, am_12]
noncomputable def rq_10 : RLs := [([(50, 12), (80, (-1))], 4), ([(51, 12), (81, (-1))], 4), ([(52, 12), (82, (-1))], 4), ([(53, 12), (83, (-1))], 4), ([(54, 12), (84, (-1))], 4), ([(55, 12), (85, (-1))], 4), ([(56, 12), (86, (-1))], 4), ([(57, 12), (87, (-1))], 4), ([(58, 12), (88, (-1))], 4), ([(59, 12), (89, (-1))], 4), ([(60, 12), (90, (-1))], 4), ([(61, 12), (91, (-1))], 4), ([(62, 12), (92, (-1))], 4), ([(63, 12), (93, (-1))], 4), ([(64, 12), (94, (-1))], 4), ([(65, 12), (95, (-1))], 4), ([(66, 12), (96, (-1))], 4), ([(67, 12), (97, (-1))], 4), ([(68, 12), (98, (-1))], 4), ([(69, 12), (99, (-1))], 4), ([(70, 12), (100, (-1))], 4), ([(71, 12), (101, (-1))], 4), ([(72, 12), (102, (-1))], 4), ([(73, 12), (103, (-1))], 4), ([(74, 12), (104, (-1))], 4), ([(75, 12), (105, (-1))], 4), ([(76, 12), (106, (-1))], 4), ([(77, 12), (107, (-1))], 4), ([(78, 12), (108, (-1))], 4), ([(79, 12), (109, (-1))], 4)]
noncomputable def gi_2715 : GI := jl_n [gp_783, gp_779, gp_780]
noncomputable def ac_1395 : AC := .inl (11, jl_n [jl_8 7 2, vp_22, vp_150, jl_8 18 3, jl_1 147 1, jl_8 21 2])
noncomputable def ac_1396 : AC := .inl (3, jl_n [vp_77, jl_1 162 2])
noncomputable def hq_963 : HP := [(true, ac_1395), (false, .inl (9, [(6, 2, 0), (6, 11, 0)])), (false, ac_507), (true, .inl (7, [(6, 4, 0), (6, 5, 0), (6, 6, 0), (1, 152, 0)])), (true, am_7), (true, am_1), (true, am_1), (false, am_1), (false, .inl (1, [(6, 2, 0), (8, 45, 0)])), (false, am_4), (false, am_6), (false, .inl (0, [(1, 46, 0), (6, 12, 0), (6, 13, 0), (6, 14, 0)])), (false, ac_1391), (false, am_11), (false, ac_1392), (true, ac_1396), (false, am_2), (true, am_0), (false, am_10), (true, am_0), (true, am_1), (true, am_0), (false, am_2), (false, am_9), (true, am_0), (true, am_0), (true, am_12), (true, .inl (7, [(6, 28, 0), (6, 29, 0), (6, 30, 0), (1, 165, 0)])), (true, am_7), (true, am_1), (true, am_1), (true, ac_800), (true, am_0), (true, am_0), (true, am_1), (true, am_0), (true, am_0), (true, am_0), (true, am_12)]
noncomputable def con_2815 : Con2 := ((yX11_gets, cX11_gets, 5, (some .int)), (6, 151), ([(6, 0, 0), (1, 1, 0), (1, 2, 0), (1, 3, 0), (1, 4, 0)], gi_2714, hc_238, rq_10), [((1, 132, 0), gi_2715, hq_963, [], tg_20)])
theorem hd_2815 : con_2815.1 = (yX11_gets, cX11_gets, 5, (some .int)) := rfl
noncomputable def ct_2815 : CTB2 := [(2, 139, 0, con_647, [0, 1, 2]), (10, 139, 0, con_647, [0, 1, 2]), (22, 143, 1, con_648, []), (30, 143, 1, con_648, []), (41, 208, 0, con_929, [0, 1, 3, 2, 4, 5, 6, 7, 8, 9, 10, 11, 12, 13, 14, 15, 16, 17, 18, 19, 20, 21, 22, 23, 24, 25, 26]), (50, 360, 0, con_2802, [0, 1, 2, 27, 3, 28, 4, 29, 5, 30, 6, 31, 16, 32, 18, 33, 34, 35, 22, 23, 36, 37, 38])]
noncomputable def cu_2815 : List CUT2 := []
theorem ch_2815 : staG tb_X11_gets 1 bt_RX11 [] ct_2815 [] [] cu_2815 28 con_2815 = true := by decide +kernel
theorem cto_2815 (l : Launch) : CTOK2 l RX11 vwCl gTbl ct_2815 := ct2_cons (vl_647 l) ck_RX11_139_647 (ct2_cons (vl_647 l) ck_RX11_139_647 (ct2_cons (vl_648 l) ck_RX11_143_648 (ct2_cons (vl_648 l) ck_RX11_143_648 (ct2_cons (vl_929 l) ck_RX11_208_929 (ct2_cons (vl_2802 l) ck_RX11_360_2802 (ct2_nil))))))
theorem vl_2815 (l : Launch) : Vld2 l vwCl gTbl con_2815 := conR_ok3 gT_all (hd_2815) rfl pn_RX11 tk_X11_gets bo_RX11 xo_RX11 (cto_2815 l) ch_2815 cut_nil
/-- RookHustingModel gets -/
noncomputable def gi_2716 : GI := jl_n [gp_782, gp_283]
noncomputable def ac_1397 : AC := .inl (12, jl_n [vp_151, jl_1 23 1, jl_6 7 3, jl_1 30 4, vp_110, jl_8 50 14])
noncomputable def ac_1398 : AC := .inr (1, jl_n [js_1 59 9, sp_124])
noncomputable def hc_239 : List AC := [ac_1397, ac_1398, am_8, am_5, am_7, am_7, am_1, am_0, am_0, am_0, am_13, am_14, am_15]
noncomputable def gi_2717 : GI := jl_n [gp_782, gp_283, gp_411]
noncomputable def ac_1399 : AC := .inl (12, jl_n [vp_151, jl_1 92 1, jl_6 7 3, jl_1 99 4, vp_110, jl_8 50 14])
noncomputable def hq_964 : HP := [(true, ac_1399), (false, ac_1398), (true, am_8), (true, am_5), (true, am_7), (true, am_7), (true, am_1), (true, am_0), (true, am_0), (true, am_0), (true, am_13), (true, am_14), (true, am_15)]
noncomputable def con_2816 : Con2 := ((yX12_gets, cX12_gets, 5, (some .int)), (9, 213), ([(6, 0, 0), (1, 1, 0), (1, 2, 0), (1, 3, 0), (1, 4, 0)], gi_2716, hc_239, []), [((1, 73, 0), gi_2717, hq_964, [], tg_1)])
theorem hd_2816 : con_2816.1 = (yX12_gets, cX12_gets, 5, (some .int)) := rfl
noncomputable def ct_2816 : CTB2 := [(3, 444, 0, con_2804, [0, 1]), (13, 91, 1, con_652, []), (24, 91, 1, con_652, []), (37, 447, 0, con_2812, [0, 1, 2, 3, 4, 5, 6, 7, 8, 9, 10, 11, 12])]
noncomputable def cu_2816 : List CUT2 := []
theorem ch_2816 : staG tb_X12_gets 1 bt_RX12 [] ct_2816 [] [] cu_2816 28 con_2816 = true := by decide +kernel
theorem cto_2816 (l : Launch) : CTOK2 l RX12 vwCl gTbl ct_2816 := ct2_cons (vl_2804 l) ck_RX12_444_2804 (ct2_cons (vl_652 l) ck_RX12_91_652 (ct2_cons (vl_652 l) ck_RX12_91_652 (ct2_cons (vl_2812 l) ck_RX12_447_2812 (ct2_nil))))
theorem vl_2816 (l : Launch) : Vld2 l vwCl gTbl con_2816 := conR_ok3 gT_all (hd_2816) rfl pn_RX12 tk_X12_gets bo_RX12 xo_RX12 (cto_2816 l) ch_2816 cut_nil
/-- RookHusting isChanceDay -/
noncomputable def gi_2718 : GI := jl_n [gp_225, jl_z 19, jl_i 1 16, jl_z 16]
noncomputable def con_2817 : Con2 := ((yX11_isChanceDay, cX11_isChanceDay, 2, (some .boolean)), (1, 21), ([(6, 0, 0), (1, 1, 0)], gi_747, [ac_431, .inl (9, [(6, 2, 0), (8, 19, 0)]), ac_628], []), [((0, 0, 0), gi_748, hq_573, [], [1]), ((0, 1, 0), gi_2718, hq_573, [], [1])])
theorem hd_2817 : con_2817.1 = (yX11_isChanceDay, cX11_isChanceDay, 2, (some .boolean)) := rfl
noncomputable def ct_2817 : CTB2 := [(2, 272, 0, con_1364, [0, 1, 2])]
noncomputable def cu_2817 : List CUT2 := []
theorem ch_2817 : staG tb_X11_isChanceDay 1 bt_RX11 [] ct_2817 [] [] cu_2817 12 con_2817 = true := by decide +kernel
theorem cto_2817 (l : Launch) : CTOK2 l RX11 vwCl gTbl ct_2817 := ct2_cons (vl_1364 l) ck_RX11_272_1364 (ct2_nil)
theorem vl_2817 (l : Launch) : Vld2 l vwCl gTbl con_2817 := conR_ok3 gT_all (hd_2817) rfl pn_RX11 tk_X11_isChanceDay bo_RX11 xo_RX11 (cto_2817 l) ch_2817 cut_nil
/-- RookHusting$Harvest frighten -/
noncomputable def gi_2719 : GI := jl_n [gp_784, gp_245, jl_z 22]
noncomputable def con_2825 : Con2 := ((yX3_frighten, cX3_frighten, 8, none), (1, 21), ([(6, 0, 0), (6, 1, 0), (6, 2, 0), (1, 3, 0)], gi_2719, hc_99, []), [((9, 0, 0), gi_2719, hq_491, [], [])])
theorem hd_2825 : con_2825.1 = (yX3_frighten, cX3_frighten, 8, none) := rfl
theorem ck_RX3_58_906 : COK2 RX3 vwCl gTbl 58 2 con_906 := ⟨wd_682, wd_125, mh_X11_hasBit, .inr (.inl ⟨rfl, by decide +kernel, wd_681, pd_X11_hasBit⟩)⟩
noncomputable def ct_2825 : CTB2 := [(24, 58, 2, con_906, [])]
noncomputable def gi_2720 : GI := jl_n [gp_784, gp_245, jl_z 26, jl_i 0 5]
noncomputable def cu_2825 : List CUT2 := [((3, [lq 0 6 0, lq 1 6 1, lq 2 6 2, lq 3 1 3, lq 4 1 38], [], gi_2720, hq_491), [], ([(38, (-1))], 5))]
theorem ch_2825 : staG tb_X3_frighten 1 bt_RX3 [] ct_2825 [] [] cu_2825 66 con_2825 = true := by decide +kernel
theorem cc_2825 : cu_2825.all (cutG tb_X3_frighten 1 bt_RX3 [] ct_2825 [] [] cu_2825 66 con_2825) = true := by decide +kernel
theorem cto_2825 (l : Launch) : CTOK2 l RX3 vwCl gTbl ct_2825 := ct2_cons (vl_906 l) ck_RX3_58_906 (ct2_nil)
theorem vl_2825 (l : Launch) : Vld2 l vwCl gTbl con_2825 := conR_ok3 gT_all (hd_2825) rfl pn_RX3 tk_X3_frighten bo_RX3 xo_RX3 (cto_2825 l) ch_2825 (cut_all cc_2825)
/-- RookHusting$Harvest passDays -/
noncomputable def gi_2721 : GI := jl_n [gp_784, gp_255]
noncomputable def gi_2722 : GI := jl_n [gp_784, gp_253, jl_z 15, gp_256, gp_112]
noncomputable def con_2826 : Con2 := ((yX3_passDays, cX3_passDays, 5, none), (2, 50), ([(6, 0, 0), (6, 1, 0), (6, 2, 0), (1, 3, 0)], gi_2721, hc_102, []), [((9, 0, 0), gi_2722, hq_494, [], tg_13)])
theorem hd_2826 : con_2826.1 = (yX3_passDays, cX3_passDays, 5, none) := rfl
theorem ck_RX3_45_2825 : COK2 RX3 vwCl gTbl 45 0 con_2825 := ⟨wd_874, wd_134, mh_X3_frighten, .inr (.inr ⟨rfl, wd_871, wd_873, wd_20, ⟨_, rfl, pd_X3_frighten⟩, 3, _, TX3, 9, rfl, rfl⟩)⟩
theorem ck_RX3_62_905 : COK2 RX3 vwCl gTbl 62 0 con_905 := ⟨wd_886, wd_134, mh_X3_eatAndFly, .inr (.inr ⟨rfl, wd_883, wd_885, wd_22, ⟨_, rfl, pd_X3_eatAndFly⟩, 3, _, TX3, 9, rfl, rfl⟩)⟩
theorem ck_RX3_58_904 : COK2 RX3 vwCl gTbl 58 2 con_904 := ⟨wd_682, wd_125, mh_X11_hasBit, .inr (.inl ⟨rfl, by decide +kernel, wd_681, pd_X11_hasBit⟩)⟩
theorem ck_RX3_49_903 : COK2 RX3 vwCl gTbl 49 0 con_903 := ⟨wd_882, wd_134, mh_X3_beginNextDay, .inr (.inr ⟨rfl, wd_879, wd_881, wd_21, ⟨_, rfl, pd_X3_beginNextDay⟩, 3, _, TX3, 9, rfl, rfl⟩)⟩
theorem ck_RX3_45_902 : COK2 RX3 vwCl gTbl 45 0 con_902 := ⟨wd_874, wd_134, mh_X3_frighten, .inr (.inr ⟨rfl, wd_871, wd_873, wd_20, ⟨_, rfl, pd_X3_frighten⟩, 3, _, TX3, 9, rfl, rfl⟩)⟩
noncomputable def ct_2826 : CTB2 := [(79, 45, 0, con_902, [0, 1, 2, 7, 8, 9, 10, 11, 12]), (85, 49, 0, con_903, [0, 4, 6, 13, 14, 15]), (94, 58, 2, con_904, []), (104, 62, 0, con_905, [0, 2, 4, 10, 6, 13, 16, 15, 14]), (117, 45, 0, con_2825, [0, 1, 2, 7, 8, 9, 10, 11, 12])]
noncomputable def gi_2723 : GI := jl_n [gp_784, gp_255, gp_252, jl_z 9]
noncomputable def gi_2724 : GI := jl_n [gp_784, gp_255, jl_z 4, jl_i 0 8, gp_244]
noncomputable def cu_2826 : List CUT2 := [((16, [lq 0 6 0, lq 1 6 1, lq 2 6 2, lq 3 1 3, lq 4 1 38], [], gi_2723, hq_495), [], ([(38, (-1))], 14)), ((68, [lq 0 6 0, lq 1 6 1, lq 2 6 2, lq 3 1 3, lq 4 1 38], [], gi_2724, hq_496), [], ([(38, (-1))], 8))]
theorem ch_2826 : staG tb_X3_passDays 1 bt_RX3 [] ct_2826 [] [] cu_2826 29 con_2826 = true := by decide +kernel
theorem cc_2826 : cu_2826.all (cutG tb_X3_passDays 1 bt_RX3 [] ct_2826 [] [] cu_2826 29 con_2826) = true := by decide +kernel
theorem cto_2826 (l : Launch) : CTOK2 l RX3 vwCl gTbl ct_2826 := ct2_cons (vl_902 l) ck_RX3_45_902 (ct2_cons (vl_903 l) ck_RX3_49_903 (ct2_cons (vl_904 l) ck_RX3_58_904 (ct2_cons (vl_905 l) ck_RX3_62_905 (ct2_cons (vl_2825 l) ck_RX3_45_2825 (ct2_nil)))))
theorem vl_2826 (l : Launch) : Vld2 l vwCl gTbl con_2826 := conR_ok3 gT_all (hd_2826) rfl pn_RX3 tk_X3_passDays bo_RX3 xo_RX3 (cto_2826 l) ch_2826 (cut_all cc_2826)
/-- RookHusting power10 -/
noncomputable def con_2851 : Con2 := ((yX11_power10, cX11_power10, 4, (some .long)), (0, 0), ([(1, 0, 0)], [(1, 8)], [], []), [((4, 1, 0), [(1, 8), ((-9223372036854775808), 9223372036854775807)], [], [], [4])])
theorem hd_2851 : con_2851.1 = (yX11_power10, cX11_power10, 4, (some .long)) := rfl
noncomputable def gi_2725 : GI := jl_n [jl_i 1 8, jl_z 1, jl_u, jl_i 0 8]
noncomputable def cu_2851 : List CUT2 := [((4, [lq 0 1 0, lq 1 4 2, lq 3 1 3], [], gi_2725, []), [], ([(3, (-1))], 8))]
theorem ch_2851 : staG tb_X11_power10 1 bt_RX11 [] ct_3 [] [] cu_2851 12 con_2851 = true := by decide +kernel
theorem cc_2851 : cu_2851.all (cutG tb_X11_power10 1 bt_RX11 [] ct_3 [] [] cu_2851 12 con_2851) = true := by decide +kernel
theorem vl_2851 (l : Launch) : Vld2 l vwCl gTbl con_2851 := conR_ok3 gT_all (hd_2851) rfl pn_RX11 tk_X11_power10 bo_RX11 xo_RX11 (cto_3 l) ch_2851 (cut_all cc_2851)
/-- RookHusting commonDivisor -/
noncomputable def gi_2726 : GI := jl_n [jl_r 2 (jl_u)]
noncomputable def gi_2727 : GI := jl_n [jl_r 3 (jl_u)]
noncomputable def con_2852 : Con2 := ((yX11_commonDivisor, cX11_commonDivisor, 7, (some .long)), (0, 0), ([(4, 0, 0), (4, 1, 0)], gi_2726, [], []), [((4, 2, 0), gi_2727, [], [], [4])])
theorem hd_2852 : con_2852.1 = (yX11_commonDivisor, cX11_commonDivisor, 7, (some .long)) := rfl
noncomputable def gi_2728 : GI := jl_n [jl_r 4 (jl_u), jl_i 0 100]
noncomputable def cu_2852 : List CUT2 := [((3, [lq 0 4 2, lq 2 4 3, lq 4 1 4], [], gi_2728, []), [], ([(4, (-1))], 100))]
theorem ch_2852 : staG tb_X11_commonDivisor 1 bt_RX11 [] ct_3 [] [] cu_2852 19 con_2852 = true := by decide +kernel
theorem cc_2852 : cu_2852.all (cutG tb_X11_commonDivisor 1 bt_RX11 [] ct_3 [] [] cu_2852 19 con_2852) = true := by decide +kernel
theorem vl_2852 (l : Launch) : Vld2 l vwCl gTbl con_2852 := conR_ok3 gT_all (hd_2852) rfl pn_RX11 tk_X11_commonDivisor bo_RX11 xo_RX11 (cto_3 l) ch_2852 (cut_all cc_2852)
/-- RookHusting partOf -/
noncomputable def gi_2729 : GI := jl_n [jl_r 2 (jl_u), jl_i 0 1]
noncomputable def gi_2730 : GI := jl_n [jl_r 2 (jl_u), jl_i 0 1, jl_u]
noncomputable def con_2853 : Con2 := ((yX11_partOf, cX11_partOf, 7, (some .long)), (1, 26), ([(4, 0, 0), (4, 1, 0), (1, 2, 0)], gi_2729, [], []), [((4, 3, 0), gi_2730, [], [], [4])])
theorem hd_2853 : con_2853.1 = (yX11_partOf, cX11_partOf, 7, (some .long)) := rfl
theorem ck_RX11_492_2852 : COK2 RX11 vwCl gTbl 492 1 con_2852 := ⟨wd_987, wd_125, mh_X11_commonDivisor, .inl ⟨rfl, wd_985, wd_986, pd_X11_commonDivisor⟩⟩
noncomputable def ct_2853 : CTB2 := [(2, 492, 1, con_2852, [])]
noncomputable def cu_2853 : List CUT2 := []
theorem ch_2853 : staG tb_X11_partOf 1 bt_RX11 [] ct_2853 [] [] cu_2853 16 con_2853 = true := by decide +kernel
theorem cto_2853 (l : Launch) : CTOK2 l RX11 vwCl gTbl ct_2853 := ct2_cons (vl_2852 l) ck_RX11_492_2852 (ct2_nil)
theorem vl_2853 (l : Launch) : Vld2 l vwCl gTbl con_2853 := conR_ok3 gT_all (hd_2853) rfl pn_RX11 tk_X11_partOf bo_RX11 xo_RX11 (cto_2853 l) ch_2853 cut_nil
/-- RookHusting hasBit -/
noncomputable def con_3095 : Con2 := ((yX11_hasBit, cX11_hasBit, 2, (some .boolean)), (0, 0), ([(1, 0, 0), (1, 1, 0)], [(0, 255), (0, 7)], [], []), [((0, 0, 0), [(0, 255), (0, 7), (0, 0)], [], [], [1]), ((0, 1, 0), [(0, 255), (0, 7), (0, 0)], [], [], [1])])
theorem hd_3095 : con_3095.1 = (yX11_hasBit, cX11_hasBit, 2, (some .boolean)) := rfl
noncomputable def cu_3095 : List CUT2 := []
theorem ch_3095 : staG tb_X11_hasBit 1 bt_RX11 [] ct_3 [] [] cu_3095 12 con_3095 = true := by decide +kernel
theorem vl_3095 (l : Launch) : Vld2 l vwCl gTbl con_3095 := conR_ok3 gT_all (hd_3095) rfl pn_RX11 tk_X11_hasBit bo_RX11 xo_RX11 (cto_3 l) ch_3095 cut_nil
/-- RookHusting windWeight -/
noncomputable def gi_2731 : GI := jl_n [jl_z 1, jl_i 0 255, jl_i 1 8, jl_z 21, gp_785]
noncomputable def ac_1400 : AC := .inl (4, jl_n [jl_8 24 3, jl_1 25 1, jl_8 38 13])
noncomputable def gi_2732 : GI := jl_n [jl_z 1, jl_i 0 255, jl_i 1 8, jl_z 21, gp_785, jl_u]
noncomputable def hq_965 : HP := [(false, ac_433), (false, .inl (9, [(6, 2, 0), (8, 20, 0)])), (false, ac_1400)]
noncomputable def con_3096 : Con2 := ((yX11_windWeight, cX11_windWeight, 6, (some .long)), (1, 21), ([(6, 0, 0), (1, 1, 0), (1, 2, 0)], gi_2731, [ac_433, .inl (9, [(6, 2, 0), (8, 20, 0)]), ac_1400], []), [((4, 38, 0), gi_2732, hq_965, [], [4])])
theorem hd_3096 : con_3096.1 = (yX11_windWeight, cX11_windWeight, 6, (some .long)) := rfl
theorem ck_RX11_183_3095 : COK2 RX11 vwCl gTbl 183 1 con_3095 := ⟨wd_682, wd_125, mh_X11_hasBit, .inl ⟨rfl, wd_799, wd_681, pd_X11_hasBit⟩⟩
noncomputable def ct_3096 : CTB2 := [(15, 183, 1, con_3095, [])]
noncomputable def gi_2733 : GI := jl_n [jl_z 1, jl_i 0 255, jl_i 1 8, jl_z 21, jl_i 0 10, jl_z 16, jl_u, jl_i 0 8]
noncomputable def cu_3096 : List CUT2 := [((5, [lq 0 6 0, lq 1 1 1, lq 2 1 2, lq 3 4 41, lq 5 1 42], [], gi_2733, hq_965), [], ([(42, (-1))], 8))]
theorem ch_3096 : staG tb_X11_windWeight 1 bt_RX11 [] ct_3096 [] [] cu_3096 22 con_3096 = true := by decide +kernel
theorem cc_3096 : cu_3096.all (cutG tb_X11_windWeight 1 bt_RX11 [] ct_3096 [] [] cu_3096 22 con_3096) = true := by decide +kernel
theorem cto_3096 (l : Launch) : CTOK2 l RX11 vwCl gTbl ct_3096 := ct2_cons (vl_3095 l) ck_RX11_183_3095 (ct2_nil)
theorem vl_3096 (l : Launch) : Vld2 l vwCl gTbl con_3096 := conR_ok3 gT_all (hd_3096) rfl pn_RX11 tk_X11_windWeight bo_RX11 xo_RX11 (cto_3096 l) ch_3096 (cut_all cc_3096)
/-- RookHusting chance -/
noncomputable def gi_2734 : GI := jl_n [gp_783, gp_787]
noncomputable def ac_1401 : AC := .inl (4, jl_n [jl_8 24 1, jl_1 28 4, jl_8 29 1, jl_1 31 2, vp_74, jl_8 39 2, jl_6 10 1])
noncomputable def hc_240 : List AC := [ac_1390, .inl (9, [(6, 2, 0), (6, 11, 0)]), ac_1401, .inl (7, [(6, 4, 0), (6, 5, 0), (6, 6, 0), (1, 43, 0)]), am_7, am_1, am_1, am_1, .inl (1, [(6, 2, 0), (8, 45, 0)]), am_4, am_6, .inl (0, [(1, 46, 0), (6, 12, 0), (6, 13, 0), (6, 14, 0)]), ac_1391, am_11, ac_1392, ac_1393, am_2, am_0, am_10, am_0, am_1, am_0, am_2, am_9, am_0, am_0, am_12, .inl (7, [(6, 28, 0), (6, 29, 0), (6, 30, 0), (1, 122, 0)]), am_7, am_1, am_1, ac_1394, am_0, am_0, am_1, am_0, am_0, am_0, am_12]
noncomputable def gi_2735 : GI := jl_n [gp_783, gp_787, jl_u, gp_276, gp_410]
noncomputable def hq_966 : HP := [(true, ac_1395), (false, .inl (9, [(6, 2, 0), (6, 11, 0)])), (false, ac_1401), (true, .inl (7, [(6, 4, 0), (6, 5, 0), (6, 6, 0), (1, 152, 0)])), (true, am_7), (true, am_1), (true, am_1), (false, am_1), (false, .inl (1, [(6, 2, 0), (8, 45, 0)])), (false, am_4), (false, am_6), (false, .inl (0, [(1, 46, 0), (6, 12, 0), (6, 13, 0), (6, 14, 0)])), (false, ac_1391), (false, am_11), (false, ac_1392), (true, ac_1396), (false, am_2), (true, am_0), (false, am_10), (true, am_0), (true, am_1), (true, am_0), (false, am_2), (false, am_9), (true, am_0), (true, am_0), (true, am_12), (true, .inl (7, [(6, 28, 0), (6, 29, 0), (6, 30, 0), (1, 165, 0)])), (true, am_7), (true, am_1), (true, am_1), (true, ac_800), (true, am_0), (true, am_0), (true, am_1), (true, am_0), (true, am_0), (true, am_0), (true, am_12)]
noncomputable def con_3097 : Con2 := ((yX11_chance, cX11_chance, 9, (some .long)), (6, 151), ([(6, 0, 0), (1, 1, 0), (1, 2, 0), (1, 3, 0), (1, 4, 0)], gi_2734, hc_240, rq_10), [((4, 132, 0), gi_2735, hq_966, [], tg_22)])
theorem hd_3097 : con_3097.1 = (yX11_chance, cX11_chance, 9, (some .long)) := rfl
theorem ck_RX11_247_2853 : COK2 RX11 vwCl gTbl 247 1 con_2853 := ⟨wd_984, wd_125, mh_X11_partOf, .inl ⟨rfl, wd_982, wd_983, pd_X11_partOf⟩⟩
theorem ck_RX11_380_2851 : COK2 RX11 vwCl gTbl 380 1 con_2851 := ⟨wd_1286, wd_125, mh_X11_power10, .inl ⟨rfl, wd_1284, wd_1285, pd_X11_power10⟩⟩
theorem ck_RX11_376_3096 : COK2 RX11 vwCl gTbl 376 0 con_3096 := ⟨wd_1283, wd_125, mh_X11_windWeight, .inr (.inr ⟨rfl, wd_1280, wd_1282, wd_48, ⟨_, rfl, pd_X11_windWeight⟩, 11, _, TX11, 16, rfl, rfl⟩)⟩
theorem ck_RX11_372_2826 : COK2 RX11 vwCl gTbl 372 0 con_2826 := ⟨wd_870, wd_134, mh_X3_passDays, .inr (.inr ⟨rfl, wd_867, wd_868, wd_869, ⟨_, rfl, pd_X3_passDays⟩, 3, _, TX3, 9, rfl, rfl⟩)⟩
theorem ck_RX11_364_2817 : COK2 RX11 vwCl gTbl 364 0 con_2817 := ⟨wd_1278, wd_125, mh_X11_isChanceDay, .inr (.inr ⟨rfl, wd_1275, wd_1277, wd_47, ⟨_, rfl, pd_X11_isChanceDay⟩, 11, _, TX11, 16, rfl, rfl⟩)⟩
noncomputable def ct_3097 : CTB2 := [(2, 139, 0, con_647, [0, 1, 2]), (10, 364, 0, con_2817, [0, 1, 2]), (29, 143, 1, con_648, []), (40, 208, 0, con_929, [0, 1, 3, 2, 4, 5, 6, 7, 8, 9, 10, 11, 12, 13, 14, 15, 16, 17, 18, 19, 20, 21, 22, 23, 24, 25, 26]), (51, 332, 0, con_1456, [27, 3, 28, 4, 29, 5, 30, 6]), (100, 372, 0, con_2826, [31, 2, 27, 16, 32, 18, 33, 29, 34, 28, 35, 22, 23, 36, 37, 38, 30]), (129, 376, 0, con_3096, [0, 1, 2]), (145, 380, 1, con_2851, []), (150, 247, 1, con_2853, [])]
noncomputable def gi_2736 : GI := jl_n [gp_52, jl_i 0 7, jl_i 0 300, jl_i 0 1, gp_269, gp_118, jl_i 1 5, gp_786, jl_z 6, jl_u, jl_i 0 256, gp_781]
noncomputable def ac_1402 : AC := .inl (11, jl_n [jl_8 7 2, vp_22, vp_150, jl_8 18 3, jl_c 1, jl_8 21 2])
noncomputable def ac_1403 : AC := .inl (3, jl_n [vp_77, jl_1 169 2])
noncomputable def ac_1404 : AC := .inl (3, jl_n [vp_140, jl_1 182 2])
noncomputable def hq_967 : HP := [(true, ac_1402), (false, .inl (9, [(6, 2, 0), (6, 11, 0)])), (false, ac_1401), (true, .inl (7, [(6, 4, 0), (6, 5, 0), (6, 6, 0), (1, 159, 0)])), (true, am_7), (true, am_1), (true, am_1), (false, am_1), (false, .inl (1, [(6, 2, 0), (8, 45, 0)])), (false, am_4), (false, am_6), (false, .inl (0, [(1, 46, 0), (6, 12, 0), (6, 13, 0), (6, 14, 0)])), (false, ac_1391), (false, am_11), (false, ac_1392), (true, ac_1403), (false, am_2), (true, am_0), (false, am_10), (true, am_0), (true, am_1), (true, am_0), (false, am_2), (false, am_9), (true, am_0), (true, am_0), (true, am_12), (true, .inl (7, [(6, 28, 0), (6, 29, 0), (6, 30, 0), (1, 172, 0)])), (true, am_7), (true, am_1), (true, am_1), (true, ac_1404), (true, am_0), (true, am_0), (true, am_1), (true, am_0), (true, am_0), (true, am_0), (true, am_12)]
noncomputable def cu_3097 : List CUT2 := [((65, [lq 0 6 0, lq 1 1 1, lq 2 1 2, lq 3 1 3, lq 4 1 4, (5, (1, 2, 1)), lq 6 4 138, lq 8 1 139], [], gi_2736, hq_967), rq_10, ([(139, (-1))], 256))]
theorem ch_3097 : staG tb_X11_chance 1 bt_RX11 [] ct_3097 [] [] cu_3097 41 con_3097 = true := by decide +kernel
theorem cc_3097 : cu_3097.all (cutG tb_X11_chance 1 bt_RX11 [] ct_3097 [] [] cu_3097 41 con_3097) = true := by decide +kernel
theorem cto_3097 (l : Launch) : CTOK2 l RX11 vwCl gTbl ct_3097 := ct2_cons (vl_647 l) ck_RX11_139_647 (ct2_cons (vl_2817 l) ck_RX11_364_2817 (ct2_cons (vl_648 l) ck_RX11_143_648 (ct2_cons (vl_929 l) ck_RX11_208_929 (ct2_cons (vl_1456 l) ck_RX11_332_1456 (ct2_cons (vl_2826 l) ck_RX11_372_2826 (ct2_cons (vl_3096 l) ck_RX11_376_3096 (ct2_cons (vl_2851 l) ck_RX11_380_2851 (ct2_cons (vl_2853 l) ck_RX11_247_2853 (ct2_nil)))))))))
theorem vl_3097 (l : Launch) : Vld2 l vwCl gTbl con_3097 := conR_ok3 gT_all (hd_3097) rfl pn_RX11 tk_X11_chance bo_RX11 xo_RX11 (cto_3097 l) ch_3097 (cut_all cc_3097)
/-- RookHustingModel isWinds -/
noncomputable def gi_2737 : GI := jl_n [gp_225, gp_321, gp_364, gp_203]
noncomputable def con_3098 : Con2 := ((yX12_isWinds, cX12_isWinds, 3, (some .boolean)), (2, 47), ([(6, 0, 0), (1, 1, 0), (1, 2, 0)], gi_303, [ac_439, ac_440], []), [((0, 0, 0), gi_538, [(false, ac_439), (false, ac_440)], [], [1]), ((0, 1, 0), gi_2737, [(false, ac_439), (false, ac_440)], [], [1])])
theorem hd_3098 : con_3098.1 = (yX12_isWinds, cX12_isWinds, 3, (some .boolean)) := rfl
noncomputable def ct_3098 : CTB2 := [(3, 372, 0, con_1368, [0, 1]), (15, 91, 1, con_829, []), (25, 91, 1, con_652, [])]
noncomputable def cu_3098 : List CUT2 := []
theorem ch_3098 : staG tb_X12_isWinds 1 bt_RX12 [] ct_3098 [] [] cu_3098 22 con_3098 = true := by decide +kernel
theorem cto_3098 (l : Launch) : CTOK2 l RX12 vwCl gTbl ct_3098 := ct2_cons (vl_1368 l) ck_RX12_372_1368 (ct2_cons (vl_829 l) ck_RX12_91_829 (ct2_cons (vl_652 l) ck_RX12_91_652 (ct2_nil)))
theorem vl_3098 (l : Launch) : Vld2 l vwCl gTbl con_3098 := conR_ok3 gT_all (hd_3098) rfl pn_RX12 tk_X12_isWinds bo_RX12 xo_RX12 (cto_3098 l) ch_3098 cut_nil
/-- RookHustingModel bit -/
noncomputable def con_3099 : Con2 := ((yX12_bit, cX12_bit, 2, (some .int)), (0, 0), ([(0, 0, 0), (0, 5, 0)], [(0, 0), (0, 0)], [], []), [((0, 0, 0), [(0, 0), (0, 0), (0, 0)], [], [], [1])])
theorem hd_3099 : con_3099.1 = (yX12_bit, cX12_bit, 2, (some .int)) := rfl
noncomputable def cu_3099 : List CUT2 := []
theorem ch_3099 : staG tb_X12_bit 1 bt_RX12 [] ct_2 [] [] cu_3099 8 con_3099 = true := by decide +kernel
theorem vl_3099 (l : Launch) : Vld2 l vwCl gTbl con_3099 := conR_ok3 gT_all (hd_3099) rfl pn_RX12 tk_X12_bit bo_RX12 xo_RX12 (cto_2 l) ch_3099 cut_nil
/-- RookHustingModel bit -/
noncomputable def con_3100 : Con2 := ((yX12_bit, cX12_bit, 2, (some .int)), (0, 0), ([(0, 0, 0), (0, 6, 0)], [(0, 0), (0, 0)], [], []), [((0, 0, 0), [(0, 0), (0, 0), (0, 0)], [], [], [1])])
theorem hd_3100 : con_3100.1 = (yX12_bit, cX12_bit, 2, (some .int)) := rfl
noncomputable def cu_3100 : List CUT2 := []
theorem ch_3100 : staG tb_X12_bit 1 bt_RX12 [] ct_2 [] [] cu_3100 8 con_3100 = true := by decide +kernel
theorem vl_3100 (l : Launch) : Vld2 l vwCl gTbl con_3100 := conR_ok3 gT_all (hd_3100) rfl pn_RX12 tk_X12_bit bo_RX12 xo_RX12 (cto_2 l) ch_3100 cut_nil
/-- RookHustingModel bit -/
noncomputable def con_3101 : Con2 := ((yX12_bit, cX12_bit, 2, (some .int)), (0, 0), ([(0, 0, 0), (0, 7, 0)], [(0, 0), (0, 0)], [], []), [((0, 0, 0), [(0, 0), (0, 0), (0, 0)], [], [], [1])])
theorem hd_3101 : con_3101.1 = (yX12_bit, cX12_bit, 2, (some .int)) := rfl
noncomputable def cu_3101 : List CUT2 := []
theorem ch_3101 : staG tb_X12_bit 1 bt_RX12 [] ct_2 [] [] cu_3101 8 con_3101 = true := by decide +kernel
theorem vl_3101 (l : Launch) : Vld2 l vwCl gTbl con_3101 := conR_ok3 gT_all (hd_3101) rfl pn_RX12 tk_X12_bit bo_RX12 xo_RX12 (cto_2 l) ch_3101 cut_nil
/-- RookHustingModel bit -/
noncomputable def con_3105 : Con2 := ((yX12_bit, cX12_bit, 2, (some .int)), (0, 0), ([(0, 255, 0), (0, 0, 0)], [(0, 0), (0, 0)], [], []), [((0, 1, 0), [(0, 0), (0, 0), (0, 0)], [], [], [1])])
theorem hd_3105 : con_3105.1 = (yX12_bit, cX12_bit, 2, (some .int)) := rfl
noncomputable def cu_3105 : List CUT2 := []
theorem ch_3105 : staG tb_X12_bit 1 bt_RX12 [] ct_2 [] [] cu_3105 8 con_3105 = true := by decide +kernel
theorem vl_3105 (l : Launch) : Vld2 l vwCl gTbl con_3105 := conR_ok3 gT_all (hd_3105) rfl pn_RX12 tk_X12_bit bo_RX12 xo_RX12 (cto_2 l) ch_3105 cut_nil
/-- RookHustingModel bit -/
noncomputable def con_3106 : Con2 := ((yX12_bit, cX12_bit, 2, (some .int)), (0, 0), ([(0, 255, 0), (0, 1, 0)], [(0, 0), (0, 0)], [], []), [((0, 1, 0), [(0, 0), (0, 0), (0, 0)], [], [], [1])])
theorem hd_3106 : con_3106.1 = (yX12_bit, cX12_bit, 2, (some .int)) := rfl
noncomputable def cu_3106 : List CUT2 := []
theorem ch_3106 : staG tb_X12_bit 1 bt_RX12 [] ct_2 [] [] cu_3106 8 con_3106 = true := by decide +kernel
theorem vl_3106 (l : Launch) : Vld2 l vwCl gTbl con_3106 := conR_ok3 gT_all (hd_3106) rfl pn_RX12 tk_X12_bit bo_RX12 xo_RX12 (cto_2 l) ch_3106 cut_nil
/-- RookHustingModel bit -/
noncomputable def con_3107 : Con2 := ((yX12_bit, cX12_bit, 2, (some .int)), (0, 0), ([(0, 255, 0), (0, 2, 0)], [(0, 0), (0, 0)], [], []), [((0, 1, 0), [(0, 0), (0, 0), (0, 0)], [], [], [1])])
theorem hd_3107 : con_3107.1 = (yX12_bit, cX12_bit, 2, (some .int)) := rfl
noncomputable def cu_3107 : List CUT2 := []
theorem ch_3107 : staG tb_X12_bit 1 bt_RX12 [] ct_2 [] [] cu_3107 8 con_3107 = true := by decide +kernel
theorem vl_3107 (l : Launch) : Vld2 l vwCl gTbl con_3107 := conR_ok3 gT_all (hd_3107) rfl pn_RX12 tk_X12_bit bo_RX12 xo_RX12 (cto_2 l) ch_3107 cut_nil
/-- RookHustingModel bit -/
noncomputable def con_3108 : Con2 := ((yX12_bit, cX12_bit, 2, (some .int)), (0, 0), ([(0, 255, 0), (0, 3, 0)], [(0, 0), (0, 0)], [], []), [((0, 1, 0), [(0, 0), (0, 0), (0, 0)], [], [], [1])])
theorem hd_3108 : con_3108.1 = (yX12_bit, cX12_bit, 2, (some .int)) := rfl
noncomputable def cu_3108 : List CUT2 := []
theorem ch_3108 : staG tb_X12_bit 1 bt_RX12 [] ct_2 [] [] cu_3108 8 con_3108 = true := by decide +kernel
theorem vl_3108 (l : Launch) : Vld2 l vwCl gTbl con_3108 := conR_ok3 gT_all (hd_3108) rfl pn_RX12 tk_X12_bit bo_RX12 xo_RX12 (cto_2 l) ch_3108 cut_nil
/-- RookHustingModel bit -/
noncomputable def con_3109 : Con2 := ((yX12_bit, cX12_bit, 2, (some .int)), (0, 0), ([(0, 255, 0), (0, 4, 0)], [(0, 0), (0, 0)], [], []), [((0, 1, 0), [(0, 0), (0, 0), (0, 0)], [], [], [1])])
theorem hd_3109 : con_3109.1 = (yX12_bit, cX12_bit, 2, (some .int)) := rfl
noncomputable def cu_3109 : List CUT2 := []
theorem ch_3109 : staG tb_X12_bit 1 bt_RX12 [] ct_2 [] [] cu_3109 8 con_3109 = true := by decide +kernel
theorem vl_3109 (l : Launch) : Vld2 l vwCl gTbl con_3109 := conR_ok3 gT_all (hd_3109) rfl pn_RX12 tk_X12_bit bo_RX12 xo_RX12 (cto_2 l) ch_3109 cut_nil
/-- RookHustingModel bit -/
noncomputable def con_3110 : Con2 := ((yX12_bit, cX12_bit, 2, (some .int)), (0, 0), ([(0, 255, 0), (0, 5, 0)], [(0, 0), (0, 0)], [], []), [((0, 1, 0), [(0, 0), (0, 0), (0, 0)], [], [], [1])])
theorem hd_3110 : con_3110.1 = (yX12_bit, cX12_bit, 2, (some .int)) := rfl
noncomputable def cu_3110 : List CUT2 := []
theorem ch_3110 : staG tb_X12_bit 1 bt_RX12 [] ct_2 [] [] cu_3110 8 con_3110 = true := by decide +kernel
theorem vl_3110 (l : Launch) : Vld2 l vwCl gTbl con_3110 := conR_ok3 gT_all (hd_3110) rfl pn_RX12 tk_X12_bit bo_RX12 xo_RX12 (cto_2 l) ch_3110 cut_nil
/-- RookHustingModel bit -/
noncomputable def con_3111 : Con2 := ((yX12_bit, cX12_bit, 2, (some .int)), (0, 0), ([(0, 255, 0), (0, 6, 0)], [(0, 0), (0, 0)], [], []), [((0, 1, 0), [(0, 0), (0, 0), (0, 0)], [], [], [1])])
theorem hd_3111 : con_3111.1 = (yX12_bit, cX12_bit, 2, (some .int)) := rfl
noncomputable def cu_3111 : List CUT2 := []
theorem ch_3111 : staG tb_X12_bit 1 bt_RX12 [] ct_2 [] [] cu_3111 8 con_3111 = true := by decide +kernel
theorem vl_3111 (l : Launch) : Vld2 l vwCl gTbl con_3111 := conR_ok3 gT_all (hd_3111) rfl pn_RX12 tk_X12_bit bo_RX12 xo_RX12 (cto_2 l) ch_3111 cut_nil
/-- RookHustingModel bit -/
noncomputable def con_3112 : Con2 := ((yX12_bit, cX12_bit, 2, (some .int)), (0, 0), ([(0, 255, 0), (0, 7, 0)], [(0, 0), (0, 0)], [], []), [((0, 1, 0), [(0, 0), (0, 0), (0, 0)], [], [], [1])])
theorem hd_3112 : con_3112.1 = (yX12_bit, cX12_bit, 2, (some .int)) := rfl
noncomputable def cu_3112 : List CUT2 := []
theorem ch_3112 : staG tb_X12_bit 1 bt_RX12 [] ct_2 [] [] cu_3112 8 con_3112 = true := by decide +kernel
theorem vl_3112 (l : Launch) : Vld2 l vwCl gTbl con_3112 := conR_ok3 gT_all (hd_3112) rfl pn_RX12 tk_X12_bit bo_RX12 xo_RX12 (cto_2 l) ch_3112 cut_nil
/-- RookHustingModel layWinds -/
noncomputable def gi_2738 : GI := jl_n [gp_789, gp_124]
noncomputable def ac_1405 : AC := .inl (12, jl_n [vp_55, jl_1 22 1, jl_6 7 3, jl_1 29 4, vp_110, jl_8 42 7, jl_4 45 3, jl_8 49 4])
noncomputable def hc_241 : List AC := [ac_1405, ac_461, am_8, am_5, am_7, am_7, am_1, am_0, am_0, am_0, am_13, am_14, am_15]
noncomputable def gi_2739 : GI := jl_n [gp_791, jl_i 0 255, jl_z 16, gp_793]
noncomputable def ac_1406 : AC := .inl (12, jl_n [vp_152, jl_1 94 1, vp_154, jl_4 113 3, jl_8 49 4])
noncomputable def hq_968 : HP := [(true, ac_1406), (false, ac_461), (true, am_8), (true, am_5), (true, am_7), (true, am_7), (true, am_1), (true, am_0), (true, am_0), (true, am_0), (true, am_13), (true, am_14), (true, am_15)]
noncomputable def con_3113 : Con2 := ((yX12_layWinds, cX12_layWinds, 8, none), (8, 188), ([(6, 0, 0), (1, 1, 0), (0, 7, 0), (1, 3, 0)], gi_2738, hc_241, []), [((9, 0, 0), gi_2739, hq_968, [], tg_23)])
theorem hd_3113 : con_3113.1 = (yX12_layWinds, cX12_layWinds, 8, none) := rfl
theorem ck_RX12_199_3099 : COK2 RX12 vwCl gTbl 199 1 con_3099 := ⟨wd_1648, wd_137, mh_X12_bit, .inl ⟨rfl, wd_1646, wd_1647, pd_X12_bit⟩⟩
theorem ck_RX12_199_3100 : COK2 RX12 vwCl gTbl 199 1 con_3100 := ⟨wd_1648, wd_137, mh_X12_bit, .inl ⟨rfl, wd_1646, wd_1647, pd_X12_bit⟩⟩
theorem ck_RX12_199_3101 : COK2 RX12 vwCl gTbl 199 1 con_3101 := ⟨wd_1648, wd_137, mh_X12_bit, .inl ⟨rfl, wd_1646, wd_1647, pd_X12_bit⟩⟩
theorem ck_RX12_199_3105 : COK2 RX12 vwCl gTbl 199 1 con_3105 := ⟨wd_1648, wd_137, mh_X12_bit, .inl ⟨rfl, wd_1646, wd_1647, pd_X12_bit⟩⟩
theorem ck_RX12_199_3106 : COK2 RX12 vwCl gTbl 199 1 con_3106 := ⟨wd_1648, wd_137, mh_X12_bit, .inl ⟨rfl, wd_1646, wd_1647, pd_X12_bit⟩⟩
theorem ck_RX12_199_3107 : COK2 RX12 vwCl gTbl 199 1 con_3107 := ⟨wd_1648, wd_137, mh_X12_bit, .inl ⟨rfl, wd_1646, wd_1647, pd_X12_bit⟩⟩
theorem ck_RX12_199_3108 : COK2 RX12 vwCl gTbl 199 1 con_3108 := ⟨wd_1648, wd_137, mh_X12_bit, .inl ⟨rfl, wd_1646, wd_1647, pd_X12_bit⟩⟩
theorem ck_RX12_199_3109 : COK2 RX12 vwCl gTbl 199 1 con_3109 := ⟨wd_1648, wd_137, mh_X12_bit, .inl ⟨rfl, wd_1646, wd_1647, pd_X12_bit⟩⟩
theorem ck_RX12_199_3110 : COK2 RX12 vwCl gTbl 199 1 con_3110 := ⟨wd_1648, wd_137, mh_X12_bit, .inl ⟨rfl, wd_1646, wd_1647, pd_X12_bit⟩⟩
theorem ck_RX12_199_3111 : COK2 RX12 vwCl gTbl 199 1 con_3111 := ⟨wd_1648, wd_137, mh_X12_bit, .inl ⟨rfl, wd_1646, wd_1647, pd_X12_bit⟩⟩
theorem ck_RX12_199_3112 : COK2 RX12 vwCl gTbl 199 1 con_3112 := ⟨wd_1648, wd_137, mh_X12_bit, .inl ⟨rfl, wd_1646, wd_1647, pd_X12_bit⟩⟩
noncomputable def ct_3113 : CTB2 := [(16, 345, 0, con_934, [0, 1, 2, 3, 4, 5, 6]), (48, 199, 1, con_3112, []), (48, 199, 1, con_3111, []), (48, 199, 1, con_3110, []), (48, 199, 1, con_3109, []), (48, 199, 1, con_3108, []), (48, 199, 1, con_3107, []), (48, 199, 1, con_3106, []), (48, 199, 1, con_3105, []), (48, 199, 1, con_3101, []), (48, 199, 1, con_3100, []), (48, 199, 1, con_3099, []), (48, 199, 1, con_387, []), (48, 199, 1, con_390, []), (48, 199, 1, con_391, []), (48, 199, 1, con_392, []), (48, 199, 1, con_393, []), (48, 199, 1, con_394, []), (101, 363, 0, con_1352, [0, 1, 7, 8, 5, 6, 9, 10, 11, 12]), (157, 375, 0, con_1377, [0, 1, 7])]
noncomputable def rf_3113 : List (Nat × List POP) := [(19, [(2, (2, 1, 2), 1, 0), (2, (2, 1, 2), 10, 0)]), (30, [(2, (1, 4, 0), 255, 0)]), (111, [(0, (0, 1, 0), 0, 25600000000)])]
noncomputable def gi_2740 : GI := jl_n [gp_796, jl_z 64]
noncomputable def ac_1407 : AC := .inl (12, jl_n [vp_152, vp_0, vp_153, jl_x (3, 0, 0), jl_x (3, 0, 0), jl_x (3, 0, 0), jl_8 49 4])
noncomputable def hq_969 : HP := [(true, ac_1407), (false, ac_461), (true, am_8), (true, am_5), (true, am_7), (true, am_7), (true, am_1), (false, am_0), (false, am_0), (false, am_0), (false, am_13), (false, am_14), (false, am_15)]
noncomputable def gi_2741 : GI := jl_n [gp_798, jl_z 64]
noncomputable def gi_2742 : GI := jl_n [gp_800, jl_z 64]
noncomputable def gi_2743 : GI := jl_n [gp_796, jl_z 66]
noncomputable def gi_2744 : GI := jl_n [gp_798, jl_z 66]
noncomputable def gi_2745 : GI := jl_n [gp_800, jl_z 66]
noncomputable def gi_2746 : GI := jl_n [gp_802, jl_z 46]
noncomputable def gi_2747 : GI := jl_n [gp_803, jl_z 46]
noncomputable def gi_2748 : GI := jl_n [gp_804, jl_z 46]
noncomputable def gi_2749 : GI := jl_n [gp_805, jl_z 46]
noncomputable def gi_2750 : GI := jl_n [gp_806, jl_z 46]
noncomputable def gi_2751 : GI := jl_n [gp_807, jl_z 46]
noncomputable def gi_2752 : GI := jl_n [gp_808, jl_z 46]
noncomputable def gi_2753 : GI := jl_n [gp_801, jl_i 1 43046721, jl_z 46]
noncomputable def gi_2754 : GI := jl_n [gp_810, jl_i 1 255, jl_i 0 100000000, gp_814]
noncomputable def ac_1408 : AC := .inl (12, jl_n [vp_152, jl_1 101 1, vp_156])
noncomputable def hq_970 : HP := [(true, ac_1408), (false, ac_461), (true, am_8), (true, am_5), (true, am_7), (true, am_7), (true, am_1), (true, am_0), (true, am_0), (true, am_0), (true, am_13), (true, am_14), (true, am_15)]
noncomputable def gi_2755 : GI := jl_n [gp_815, jl_i 1 255, jl_i 1 43046721, gp_817]
noncomputable def gi_2756 : GI := jl_n [gp_818, jl_i 1 255, jl_i 0 100000000, gp_819]
noncomputable def gi_2757 : GI := jl_n [gp_820, jl_z 23, gp_811, gp_813]
noncomputable def gi_2758 : GI := jl_n [gp_821, jl_z 23, gp_811, gp_816]
noncomputable def gi_2759 : GI := jl_n [gp_822, jl_z 23, gp_811, gp_793]
noncomputable def gi_2760 : GI := jl_n [gp_820, jl_i 0 10, gp_814]
noncomputable def gi_2761 : GI := jl_n [gp_821, jl_i 1 9, gp_817]
noncomputable def gi_2762 : GI := jl_n [gp_822, jl_i 0 10, gp_819]
noncomputable def gi_2763 : GI := jl_n [gp_820, jl_i 0 100, gp_814]
noncomputable def gi_2764 : GI := jl_n [gp_821, jl_i 1 81, gp_817]
noncomputable def gi_2765 : GI := jl_n [gp_822, jl_i 0 100, gp_819]
noncomputable def gi_2766 : GI := jl_n [gp_820, jl_i 0 1000, gp_814]
noncomputable def gi_2767 : GI := jl_n [gp_821, jl_i 1 729, gp_817]
noncomputable def gi_2768 : GI := jl_n [gp_822, jl_i 0 1000, gp_819]
noncomputable def gi_2769 : GI := jl_n [gp_820, jl_i 0 10000, gp_814]
noncomputable def gi_2770 : GI := jl_n [gp_821, jl_i 1 6561, gp_817]
noncomputable def gi_2771 : GI := jl_n [gp_822, jl_i 0 10000, gp_819]
noncomputable def gi_2772 : GI := jl_n [gp_820, jl_i 0 100000, gp_814]
noncomputable def gi_2773 : GI := jl_n [gp_821, jl_i 1 59049, gp_817]
noncomputable def gi_2774 : GI := jl_n [gp_822, jl_i 0 100000, gp_819]
noncomputable def gi_2775 : GI := jl_n [gp_820, jl_i 0 1000000, gp_814]
noncomputable def gi_2776 : GI := jl_n [gp_821, jl_i 1 531441, gp_817]
noncomputable def gi_2777 : GI := jl_n [gp_822, jl_i 0 1000000, gp_819]
noncomputable def gi_2778 : GI := jl_n [gp_820, jl_i 0 10000000, gp_814]
noncomputable def gi_2779 : GI := jl_n [gp_821, jl_i 1 4782969, gp_817]
noncomputable def gi_2780 : GI := jl_n [gp_822, jl_i 0 10000000, gp_819]
noncomputable def gi_2781 : GI := jl_n [gp_820, jl_i 0 100000000, gp_814]
noncomputable def gi_2782 : GI := jl_n [gp_821, jl_i 1 43046721, gp_817]
noncomputable def gi_2783 : GI := jl_n [gp_822, jl_i 0 100000000, gp_819]
noncomputable def gi_2784 : GI := jl_n [gp_823, gp_811, gp_813]
noncomputable def gi_2785 : GI := jl_n [gp_824, gp_811, gp_816]
noncomputable def gi_2786 : GI := jl_n [gp_825, gp_811, gp_793]
noncomputable def gi_2787 : GI := jl_n [gp_802, gp_817]
noncomputable def gi_2788 : GI := jl_n [gp_803, gp_817]
noncomputable def gi_2789 : GI := jl_n [gp_804, gp_817]
noncomputable def gi_2790 : GI := jl_n [gp_805, gp_817]
noncomputable def gi_2791 : GI := jl_n [gp_806, gp_817]
noncomputable def gi_2792 : GI := jl_n [gp_807, gp_817]
noncomputable def gi_2793 : GI := jl_n [gp_808, gp_817]
noncomputable def gi_2794 : GI := jl_n [gp_801, jl_i 1 43046721, gp_817]
noncomputable def gi_2795 : GI := jl_n [gp_826, jl_i 100000000 25700000000, gp_792]
noncomputable def ac_1409 : AC := .inl (12, jl_n [vp_152, jl_c 255, vp_156])
noncomputable def hq_971 : HP := [(true, ac_1409), (false, ac_461), (true, am_8), (true, am_5), (true, am_7), (true, am_7), (true, am_1), (true, am_0), (true, am_0), (true, am_0), (true, am_13), (true, am_14), (true, am_15)]
noncomputable def gi_2796 : GI := jl_n [gp_801, jl_i 1 43046721, jl_z 39, gp_816]
noncomputable def cu_3113_0 : List CUT2 := [((22, [lq 0 6 0, lq 1 1 1, lq 2 0 7, lq 3 1 3, lq 4 0 0], [], gi_2740, hq_969), [], ([], 2569)), ((22, [lq 0 6 0, lq 1 1 1, lq 2 0 7, lq 3 1 3, lq 4 0 0], [], gi_2741, hq_969), [], ([], 2569)), ((22, [lq 0 6 0, lq 1 1 1, lq 2 0 7, lq 3 1 3, lq 4 0 0], [], gi_2742, hq_969), [], ([], 2569)), ((36, [lq 0 6 0, lq 1 1 1, lq 2 0 7, lq 3 1 3, lq 4 0 0, lq 5 3 1, lq 7 0 0], [], gi_2743, hq_969), [], ([], 2568)), ((36, [lq 0 6 0, lq 1 1 1, lq 2 0 7, lq 3 1 3, lq 4 0 0, lq 5 3 1, lq 7 0 0], [], gi_2744, hq_969), [], ([], 2568)), ((36, [lq 0 6 0, lq 1 1 1, lq 2 0 7, lq 3 1 3, lq 4 0 0, lq 5 3 1, lq 7 0 0], [], gi_2745, hq_969), [], ([], 2568)), ((36, [lq 0 6 0, lq 1 1 1, lq 2 0 7, lq 3 1 3, lq 4 0 0, lq 5 3 0, lq 7 0 1], [], gi_2743, hq_969), [], ([], 2567)), ((36, [lq 0 6 0, lq 1 1 1, lq 2 0 7, lq 3 1 3, lq 4 0 0, lq 5 4 77, lq 7 0 1], [], gi_2746, hq_969), [], ([], 2567)), ((36, [lq 0 6 0, lq 1 1 1, lq 2 0 7, lq 3 1 3, lq 4 0 0, lq 5 3 10, lq 7 0 1], [], gi_2745, hq_969), [], ([], 2567)), ((36, [lq 0 6 0, lq 1 1 1, lq 2 0 7, lq 3 1 3, lq 4 0 0, lq 5 3 0, lq 7 0 2], [], gi_2743, hq_969), [], ([], 2566)), ((36, [lq 0 6 0, lq 1 1 1, lq 2 0 7, lq 3 1 3, lq 4 0 0, lq 5 4 77, lq 7 0 2], [], gi_2747, hq_969), [], ([], 2566)), ((36, [lq 0 6 0, lq 1 1 1, lq 2 0 7, lq 3 1 3, lq 4 0 0, lq 5 3 100, lq 7 0 2], [], gi_2745, hq_969), [], ([], 2566)), ((36, [lq 0 6 0, lq 1 1 1, lq 2 0 7, lq 3 1 3, lq 4 0 0, lq 5 3 0, lq 7 0 3], [], gi_2743, hq_969), [], ([], 2565)), ((36, [lq 0 6 0, lq 1 1 1, lq 2 0 7, lq 3 1 3, lq 4 0 0, lq 5 4 77, lq 7 0 3], [], gi_2748, hq_969), [], ([], 2565)), ((36, [lq 0 6 0, lq 1 1 1, lq 2 0 7, lq 3 1 3, lq 4 0 0, lq 5 3 1000, lq 7 0 3], [], gi_2745, hq_969), [], ([], 2565)), ((36, [lq 0 6 0, lq 1 1 1, lq 2 0 7, lq 3 1 3, lq 4 0 0, lq 5 3 0, lq 7 0 4], [], gi_2743, hq_969), [], ([], 2564)), ((36, [lq 0 6 0, lq 1 1 1, lq 2 0 7, lq 3 1 3, lq 4 0 0, lq 5 4 77, lq 7 0 4], [], gi_2749, hq_969), [], ([], 2564)), ((36, [lq 0 6 0, lq 1 1 1, lq 2 0 7, lq 3 1 3, lq 4 0 0, lq 5 3 10000, lq 7 0 4], [], gi_2745, hq_969), [], ([], 2564)), ((36, [lq 0 6 0, lq 1 1 1, lq 2 0 7, lq 3 1 3, lq 4 0 0, lq 5 3 0, lq 7 0 5], [], gi_2743, hq_969), [], ([], 2563)), ((36, [lq 0 6 0, lq 1 1 1, lq 2 0 7, lq 3 1 3, lq 4 0 0, lq 5 4 77, lq 7 0 5], [], gi_2750, hq_969), [], ([], 2563)), ((36, [lq 0 6 0, lq 1 1 1, lq 2 0 7, lq 3 1 3, lq 4 0 0, lq 5 3 100000, lq 7 0 5], [], gi_2745, hq_969), [], ([], 2563)), ((36, [lq 0 6 0, lq 1 1 1, lq 2 0 7, lq 3 1 3, lq 4 0 0, lq 5 3 0, lq 7 0 6], [], gi_2743, hq_969), [], ([], 2562)), ((36, [lq 0 6 0, lq 1 1 1, lq 2 0 7, lq 3 1 3, lq 4 0 0, lq 5 4 77, lq 7 0 6], [], gi_2751, hq_969), [], ([], 2562)), ((36, [lq 0 6 0, lq 1 1 1, lq 2 0 7, lq 3 1 3, lq 4 0 0, lq 5 3 1000000, lq 7 0 6], [], gi_2745, hq_969), [], ([], 2562)), ((36, [lq 0 6 0, lq 1 1 1, lq 2 0 7, lq 3 1 3, lq 4 0 0, lq 5 3 0, lq 7 0 7], [], gi_2743, hq_969), [], ([], 2561)), ((36, [lq 0 6 0, lq 1 1 1, lq 2 0 7, lq 3 1 3, lq 4 0 0, lq 5 4 77, lq 7 0 7], [], gi_2752, hq_969), [], ([], 2561)), ((36, [lq 0 6 0, lq 1 1 1, lq 2 0 7, lq 3 1 3, lq 4 0 0, lq 5 3 10000000, lq 7 0 7], [], gi_2745, hq_969), [], ([], 2561)), ((36, [lq 0 6 0, lq 1 1 1, lq 2 0 7, lq 3 1 3, lq 4 0 0, lq 5 3 0, lq 7 0 8], [], gi_2743, hq_969), [], ([], 2560)), ((36, [lq 0 6 0, lq 1 1 1, lq 2 0 7, lq 3 1 3, lq 4 0 0, lq 5 4 77, lq 7 0 8], [], gi_2753, hq_969), [], ([], 2560)), ((36, [lq 0 6 0, lq 1 1 1, lq 2 0 7, lq 3 1 3, lq 4 0 0, lq 5 3 100000000, lq 7 0 8], [], gi_2745, hq_969), [], ([], 2560)), ((22, [lq 0 6 0, lq 1 1 1, lq 2 0 7, lq 3 1 3, lq 4 1 76, lq 5 4 77, lq 7 0 8], [], gi_2754, hq_970), [([(76, 100000000), (117, (-1))], 0)], ([(76, (-10))], 2569)), ((22, [lq 0 6 0, lq 1 1 1, lq 2 0 7, lq 3 1 3, lq 4 1 76, lq 5 4 77, lq 7 0 8], [], gi_2755, hq_970), [([(76, 100000000), (117, (-1))], 0)], ([(76, (-10))], 2569)), ((22, [lq 0 6 0, lq 1 1 1, lq 2 0 7, lq 3 1 3, lq 4 1 76, lq 5 4 77, lq 7 0 8], [], gi_2756, hq_970), [([(76, 100000000), (117, (-1))], 0)], ([(76, (-10))], 2569)), ((36, [lq 0 6 0, lq 1 1 1, lq 2 0 7, lq 3 1 3, lq 4 1 76, lq 5 3 1, lq 7 0 0], [], gi_2757, hq_970), [([(76, 100000000), (117, (-1))], 0)], ([(76, (-10))], 2568)), ((36, [lq 0 6 0, lq 1 1 1, lq 2 0 7, lq 3 1 3, lq 4 1 76, lq 5 3 1, lq 7 0 0], [], gi_2758, hq_970), [([(76, 100000000), (117, (-1))], 0)], ([(76, (-10))], 2568)), ((36, [lq 0 6 0, lq 1 1 1, lq 2 0 7, lq 3 1 3, lq 4 1 76, lq 5 3 1, lq 7 0 0], [], gi_2759, hq_970), [([(76, 100000000), (117, (-1))], 0)], ([(76, (-10))], 2568))]
noncomputable def cu_3113_1 : List CUT2 := [((36, [lq 0 6 0, lq 1 1 1, lq 2 0 7, lq 3 1 3, lq 4 1 76, lq 5 4 77, lq 7 0 1], [], gi_2760, hq_970), [([(76, 100000000), (117, (-1))], 0)], ([(76, (-10))], 2567)), ((36, [lq 0 6 0, lq 1 1 1, lq 2 0 7, lq 3 1 3, lq 4 1 76, lq 5 4 77, lq 7 0 1], [], gi_2761, hq_970), [([(76, 100000000), (117, (-1))], 0)], ([(76, (-10))], 2567)), ((36, [lq 0 6 0, lq 1 1 1, lq 2 0 7, lq 3 1 3, lq 4 1 76, lq 5 4 77, lq 7 0 1], [], gi_2762, hq_970), [([(76, 100000000), (117, (-1))], 0)], ([(76, (-10))], 2567)), ((36, [lq 0 6 0, lq 1 1 1, lq 2 0 7, lq 3 1 3, lq 4 1 76, lq 5 4 77, lq 7 0 2], [], gi_2763, hq_970), [([(76, 100000000), (117, (-1))], 0)], ([(76, (-10))], 2566)), ((36, [lq 0 6 0, lq 1 1 1, lq 2 0 7, lq 3 1 3, lq 4 1 76, lq 5 4 77, lq 7 0 2], [], gi_2764, hq_970), [([(76, 100000000), (117, (-1))], 0)], ([(76, (-10))], 2566)), ((36, [lq 0 6 0, lq 1 1 1, lq 2 0 7, lq 3 1 3, lq 4 1 76, lq 5 4 77, lq 7 0 2], [], gi_2765, hq_970), [([(76, 100000000), (117, (-1))], 0)], ([(76, (-10))], 2566)), ((36, [lq 0 6 0, lq 1 1 1, lq 2 0 7, lq 3 1 3, lq 4 1 76, lq 5 4 77, lq 7 0 3], [], gi_2766, hq_970), [([(76, 100000000), (117, (-1))], 0)], ([(76, (-10))], 2565)), ((36, [lq 0 6 0, lq 1 1 1, lq 2 0 7, lq 3 1 3, lq 4 1 76, lq 5 4 77, lq 7 0 3], [], gi_2767, hq_970), [([(76, 100000000), (117, (-1))], 0)], ([(76, (-10))], 2565)), ((36, [lq 0 6 0, lq 1 1 1, lq 2 0 7, lq 3 1 3, lq 4 1 76, lq 5 4 77, lq 7 0 3], [], gi_2768, hq_970), [([(76, 100000000), (117, (-1))], 0)], ([(76, (-10))], 2565)), ((36, [lq 0 6 0, lq 1 1 1, lq 2 0 7, lq 3 1 3, lq 4 1 76, lq 5 4 77, lq 7 0 4], [], gi_2769, hq_970), [([(76, 100000000), (117, (-1))], 0)], ([(76, (-10))], 2564)), ((36, [lq 0 6 0, lq 1 1 1, lq 2 0 7, lq 3 1 3, lq 4 1 76, lq 5 4 77, lq 7 0 4], [], gi_2770, hq_970), [([(76, 100000000), (117, (-1))], 0)], ([(76, (-10))], 2564)), ((36, [lq 0 6 0, lq 1 1 1, lq 2 0 7, lq 3 1 3, lq 4 1 76, lq 5 4 77, lq 7 0 4], [], gi_2771, hq_970), [([(76, 100000000), (117, (-1))], 0)], ([(76, (-10))], 2564)), ((36, [lq 0 6 0, lq 1 1 1, lq 2 0 7, lq 3 1 3, lq 4 1 76, lq 5 4 77, lq 7 0 5], [], gi_2772, hq_970), [([(76, 100000000), (117, (-1))], 0)], ([(76, (-10))], 2563)), ((36, [lq 0 6 0, lq 1 1 1, lq 2 0 7, lq 3 1 3, lq 4 1 76, lq 5 4 77, lq 7 0 5], [], gi_2773, hq_970), [([(76, 100000000), (117, (-1))], 0)], ([(76, (-10))], 2563)), ((36, [lq 0 6 0, lq 1 1 1, lq 2 0 7, lq 3 1 3, lq 4 1 76, lq 5 4 77, lq 7 0 5], [], gi_2774, hq_970), [([(76, 100000000), (117, (-1))], 0)], ([(76, (-10))], 2563)), ((36, [lq 0 6 0, lq 1 1 1, lq 2 0 7, lq 3 1 3, lq 4 1 76, lq 5 4 77, lq 7 0 6], [], gi_2775, hq_970), [([(76, 100000000), (117, (-1))], 0)], ([(76, (-10))], 2562)), ((36, [lq 0 6 0, lq 1 1 1, lq 2 0 7, lq 3 1 3, lq 4 1 76, lq 5 4 77, lq 7 0 6], [], gi_2776, hq_970), [([(76, 100000000), (117, (-1))], 0)], ([(76, (-10))], 2562)), ((36, [lq 0 6 0, lq 1 1 1, lq 2 0 7, lq 3 1 3, lq 4 1 76, lq 5 4 77, lq 7 0 6], [], gi_2777, hq_970), [([(76, 100000000), (117, (-1))], 0)], ([(76, (-10))], 2562)), ((36, [lq 0 6 0, lq 1 1 1, lq 2 0 7, lq 3 1 3, lq 4 1 76, lq 5 4 77, lq 7 0 7], [], gi_2778, hq_970), [([(76, 100000000), (117, (-1))], 0)], ([(76, (-10))], 2561)), ((36, [lq 0 6 0, lq 1 1 1, lq 2 0 7, lq 3 1 3, lq 4 1 76, lq 5 4 77, lq 7 0 7], [], gi_2779, hq_970), [([(76, 100000000), (117, (-1))], 0)], ([(76, (-10))], 2561)), ((36, [lq 0 6 0, lq 1 1 1, lq 2 0 7, lq 3 1 3, lq 4 1 76, lq 5 4 77, lq 7 0 7], [], gi_2780, hq_970), [([(76, 100000000), (117, (-1))], 0)], ([(76, (-10))], 2561)), ((36, [lq 0 6 0, lq 1 1 1, lq 2 0 7, lq 3 1 3, lq 4 1 76, lq 5 4 77, lq 7 0 8], [], gi_2781, hq_970), [([(76, 100000000), (117, (-1))], 0)], ([(76, (-10))], 2560)), ((36, [lq 0 6 0, lq 1 1 1, lq 2 0 7, lq 3 1 3, lq 4 1 76, lq 5 4 77, lq 7 0 8], [], gi_2782, hq_970), [([(76, 100000000), (117, (-1))], 0)], ([(76, (-10))], 2560)), ((36, [lq 0 6 0, lq 1 1 1, lq 2 0 7, lq 3 1 3, lq 4 1 76, lq 5 4 77, lq 7 0 8], [], gi_2783, hq_970), [([(76, 100000000), (117, (-1))], 0)], ([(76, (-10))], 2560))]
noncomputable def cu_3113_2 : List CUT2 := [((36, [lq 0 6 0, lq 1 1 1, lq 2 0 7, lq 3 1 3, lq 4 0 255, lq 5 3 1, lq 7 0 0], [], gi_2784, hq_970), [([(117, (-1))], 25500000000)], ([], 18)), ((36, [lq 0 6 0, lq 1 1 1, lq 2 0 7, lq 3 1 3, lq 4 0 255, lq 5 3 1, lq 7 0 0], [], gi_2785, hq_970), [([(117, (-1))], 25500000000)], ([], 18)), ((36, [lq 0 6 0, lq 1 1 1, lq 2 0 7, lq 3 1 3, lq 4 0 255, lq 5 3 1, lq 7 0 0], [], gi_2786, hq_970), [([(117, (-1))], 25500000000)], ([], 18)), ((36, [lq 0 6 0, lq 1 1 1, lq 2 0 7, lq 3 1 3, lq 4 0 255, lq 5 3 10, lq 7 0 1], [], gi_2784, hq_970), [([(117, (-1))], 25500000000)], ([], 17)), ((36, [lq 0 6 0, lq 1 1 1, lq 2 0 7, lq 3 1 3, lq 4 0 255, lq 5 4 77, lq 7 0 1], [], gi_2787, hq_970), [([(117, (-1))], 25500000000)], ([], 17)), ((36, [lq 0 6 0, lq 1 1 1, lq 2 0 7, lq 3 1 3, lq 4 0 255, lq 5 3 0, lq 7 0 1], [], gi_2786, hq_970), [([(117, (-1))], 25500000000)], ([], 17)), ((36, [lq 0 6 0, lq 1 1 1, lq 2 0 7, lq 3 1 3, lq 4 0 255, lq 5 3 100, lq 7 0 2], [], gi_2784, hq_970), [([(117, (-1))], 25500000000)], ([], 16)), ((36, [lq 0 6 0, lq 1 1 1, lq 2 0 7, lq 3 1 3, lq 4 0 255, lq 5 4 77, lq 7 0 2], [], gi_2788, hq_970), [([(117, (-1))], 25500000000)], ([], 16)), ((36, [lq 0 6 0, lq 1 1 1, lq 2 0 7, lq 3 1 3, lq 4 0 255, lq 5 3 0, lq 7 0 2], [], gi_2786, hq_970), [([(117, (-1))], 25500000000)], ([], 16)), ((36, [lq 0 6 0, lq 1 1 1, lq 2 0 7, lq 3 1 3, lq 4 0 255, lq 5 3 1000, lq 7 0 3], [], gi_2784, hq_970), [([(117, (-1))], 25500000000)], ([], 15)), ((36, [lq 0 6 0, lq 1 1 1, lq 2 0 7, lq 3 1 3, lq 4 0 255, lq 5 4 77, lq 7 0 3], [], gi_2789, hq_970), [([(117, (-1))], 25500000000)], ([], 15)), ((36, [lq 0 6 0, lq 1 1 1, lq 2 0 7, lq 3 1 3, lq 4 0 255, lq 5 3 0, lq 7 0 3], [], gi_2786, hq_970), [([(117, (-1))], 25500000000)], ([], 15)), ((36, [lq 0 6 0, lq 1 1 1, lq 2 0 7, lq 3 1 3, lq 4 0 255, lq 5 3 10000, lq 7 0 4], [], gi_2784, hq_970), [([(117, (-1))], 25500000000)], ([], 14)), ((36, [lq 0 6 0, lq 1 1 1, lq 2 0 7, lq 3 1 3, lq 4 0 255, lq 5 4 77, lq 7 0 4], [], gi_2790, hq_970), [([(117, (-1))], 25500000000)], ([], 14)), ((36, [lq 0 6 0, lq 1 1 1, lq 2 0 7, lq 3 1 3, lq 4 0 255, lq 5 3 0, lq 7 0 4], [], gi_2786, hq_970), [([(117, (-1))], 25500000000)], ([], 14)), ((36, [lq 0 6 0, lq 1 1 1, lq 2 0 7, lq 3 1 3, lq 4 0 255, lq 5 3 100000, lq 7 0 5], [], gi_2784, hq_970), [([(117, (-1))], 25500000000)], ([], 13)), ((36, [lq 0 6 0, lq 1 1 1, lq 2 0 7, lq 3 1 3, lq 4 0 255, lq 5 4 77, lq 7 0 5], [], gi_2791, hq_970), [([(117, (-1))], 25500000000)], ([], 13)), ((36, [lq 0 6 0, lq 1 1 1, lq 2 0 7, lq 3 1 3, lq 4 0 255, lq 5 3 0, lq 7 0 5], [], gi_2786, hq_970), [([(117, (-1))], 25500000000)], ([], 13)), ((36, [lq 0 6 0, lq 1 1 1, lq 2 0 7, lq 3 1 3, lq 4 0 255, lq 5 3 1000000, lq 7 0 6], [], gi_2784, hq_970), [([(117, (-1))], 25500000000)], ([], 12)), ((36, [lq 0 6 0, lq 1 1 1, lq 2 0 7, lq 3 1 3, lq 4 0 255, lq 5 4 77, lq 7 0 6], [], gi_2792, hq_970), [([(117, (-1))], 25500000000)], ([], 12)), ((36, [lq 0 6 0, lq 1 1 1, lq 2 0 7, lq 3 1 3, lq 4 0 255, lq 5 3 0, lq 7 0 6], [], gi_2786, hq_970), [([(117, (-1))], 25500000000)], ([], 12)), ((36, [lq 0 6 0, lq 1 1 1, lq 2 0 7, lq 3 1 3, lq 4 0 255, lq 5 3 10000000, lq 7 0 7], [], gi_2784, hq_970), [([(117, (-1))], 25500000000)], ([], 11)), ((36, [lq 0 6 0, lq 1 1 1, lq 2 0 7, lq 3 1 3, lq 4 0 255, lq 5 4 77, lq 7 0 7], [], gi_2793, hq_970), [([(117, (-1))], 25500000000)], ([], 11)), ((36, [lq 0 6 0, lq 1 1 1, lq 2 0 7, lq 3 1 3, lq 4 0 255, lq 5 3 0, lq 7 0 7], [], gi_2786, hq_970), [([(117, (-1))], 25500000000)], ([], 11)), ((36, [lq 0 6 0, lq 1 1 1, lq 2 0 7, lq 3 1 3, lq 4 0 255, lq 5 3 100000000, lq 7 0 8], [], gi_2784, hq_970), [([(117, (-1))], 25500000000)], ([], 10)), ((36, [lq 0 6 0, lq 1 1 1, lq 2 0 7, lq 3 1 3, lq 4 0 255, lq 5 4 77, lq 7 0 8], [], gi_2794, hq_970), [([(117, (-1))], 25500000000)], ([], 10)), ((36, [lq 0 6 0, lq 1 1 1, lq 2 0 7, lq 3 1 3, lq 4 0 255, lq 5 3 0, lq 7 0 8], [], gi_2786, hq_970), [([(117, (-1))], 25500000000)], ([], 10)), ((22, [lq 0 6 0, lq 1 1 1, lq 2 0 7, lq 3 1 3, lq 4 0 256, lq 5 3 100000000, lq 7 0 8], [], gi_2795, hq_971), [([(117, (-1))], 25600000000)], ([], 9)), ((22, [lq 0 6 0, lq 1 1 1, lq 2 0 7, lq 3 1 3, lq 4 0 256, lq 5 4 77, lq 7 0 8], [], gi_2796, hq_971), [([(117, (-1))], 25600000000)], ([], 9)), ((22, [lq 0 6 0, lq 1 1 1, lq 2 0 7, lq 3 1 3, lq 4 0 256, lq 5 3 0, lq 7 0 8], [], gi_2786, hq_970), [([(117, (-1))], 25600000000)], ([], 9))]
noncomputable def cu_3113 : List CUT2 := cu_3113_0 ++ (cu_3113_1 ++ (cu_3113_2))
theorem ch_3113 : staG tb_X12_layWinds 2 bt_RX12 [] ct_3113 rf_3113 [111] cu_3113 54 con_3113 = true := by decide +kernel
theorem cc_3113_0 : cu_3113_0.all (cutG tb_X12_layWinds 2 bt_RX12 [] ct_3113 rf_3113 [111] cu_3113 54 con_3113) = true := by decide +kernel
theorem cc_3113_1 : cu_3113_1.all (cutG tb_X12_layWinds 2 bt_RX12 [] ct_3113 rf_3113 [111] cu_3113 54 con_3113) = true := by decide +kernel
theorem cc_3113_2 : cu_3113_2.all (cutG tb_X12_layWinds 2 bt_RX12 [] ct_3113 rf_3113 [111] cu_3113 54 con_3113) = true := by decide +kernel
theorem cto_3113 (l : Launch) : CTOK2 l RX12 vwCl gTbl ct_3113 := ct2_cons (vl_934 l) ck_RX12_345_934 (ct2_cons (vl_3112 l) ck_RX12_199_3112 (ct2_cons (vl_3111 l) ck_RX12_199_3111 (ct2_cons (vl_3110 l) ck_RX12_199_3110 (ct2_cons (vl_3109 l) ck_RX12_199_3109 (ct2_cons (vl_3108 l) ck_RX12_199_3108 (ct2_cons (vl_3107 l) ck_RX12_199_3107 (ct2_cons (vl_3106 l) ck_RX12_199_3106 (ct2_cons (vl_3105 l) ck_RX12_199_3105 (ct2_cons (vl_3101 l) ck_RX12_199_3101 (ct2_cons (vl_3100 l) ck_RX12_199_3100 (ct2_cons (vl_3099 l) ck_RX12_199_3099 (ct2_cons (vl_387 l) ck_RX12_199_387 (ct2_cons (vl_390 l) ck_RX12_199_390 (ct2_cons (vl_391 l) ck_RX12_199_391 (ct2_cons (vl_392 l) ck_RX12_199_392 (ct2_cons (vl_393 l) ck_RX12_199_393 (ct2_cons (vl_394 l) ck_RX12_199_394 (ct2_cons (vl_1352 l) ck_RX12_363_1352 (ct2_cons (vl_1377 l) ck_RX12_375_1377 (ct2_nil))))))))))))))))))))
theorem vl_3113 (l : Launch) : Vld2 l vwCl gTbl con_3113 := conR_ok3 gT_all (hd_3113) rfl pn_RX12 tk_X12_layWinds bo_RX12 xo_RX12 (cto_3113 l) ch_3113 (cut_app (cut_all cc_3113_0) (cut_app (cut_all cc_3113_1) (cut_all cc_3113_2)))
/-- RookHustingModel divisor -/
noncomputable def gi_2797 : GI := jl_n [gp_827]
noncomputable def gi_2798 : GI := jl_n [gp_827, jl_k 9223372036854775805 0]
noncomputable def gi_2799 : GI := jl_n [jl_u, jl_r 2 (jl_i 1 9223372036854775807)]
noncomputable def con_3114 : Con2 := ((yX12_divisor, cX12_divisor, 10, (some .long)), (1, 13), ([(4, 0, 0), (4, 1, 0)], gi_2797, [], []), [((4, 2, 0), gi_2798, [], [], [4]), ((4, 2, 0), gi_2799, [], [], [4])])
theorem hd_3114 : con_3114.1 = (yX12_divisor, cX12_divisor, 10, (some .long)) := rfl
noncomputable def gi_2800 : GI := jl_n [gp_828, gp_129]
noncomputable def gi_2801 : GI := jl_n [gp_828, jl_i 1 9223372036854775807, jl_r 2 (jl_i 0 9223372036854775806)]
noncomputable def gi_2802 : GI := jl_n [gp_828, jl_i 1 9223372036854775807, jl_r 2 (jl_m 9223372036854775805 0)]
noncomputable def gi_2803 : GI := jl_n [gp_828, jl_k 9223372036854775805 0, jl_r 2 (jl_i 0 9223372036854775805)]
noncomputable def cu_3114 : List CUT2 := [((9, [lq 0 4 0, lq 2 4 1, lq 4 4 4, lq 6 4 1], [], gi_2800, []), [], ([(1, 1)], 0)), ((9, [lq 0 4 0, lq 2 4 1, lq 4 4 4, lq 6 4 5, lq 8 4 6], [], gi_2801, []), [], ([(5, 1)], 0)), ((9, [lq 0 4 0, lq 2 4 1, lq 4 4 4, lq 6 4 5, lq 8 4 6], [], gi_2802, []), [], ([(5, (-1))], 0)), ((9, [lq 0 4 0, lq 2 4 1, lq 4 4 4, lq 6 4 5, lq 8 4 6], [], gi_2803, []), [], ([(5, 1)], 0))]
theorem ch_3114 : staG tb_X12_divisor 1 bt_RX12 [] ct_2 [(16, [(2, (1, 4, 0), 0, 0)])] [20] cu_3114 15 con_3114 = true := by decide +kernel
theorem cc_3114 : cu_3114.all (cutG tb_X12_divisor 1 bt_RX12 [] ct_2 [(16, [(2, (1, 4, 0), 0, 0)])] [20] cu_3114 15 con_3114) = true := by decide +kernel
theorem vl_3114 (l : Launch) : Vld2 l vwCl gTbl con_3114 := conR_ok3 gT_all (hd_3114) rfl pn_RX12 tk_X12_divisor bo_RX12 xo_RX12 (cto_2 l) ch_3114 (cut_all cc_3114)
/-- RookHustingModel part -/
noncomputable def gi_2804 : GI := jl_n [gp_827, jl_i 0 1]
noncomputable def gi_2805 : GI := jl_n [gp_827, jl_i 0 1, jl_u]
noncomputable def con_3115 : Con2 := ((yX12_part, cX12_part, 5, (some .long)), (2, 42), ([(4, 0, 0), (4, 1, 0), (1, 2, 0)], gi_2804, [], []), [((4, 3, 0), gi_2805, [], [], [4])])
theorem hd_3115 : con_3115.1 = (yX12_part, cX12_part, 5, (some .long)) := rfl
theorem ck_RX12_312_3114 : COK2 RX12 vwCl gTbl 312 1 con_3114 := ⟨wd_1810, wd_137, mh_X12_divisor, .inl ⟨rfl, wd_1808, wd_1809, pd_X12_divisor⟩⟩
noncomputable def ct_3115 : CTB2 := [(12, 312, 1, con_3114, [])]
noncomputable def cu_3115 : List CUT2 := []
theorem ch_3115 : staG tb_X12_part 1 bt_RX12 [] ct_3115 [] [] cu_3115 11 con_3115 = true := by decide +kernel
theorem cto_3115 (l : Launch) : CTOK2 l RX12 vwCl gTbl ct_3115 := ct2_cons (vl_3114 l) ck_RX12_312_3114 (ct2_nil)
theorem vl_3115 (l : Launch) : Vld2 l vwCl gTbl con_3115 := conR_ok3 gT_all (hd_3115) rfl pn_RX12 tk_X12_part bo_RX12 xo_RX12 (cto_3115 l) ch_3115 cut_nil
/-- RookHustingModel bit -/
noncomputable def con_3116 : Con2 := ((yX12_bit, cX12_bit, 2, (some .int)), (0, 0), ([(0, 127, 0), (0, 0, 0)], [(0, 0), (0, 0)], [], []), [((0, 1, 0), [(0, 0), (0, 0), (0, 0)], [], [], [1])])
theorem hd_3116 : con_3116.1 = (yX12_bit, cX12_bit, 2, (some .int)) := rfl
noncomputable def cu_3116 : List CUT2 := []
theorem ch_3116 : staG tb_X12_bit 1 bt_RX12 [] ct_2 [] [] cu_3116 8 con_3116 = true := by decide +kernel
theorem vl_3116 (l : Launch) : Vld2 l vwCl gTbl con_3116 := conR_ok3 gT_all (hd_3116) rfl pn_RX12 tk_X12_bit bo_RX12 xo_RX12 (cto_2 l) ch_3116 cut_nil
/-- RookHustingModel bit -/
noncomputable def con_3117 : Con2 := ((yX12_bit, cX12_bit, 2, (some .int)), (0, 0), ([(0, 127, 0), (0, 1, 0)], [(0, 0), (0, 0)], [], []), [((0, 1, 0), [(0, 0), (0, 0), (0, 0)], [], [], [1])])
theorem hd_3117 : con_3117.1 = (yX12_bit, cX12_bit, 2, (some .int)) := rfl
noncomputable def cu_3117 : List CUT2 := []
theorem ch_3117 : staG tb_X12_bit 1 bt_RX12 [] ct_2 [] [] cu_3117 8 con_3117 = true := by decide +kernel
theorem vl_3117 (l : Launch) : Vld2 l vwCl gTbl con_3117 := conR_ok3 gT_all (hd_3117) rfl pn_RX12 tk_X12_bit bo_RX12 xo_RX12 (cto_2 l) ch_3117 cut_nil
/-- RookHustingModel bit -/
noncomputable def con_3118 : Con2 := ((yX12_bit, cX12_bit, 2, (some .int)), (0, 0), ([(0, 127, 0), (0, 2, 0)], [(0, 0), (0, 0)], [], []), [((0, 1, 0), [(0, 0), (0, 0), (0, 0)], [], [], [1])])
theorem hd_3118 : con_3118.1 = (yX12_bit, cX12_bit, 2, (some .int)) := rfl
noncomputable def cu_3118 : List CUT2 := []
theorem ch_3118 : staG tb_X12_bit 1 bt_RX12 [] ct_2 [] [] cu_3118 8 con_3118 = true := by decide +kernel
theorem vl_3118 (l : Launch) : Vld2 l vwCl gTbl con_3118 := conR_ok3 gT_all (hd_3118) rfl pn_RX12 tk_X12_bit bo_RX12 xo_RX12 (cto_2 l) ch_3118 cut_nil
/-- RookHustingModel bit -/
noncomputable def con_3119 : Con2 := ((yX12_bit, cX12_bit, 2, (some .int)), (0, 0), ([(0, 127, 0), (0, 3, 0)], [(0, 0), (0, 0)], [], []), [((0, 1, 0), [(0, 0), (0, 0), (0, 0)], [], [], [1])])
theorem hd_3119 : con_3119.1 = (yX12_bit, cX12_bit, 2, (some .int)) := rfl
noncomputable def cu_3119 : List CUT2 := []
theorem ch_3119 : staG tb_X12_bit 1 bt_RX12 [] ct_2 [] [] cu_3119 8 con_3119 = true := by decide +kernel
theorem vl_3119 (l : Launch) : Vld2 l vwCl gTbl con_3119 := conR_ok3 gT_all (hd_3119) rfl pn_RX12 tk_X12_bit bo_RX12 xo_RX12 (cto_2 l) ch_3119 cut_nil
/-- RookHustingModel bit -/
noncomputable def con_3120 : Con2 := ((yX12_bit, cX12_bit, 2, (some .int)), (0, 0), ([(0, 127, 0), (0, 4, 0)], [(0, 0), (0, 0)], [], []), [((0, 1, 0), [(0, 0), (0, 0), (0, 0)], [], [], [1])])
theorem hd_3120 : con_3120.1 = (yX12_bit, cX12_bit, 2, (some .int)) := rfl
noncomputable def cu_3120 : List CUT2 := []
theorem ch_3120 : staG tb_X12_bit 1 bt_RX12 [] ct_2 [] [] cu_3120 8 con_3120 = true := by decide +kernel
theorem vl_3120 (l : Launch) : Vld2 l vwCl gTbl con_3120 := conR_ok3 gT_all (hd_3120) rfl pn_RX12 tk_X12_bit bo_RX12 xo_RX12 (cto_2 l) ch_3120 cut_nil
/-- RookHustingModel bit -/
noncomputable def con_3121 : Con2 := ((yX12_bit, cX12_bit, 2, (some .int)), (0, 0), ([(0, 127, 0), (0, 5, 0)], [(0, 0), (0, 0)], [], []), [((0, 1, 0), [(0, 0), (0, 0), (0, 0)], [], [], [1])])
theorem hd_3121 : con_3121.1 = (yX12_bit, cX12_bit, 2, (some .int)) := rfl
noncomputable def cu_3121 : List CUT2 := []
theorem ch_3121 : staG tb_X12_bit 1 bt_RX12 [] ct_2 [] [] cu_3121 8 con_3121 = true := by decide +kernel
theorem vl_3121 (l : Launch) : Vld2 l vwCl gTbl con_3121 := conR_ok3 gT_all (hd_3121) rfl pn_RX12 tk_X12_bit bo_RX12 xo_RX12 (cto_2 l) ch_3121 cut_nil
/-- RookHustingModel bit -/
noncomputable def con_3122 : Con2 := ((yX12_bit, cX12_bit, 2, (some .int)), (0, 0), ([(0, 127, 0), (0, 6, 0)], [(0, 0), (0, 0)], [], []), [((0, 1, 0), [(0, 0), (0, 0), (0, 0)], [], [], [1])])
theorem hd_3122 : con_3122.1 = (yX12_bit, cX12_bit, 2, (some .int)) := rfl
noncomputable def cu_3122 : List CUT2 := []
theorem ch_3122 : staG tb_X12_bit 1 bt_RX12 [] ct_2 [] [] cu_3122 8 con_3122 = true := by decide +kernel
theorem vl_3122 (l : Launch) : Vld2 l vwCl gTbl con_3122 := conR_ok3 gT_all (hd_3122) rfl pn_RX12 tk_X12_bit bo_RX12 xo_RX12 (cto_2 l) ch_3122 cut_nil
