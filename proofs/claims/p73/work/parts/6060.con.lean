/-! ===== contracts, 60 ===== -/
/-- RookHustingModel sameBy -/
noncomputable def gi_2692 : GI := jl_n [gp_212, jl_i 0 84, gp_758]
noncomputable def ac_1362 : AC := .inl (12, jl_n [jl_8 38 35, jl_6 2 1, jl_1 40 1, jl_8 48 8])
noncomputable def hc_232 : List AC := [ac_1362, am_16]
noncomputable def gi_2693 : GI := jl_n [gp_212, jl_i 0 84, gp_758, jl_t]
noncomputable def hq_950 : HP := [(false, ac_1362), (false, am_16)]
noncomputable def con_2548 : Con2 := ((yX12_sameBy, cX12_sameBy, 5, (some .int)), (1, 21), ([(6, 0, 0), (1, 1, 0), (1, 2, 0)], gi_2692, hc_232, []), [((1, 48, 0), gi_2693, hq_950, [], [1])])
theorem hd_2548 : con_2548.1 = (yX12_sameBy, cX12_sameBy, 5, (some .int)) := rfl
noncomputable def ct_2548 : CTB2 := [(18, 199, 1, con_390, [])]
noncomputable def gi_2694 : GI := jl_n [gp_212, jl_i 0 84, jl_z 36, jl_t, jl_z 11, jl_t, jl_i 0 6]
noncomputable def cu_2548 : List CUT2 := [((5, [lq 0 6 0, lq 1 1 1, lq 2 1 2, lq 3 1 51, lq 4 1 52], [], gi_2694, hq_950), [], ([(52, (-1))], 6))]
theorem ch_2548 : staG tb_X12_sameBy 1 bt_RX12 [] ct_2548 [] [] cu_2548 36 con_2548 = true := by decide +kernel
theorem cc_2548 : cu_2548.all (cutG tb_X12_sameBy 1 bt_RX12 [] ct_2548 [] [] cu_2548 36 con_2548) = true := by decide +kernel
theorem cto_2548 (l : Launch) : CTOK2 l RX12 vwCl gTbl ct_2548 := ct2_cons (vl_390 l) ck_RX12_199_390 (ct2_nil)
theorem vl_2548 (l : Launch) : Vld2 l vwCl gTbl con_2548 := conR_ok3 gT_all (hd_2548) rfl pn_RX12 tk_X12_sameBy bo_RX12 xo_RX12 (cto_2548 l) ch_2548 (cut_all cc_2548)
/-- RookHustingModel askOf -/
noncomputable def gi_2695 : GI := jl_n [gp_786, gp_124]
noncomputable def ac_1363 : AC := .inl (12, jl_n [vp_148, jl_1 39 2, jl_8 46 7])
noncomputable def hc_233 : List AC := [ac_1363, ac_436, am_16]
noncomputable def gi_2696 : GI := jl_n [gp_786, gp_124, jl_m 0 416, gp_787]
noncomputable def ac_1364 : AC := .inl (12, jl_n [vp_149, jl_1 108 1, jl_8 46 7])
noncomputable def hq_951 : HP := [(true, ac_1364), (false, ac_436), (false, am_16)]
noncomputable def con_2549 : Con2 := ((yX12_askOf, cX12_askOf, 6, (some .int)), (2, 45), ([(6, 0, 0)], gi_2695, hc_233, []), [((1, 69, 0), gi_2696, hq_951, [], tg_1)])
theorem hd_2549 : con_2549.1 = (yX12_askOf, cX12_askOf, 6, (some .int)) := rfl
theorem ck_RX12_438_2548 : COK2 RX12 vwCl gTbl 438 0 con_2548 := ⟨wd_2078, wd_137, mh_X12_sameBy, .inr (.inr ⟨rfl, wd_2075, wd_2077, wd_117, ⟨_, rfl, pd_X12_sameBy⟩, 12, _, TX12, 45, rfl, rfl⟩)⟩
noncomputable def ct_2549 : CTB2 := [(5, 252, 1, con_678, []), (17, 106, 0, con_646, [0, 1]), (27, 103, 0, con_1100, [0, 1]), (51, 199, 1, con_390, []), (68, 438, 0, con_2548, [0, 2])]
noncomputable def gi_2697 : GI := jl_n [gp_786, gp_125, jl_m 0 416, jl_i 0 5, gp_787]
noncomputable def ac_1365 : AC := .inl (12, jl_n [vp_149, jl_1 110 1, jl_8 46 7])
noncomputable def hq_952 : HP := [(true, ac_1365), (false, ac_436), (false, am_16)]
noncomputable def gi_2698 : GI := jl_n [gp_786, gp_169, jl_m 0 416, jl_i 0 4, jl_i 0 17, gp_787]
noncomputable def ac_1366 : AC := .inl (12, jl_n [vp_149, jl_1 111 1, jl_8 46 7])
noncomputable def hq_953 : HP := [(true, ac_1366), (false, ac_436), (false, am_16)]
noncomputable def gi_2699 : GI := jl_n [gp_786, gp_169, jl_m 0 416, gp_341, jl_i 0 2147483647, jl_i 0 6, gp_787]
noncomputable def ac_1367 : AC := .inl (12, jl_n [vp_149, jl_1 113 1, jl_8 46 7])
noncomputable def hq_954 : HP := [(true, ac_1367), (false, ac_436), (false, am_16)]
noncomputable def cu_2549 : List CUT2 := [((15, [lq 0 6 0, lq 1 1 70, lq 2 1 71], [], gi_2697, hq_952), [], ([(71, (-145))], 869)), ((25, [lq 0 6 0, lq 1 1 70, lq 2 1 71, lq 3 1 72], [], gi_2698, hq_953), [], ([(71, (-145)), (72, (-8))], 868)), ((39, [lq 0 6 0, lq 1 1 70, lq 2 1 71, lq 3 1 72, lq 4 1 73, lq 5 1 74], [], gi_2699, hq_954), [], ([(71, (-145)), (72, (-8)), (74, (-1))], 867))]
theorem ch_2549 : staG tb_X12_askOf 1 bt_RX12 [] ct_2549 [] [] cu_2549 25 con_2549 = true := by decide +kernel
theorem cc_2549 : cu_2549.all (cutG tb_X12_askOf 1 bt_RX12 [] ct_2549 [] [] cu_2549 25 con_2549) = true := by decide +kernel
theorem cto_2549 (l : Launch) : CTOK2 l RX12 vwCl gTbl ct_2549 := ct2_cons (vl_678 l) ck_RX12_252_678 (ct2_cons (vl_646 l) ck_RX12_106_646 (ct2_cons (vl_1100 l) ck_RX12_103_1100 (ct2_cons (vl_390 l) ck_RX12_199_390 (ct2_cons (vl_2548 l) ck_RX12_438_2548 (ct2_nil)))))
theorem vl_2549 (l : Launch) : Vld2 l vwCl gTbl con_2549 := conR_ok3 gT_all (hd_2549) rfl pn_RX12 tk_X12_askOf bo_RX12 xo_RX12 (cto_2549 l) ch_2549 (cut_all cc_2549)
/-- RookHustingModel ask -/
noncomputable def gi_2700 : GI := jl_n [gp_162, gp_788, gp_737, jl_r 240 (jl_u)]
noncomputable def ac_1368 : AC := .inl (12, jl_n [vp_145, jl_1 21 1, jl_6 9 3, jl_1 28 4, vp_146, jl_1 41 2, jl_8 44 3, vp_144])
noncomputable def hc_234 : List AC := [ac_1368, ac_440, ac_1098, ac_1358, am_8, am_6, am_3, am_3, am_1, am_0, am_0, am_0, am_13, am_14, am_15, am_16]
noncomputable def gi_2701 : GI := jl_n [gp_162, gp_788, gp_737, jl_r 240 (jl_u), jl_m 5 416, gp_788]
noncomputable def ac_1369 : AC := .inl (12, jl_n [vp_145, jl_1 334 1, jl_6 9 3, jl_1 341 4, vp_146, jl_1 354 2, jl_8 44 3, vp_144])
noncomputable def hq_955 : HP := [(true, ac_1369), (false, ac_440), (false, ac_1098), (false, ac_1358), (true, am_8), (true, am_6), (true, am_3), (true, am_3), (true, am_1), (true, am_0), (true, am_0), (true, am_0), (true, am_13), (true, am_14), (true, am_15), (true, am_16)]
noncomputable def con_2550 : Con2 := ((yX12_ask, cX12_ask, 4, (some .int)), (9, 213), ([(6, 0, 0), (1, 1, 0), (1, 2, 0)], gi_2700, hc_234, []), [((1, 315, 0), gi_2701, hq_955, [], tg_1)])
theorem hd_2550 : con_2550.1 = (yX12_ask, cX12_ask, 4, (some .int)) := rfl
theorem ck_RX12_441_2549 : COK2 RX12 vwCl gTbl 441 0 con_2549 := ⟨wd_2074, wd_137, mh_X12_askOf, .inr (.inr ⟨rfl, wd_2071, wd_2073, wd_116, ⟨_, rfl, pd_X12_askOf⟩, 12, _, TX12, 45, rfl, rfl⟩)⟩
noncomputable def ct_2550 : CTB2 := [(3, 432, 0, con_1929, [0, 1, 2, 3, 4, 5, 6, 7, 8, 9, 10, 11, 12, 13, 14, 15]), (3, 432, 0, con_2081, [0, 1, 2, 3, 4, 5, 6, 7, 8, 9, 10, 11, 12, 13, 14, 15]), (3, 432, 0, con_2225, [0, 1, 2, 3, 4, 5, 6, 7, 8, 9, 10, 11, 12, 13, 14, 15]), (3, 432, 0, con_2369, [0, 1, 2, 3, 4, 5, 6, 7, 8, 9, 10, 11, 12, 13, 14, 15]), (3, 432, 0, con_2513, [0, 1, 2, 3, 4, 5, 6, 7, 8, 9, 10, 11, 12, 13, 14, 15]), (3, 432, 0, con_2516, [0, 1, 2, 3, 4, 5, 6, 7, 8, 9, 10, 11, 12, 13, 14, 15]), (16, 441, 0, con_2549, [0, 1, 15])]
noncomputable def rf_2550 : List (Nat × List POP) := [(0, [(2, (1, 1, 0), 0, 0), (2, (1, 1, 0), 1, 0), (2, (1, 1, 0), 2, 0), (2, (1, 1, 0), 3, 0), (2, (1, 1, 0), 4, 0)])]
noncomputable def cu_2550 : List CUT2 := []
theorem ch_2550 : staG tb_X12_ask 1 bt_RX12 [] ct_2550 rf_2550 [] cu_2550 12 con_2550 = true := by decide +kernel
theorem cto_2550 (l : Launch) : CTOK2 l RX12 vwCl gTbl ct_2550 := ct2_cons (vl_1929 l) ck_RX12_432_1929 (ct2_cons (vl_2081 l) ck_RX12_432_2081 (ct2_cons (vl_2225 l) ck_RX12_432_2225 (ct2_cons (vl_2369 l) ck_RX12_432_2369 (ct2_cons (vl_2513 l) ck_RX12_432_2513 (ct2_cons (vl_2516 l) ck_RX12_432_2516 (ct2_cons (vl_2549 l) ck_RX12_441_2549 (ct2_nil)))))))
theorem vl_2550 (l : Launch) : Vld2 l vwCl gTbl con_2550 := conR_ok3 gT_all (hd_2550) rfl pn_RX12 tk_X12_ask bo_RX12 xo_RX12 (cto_2550 l) ch_2550 cut_nil
