/-! ===== contracts, 65 ===== -/
/-- RookHustingModel layWinds -/
noncomputable def gi_2987 : GI := jl_n [gp_803, jl_i 0 1, jl_z 16, jl_i 1 29, jl_i 0 18, gp_899]
noncomputable def con_2657 : Con2 := ((yX12_layWinds, cX12_layWinds, 8, none), (8, 188), ([(6, 0, 0), (1, 1, 0), (0, 0, 0), (1, 3, 0)], gi_2739, hc_241, []), [((9, 0, 0), gi_2987, hq_968, [], tg_23)])
theorem hd_2657 : con_2657.1 = (yX12_layWinds, cX12_layWinds, 8, none) := rfl
noncomputable def ct_2657 : CTB2 := [(16, 345, 0, con_905, [0, 1, 2, 3, 4, 5, 6]), (48, 199, 1, con_416, []), (48, 199, 1, con_389, []), (101, 363, 0, con_1108, [0, 1, 7, 8, 5, 6, 9, 10, 11, 12]), (157, 375, 0, con_1133, [0, 1, 7])]
noncomputable def rf_2657 : List (Nat × List POP) := [(19, [(2, (2, 1, 2), 1, 0), (2, (2, 1, 2), 10, 0)]), (30, [(2, (1, 4, 0), 1, 0)]), (111, [(0, (0, 1, 0), 0, 20)])]
noncomputable def gi_2988 : GI := jl_n [gp_814, jl_z 39, jl_i 1 9, jl_i 0 9, gp_899]
noncomputable def ac_1416 : AC := .inl (12, jl_n [vp_55, vp_86, vp_155])
noncomputable def hq_978 : HP := [(true, ac_1416), (false, ac_461), (true, am_8), (true, am_6), (true, am_3), (true, am_3), (true, am_1), (true, am_0), (true, am_0), (true, am_0), (true, am_13), (true, am_14), (true, am_15)]
noncomputable def gi_2989 : GI := jl_n [gp_812, jl_z 60, jl_i 0 10, gp_899]
noncomputable def ac_1417 : AC := .inl (12, jl_n [vp_55, vp_86, vp_154, jl_x (3, 10, 0), jl_4 120 2, jl_8 49 4])
noncomputable def hq_979 : HP := [(true, ac_1417), (false, ac_461), (true, am_8), (true, am_6), (true, am_3), (true, am_3), (true, am_1), (true, am_0), (true, am_0), (true, am_0), (true, am_13), (true, am_14), (true, am_15)]
noncomputable def gi_2990 : GI := jl_n [gp_810, jl_z 59, jl_i 1 9, jl_i 0 9, gp_899]
noncomputable def gi_2991 : GI := jl_n [gp_808, jl_z 60, jl_i 0 10, gp_899]
noncomputable def ac_1418 : AC := .inl (12, jl_n [vp_153, jl_c 1, vp_154, jl_x (3, 10, 0), jl_4 120 2, jl_8 49 4])
noncomputable def hq_980 : HP := [(true, ac_1418), (false, ac_461), (true, am_8), (true, am_6), (true, am_3), (true, am_3), (true, am_1), (true, am_0), (true, am_0), (true, am_0), (true, am_13), (true, am_14), (true, am_15)]
noncomputable def gi_2992 : GI := jl_n [gp_814, jl_z 39, jl_i 1 29, jl_i 0 18, gp_899]
noncomputable def ac_1419 : AC := .inl (12, jl_n [vp_153, jl_c 1, vp_155])
noncomputable def hq_981 : HP := [(true, ac_1419), (false, ac_461), (true, am_8), (true, am_6), (true, am_3), (true, am_3), (true, am_1), (true, am_0), (true, am_0), (true, am_0), (true, am_13), (true, am_14), (true, am_15)]
noncomputable def cu_2657 : List CUT2 := [((22, [lq 0 6 0, lq 1 1 1, lq 2 0 0, lq 3 1 3, lq 4 0 0], [], gi_2741, hq_969), [], ([], 8)), ((22, [lq 0 6 0, lq 1 1 1, lq 2 0 0, lq 3 1 3, lq 4 0 0], [], gi_2742, hq_969), [], ([], 8)), ((22, [lq 0 6 0, lq 1 1 1, lq 2 0 0, lq 3 1 3, lq 4 0 0], [], gi_2743, hq_969), [], ([], 8)), ((36, [lq 0 6 0, lq 1 1 1, lq 2 0 0, lq 3 1 3, lq 4 0 0, lq 5 3 1, lq 7 0 0], [], gi_2744, hq_969), [], ([], 7)), ((36, [lq 0 6 0, lq 1 1 1, lq 2 0 0, lq 3 1 3, lq 4 0 0, lq 5 3 1, lq 7 0 0], [], gi_2745, hq_969), [], ([], 7)), ((36, [lq 0 6 0, lq 1 1 1, lq 2 0 0, lq 3 1 3, lq 4 0 0, lq 5 3 1, lq 7 0 0], [], gi_2746, hq_969), [], ([], 7)), ((36, [lq 0 6 0, lq 1 1 1, lq 2 0 0, lq 3 1 3, lq 4 0 0, lq 5 3 0, lq 7 0 1], [], gi_2744, hq_969), [], ([], 6)), ((36, [lq 0 6 0, lq 1 1 1, lq 2 0 0, lq 3 1 3, lq 4 0 0, lq 5 4 77, lq 7 0 1], [], gi_2747, hq_969), [], ([], 6)), ((36, [lq 0 6 0, lq 1 1 1, lq 2 0 0, lq 3 1 3, lq 4 0 0, lq 5 3 10, lq 7 0 1], [], gi_2746, hq_969), [], ([], 6)), ((22, [lq 0 6 0, lq 1 1 1, lq 2 0 0, lq 3 1 3, lq 4 0 1, lq 5 3 0, lq 7 0 1], [], gi_2744, hq_969), [], ([], 5)), ((22, [lq 0 6 0, lq 1 1 1, lq 2 0 0, lq 3 1 3, lq 4 0 1, lq 5 4 77, lq 7 0 1], [], gi_2988, hq_978), [([(117, (-1))], 10)], ([], 5)), ((22, [lq 0 6 0, lq 1 1 1, lq 2 0 0, lq 3 1 3, lq 4 0 1, lq 5 3 10, lq 7 0 1], [], gi_2989, hq_979), [], ([], 5)), ((36, [lq 0 6 0, lq 1 1 1, lq 2 0 0, lq 3 1 3, lq 4 0 1, lq 5 3 1, lq 7 0 0], [], gi_2744, hq_969), [], ([], 4)), ((36, [lq 0 6 0, lq 1 1 1, lq 2 0 0, lq 3 1 3, lq 4 0 1, lq 5 3 1, lq 7 0 0], [], gi_2990, hq_978), [([(117, (-1))], 10)], ([], 4)), ((36, [lq 0 6 0, lq 1 1 1, lq 2 0 0, lq 3 1 3, lq 4 0 1, lq 5 3 1, lq 7 0 0], [], gi_2989, hq_979), [], ([], 4)), ((36, [lq 0 6 0, lq 1 1 1, lq 2 0 0, lq 3 1 3, lq 4 0 1, lq 5 3 10, lq 7 0 1], [], gi_2744, hq_969), [], ([], 3)), ((36, [lq 0 6 0, lq 1 1 1, lq 2 0 0, lq 3 1 3, lq 4 0 1, lq 5 4 77, lq 7 0 1], [], gi_2988, hq_978), [([(117, (-1))], 10)], ([], 3)), ((36, [lq 0 6 0, lq 1 1 1, lq 2 0 0, lq 3 1 3, lq 4 0 1, lq 5 3 0, lq 7 0 1], [], gi_2989, hq_979), [], ([], 3)), ((22, [lq 0 6 0, lq 1 1 1, lq 2 0 0, lq 3 1 3, lq 4 0 2, lq 5 3 10, lq 7 0 1], [], gi_2991, hq_980), [], ([], 2)), ((22, [lq 0 6 0, lq 1 1 1, lq 2 0 0, lq 3 1 3, lq 4 0 2, lq 5 4 77, lq 7 0 1], [], gi_2992, hq_981), [([(117, (-1))], 20)], ([], 2)), ((22, [lq 0 6 0, lq 1 1 1, lq 2 0 0, lq 3 1 3, lq 4 0 2, lq 5 3 0, lq 7 0 1], [], gi_2989, hq_979), [], ([], 2))]
theorem ch_2657 : staG tb_X12_layWinds 2 bt_RX12 [] ct_2657 rf_2657 [111] cu_2657 54 con_2657 = true := by decide +kernel
theorem cc_2657 : cu_2657.all (cutG tb_X12_layWinds 2 bt_RX12 [] ct_2657 rf_2657 [111] cu_2657 54 con_2657) = true := by decide +kernel
theorem cto_2657 (l : Launch) : CTOK2 l RX12 vwCl gTbl ct_2657 := ct2_cons (vl_905 l) ck_RX12_345_905 (ct2_cons (vl_416 l) ck_RX12_199_416 (ct2_cons (vl_389 l) ck_RX12_199_389 (ct2_cons (vl_1108 l) ck_RX12_363_1108 (ct2_cons (vl_1133 l) ck_RX12_375_1133 (ct2_nil)))))
theorem vl_2657 (l : Launch) : Vld2 l vwCl gTbl con_2657 := conR_ok3 gT_all (hd_2657) rfl pn_RX12 tk_X12_layWinds bo_RX12 xo_RX12 (cto_2657 l) ch_2657 (cut_all cc_2657)
/-- RookHustingModel chance -/
noncomputable def gi_2993 : GI := jl_n [gp_794, gp_900]
noncomputable def ac_1420 : AC := .inl (12, jl_n [vp_152, jl_1 23 1, jl_6 7 3, jl_1 30 4, vp_112, jl_8 43 7, jl_4 46 3, jl_8 50 4])
noncomputable def hc_242 : List AC := [ac_1420, ac_1398, am_8, am_6, am_3, am_3, am_1, am_0, am_0, am_0, am_13, am_14, am_15]
noncomputable def gi_2994 : GI := jl_n [gp_794, gp_900, jl_u, gp_800]
noncomputable def ac_1421 : AC := .inl (12, jl_n [vp_152, jl_1 92 1, jl_6 7 3, jl_1 99 4, vp_112, jl_8 43 7, jl_4 115 3, jl_8 50 4])
noncomputable def hq_982 : HP := [(true, ac_1421), (false, ac_1398), (true, am_8), (true, am_6), (true, am_3), (true, am_3), (true, am_1), (true, am_0), (true, am_0), (true, am_0), (true, am_13), (true, am_14), (true, am_15)]
noncomputable def con_2658 : Con2 := ((yX12_chance, cX12_chance, 5, (some .long)), (9, 215), ([(6, 0, 0), (1, 1, 0), (1, 2, 0), (1, 3, 0), (1, 4, 0)], gi_2993, hc_242, []), [((4, 73, 0), gi_2994, hq_982, [], tg_24)])
theorem hd_2658 : con_2658.1 = (yX12_chance, cX12_chance, 5, (some .long)) := rfl
theorem ck_RX12_319_2637 : COK2 RX12 vwCl gTbl 319 1 con_2637 := ⟨wd_1807, wd_137, mh_X12_part, .inl ⟨rfl, wd_1805, wd_1806, pd_X12_part⟩⟩
theorem ck_RX12_470_2657 : COK2 RX12 vwCl gTbl 470 0 con_2657 := ⟨wd_2113, wd_137, mh_X12_layWinds, .inr (.inr ⟨rfl, wd_2110, wd_2112, wd_121, ⟨_, rfl, pd_X12_layWinds⟩, 12, _, TX12, 45, rfl, rfl⟩)⟩
theorem ck_RX12_470_2656 : COK2 RX12 vwCl gTbl 470 0 con_2656 := ⟨wd_2113, wd_137, mh_X12_layWinds, .inr (.inr ⟨rfl, wd_2110, wd_2112, wd_121, ⟨_, rfl, pd_X12_layWinds⟩, 12, _, TX12, 45, rfl, rfl⟩)⟩
theorem ck_RX12_470_2655 : COK2 RX12 vwCl gTbl 470 0 con_2655 := ⟨wd_2113, wd_137, mh_X12_layWinds, .inr (.inr ⟨rfl, wd_2110, wd_2112, wd_121, ⟨_, rfl, pd_X12_layWinds⟩, 12, _, TX12, 45, rfl, rfl⟩)⟩
theorem ck_RX12_470_2654 : COK2 RX12 vwCl gTbl 470 0 con_2654 := ⟨wd_2113, wd_137, mh_X12_layWinds, .inr (.inr ⟨rfl, wd_2110, wd_2112, wd_121, ⟨_, rfl, pd_X12_layWinds⟩, 12, _, TX12, 45, rfl, rfl⟩)⟩
theorem ck_RX12_470_2653 : COK2 RX12 vwCl gTbl 470 0 con_2653 := ⟨wd_2113, wd_137, mh_X12_layWinds, .inr (.inr ⟨rfl, wd_2110, wd_2112, wd_121, ⟨_, rfl, pd_X12_layWinds⟩, 12, _, TX12, 45, rfl, rfl⟩)⟩
theorem ck_RX12_470_2652 : COK2 RX12 vwCl gTbl 470 0 con_2652 := ⟨wd_2113, wd_137, mh_X12_layWinds, .inr (.inr ⟨rfl, wd_2110, wd_2112, wd_121, ⟨_, rfl, pd_X12_layWinds⟩, 12, _, TX12, 45, rfl, rfl⟩)⟩
theorem ck_RX12_470_2645 : COK2 RX12 vwCl gTbl 470 0 con_2645 := ⟨wd_2113, wd_137, mh_X12_layWinds, .inr (.inr ⟨rfl, wd_2110, wd_2112, wd_121, ⟨_, rfl, pd_X12_layWinds⟩, 12, _, TX12, 45, rfl, rfl⟩)⟩
theorem ck_RX12_470_2635 : COK2 RX12 vwCl gTbl 470 0 con_2635 := ⟨wd_2113, wd_137, mh_X12_layWinds, .inr (.inr ⟨rfl, wd_2110, wd_2112, wd_121, ⟨_, rfl, pd_X12_layWinds⟩, 12, _, TX12, 45, rfl, rfl⟩)⟩
theorem ck_RX12_465_2620 : COK2 RX12 vwCl gTbl 465 0 con_2620 := ⟨wd_2107, wd_137, mh_X12_isWinds, .inr (.inr ⟨rfl, wd_2104, wd_2106, wd_120, ⟨_, rfl, pd_X12_isWinds⟩, 12, _, TX12, 45, rfl, rfl⟩)⟩
noncomputable def ct_2658 : CTB2 := [(3, 109, 0, con_647, [0, 1]), (15, 91, 1, con_590, []), (25, 465, 0, con_2620, [0, 1]), (39, 470, 0, con_2635, [0, 1, 2, 3, 4, 5, 6, 7, 8, 9, 10, 11, 12]), (39, 470, 0, con_2645, [0, 1, 2, 3, 4, 5, 6, 7, 8, 9, 10, 11, 12]), (39, 470, 0, con_2652, [0, 1, 2, 3, 4, 5, 6, 7, 8, 9, 10, 11, 12]), (39, 470, 0, con_2653, [0, 1, 2, 3, 4, 5, 6, 7, 8, 9, 10, 11, 12]), (39, 470, 0, con_2654, [0, 1, 2, 3, 4, 5, 6, 7, 8, 9, 10, 11, 12]), (39, 470, 0, con_2655, [0, 1, 2, 3, 4, 5, 6, 7, 8, 9, 10, 11, 12]), (39, 470, 0, con_2656, [0, 1, 2, 3, 4, 5, 6, 7, 8, 9, 10, 11, 12]), (39, 470, 0, con_2657, [0, 1, 2, 3, 4, 5, 6, 7, 8, 9, 10, 11, 12]), (52, 319, 1, con_2637, [])]
noncomputable def cu_2658 : List CUT2 := []
theorem ch_2658 : staG tb_X12_chance 1 bt_RX12 [] ct_2658 [(35, [(1, (1, 2, 0), 0, 0)])] [] cu_2658 30 con_2658 = true := by decide +kernel
theorem cto_2658 (l : Launch) : CTOK2 l RX12 vwCl gTbl ct_2658 := ct2_cons (vl_647 l) ck_RX12_109_647 (ct2_cons (vl_590 l) ck_RX12_91_590 (ct2_cons (vl_2620 l) ck_RX12_465_2620 (ct2_cons (vl_2635 l) ck_RX12_470_2635 (ct2_cons (vl_2645 l) ck_RX12_470_2645 (ct2_cons (vl_2652 l) ck_RX12_470_2652 (ct2_cons (vl_2653 l) ck_RX12_470_2653 (ct2_cons (vl_2654 l) ck_RX12_470_2654 (ct2_cons (vl_2655 l) ck_RX12_470_2655 (ct2_cons (vl_2656 l) ck_RX12_470_2656 (ct2_cons (vl_2657 l) ck_RX12_470_2657 (ct2_cons (vl_2637 l) ck_RX12_319_2637 (ct2_nil))))))))))))
theorem vl_2658 (l : Launch) : Vld2 l vwCl gTbl con_2658 := conR_ok3 gT_all (hd_2658) rfl pn_RX12 tk_X12_chance bo_RX12 xo_RX12 (cto_2658 l) ch_2658 cut_nil
/-- RookHusting$Harvest sumOf -/
noncomputable def gi_2995 : GI := jl_n [jl_z 2, jl_i 1 8, gp_249]
noncomputable def gi_2996 : GI := jl_n [jl_z 2, jl_i 1 8, gp_250, gp_7]
noncomputable def con_2659 : Con2 := ((yX3_sumOf, cX3_sumOf, 5, (some .int)), (0, 0), ([(6, 0, 0), (6, 1, 0), (1, 2, 0)], gi_2995, [ac_639, am_0], []), [((1, 12, 0), gi_2996, hq_578, [], [1])])
theorem hd_2659 : con_2659.1 = (yX3_sumOf, cX3_sumOf, 5, (some .int)) := rfl
noncomputable def gi_2997 : GI := jl_n [jl_z 2, jl_i 1 8, gp_250, gp_366]
noncomputable def cu_2659 : List CUT2 := [((5, [lq 0 6 0, lq 1 6 1, lq 2 1 2, lq 3 1 15, lq 4 1 16], [], gi_2997, hq_578), [], ([(16, (-1))], 5))]
theorem ch_2659 : staG tb_X3_sumOf 1 bt_RX3 [] ct_863 [] [] cu_2659 19 con_2659 = true := by decide +kernel
theorem cc_2659 : cu_2659.all (cutG tb_X3_sumOf 1 bt_RX3 [] ct_863 [] [] cu_2659 19 con_2659) = true := by decide +kernel
theorem vl_2659 (l : Launch) : Vld2 l vwCl gTbl con_2659 := conR_ok3 gT_all (hd_2659) rfl pn_RX3 tk_X3_sumOf bo_RX3 xo_RX3 (cto_863 l) ch_2659 (cut_all cc_2659)
/-- RookHusting mean -/
noncomputable def gi_2998 : GI := jl_n [gp_364, gp_799]
noncomputable def ac_1422 : AC := .inl (4, jl_n [jl_8 22 1, jl_1 26 4, vp_95, vp_75, jl_8 37 2, jl_6 10 1])
noncomputable def hc_243 : List AC := [ac_1374, .inl (9, [(6, 2, 0), (6, 11, 0)]), ac_1422, .inl (7, [(6, 4, 0), (6, 5, 0), (6, 6, 0), (1, 41, 0)]), am_3, am_1, am_1, am_1, .inl (1, [(6, 2, 0), (8, 43, 0)]), am_5, am_7, .inl (0, [(1, 44, 0), (6, 12, 0), (6, 13, 0), (6, 14, 0)]), ac_642, am_12, ac_643, ac_1059, am_4, am_0, am_11, am_0, am_1, am_0, am_4, am_10, am_0, am_0, am_9, .inl (7, [(6, 28, 0), (6, 29, 0), (6, 30, 0), (1, 120, 0)]), am_3, am_1, am_1, ac_1376, am_0, am_0, am_1, am_0, am_0, am_0, am_9]
noncomputable def gi_2999 : GI := jl_n [gp_364, gp_799, jl_u, gp_791]
noncomputable def hq_983 : HP := [(true, ac_1377), (false, .inl (9, [(6, 2, 0), (6, 11, 0)])), (false, ac_1422), (true, .inl (7, [(6, 4, 0), (6, 5, 0), (6, 6, 0), (1, 150, 0)])), (true, am_3), (true, am_1), (true, am_1), (false, am_1), (false, .inl (1, [(6, 2, 0), (8, 43, 0)])), (false, am_5), (false, am_7), (false, .inl (0, [(1, 44, 0), (6, 12, 0), (6, 13, 0), (6, 14, 0)])), (false, ac_642), (false, am_12), (false, ac_643), (true, ac_1378), (false, am_4), (true, am_0), (false, am_11), (true, am_0), (true, am_1), (true, am_0), (false, am_4), (false, am_10), (true, am_0), (true, am_0), (true, am_9), (true, .inl (7, [(6, 28, 0), (6, 29, 0), (6, 30, 0), (1, 163, 0)])), (true, am_3), (true, am_1), (true, am_1), (true, ac_1379), (true, am_0), (true, am_0), (true, am_1), (true, am_0), (true, am_0), (true, am_0), (true, am_9)]
noncomputable def con_2660 : Con2 := ((yX11_mean, cX11_mean, 7, (some .long)), (6, 151), ([(6, 0, 0), (1, 1, 0), (1, 2, 0)], gi_2998, hc_243, rq_6), [((4, 130, 0), gi_2999, hq_983, [], tg_22)])
theorem hd_2660 : con_2660.1 = (yX11_mean, cX11_mean, 7, (some .long)) := rfl
theorem ck_RX11_300_2659 : COK2 RX11 vwCl gTbl 300 0 con_2659 := ⟨wd_1055, wd_134, mh_X3_sumOf, .inr (.inr ⟨rfl, wd_1052, wd_1053, wd_1054, ⟨_, rfl, pd_X3_sumOf⟩, 3, _, TX3, 9, rfl, rfl⟩)⟩
noncomputable def ct_2660 : CTB2 := [(2, 364, 0, con_2573, [0, 1, 2]), (9, 143, 1, con_644, []), (20, 208, 0, con_900, [0, 1, 3, 2, 4, 5, 6, 7, 8, 9, 10, 11, 12, 13, 14, 15, 16, 17, 18, 19, 20, 21, 22, 23, 24, 25, 26]), (31, 332, 0, con_1212, [27, 3, 28, 4, 29, 5, 30, 6]), (77, 372, 0, con_2582, [31, 2, 27, 16, 32, 18, 33, 29, 34, 28, 35, 22, 23, 36, 37, 38, 30]), (86, 376, 0, con_2618, [0, 1, 2]), (101, 300, 0, con_2659, [31, 33]), (118, 380, 1, con_2586, []), (122, 247, 1, con_2588, [])]
noncomputable def gi_3000 : GI := jl_n [gp_229, jl_i 0 1, gp_274, gp_118, jl_i 0 5, gp_798, jl_z 4, jl_u, jl_i 0 256, gp_793]
noncomputable def hq_984 : HP := [(true, ac_1380), (false, .inl (9, [(6, 2, 0), (6, 11, 0)])), (false, ac_1422), (true, .inl (7, [(6, 4, 0), (6, 5, 0), (6, 6, 0), (1, 155, 0)])), (true, am_3), (true, am_1), (true, am_1), (false, am_1), (false, .inl (1, [(6, 2, 0), (8, 43, 0)])), (false, am_5), (false, am_7), (false, .inl (0, [(1, 44, 0), (6, 12, 0), (6, 13, 0), (6, 14, 0)])), (false, ac_642), (false, am_12), (false, ac_643), (true, ac_1383), (false, am_4), (true, am_0), (false, am_11), (true, am_0), (true, am_1), (true, am_0), (false, am_4), (false, am_10), (true, am_0), (true, am_0), (true, am_9), (true, .inl (7, [(6, 28, 0), (6, 29, 0), (6, 30, 0), (1, 168, 0)])), (true, am_3), (true, am_1), (true, am_1), (true, ac_1384), (true, am_0), (true, am_0), (true, am_1), (true, am_0), (true, am_0), (true, am_0), (true, am_9)]
noncomputable def cu_2660 : List CUT2 := [((44, [lq 0 6 0, lq 1 1 1, lq 2 1 2, (3, (1, 1, 1)), lq 4 4 134, lq 6 1 135], [], gi_3000, hq_984), rq_6, ([(135, (-1))], 256))]
theorem ch_2660 : staG tb_X11_mean 1 bt_RX11 [] ct_2660 [] [] cu_2660 39 con_2660 = true := by decide +kernel
theorem cc_2660 : cu_2660.all (cutG tb_X11_mean 1 bt_RX11 [] ct_2660 [] [] cu_2660 39 con_2660) = true := by decide +kernel
theorem cto_2660 (l : Launch) : CTOK2 l RX11 vwCl gTbl ct_2660 := ct2_cons (vl_2573 l) ck_RX11_364_2573 (ct2_cons (vl_644 l) ck_RX11_143_644 (ct2_cons (vl_900 l) ck_RX11_208_900 (ct2_cons (vl_1212 l) ck_RX11_332_1212 (ct2_cons (vl_2582 l) ck_RX11_372_2582 (ct2_cons (vl_2618 l) ck_RX11_376_2618 (ct2_cons (vl_2659 l) ck_RX11_300_2659 (ct2_cons (vl_2586 l) ck_RX11_380_2586 (ct2_cons (vl_2588 l) ck_RX11_247_2588 (ct2_nil)))))))))
theorem vl_2660 (l : Launch) : Vld2 l vwCl gTbl con_2660 := conR_ok3 gT_all (hd_2660) rfl pn_RX11 tk_X11_mean bo_RX11 xo_RX11 (cto_2660 l) ch_2660 (cut_all cc_2660)
/-- RookHustingModel mean -/
noncomputable def gi_3001 : GI := jl_n [gp_162, gp_900]
noncomputable def ac_1423 : AC := .inl (12, jl_n [vp_50, jl_6 7 3, jl_1 28 4, vp_112, jl_8 41 7, jl_4 44 3, jl_8 48 4])
noncomputable def hc_244 : List AC := [ac_1423, ac_440, am_8, am_6, am_3, am_3, am_1, am_0, am_0, am_0, am_13, am_14, am_15]
noncomputable def gi_3002 : GI := jl_n [gp_162, gp_900, jl_u, gp_800]
noncomputable def ac_1424 : AC := .inl (12, jl_n [vp_51, vp_141, vp_112, jl_8 41 7, jl_4 113 3, jl_8 48 4])
noncomputable def hq_985 : HP := [(true, ac_1424), (false, ac_440), (true, am_8), (true, am_6), (true, am_3), (true, am_3), (true, am_1), (true, am_0), (true, am_0), (true, am_0), (true, am_13), (true, am_14), (true, am_15)]
noncomputable def con_2661 : Con2 := ((yX12_mean, cX12_mean, 3, (some .long)), (9, 215), ([(6, 0, 0), (1, 1, 0), (1, 2, 0)], gi_3001, hc_244, []), [((4, 71, 0), gi_3002, hq_985, [], tg_24)])
theorem hd_2661 : con_2661.1 = (yX12_mean, cX12_mean, 3, (some .long)) := rfl
noncomputable def ct_2661 : CTB2 := [(3, 465, 0, con_2620, [0, 1]), (17, 470, 0, con_2635, [0, 1, 2, 3, 4, 5, 6, 7, 8, 9, 10, 11, 12]), (17, 470, 0, con_2645, [0, 1, 2, 3, 4, 5, 6, 7, 8, 9, 10, 11, 12]), (17, 470, 0, con_2652, [0, 1, 2, 3, 4, 5, 6, 7, 8, 9, 10, 11, 12]), (17, 470, 0, con_2653, [0, 1, 2, 3, 4, 5, 6, 7, 8, 9, 10, 11, 12]), (17, 470, 0, con_2654, [0, 1, 2, 3, 4, 5, 6, 7, 8, 9, 10, 11, 12]), (17, 470, 0, con_2655, [0, 1, 2, 3, 4, 5, 6, 7, 8, 9, 10, 11, 12]), (17, 470, 0, con_2656, [0, 1, 2, 3, 4, 5, 6, 7, 8, 9, 10, 11, 12]), (17, 470, 0, con_2657, [0, 1, 2, 3, 4, 5, 6, 7, 8, 9, 10, 11, 12]), (29, 319, 1, con_2637, [])]
noncomputable def cu_2661 : List CUT2 := []
theorem ch_2661 : staG tb_X12_mean 1 bt_RX12 [] ct_2661 [(13, [(1, (1, 1, 0), 0, 0)])] [] cu_2661 19 con_2661 = true := by decide +kernel
theorem cto_2661 (l : Launch) : CTOK2 l RX12 vwCl gTbl ct_2661 := ct2_cons (vl_2620 l) ck_RX12_465_2620 (ct2_cons (vl_2635 l) ck_RX12_470_2635 (ct2_cons (vl_2645 l) ck_RX12_470_2645 (ct2_cons (vl_2652 l) ck_RX12_470_2652 (ct2_cons (vl_2653 l) ck_RX12_470_2653 (ct2_cons (vl_2654 l) ck_RX12_470_2654 (ct2_cons (vl_2655 l) ck_RX12_470_2655 (ct2_cons (vl_2656 l) ck_RX12_470_2656 (ct2_cons (vl_2657 l) ck_RX12_470_2657 (ct2_cons (vl_2637 l) ck_RX12_319_2637 (ct2_nil))))))))))
theorem vl_2661 (l : Launch) : Vld2 l vwCl gTbl con_2661 := conR_ok3 gT_all (hd_2661) rfl pn_RX12 tk_X12_mean bo_RX12 xo_RX12 (cto_2661 l) ch_2661 cut_nil
/-- RookHusting isMan -/
noncomputable def gi_3003 : GI := jl_n [gp_382, gp_178]
noncomputable def gi_3004 : GI := jl_n [gp_382, jl_z 24, gp_179]
noncomputable def con_2662 : Con2 := ((yX11_isMan, cX11_isMan, 2, (some .boolean)), (0, 0), ([(6, 0, 0), (1, 1, 0)], gi_3003, [ac_431, .inl (9, [(6, 2, 0), (8, 19, 0)]), ac_444], []), [((0, 0, 0), gi_3004, hq_449, [], [1]), ((0, 1, 0), gi_314, hq_449, [], [1])])
theorem hd_2662 : con_2662.1 = (yX11_isMan, cX11_isMan, 2, (some .boolean)) := rfl
noncomputable def cu_2662 : List CUT2 := []
theorem ch_2662 : staG tb_X11_isMan 1 bt_RX11 [] ct_3 [] [] cu_2662 13 con_2662 = true := by decide +kernel
theorem vl_2662 (l : Launch) : Vld2 l vwCl gTbl con_2662 := conR_ok3 gT_all (hd_2662) rfl pn_RX11 tk_X11_isMan bo_RX11 xo_RX11 (cto_3 l) ch_2662 cut_nil
/-- RookHusting$Acts add -/
noncomputable def gi_3005 : GI := jl_n [jl_z 2, jl_r 2 (jl_i 0 4), gp_266]
noncomputable def ac_1425 : AC := .inr (1, jl_n [js_1 38 30])
noncomputable def ac_1426 : AC := .inr (1, jl_n [js_1 68 30])
noncomputable def hc_245 : List AC := [.inl (0, [(1, 4, 0), (6, 1, 0), (6, 2, 0), (6, 3, 0)]), ac_1425, am_12, ac_1426]
noncomputable def rq_11 : RLs := [([(8, 12), (38, (-1))], 4), ([(9, 12), (39, (-1))], 4), ([(10, 12), (40, (-1))], 4), ([(11, 12), (41, (-1))], 4), ([(12, 12), (42, (-1))], 4), ([(13, 12), (43, (-1))], 4), ([(14, 12), (44, (-1))], 4), ([(15, 12), (45, (-1))], 4), ([(16, 12), (46, (-1))], 4), ([(17, 12), (47, (-1))], 4), ([(18, 12), (48, (-1))], 4), ([(19, 12), (49, (-1))], 4), ([(20, 12), (50, (-1))], 4), ([(21, 12), (51, (-1))], 4), ([(22, 12), (52, (-1))], 4), ([(23, 12), (53, (-1))], 4), ([(24, 12), (54, (-1))], 4), ([(25, 12), (55, (-1))], 4), ([(26, 12), (56, (-1))], 4), ([(27, 12), (57, (-1))], 4), ([(28, 12), (58, (-1))], 4), ([(29, 12), (59, (-1))], 4), ([(30, 12), (60, (-1))], 4), ([(31, 12), (61, (-1))], 4), ([(32, 12), (62, (-1))], 4), ([(33, 12), (63, (-1))], 4), ([(34, 12), (64, (-1))], 4), ([(35, 12), (65, (-1))], 4), ([(36, 12), (66, (-1))], 4), ([(37, 12), (67, (-1))], 4)]
noncomputable def gi_3006 : GI := jl_n [jl_z 2, jl_r 2 (jl_i 0 4), gp_266, jl_i 1 30, jl_z 3, gp_246]
noncomputable def ac_1427 : AC := .inr (1, jl_n [js_1 102 30])
noncomputable def ac_1428 : AC := .inr (1, jl_n [js_1 132 30])
noncomputable def hq_986 : HP := [(true, .inl (0, [(1, 68, 0), (6, 1, 0), (6, 2, 0), (6, 3, 0)])), (true, ac_1427), (true, am_12), (true, ac_1428)]
noncomputable def rq_12 : RLs := [([(72, 12), (102, (-1))], 4), ([(73, 12), (103, (-1))], 4), ([(74, 12), (104, (-1))], 4), ([(75, 12), (105, (-1))], 4), ([(76, 12), (106, (-1))], 4), ([(77, 12), (107, (-1))], 4), ([(78, 12), (108, (-1))], 4), ([(79, 12), (109, (-1))], 4), ([(80, 12), (110, (-1))], 4), ([(81, 12), (111, (-1))], 4), ([(82, 12), (112, (-1))], 4), ([(83, 12), (113, (-1))], 4), ([(84, 12), (114, (-1))], 4), ([(85, 12), (115, (-1))], 4), ([(86, 12), (116, (-1))], 4), ([(87, 12), (117, (-1))], 4), ([(88, 12), (118, (-1))], 4), ([(89, 12), (119, (-1))], 4), ([(90, 12), (120, (-1))], 4), ([(91, 12), (121, (-1))], 4), ([(92, 12), (122, (-1))], 4), ([(93, 12), (123, (-1))], 4), ([(94, 12), (124, (-1))], 4), ([(95, 12), (125, (-1))], 4), ([(96, 12), (126, (-1))], 4), ([(97, 12), (127, (-1))], 4), ([(98, 12), (128, (-1))], 4), ([(99, 12), (129, (-1))], 4), ([(100, 12), (130, (-1))], 4), ([(101, 12), (131, (-1))], 4)]
noncomputable def con_2663 : Con2 := ((yX0_add, cX0_add, 4, none), (0, 0), ([(6, 0, 0), (0, 0, 0), (1, 2, 0), (1, 3, 0)], gi_3005, hc_245, rq_11), [((9, 0, 0), gi_3006, hq_986, rq_12, tg_25)])
theorem hd_2663 : con_2663.1 = (yX0_add, cX0_add, 4, none) := rfl
noncomputable def cu_2663 : List CUT2 := []
theorem ch_2663 : staG tb_X0_add 1 bt_RX0 [] ct_1240 [(0, [(1, (2, 0, 0), 0, 0)])] [] cu_2663 31 con_2663 = true := by decide +kernel
theorem vl_2663 (l : Launch) : Vld2 l vwCl gTbl con_2663 := conR_ok3 gT_all (hd_2663) rfl pn_RX0 tk_X0_add bo_RX0 xo_RX0 (cto_1240 l) ch_2663 cut_nil
/-- RookHusting isMan -/
noncomputable def gi_3007 : GI := jl_n [gp_901, gp_178]
noncomputable def gi_3008 : GI := jl_n [gp_901, jl_z 24, gp_179]
noncomputable def con_2664 : Con2 := ((yX11_isMan, cX11_isMan, 2, (some .boolean)), (0, 0), ([(6, 0, 0), (1, 1, 0)], gi_3007, [ac_431, .inl (9, [(6, 2, 0), (8, 19, 0)]), ac_444], []), [((0, 0, 0), gi_3008, hq_449, [], [1])])
theorem hd_2664 : con_2664.1 = (yX11_isMan, cX11_isMan, 2, (some .boolean)) := rfl
noncomputable def cu_2664 : List CUT2 := []
theorem ch_2664 : staG tb_X11_isMan 1 bt_RX11 [] ct_3 [] [] cu_2664 6 con_2664 = true := by decide +kernel
theorem vl_2664 (l : Launch) : Vld2 l vwCl gTbl con_2664 := conR_ok3 gT_all (hd_2664) rfl pn_RX11 tk_X11_isMan bo_RX11 xo_RX11 (cto_3 l) ch_2664 cut_nil
/-- RookHusting$Acts add -/
noncomputable def gi_3009 : GI := jl_n [gp_23, jl_z 1, gp_266]
noncomputable def gi_3010 : GI := jl_n [gp_23, jl_z 1, gp_266, jl_i 1 30, jl_z 3, gp_246]
noncomputable def con_2665 : Con2 := ((yX0_add, cX0_add, 4, none), (0, 0), ([(6, 0, 0), (0, 0, 0), (1, 2, 0), (0, (-1), 0)], gi_3009, hc_245, rq_11), [((9, 0, 0), gi_3010, hq_986, rq_12, tg_25)])
theorem hd_2665 : con_2665.1 = (yX0_add, cX0_add, 4, none) := rfl
noncomputable def cu_2665 : List CUT2 := []
theorem ch_2665 : staG tb_X0_add 1 bt_RX0 [] ct_1240 [(0, [(1, (2, 0, 0), 0, 0)])] [] cu_2665 31 con_2665 = true := by decide +kernel
theorem vl_2665 (l : Launch) : Vld2 l vwCl gTbl con_2665 := conR_ok3 gT_all (hd_2665) rfl pn_RX0 tk_X0_add bo_RX0 xo_RX0 (cto_1240 l) ch_2665 cut_nil
/-- RookHusting puts -/
noncomputable def gi_3011 : GI := jl_n [gp_903, jl_i 0 30, jl_z 6, gp_277, gp_246, gp_256, gp_904]
noncomputable def ac_1429 : AC := .inl (11, jl_n [vp_57, jl_6 10 1, jl_6 5 1, vp_140, jl_8 13 1, jl_6 28 1, jl_8 16 2, jl_1 18 2, jl_8 19 1])
noncomputable def ac_1430 : AC := .inl (4, jl_n [vp_123, vp_74, vp_97, jl_8 37 2, jl_6 11 1])
noncomputable def ac_1431 : AC := .inl (5, jl_n [jl_8 121 4, jl_1 122 1, jl_6 3 1, jl_8 125 2])
noncomputable def hc_246 : List AC := [ac_1429, .inl (9, [(6, 2, 0), (6, 3, 0)]), ac_1430, .inl (0, [(1, 38, 0), (6, 12, 0), (6, 13, 0), (6, 14, 0)]), .inl (7, [(6, 5, 0), (6, 6, 0), (6, 7, 0), (1, 45, 0)]), am_3, am_1, am_1, am_1, .inl (1, [(6, 2, 0), (8, 47, 0)]), am_5, am_7, ac_642, am_12, ac_643, ac_1059, am_4, am_0, am_11, am_0, am_1, am_0, am_4, am_10, am_0, am_0, am_9, ac_1431]
noncomputable def gi_3012 : GI := jl_n [gp_903, jl_i 0 30, jl_z 6, gp_277, gp_246, gp_256, gp_904, jl_m 4 4, gp_905, jl_i 0 30, jl_z 6, jl_t, gp_246, gp_256, gp_904]
noncomputable def ac_1432 : AC := .inl (11, jl_n [vp_57, jl_6 10 1, jl_6 5 1, vp_140, jl_8 13 1, jl_6 28 1, jl_8 16 2, jl_1 141 2, jl_8 19 1])
noncomputable def ac_1433 : AC := .inr (1, jl_n [js_1 180 30])
noncomputable def ac_1434 : AC := .inr (1, jl_n [js_1 210 30])
noncomputable def ac_1435 : AC := .inl (3, jl_n [vp_78, jl_1 219 2])
noncomputable def ac_1436 : AC := .inl (5, jl_n [jl_8 121 4, jl_1 224 1, jl_6 3 1, jl_8 125 2])
noncomputable def hq_987 : HP := [(true, ac_1432), (false, .inl (9, [(6, 2, 0), (6, 3, 0)])), (false, ac_1430), (true, .inl (0, [(1, 142, 0), (6, 12, 0), (6, 13, 0), (6, 14, 0)])), (true, .inl (7, [(6, 5, 0), (6, 6, 0), (6, 7, 0), (1, 149, 0)])), (true, am_3), (true, am_1), (true, am_1), (false, am_1), (false, .inl (1, [(6, 2, 0), (8, 47, 0)])), (false, am_5), (false, am_7), (true, ac_1433), (true, am_12), (true, ac_1434), (true, ac_1435), (false, am_4), (true, am_0), (false, am_11), (true, am_0), (true, am_1), (true, am_0), (false, am_4), (false, am_10), (true, am_0), (true, am_0), (true, am_9), (true, ac_1436)]
noncomputable def rq_13 : RLs := [([(150, 12), (180, (-1))], 4), ([(151, 12), (181, (-1))], 4), ([(152, 12), (182, (-1))], 4), ([(153, 12), (183, (-1))], 4), ([(154, 12), (184, (-1))], 4), ([(155, 12), (185, (-1))], 4), ([(156, 12), (186, (-1))], 4), ([(157, 12), (187, (-1))], 4), ([(158, 12), (188, (-1))], 4), ([(159, 12), (189, (-1))], 4), ([(160, 12), (190, (-1))], 4), ([(161, 12), (191, (-1))], 4), ([(162, 12), (192, (-1))], 4), ([(163, 12), (193, (-1))], 4), ([(164, 12), (194, (-1))], 4), ([(165, 12), (195, (-1))], 4), ([(166, 12), (196, (-1))], 4), ([(167, 12), (197, (-1))], 4), ([(168, 12), (198, (-1))], 4), ([(169, 12), (199, (-1))], 4), ([(170, 12), (200, (-1))], 4), ([(171, 12), (201, (-1))], 4), ([(172, 12), (202, (-1))], 4), ([(173, 12), (203, (-1))], 4), ([(174, 12), (204, (-1))], 4), ([(175, 12), (205, (-1))], 4), ([(176, 12), (206, (-1))], 4), ([(177, 12), (207, (-1))], 4), ([(178, 12), (208, (-1))], 4), ([(179, 12), (209, (-1))], 4)]
noncomputable def con_2666 : Con2 := ((yX11_puts, cX11_puts, 4, (some .int)), (6, 151), ([(6, 0, 0), (1, 1, 0), (1, 2, 0)], gi_3011, hc_246, rq_6), [((1, 125, 0), gi_3012, hq_987, rq_13, tg_26)])
theorem hd_2666 : con_2666.1 = (yX11_puts, cX11_puts, 4, (some .int)) := rfl
theorem ck_RX11_395_2665 : COK2 RX11 vwCl gTbl 395 0 con_2665 := ⟨wd_1323, wd_130, mh_X0_add, .inr (.inr ⟨rfl, wd_1320, wd_1321, wd_1322, ⟨_, rfl, pd_X0_add⟩, 0, _, TX0, 4, rfl, rfl⟩)⟩
theorem ck_RX11_395_2663 : COK2 RX11 vwCl gTbl 395 0 con_2663 := ⟨wd_1323, wd_130, mh_X0_add, .inr (.inr ⟨rfl, wd_1320, wd_1321, wd_1322, ⟨_, rfl, pd_X0_add⟩, 0, _, TX0, 4, rfl, rfl⟩)⟩
theorem ck_RX11_156_2664 : COK2 RX11 vwCl gTbl 156 0 con_2664 := ⟨wd_771, wd_125, mh_X11_isMan, .inr (.inr ⟨rfl, wd_768, wd_770, wd_12, ⟨_, rfl, pd_X11_isMan⟩, 11, _, TX11, 16, rfl, rfl⟩)⟩
theorem ck_RX11_156_2662 : COK2 RX11 vwCl gTbl 156 0 con_2662 := ⟨wd_771, wd_125, mh_X11_isMan, .inr (.inr ⟨rfl, wd_768, wd_770, wd_12, ⟨_, rfl, pd_X11_isMan⟩, 11, _, TX11, 16, rfl, rfl⟩)⟩
noncomputable def ct_2666 : CTB2 := [(2, 139, 0, con_643, [0, 1, 2]), (15, 156, 0, con_2662, [0, 1, 2]), (15, 156, 0, con_2664, [0, 1, 2]), (43, 208, 0, con_900, [0, 1, 4, 2, 5, 6, 7, 8, 9, 10, 11, 3, 12, 13, 14, 15, 16, 17, 18, 19, 20, 21, 22, 23, 24, 25, 26]), (66, 395, 0, con_2663, [3, 12, 13, 14]), (66, 395, 0, con_2665, [3, 12, 13, 14]), (70, 130, 0, con_308, [0, 27])]
noncomputable def cu_2666 : List CUT2 := []
theorem ch_2666 : staG tb_X11_puts 1 bt_RX11 [] ct_2666 [] [] cu_2666 38 con_2666 = true := by decide +kernel
theorem cto_2666 (l : Launch) : CTOK2 l RX11 vwCl gTbl ct_2666 := ct2_cons (vl_643 l) ck_RX11_139_643 (ct2_cons (vl_2662 l) ck_RX11_156_2662 (ct2_cons (vl_2664 l) ck_RX11_156_2664 (ct2_cons (vl_900 l) ck_RX11_208_900 (ct2_cons (vl_2663 l) ck_RX11_395_2663 (ct2_cons (vl_2665 l) ck_RX11_395_2665 (ct2_cons (vl_308 l) ck_RX11_130_308 (ct2_nil)))))))
theorem vl_2666 (l : Launch) : Vld2 l vwCl gTbl con_2666 := conR_ok3 gT_all (hd_2666) rfl pn_RX11 tk_X11_puts bo_RX11 xo_RX11 (cto_2666 l) ch_2666 cut_nil
/-- RookHustingModel isMan -/
noncomputable def gi_3013 : GI := jl_n [gp_382, gp_164]
noncomputable def gi_3014 : GI := jl_n [gp_382, gp_166]
noncomputable def con_2667 : Con2 := ((yX12_isMan, cX12_isMan, 2, (some .boolean)), (1, 25), ([(6, 0, 0), (1, 1, 0)], gi_3013, [ac_437, ac_438], []), [((0, 0, 0), gi_3014, [(false, ac_437), (false, ac_438)], [], [1]), ((0, 1, 0), gi_319, [(false, ac_437), (false, ac_438)], [], [1])])
theorem hd_2667 : con_2667.1 = (yX12_isMan, cX12_isMan, 2, (some .boolean)) := rfl
noncomputable def cu_2667 : List CUT2 := []
theorem ch_2667 : staG tb_X12_isMan 1 bt_RX12 [] ct_656 [] [] cu_2667 12 con_2667 = true := by decide +kernel
theorem vl_2667 (l : Launch) : Vld2 l vwCl gTbl con_2667 := conR_ok3 gT_all (hd_2667) rfl pn_RX12 tk_X12_isMan bo_RX12 xo_RX12 (cto_656 l) ch_2667 cut_nil
/-- RookHustingModel keepAct -/
noncomputable def gi_3015 : GI := jl_n [jl_z 1, jl_i 50 54, gp_164]
noncomputable def gi_3016 : GI := jl_n [jl_z 1, jl_i 50 54, gp_906]
noncomputable def gi_3017 : GI := jl_n [jl_z 1, jl_i 50 54, gp_907]
noncomputable def ac_1437 : AC := .inr (1, jl_n [js_1 54 7, jl_x (1, (1, 54, 1)), js_1 56 1, sp_124])
noncomputable def con_2668 : Con2 := ((yX12_keepAct, cX12_keepAct, 2, (some .boolean)), (0, 0), ([(6, 0, 0), (1, 1, 0)], gi_3015, [ac_437, ac_438], []), [((0, 0, 0), gi_3016, [(false, ac_437), (false, ac_438)], [], [1]), ((0, 1, 0), gi_3017, [(false, ac_437), (true, ac_1437)], [], tg_8)])
theorem hd_2668 : con_2668.1 = (yX12_keepAct, cX12_keepAct, 2, (some .boolean)) := rfl
noncomputable def cu_2668 : List CUT2 := []
theorem ch_2668 : staG tb_X12_keepAct 1 bt_RX12 [] ct_2 [] [] cu_2668 28 con_2668 = true := by decide +kernel
theorem vl_2668 (l : Launch) : Vld2 l vwCl gTbl con_2668 := conR_ok3 gT_all (hd_2668) rfl pn_RX12 tk_X12_keepAct bo_RX12 xo_RX12 (cto_2 l) ch_2668 cut_nil
/-- RookHustingModel keepAct -/
noncomputable def gi_3018 : GI := jl_n [jl_z 1, jl_i 40 44, gp_164]
noncomputable def gi_3019 : GI := jl_n [jl_z 1, jl_i 40 44, gp_906]
noncomputable def gi_3020 : GI := jl_n [jl_z 1, jl_i 40 44, gp_907]
noncomputable def con_2669 : Con2 := ((yX12_keepAct, cX12_keepAct, 2, (some .boolean)), (0, 0), ([(6, 0, 0), (1, 1, 0)], gi_3018, [ac_437, ac_438], []), [((0, 0, 0), gi_3019, [(false, ac_437), (false, ac_438)], [], [1]), ((0, 1, 0), gi_3020, [(false, ac_437), (true, ac_1437)], [], tg_8)])
theorem hd_2669 : con_2669.1 = (yX12_keepAct, cX12_keepAct, 2, (some .boolean)) := rfl
noncomputable def cu_2669 : List CUT2 := []
theorem ch_2669 : staG tb_X12_keepAct 1 bt_RX12 [] ct_2 [] [] cu_2669 28 con_2669 = true := by decide +kernel
theorem vl_2669 (l : Launch) : Vld2 l vwCl gTbl con_2669 := conR_ok3 gT_all (hd_2669) rfl pn_RX12 tk_X12_keepAct bo_RX12 xo_RX12 (cto_2 l) ch_2669 cut_nil
/-- RookHustingModel keepAct -/
noncomputable def gi_3021 : GI := jl_n [jl_z 1, jl_i 30 34, gp_164]
noncomputable def gi_3022 : GI := jl_n [jl_z 1, jl_i 30 34, gp_906]
noncomputable def gi_3023 : GI := jl_n [jl_z 1, jl_i 30 34, gp_907]
noncomputable def con_2670 : Con2 := ((yX12_keepAct, cX12_keepAct, 2, (some .boolean)), (0, 0), ([(6, 0, 0), (1, 1, 0)], gi_3021, [ac_437, ac_438], []), [((0, 0, 0), gi_3022, [(false, ac_437), (false, ac_438)], [], [1]), ((0, 1, 0), gi_3023, [(false, ac_437), (true, ac_1437)], [], tg_8)])
theorem hd_2670 : con_2670.1 = (yX12_keepAct, cX12_keepAct, 2, (some .boolean)) := rfl
noncomputable def cu_2670 : List CUT2 := []
theorem ch_2670 : staG tb_X12_keepAct 1 bt_RX12 [] ct_2 [] [] cu_2670 28 con_2670 = true := by decide +kernel
theorem vl_2670 (l : Launch) : Vld2 l vwCl gTbl con_2670 := conR_ok3 gT_all (hd_2670) rfl pn_RX12 tk_X12_keepAct bo_RX12 xo_RX12 (cto_2 l) ch_2670 cut_nil
/-- RookHustingModel keepAct -/
noncomputable def gi_3024 : GI := jl_n [jl_z 1, jl_i 20 24, gp_164]
noncomputable def gi_3025 : GI := jl_n [jl_z 1, jl_i 20 24, gp_906]
noncomputable def gi_3026 : GI := jl_n [jl_z 1, jl_i 20 24, gp_907]
noncomputable def con_2671 : Con2 := ((yX12_keepAct, cX12_keepAct, 2, (some .boolean)), (0, 0), ([(6, 0, 0), (1, 1, 0)], gi_3024, [ac_437, ac_438], []), [((0, 0, 0), gi_3025, [(false, ac_437), (false, ac_438)], [], [1]), ((0, 1, 0), gi_3026, [(false, ac_437), (true, ac_1437)], [], tg_8)])
theorem hd_2671 : con_2671.1 = (yX12_keepAct, cX12_keepAct, 2, (some .boolean)) := rfl
noncomputable def cu_2671 : List CUT2 := []
theorem ch_2671 : staG tb_X12_keepAct 1 bt_RX12 [] ct_2 [] [] cu_2671 28 con_2671 = true := by decide +kernel
theorem vl_2671 (l : Launch) : Vld2 l vwCl gTbl con_2671 := conR_ok3 gT_all (hd_2671) rfl pn_RX12 tk_X12_keepAct bo_RX12 xo_RX12 (cto_2 l) ch_2671 cut_nil
/-- RookHustingModel keepAct -/
noncomputable def gi_3027 : GI := jl_n [jl_z 1, jl_i 10 14, gp_164]
noncomputable def gi_3028 : GI := jl_n [jl_z 1, jl_i 10 14, gp_906]
noncomputable def gi_3029 : GI := jl_n [jl_z 1, jl_i 10 14, gp_907]
noncomputable def con_2672 : Con2 := ((yX12_keepAct, cX12_keepAct, 2, (some .boolean)), (0, 0), ([(6, 0, 0), (1, 1, 0)], gi_3027, [ac_437, ac_438], []), [((0, 0, 0), gi_3028, [(false, ac_437), (false, ac_438)], [], [1]), ((0, 1, 0), gi_3029, [(false, ac_437), (true, ac_1437)], [], tg_8)])
theorem hd_2672 : con_2672.1 = (yX12_keepAct, cX12_keepAct, 2, (some .boolean)) := rfl
noncomputable def cu_2672 : List CUT2 := []
theorem ch_2672 : staG tb_X12_keepAct 1 bt_RX12 [] ct_2 [] [] cu_2672 28 con_2672 = true := by decide +kernel
theorem vl_2672 (l : Launch) : Vld2 l vwCl gTbl con_2672 := conR_ok3 gT_all (hd_2672) rfl pn_RX12 tk_X12_keepAct bo_RX12 xo_RX12 (cto_2 l) ch_2672 cut_nil
/-- RookHustingModel isMan -/
noncomputable def gi_3030 : GI := jl_n [gp_901, gp_164]
noncomputable def gi_3031 : GI := jl_n [gp_901, gp_166]
noncomputable def con_2673 : Con2 := ((yX12_isMan, cX12_isMan, 2, (some .boolean)), (1, 25), ([(6, 0, 0), (1, 1, 0)], gi_3030, [ac_437, ac_438], []), [((0, 0, 0), gi_3031, [(false, ac_437), (false, ac_438)], [], [1])])
theorem hd_2673 : con_2673.1 = (yX12_isMan, cX12_isMan, 2, (some .boolean)) := rfl
noncomputable def cu_2673 : List CUT2 := []
theorem ch_2673 : staG tb_X12_isMan 1 bt_RX12 [] ct_656 [] [] cu_2673 12 con_2673 = true := by decide +kernel
theorem vl_2673 (l : Launch) : Vld2 l vwCl gTbl con_2673 := conR_ok3 gT_all (hd_2673) rfl pn_RX12 tk_X12_isMan bo_RX12 xo_RX12 (cto_656 l) ch_2673 cut_nil
/-- RookHustingModel keepAct -/
noncomputable def gi_3032 : GI := jl_n [gp_52, gp_906]
noncomputable def gi_3033 : GI := jl_n [gp_52, gp_907]
noncomputable def con_2674 : Con2 := ((yX12_keepAct, cX12_keepAct, 2, (some .boolean)), (0, 0), ([(6, 0, 0), (1, 1, 0)], gi_365, [ac_437, ac_438], []), [((0, 0, 0), gi_3032, [(false, ac_437), (false, ac_438)], [], [1]), ((0, 1, 0), gi_3033, [(false, ac_437), (true, ac_1437)], [], tg_8)])
theorem hd_2674 : con_2674.1 = (yX12_keepAct, cX12_keepAct, 2, (some .boolean)) := rfl
noncomputable def cu_2674 : List CUT2 := []
theorem ch_2674 : staG tb_X12_keepAct 1 bt_RX12 [] ct_2 [] [] cu_2674 28 con_2674 = true := by decide +kernel
theorem vl_2674 (l : Launch) : Vld2 l vwCl gTbl con_2674 := conR_ok3 gT_all (hd_2674) rfl pn_RX12 tk_X12_keepAct bo_RX12 xo_RX12 (cto_2 l) ch_2674 cut_nil
/-- RookHustingModel puts -/
noncomputable def ac_1438 : AC := .inl (12, jl_n [vp_50, jl_6 7 3, jl_1 28 4, jl_8 48 20])
noncomputable def hc_247 : List AC := [ac_1438, ac_440, am_8, am_6, am_3, am_3, am_1]
noncomputable def gi_3034 : GI := jl_n [gp_362, jl_m 4 4, gp_287, jl_z 27, gp_114]
noncomputable def ac_1439 : AC := .inl (12, jl_n [vp_51, vp_141, jl_8 48 20])
noncomputable def ac_1440 : AC := .inr (1, jl_n [js_1 55 7, js_1 125 1, js_1 57 1, sp_124])
noncomputable def hq_988 : HP := [(true, ac_1439), (true, ac_1440), (true, am_8), (true, am_6), (true, am_3), (true, am_3), (true, am_1)]
noncomputable def con_2675 : Con2 := ((yX12_puts, cX12_puts, 3, (some .int)), (8, 188), ([(6, 0, 0), (1, 1, 0), (1, 2, 0)], gi_746, hc_247, []), [((1, 71, 0), gi_3034, hq_988, [], tg_27)])
theorem hd_2675 : con_2675.1 = (yX12_puts, cX12_puts, 3, (some .int)) := rfl
theorem ck_RX12_474_2674 : COK2 RX12 vwCl gTbl 474 0 con_2674 := ⟨wd_2125, wd_137, mh_X12_keepAct, .inr (.inr ⟨rfl, wd_2122, wd_2124, wd_122, ⟨_, rfl, pd_X12_keepAct⟩, 12, _, TX12, 45, rfl, rfl⟩)⟩
theorem ck_RX12_474_2672 : COK2 RX12 vwCl gTbl 474 0 con_2672 := ⟨wd_2125, wd_137, mh_X12_keepAct, .inr (.inr ⟨rfl, wd_2122, wd_2124, wd_122, ⟨_, rfl, pd_X12_keepAct⟩, 12, _, TX12, 45, rfl, rfl⟩)⟩
theorem ck_RX12_474_2671 : COK2 RX12 vwCl gTbl 474 0 con_2671 := ⟨wd_2125, wd_137, mh_X12_keepAct, .inr (.inr ⟨rfl, wd_2122, wd_2124, wd_122, ⟨_, rfl, pd_X12_keepAct⟩, 12, _, TX12, 45, rfl, rfl⟩)⟩
theorem ck_RX12_474_2670 : COK2 RX12 vwCl gTbl 474 0 con_2670 := ⟨wd_2125, wd_137, mh_X12_keepAct, .inr (.inr ⟨rfl, wd_2122, wd_2124, wd_122, ⟨_, rfl, pd_X12_keepAct⟩, 12, _, TX12, 45, rfl, rfl⟩)⟩
theorem ck_RX12_474_2669 : COK2 RX12 vwCl gTbl 474 0 con_2669 := ⟨wd_2125, wd_137, mh_X12_keepAct, .inr (.inr ⟨rfl, wd_2122, wd_2124, wd_122, ⟨_, rfl, pd_X12_keepAct⟩, 12, _, TX12, 45, rfl, rfl⟩)⟩
theorem ck_RX12_474_2668 : COK2 RX12 vwCl gTbl 474 0 con_2668 := ⟨wd_2125, wd_137, mh_X12_keepAct, .inr (.inr ⟨rfl, wd_2122, wd_2124, wd_122, ⟨_, rfl, pd_X12_keepAct⟩, 12, _, TX12, 45, rfl, rfl⟩)⟩
theorem ck_RX12_236_2673 : COK2 RX12 vwCl gTbl 236 0 con_2673 := ⟨wd_1668, wd_137, mh_X12_isMan, .inr (.inr ⟨rfl, wd_1665, wd_1667, wd_68, ⟨_, rfl, pd_X12_isMan⟩, 12, _, TX12, 45, rfl, rfl⟩)⟩
theorem ck_RX12_236_2667 : COK2 RX12 vwCl gTbl 236 0 con_2667 := ⟨wd_1668, wd_137, mh_X12_isMan, .inr (.inr ⟨rfl, wd_1665, wd_1667, wd_68, ⟨_, rfl, pd_X12_isMan⟩, 12, _, TX12, 45, rfl, rfl⟩)⟩
noncomputable def ct_2675 : CTB2 := [(3, 109, 0, con_647, [0, 1]), (16, 236, 0, con_2667, [0, 1]), (16, 236, 0, con_2673, [0, 1]), (26, 345, 0, con_905, [0, 1, 2, 3, 4, 5, 6]), (38, 474, 0, con_2668, [0, 1]), (38, 474, 0, con_2669, [0, 1]), (38, 474, 0, con_2670, [0, 1]), (38, 474, 0, con_2671, [0, 1]), (38, 474, 0, con_2672, [0, 1]), (38, 474, 0, con_2674, [0, 1])]
noncomputable def cu_2675 : List CUT2 := []
theorem ch_2675 : staG tb_X12_puts 1 bt_RX12 [] ct_2675 [(29, [(1, (1, 2, 0), 0, 0)])] [] cu_2675 32 con_2675 = true := by decide +kernel
theorem cto_2675 (l : Launch) : CTOK2 l RX12 vwCl gTbl ct_2675 := ct2_cons (vl_647 l) ck_RX12_109_647 (ct2_cons (vl_2667 l) ck_RX12_236_2667 (ct2_cons (vl_2673 l) ck_RX12_236_2673 (ct2_cons (vl_905 l) ck_RX12_345_905 (ct2_cons (vl_2668 l) ck_RX12_474_2668 (ct2_cons (vl_2669 l) ck_RX12_474_2669 (ct2_cons (vl_2670 l) ck_RX12_474_2670 (ct2_cons (vl_2671 l) ck_RX12_474_2671 (ct2_cons (vl_2672 l) ck_RX12_474_2672 (ct2_cons (vl_2674 l) ck_RX12_474_2674 (ct2_nil))))))))))
theorem vl_2675 (l : Launch) : Vld2 l vwCl gTbl con_2675 := conR_ok3 gT_all (hd_2675) rfl pn_RX12 tk_X12_puts bo_RX12 xo_RX12 (cto_2675 l) ch_2675 cut_nil
/-- RookHusting$Acts add -/
noncomputable def gi_3035 : GI := jl_n [gp_363, gp_266]
noncomputable def gi_3036 : GI := jl_n [gp_363, gp_266, jl_i 1 30, jl_z 3, gp_246]
noncomputable def con_2676 : Con2 := ((yX0_add, cX0_add, 4, none), (0, 0), ([(6, 0, 0), (0, 1, 0), (1, 2, 0), (1, 3, 0)], gi_3035, hc_245, rq_11), [((9, 0, 0), gi_3036, hq_986, rq_12, tg_25)])
theorem hd_2676 : con_2676.1 = (yX0_add, cX0_add, 4, none) := rfl
noncomputable def cu_2676 : List CUT2 := []
theorem ch_2676 : staG tb_X0_add 1 bt_RX0 [] ct_1240 [(0, [(1, (2, 0, 0), 0, 0)])] [] cu_2676 31 con_2676 = true := by decide +kernel
theorem vl_2676 (l : Launch) : Vld2 l vwCl gTbl con_2676 := conR_ok3 gT_all (hd_2676) rfl pn_RX0 tk_X0_add bo_RX0 xo_RX0 (cto_1240 l) ch_2676 cut_nil
/-- RookHusting cellNow -/
noncomputable def con_2677 : Con2 := ((yX11_cellNow, cX11_cellNow, 4, (some .int)), (6, 151), ([(6, 0, 0), (6, 1, 0), (1, 2, 0), (1, 3, 0)], gi_751, hc_141, rq_4), [((1, 118, 0), gi_752, hq_558, [], tg_15)])
theorem hd_2677 : con_2677.1 = (yX11_cellNow, cX11_cellNow, 4, (some .int)) := rfl
noncomputable def cu_2677 : List CUT2 := []
theorem ch_2677 : staG tb_X11_cellNow 1 bt_RX11 [] ct_1098 [] [] cu_2677 12 con_2677 = true := by decide +kernel
theorem vl_2677 (l : Launch) : Vld2 l vwCl gTbl con_2677 := conR_ok3 gT_all (hd_2677) rfl pn_RX11 tk_X11_cellNow bo_RX11 xo_RX11 (cto_1098 l) ch_2677 cut_nil
/-- RookHusting speaks -/
noncomputable def gi_3037 : GI := jl_n [gp_903, gp_266, gp_908, jl_z 10, gp_347]
noncomputable def ac_1441 : AC := .inl (11, jl_n [vp_57, jl_6 16 1, jl_6 11 1, jl_8 11 1, jl_6 9 1, jl_8 13 1, jl_6 8 1, jl_8 16 2, jl_1 18 2, jl_8 19 1])
noncomputable def ac_1442 : AC := .inl (4, jl_n [vp_123, jl_6 21 1, jl_6 19 1, jl_6 15 1, jl_6 25 2, jl_6 18 1, jl_8 37 2, jl_6 17 1])
noncomputable def ac_1443 : AC := .inr (1, jl_n [js_1 72 30])
noncomputable def ac_1444 : AC := .inl (5, jl_n [jl_8 106 4, jl_1 107 1, jl_6 3 1, jl_8 110 2])
noncomputable def ac_1445 : AC := .inl (3, jl_n [jl_6 10 1, vp_156, jl_6 28 3, jl_6 23 1, jl_1 119 2])
noncomputable def hc_248 : List AC := [ac_1441, .inl (9, [(6, 2, 0), (6, 3, 0)]), ac_1442, .inl (0, [(1, 38, 0), (6, 4, 0), (6, 5, 0), (6, 6, 0)]), ac_1443, am_12, ac_1427, ac_1444, ac_1445, am_0, .inl (7, [(6, 11, 0), (6, 12, 0), (6, 13, 0), (1, 122, 0)]), am_3, am_1, am_1, am_1, .inl (1, [(6, 2, 0), (8, 124, 0)]), am_5, am_7, am_4, am_0, am_11, am_0, am_1, am_4, am_10, am_0, am_0, am_9]
noncomputable def rq_14 : RLs := [([(42, 12), (72, (-1))], 4), ([(43, 12), (73, (-1))], 4), ([(44, 12), (74, (-1))], 4), ([(45, 12), (75, (-1))], 4), ([(46, 12), (76, (-1))], 4), ([(47, 12), (77, (-1))], 4), ([(48, 12), (78, (-1))], 4), ([(49, 12), (79, (-1))], 4), ([(50, 12), (80, (-1))], 4), ([(51, 12), (81, (-1))], 4), ([(52, 12), (82, (-1))], 4), ([(53, 12), (83, (-1))], 4), ([(54, 12), (84, (-1))], 4), ([(55, 12), (85, (-1))], 4), ([(56, 12), (86, (-1))], 4), ([(57, 12), (87, (-1))], 4), ([(58, 12), (88, (-1))], 4), ([(59, 12), (89, (-1))], 4), ([(60, 12), (90, (-1))], 4), ([(61, 12), (91, (-1))], 4), ([(62, 12), (92, (-1))], 4), ([(63, 12), (93, (-1))], 4), ([(64, 12), (94, (-1))], 4), ([(65, 12), (95, (-1))], 4), ([(66, 12), (96, (-1))], 4), ([(67, 12), (97, (-1))], 4), ([(68, 12), (98, (-1))], 4), ([(69, 12), (99, (-1))], 4), ([(70, 12), (100, (-1))], 4), ([(71, 12), (101, (-1))], 4)]
noncomputable def gi_3038 : GI := jl_n [gp_903, gp_266, gp_908, jl_z 10, gp_347, jl_t, gp_905, gp_266, gp_908, jl_z 10, gp_351]
noncomputable def ac_1446 : AC := .inl (11, jl_n [vp_57, jl_6 16 1, jl_6 11 1, jl_8 11 1, jl_6 9 1, jl_8 13 1, jl_6 8 1, jl_8 16 2, jl_1 141 2, jl_8 19 1])
noncomputable def ac_1447 : AC := .inr (1, jl_n [js_1 176 30])
noncomputable def ac_1448 : AC := .inr (1, jl_n [js_1 206 30])
noncomputable def ac_1449 : AC := .inl (5, jl_n [jl_8 106 4, jl_1 211 1, jl_6 3 1, jl_8 110 2])
noncomputable def ac_1450 : AC := .inl (3, jl_n [jl_6 10 1, vp_156, jl_6 28 3, jl_6 23 1, jl_1 223 2])
noncomputable def hq_989 : HP := [(true, ac_1446), (false, .inl (9, [(6, 2, 0), (6, 3, 0)])), (false, ac_1442), (true, .inl (0, [(1, 142, 0), (6, 4, 0), (6, 5, 0), (6, 6, 0)])), (true, ac_1447), (true, am_12), (true, ac_1448), (true, ac_1449), (true, ac_1450), (true, am_0), (true, .inl (7, [(6, 11, 0), (6, 12, 0), (6, 13, 0), (1, 226, 0)])), (true, am_3), (true, am_1), (true, am_1), (false, am_1), (false, .inl (1, [(6, 2, 0), (8, 124, 0)])), (false, am_5), (false, am_7), (false, am_4), (true, am_0), (false, am_11), (true, am_0), (true, am_1), (false, am_4), (false, am_10), (true, am_0), (true, am_0), (true, am_9)]
noncomputable def rq_15 : RLs := [([(146, 12), (176, (-1))], 4), ([(147, 12), (177, (-1))], 4), ([(148, 12), (178, (-1))], 4), ([(149, 12), (179, (-1))], 4), ([(150, 12), (180, (-1))], 4), ([(151, 12), (181, (-1))], 4), ([(152, 12), (182, (-1))], 4), ([(153, 12), (183, (-1))], 4), ([(154, 12), (184, (-1))], 4), ([(155, 12), (185, (-1))], 4), ([(156, 12), (186, (-1))], 4), ([(157, 12), (187, (-1))], 4), ([(158, 12), (188, (-1))], 4), ([(159, 12), (189, (-1))], 4), ([(160, 12), (190, (-1))], 4), ([(161, 12), (191, (-1))], 4), ([(162, 12), (192, (-1))], 4), ([(163, 12), (193, (-1))], 4), ([(164, 12), (194, (-1))], 4), ([(165, 12), (195, (-1))], 4), ([(166, 12), (196, (-1))], 4), ([(167, 12), (197, (-1))], 4), ([(168, 12), (198, (-1))], 4), ([(169, 12), (199, (-1))], 4), ([(170, 12), (200, (-1))], 4), ([(171, 12), (201, (-1))], 4), ([(172, 12), (202, (-1))], 4), ([(173, 12), (203, (-1))], 4), ([(174, 12), (204, (-1))], 4), ([(175, 12), (205, (-1))], 4)]
noncomputable def con_2678 : Con2 := ((yX11_speaks, cX11_speaks, 3, (some .int)), (7, 174), ([(6, 0, 0), (1, 1, 0), (1, 2, 0)], gi_3037, hc_248, rq_14), [((1, 125, 0), gi_3038, hq_989, rq_15, tg_26)])
theorem hd_2678 : con_2678.1 = (yX11_speaks, cX11_speaks, 3, (some .int)) := rfl
theorem ck_RX11_266_2677 : COK2 RX11 vwCl gTbl 266 0 con_2677 := ⟨wd_1023, wd_125, mh_X11_cellNow, .inr (.inr ⟨rfl, wd_1020, wd_1022, wd_32, ⟨_, rfl, pd_X11_cellNow⟩, 11, _, TX11, 16, rfl, rfl⟩)⟩
theorem ck_RX11_395_2676 : COK2 RX11 vwCl gTbl 395 0 con_2676 := ⟨wd_1323, wd_130, mh_X0_add, .inr (.inr ⟨rfl, wd_1320, wd_1321, wd_1322, ⟨_, rfl, pd_X0_add⟩, 0, _, TX0, 4, rfl, rfl⟩)⟩
noncomputable def ct_2678 : CTB2 := [(2, 139, 0, con_643, [0, 1, 2]), (10, 272, 0, con_1120, [0, 1, 2]), (47, 395, 0, con_2676, [3, 4, 5, 6]), (51, 130, 0, con_308, [0, 7]), (64, 266, 0, con_2677, [0, 9, 1, 10, 2, 11, 12, 13, 14, 15, 16, 17, 3, 4, 5, 6, 8, 18, 19, 20, 21, 22, 23, 24, 25, 26, 27])]
noncomputable def cu_2678 : List CUT2 := []
theorem ch_2678 : staG tb_X11_speaks 1 bt_RX11 [] ct_2678 [] [] cu_2678 33 con_2678 = true := by decide +kernel
theorem cto_2678 (l : Launch) : CTOK2 l RX11 vwCl gTbl ct_2678 := ct2_cons (vl_643 l) ck_RX11_139_643 (ct2_cons (vl_1120 l) ck_RX11_272_1120 (ct2_cons (vl_2676 l) ck_RX11_395_2676 (ct2_cons (vl_308 l) ck_RX11_130_308 (ct2_cons (vl_2677 l) ck_RX11_266_2677 (ct2_nil)))))
theorem vl_2678 (l : Launch) : Vld2 l vwCl gTbl con_2678 := conR_ok3 gT_all (hd_2678) rfl pn_RX11 tk_X11_speaks bo_RX11 xo_RX11 (cto_2678 l) ch_2678 cut_nil
/-- RookHustingModel keepAct -/
noncomputable def gi_3039 : GI := jl_n [jl_z 1, jl_i 10400 10415, gp_164]
noncomputable def gi_3040 : GI := jl_n [jl_z 1, jl_i 10400 10415, gp_906]
noncomputable def gi_3041 : GI := jl_n [jl_z 1, jl_i 10400 10415, gp_907]
noncomputable def con_2679 : Con2 := ((yX12_keepAct, cX12_keepAct, 2, (some .boolean)), (0, 0), ([(6, 0, 0), (1, 1, 0)], gi_3039, [ac_437, ac_438], []), [((0, 0, 0), gi_3040, [(false, ac_437), (false, ac_438)], [], [1]), ((0, 1, 0), gi_3041, [(false, ac_437), (true, ac_1437)], [], tg_8)])
theorem hd_2679 : con_2679.1 = (yX12_keepAct, cX12_keepAct, 2, (some .boolean)) := rfl
noncomputable def cu_2679 : List CUT2 := []
theorem ch_2679 : staG tb_X12_keepAct 1 bt_RX12 [] ct_2 [] [] cu_2679 28 con_2679 = true := by decide +kernel
theorem vl_2679 (l : Launch) : Vld2 l vwCl gTbl con_2679 := conR_ok3 gT_all (hd_2679) rfl pn_RX12 tk_X12_keepAct bo_RX12 xo_RX12 (cto_2 l) ch_2679 cut_nil
/-- RookHustingModel keepAct -/
noncomputable def gi_3042 : GI := jl_n [jl_z 1, jl_i 10300 10315, gp_164]
noncomputable def gi_3043 : GI := jl_n [jl_z 1, jl_i 10300 10315, gp_906]
noncomputable def gi_3044 : GI := jl_n [jl_z 1, jl_i 10300 10315, gp_907]
noncomputable def con_2680 : Con2 := ((yX12_keepAct, cX12_keepAct, 2, (some .boolean)), (0, 0), ([(6, 0, 0), (1, 1, 0)], gi_3042, [ac_437, ac_438], []), [((0, 0, 0), gi_3043, [(false, ac_437), (false, ac_438)], [], [1]), ((0, 1, 0), gi_3044, [(false, ac_437), (true, ac_1437)], [], tg_8)])
theorem hd_2680 : con_2680.1 = (yX12_keepAct, cX12_keepAct, 2, (some .boolean)) := rfl
noncomputable def cu_2680 : List CUT2 := []
theorem ch_2680 : staG tb_X12_keepAct 1 bt_RX12 [] ct_2 [] [] cu_2680 28 con_2680 = true := by decide +kernel
theorem vl_2680 (l : Launch) : Vld2 l vwCl gTbl con_2680 := conR_ok3 gT_all (hd_2680) rfl pn_RX12 tk_X12_keepAct bo_RX12 xo_RX12 (cto_2 l) ch_2680 cut_nil
/-- RookHustingModel keepAct -/
noncomputable def gi_3045 : GI := jl_n [jl_z 1, jl_i 10200 10215, gp_164]
noncomputable def gi_3046 : GI := jl_n [jl_z 1, jl_i 10200 10215, gp_906]
noncomputable def gi_3047 : GI := jl_n [jl_z 1, jl_i 10200 10215, gp_907]
noncomputable def con_2681 : Con2 := ((yX12_keepAct, cX12_keepAct, 2, (some .boolean)), (0, 0), ([(6, 0, 0), (1, 1, 0)], gi_3045, [ac_437, ac_438], []), [((0, 0, 0), gi_3046, [(false, ac_437), (false, ac_438)], [], [1]), ((0, 1, 0), gi_3047, [(false, ac_437), (true, ac_1437)], [], tg_8)])
theorem hd_2681 : con_2681.1 = (yX12_keepAct, cX12_keepAct, 2, (some .boolean)) := rfl
noncomputable def cu_2681 : List CUT2 := []
theorem ch_2681 : staG tb_X12_keepAct 1 bt_RX12 [] ct_2 [] [] cu_2681 28 con_2681 = true := by decide +kernel
theorem vl_2681 (l : Launch) : Vld2 l vwCl gTbl con_2681 := conR_ok3 gT_all (hd_2681) rfl pn_RX12 tk_X12_keepAct bo_RX12 xo_RX12 (cto_2 l) ch_2681 cut_nil
/-- RookHustingModel keepAct -/
noncomputable def gi_3048 : GI := jl_n [jl_z 1, jl_i 10100 10115, gp_164]
noncomputable def gi_3049 : GI := jl_n [jl_z 1, jl_i 10100 10115, gp_906]
noncomputable def gi_3050 : GI := jl_n [jl_z 1, jl_i 10100 10115, gp_907]
noncomputable def con_2682 : Con2 := ((yX12_keepAct, cX12_keepAct, 2, (some .boolean)), (0, 0), ([(6, 0, 0), (1, 1, 0)], gi_3048, [ac_437, ac_438], []), [((0, 0, 0), gi_3049, [(false, ac_437), (false, ac_438)], [], [1]), ((0, 1, 0), gi_3050, [(false, ac_437), (true, ac_1437)], [], tg_8)])
theorem hd_2682 : con_2682.1 = (yX12_keepAct, cX12_keepAct, 2, (some .boolean)) := rfl
noncomputable def cu_2682 : List CUT2 := []
theorem ch_2682 : staG tb_X12_keepAct 1 bt_RX12 [] ct_2 [] [] cu_2682 28 con_2682 = true := by decide +kernel
theorem vl_2682 (l : Launch) : Vld2 l vwCl gTbl con_2682 := conR_ok3 gT_all (hd_2682) rfl pn_RX12 tk_X12_keepAct bo_RX12 xo_RX12 (cto_2 l) ch_2682 cut_nil
/-- RookHustingModel keepAct -/
noncomputable def gi_3051 : GI := jl_n [jl_z 1, jl_i 10000 10015, gp_164]
noncomputable def gi_3052 : GI := jl_n [jl_z 1, jl_i 10000 10015, gp_906]
noncomputable def gi_3053 : GI := jl_n [jl_z 1, jl_i 10000 10015, gp_907]
noncomputable def con_2683 : Con2 := ((yX12_keepAct, cX12_keepAct, 2, (some .boolean)), (0, 0), ([(6, 0, 0), (1, 1, 0)], gi_3051, [ac_437, ac_438], []), [((0, 0, 0), gi_3052, [(false, ac_437), (false, ac_438)], [], [1]), ((0, 1, 0), gi_3053, [(false, ac_437), (true, ac_1437)], [], tg_8)])
theorem hd_2683 : con_2683.1 = (yX12_keepAct, cX12_keepAct, 2, (some .boolean)) := rfl
noncomputable def cu_2683 : List CUT2 := []
theorem ch_2683 : staG tb_X12_keepAct 1 bt_RX12 [] ct_2 [] [] cu_2683 28 con_2683 = true := by decide +kernel
theorem vl_2683 (l : Launch) : Vld2 l vwCl gTbl con_2683 := conR_ok3 gT_all (hd_2683) rfl pn_RX12 tk_X12_keepAct bo_RX12 xo_RX12 (cto_2 l) ch_2683 cut_nil
/-- RookHustingModel speaks -/
noncomputable def gi_3054 : GI := jl_n [gp_362, jl_m 4 2147483647, gp_287, jl_z 27, gp_114]
noncomputable def con_2684 : Con2 := ((yX12_speaks, cX12_speaks, 3, (some .int)), (8, 188), ([(6, 0, 0), (1, 1, 0), (1, 2, 0)], gi_746, hc_247, []), [((1, 71, 0), gi_3054, hq_988, [], tg_27)])
theorem hd_2684 : con_2684.1 = (yX12_speaks, cX12_speaks, 3, (some .int)) := rfl
theorem ck_RX12_474_2683 : COK2 RX12 vwCl gTbl 474 0 con_2683 := ⟨wd_2125, wd_137, mh_X12_keepAct, .inr (.inr ⟨rfl, wd_2122, wd_2124, wd_122, ⟨_, rfl, pd_X12_keepAct⟩, 12, _, TX12, 45, rfl, rfl⟩)⟩
theorem ck_RX12_474_2682 : COK2 RX12 vwCl gTbl 474 0 con_2682 := ⟨wd_2125, wd_137, mh_X12_keepAct, .inr (.inr ⟨rfl, wd_2122, wd_2124, wd_122, ⟨_, rfl, pd_X12_keepAct⟩, 12, _, TX12, 45, rfl, rfl⟩)⟩
theorem ck_RX12_474_2681 : COK2 RX12 vwCl gTbl 474 0 con_2681 := ⟨wd_2125, wd_137, mh_X12_keepAct, .inr (.inr ⟨rfl, wd_2122, wd_2124, wd_122, ⟨_, rfl, pd_X12_keepAct⟩, 12, _, TX12, 45, rfl, rfl⟩)⟩
theorem ck_RX12_474_2680 : COK2 RX12 vwCl gTbl 474 0 con_2680 := ⟨wd_2125, wd_137, mh_X12_keepAct, .inr (.inr ⟨rfl, wd_2122, wd_2124, wd_122, ⟨_, rfl, pd_X12_keepAct⟩, 12, _, TX12, 45, rfl, rfl⟩)⟩
theorem ck_RX12_474_2679 : COK2 RX12 vwCl gTbl 474 0 con_2679 := ⟨wd_2125, wd_137, mh_X12_keepAct, .inr (.inr ⟨rfl, wd_2122, wd_2124, wd_122, ⟨_, rfl, pd_X12_keepAct⟩, 12, _, TX12, 45, rfl, rfl⟩)⟩
noncomputable def ct_2684 : CTB2 := [(3, 109, 0, con_647, [0, 1]), (12, 372, 0, con_1124, [0, 1]), (32, 474, 0, con_2679, [0, 1]), (32, 474, 0, con_2680, [0, 1]), (32, 474, 0, con_2681, [0, 1]), (32, 474, 0, con_2682, [0, 1]), (32, 474, 0, con_2683, [0, 1]), (42, 345, 0, con_905, [0, 1, 2, 3, 4, 5, 6]), (48, 357, 0, con_1102, [0, 5, 6, 1])]
noncomputable def cu_2684 : List CUT2 := []
theorem ch_2684 : staG tb_X12_speaks 1 bt_RX12 [] ct_2684 [(21, [(1, (1, 1, 0), 0, 0)])] [] cu_2684 29 con_2684 = true := by decide +kernel
theorem cto_2684 (l : Launch) : CTOK2 l RX12 vwCl gTbl ct_2684 := ct2_cons (vl_647 l) ck_RX12_109_647 (ct2_cons (vl_1124 l) ck_RX12_372_1124 (ct2_cons (vl_2679 l) ck_RX12_474_2679 (ct2_cons (vl_2680 l) ck_RX12_474_2680 (ct2_cons (vl_2681 l) ck_RX12_474_2681 (ct2_cons (vl_2682 l) ck_RX12_474_2682 (ct2_cons (vl_2683 l) ck_RX12_474_2683 (ct2_cons (vl_905 l) ck_RX12_345_905 (ct2_cons (vl_1102 l) ck_RX12_357_1102 (ct2_nil)))))))))
theorem vl_2684 (l : Launch) : Vld2 l vwCl gTbl con_2684 := conR_ok3 gT_all (hd_2684) rfl pn_RX12 tk_X12_speaks bo_RX12 xo_RX12 (cto_2684 l) ch_2684 cut_nil
/-- RookHusting undo -/
noncomputable def gi_3055 : GI := jl_n [gp_72, gp_779, jl_z 16, gp_75]
noncomputable def ac_1451 : AC := .inl (11, jl_n [vp_52, jl_8 11 7, jl_6 5 1, jl_8 14 2, jl_1 16 2, jl_8 17 1])
noncomputable def ac_1452 : AC := .inl (5, jl_n [jl_8 44 4, jl_1 45 1, jl_6 3 1, jl_8 48 2])
noncomputable def hc_249 : List AC := [ac_1451, .inl (9, [(6, 2, 0), (6, 3, 0)]), ac_454, .inl (0, [(1, 36, 0), (8, 37, 0), (8, 38, 0), (8, 39, 0)]), ac_1452]
noncomputable def gi_3056 : GI := jl_n [gp_72, gp_779, jl_z 16, gp_75, jl_m 4 29, gp_905, gp_75]
noncomputable def ac_1453 : AC := .inl (11, jl_n [vp_52, jl_8 11 7, jl_6 5 1, jl_8 14 2, jl_1 64 2, jl_8 17 1])
noncomputable def ac_1454 : AC := .inl (5, jl_n [jl_8 44 4, jl_1 74 1, jl_6 3 1, jl_8 48 2])
noncomputable def hq_990 : HP := [(true, ac_1453), (false, .inl (9, [(6, 2, 0), (6, 3, 0)])), (false, ac_454), (true, .inl (0, [(1, 65, 0), (8, 37, 0), (8, 38, 0), (8, 39, 0)])), (true, ac_1454)]
noncomputable def con_2685 : Con2 := ((yX11_undo, cX11_undo, 1, (some .int)), (1, 20), ([(6, 0, 0)], gi_3055, hc_249, []), [((1, 48, 0), gi_3056, hq_990, [], tg_14)])
theorem hd_2685 : con_2685.1 = (yX11_undo, cX11_undo, 1, (some .int)) := rfl
noncomputable def ct_2685 : CTB2 := [(1, 219, 0, con_667, [0, 1, 2]), (43, 130, 0, con_308, [0, 4])]
noncomputable def cu_2685 : List CUT2 := []
theorem ch_2685 : staG tb_X11_undo 1 bt_RX11 [] ct_2685 [] [] cu_2685 25 con_2685 = true := by decide +kernel
theorem cto_2685 (l : Launch) : CTOK2 l RX11 vwCl gTbl ct_2685 := ct2_cons (vl_667 l) ck_RX11_219_667 (ct2_cons (vl_308 l) ck_RX11_130_308 (ct2_nil))
theorem vl_2685 (l : Launch) : Vld2 l vwCl gTbl con_2685 := conR_ok3 gT_all (hd_2685) rfl pn_RX11 tk_X11_undo bo_RX11 xo_RX11 (cto_2685 l) ch_2685 cut_nil
/-- RookHustingModel undo -/
noncomputable def gi_3057 : GI := jl_n [gp_163, jl_m 4 29, jl_z 7, gp_331]
noncomputable def ac_1455 : AC := .inr (1, jl_n [js_1 53 7, js_1 79 2, sp_124])
noncomputable def con_2686 : Con2 := ((yX12_undo, cX12_undo, 1, (some .int)), (1, 20), ([(6, 0, 0)], gi_299, [ac_435, ac_436], []), [((1, 69, 0), gi_3057, [(false, ac_435), (true, ac_1455)], [], tg_8)])
theorem hd_2686 : con_2686.1 = (yX12_undo, cX12_undo, 1, (some .int)) := rfl
noncomputable def ct_2686 : CTB2 := [(1, 99, 0, con_673, [0, 1])]
noncomputable def cu_2686 : List CUT2 := []
theorem ch_2686 : staG tb_X12_undo 1 bt_RX12 [] ct_2686 [] [] cu_2686 23 con_2686 = true := by decide +kernel
theorem cto_2686 (l : Launch) : CTOK2 l RX12 vwCl gTbl ct_2686 := ct2_cons (vl_673 l) ck_RX12_99_673 (ct2_nil)
theorem vl_2686 (l : Launch) : Vld2 l vwCl gTbl con_2686 := conR_ok3 gT_all (hd_2686) rfl pn_RX12 tk_X12_undo bo_RX12 xo_RX12 (cto_2686 l) ch_2686 cut_nil
/-- RookHusting anew -/
noncomputable def gi_3058 : GI := jl_n [gp_72, gp_779, jl_z 16, gp_75, jl_m 1 30, gp_905, gp_75]
noncomputable def con_2687 : Con2 := ((yX11_anew, cX11_anew, 2, (some .int)), (1, 20), ([(6, 0, 0)], gi_3055, hc_249, []), [((1, 48, 0), gi_3058, hq_990, [], tg_14)])
theorem hd_2687 : con_2687.1 = (yX11_anew, cX11_anew, 2, (some .int)) := rfl
noncomputable def ct_2687 : CTB2 := [(1, 219, 0, con_667, [0, 1, 2]), (33, 130, 0, con_308, [0, 4])]
noncomputable def cu_2687 : List CUT2 := []
theorem ch_2687 : staG tb_X11_anew 1 bt_RX11 [] ct_2687 [] [] cu_2687 19 con_2687 = true := by decide +kernel
theorem cto_2687 (l : Launch) : CTOK2 l RX11 vwCl gTbl ct_2687 := ct2_cons (vl_667 l) ck_RX11_219_667 (ct2_cons (vl_308 l) ck_RX11_130_308 (ct2_nil))
theorem vl_2687 (l : Launch) : Vld2 l vwCl gTbl con_2687 := conR_ok3 gT_all (hd_2687) rfl pn_RX11 tk_X11_anew bo_RX11 xo_RX11 (cto_2687 l) ch_2687 cut_nil
/-- RookHustingModel anew -/
noncomputable def gi_3059 : GI := jl_n [gp_163, jl_m 1 30, jl_z 7, gp_331]
noncomputable def con_2688 : Con2 := ((yX12_anew, cX12_anew, 2, (some .int)), (1, 20), ([(6, 0, 0)], gi_299, [ac_435, ac_436], []), [((1, 69, 0), gi_3059, [(false, ac_435), (true, ac_1455)], [], tg_8)])
theorem hd_2688 : con_2688.1 = (yX12_anew, cX12_anew, 2, (some .int)) := rfl
noncomputable def cu_2688 : List CUT2 := []
theorem ch_2688 : staG tb_X12_anew 1 bt_RX12 [] ct_2686 [] [] cu_2688 17 con_2688 = true := by decide +kernel
theorem vl_2688 (l : Launch) : Vld2 l vwCl gTbl con_2688 := conR_ok3 gT_all (hd_2688) rfl pn_RX12 tk_X12_anew bo_RX12 xo_RX12 (cto_2686 l) ch_2688 cut_nil
/-- RookHusting isSeed -/
noncomputable def con_2689 : Con2 := ((yX11_isSeed, cX11_isSeed, 1, (some .boolean)), (0, 0), ([(1, 0, 0)], [((-2147483648), 2147483647)], [], []), [((0, 0, 0), [((-2147483648), 2147483647), (0, 0)], [], [], [1]), ((0, 1, 0), [(0, 2000000000), (0, 0)], [], [], [1])])
theorem hd_2689 : con_2689.1 = (yX11_isSeed, cX11_isSeed, 1, (some .boolean)) := rfl
noncomputable def cu_2689 : List CUT2 := []
theorem ch_2689 : staG tb_X11_isSeed 1 bt_RX11 [] ct_3 [] [] cu_2689 10 con_2689 = true := by decide +kernel
theorem vl_2689 (l : Launch) : Vld2 l vwCl gTbl con_2689 := conR_ok3 gT_all (hd_2689) rfl pn_RX11 tk_X11_isSeed bo_RX11 xo_RX11 (cto_3 l) ch_2689 cut_nil
/-- RookHusting drawWind -/
noncomputable def gi_3060 : GI := jl_n [gp_909, jl_z 19, gp_361, gp_797]
noncomputable def ac_1456 : AC := .inl (4, jl_n [jl_8 21 1, jl_1 22 1, jl_8 23 1, jl_1 24 1, jl_8 37 13])
noncomputable def gi_3061 : GI := jl_n [gp_909, jl_z 19, gp_361, gp_797, jl_t]
noncomputable def hq_991 : HP := [(false, ac_431), (false, .inl (9, [(6, 2, 0), (8, 19, 0)])), (false, ac_1456)]
noncomputable def con_2690 : Con2 := ((yX11_drawWind, cX11_drawWind, 7, (some .int)), (0, 0), ([(6, 0, 0), (4, 1, 0)], gi_3060, [ac_431, .inl (9, [(6, 2, 0), (8, 19, 0)]), ac_1456], []), [((1, 37, 0), gi_3061, hq_991, [], [1])])
theorem hd_2690 : con_2690.1 = (yX11_drawWind, cX11_drawWind, 7, (some .int)) := rfl
noncomputable def gi_3062 : GI := jl_n [gp_909, jl_z 19, gp_361, jl_i 0 10, jl_z 15, jl_u, gp_339]
noncomputable def cu_2690 : List CUT2 := [((8, [lq 0 6 0, lq 1 4 1, lq 3 4 39, lq 5 1 40, lq 6 1 41], [], gi_3062, hq_991), [], ([(41, (-1))], 16))]
theorem ch_2690 : staG tb_X11_drawWind 1 bt_RX11 [] ct_3 [] [] cu_2690 36 con_2690 = true := by decide +kernel
theorem cc_2690 : cu_2690.all (cutG tb_X11_drawWind 1 bt_RX11 [] ct_3 [] [] cu_2690 36 con_2690) = true := by decide +kernel
theorem vl_2690 (l : Launch) : Vld2 l vwCl gTbl con_2690 := conR_ok3 gT_all (hd_2690) rfl pn_RX11 tk_X11_drawWind bo_RX11 xo_RX11 (cto_3 l) ch_2690 (cut_all cc_2690)
/-- RookHusting drawHarvest -/
noncomputable def gi_3063 : GI := jl_n [gp_909, gp_273, jl_z 7, gp_0, gp_110, gp_411, gp_413]
noncomputable def ac_1457 : AC := .inl (11, jl_n [vp_61, vp_71, vp_150, jl_8 15 3, vp_82])
noncomputable def ac_1458 : AC := .inl (4, jl_n [jl_8 25 1, jl_1 29 4, jl_8 30 1, jl_1 32 2, vp_75, jl_8 40 2, jl_6 10 1])
noncomputable def ac_1459 : AC := .inl (3, jl_n [vp_142, jl_1 129 2])
noncomputable def hc_250 : List AC := [ac_1457, .inl (9, [(6, 3, 0), (6, 11, 0)]), .inl (7, [(6, 4, 0), (6, 5, 0), (6, 6, 0), (1, 23, 0)]), ac_1458, am_3, am_1, am_1, am_1, .inl (1, [(6, 3, 0), (8, 42, 0)]), am_5, am_7, .inl (0, [(1, 43, 0), (6, 12, 0), (6, 13, 0), (6, 14, 0)]), ac_515, am_12, ac_516, ac_517, am_4, am_0, am_11, am_0, am_1, am_0, am_4, am_10, am_0, am_0, am_9, .inl (7, [(6, 28, 0), (6, 29, 0), (6, 30, 0), (1, 119, 0)]), am_3, am_1, am_1, ac_1459, am_0, am_0, am_1, am_0, am_0, am_0, am_9]
noncomputable def gi_3064 : GI := jl_n [gp_909, gp_273, jl_z 7, gp_0, gp_110, gp_411, gp_413, gp_272, jl_z 3, gp_261, gp_112]
noncomputable def ac_1460 : AC := .inl (11, jl_n [vp_61, vp_71, vp_150, jl_8 15 3, jl_c 1, jl_8 18 2])
noncomputable def ac_1461 : AC := .inl (3, jl_n [vp_78, jl_1 158 2])
noncomputable def ac_1462 : AC := .inl (3, jl_n [vp_142, jl_1 170 1, jl_1 26 1])
noncomputable def hq_992 : HP := [(true, ac_1460), (false, .inl (9, [(6, 3, 0), (6, 11, 0)])), (true, .inl (7, [(6, 4, 0), (6, 5, 0), (6, 6, 0), (1, 148, 0)])), (false, ac_1458), (true, am_3), (true, am_1), (true, am_1), (false, am_1), (false, .inl (1, [(6, 3, 0), (8, 42, 0)])), (false, am_5), (false, am_7), (false, .inl (0, [(1, 43, 0), (6, 12, 0), (6, 13, 0), (6, 14, 0)])), (false, ac_515), (false, am_12), (false, ac_516), (true, ac_1461), (false, am_4), (true, am_0), (false, am_11), (true, am_0), (true, am_1), (true, am_0), (false, am_4), (false, am_10), (true, am_0), (true, am_0), (true, am_9), (true, .inl (7, [(6, 28, 0), (6, 29, 0), (6, 30, 0), (1, 161, 0)])), (true, am_3), (true, am_1), (true, am_1), (true, ac_1462), (true, am_0), (true, am_0), (true, am_1), (true, am_0), (true, am_0), (true, am_0), (true, am_9)]
noncomputable def con_2691 : Con2 := ((yX11_drawHarvest, cX11_drawHarvest, 3, none), (6, 151), ([(6, 0, 0), (4, 1, 0)], gi_3063, hc_250, rq_3), [((9, 0, 0), gi_3064, hq_992, [], tg_28)])
theorem hd_2691 : con_2691.1 = (yX11_drawHarvest, cX11_drawHarvest, 3, none) := rfl
theorem ck_RX11_387_2690 : COK2 RX11 vwCl gTbl 387 0 con_2690 := ⟨wd_1303, wd_125, mh_X11_drawWind, .inr (.inr ⟨rfl, wd_1300, wd_1302, wd_49, ⟨_, rfl, pd_X11_drawWind⟩, 11, _, TX11, 16, rfl, rfl⟩)⟩
noncomputable def ct_2691 : CTB2 := [(1, 208, 0, con_900, [0, 1, 2, 3, 4, 5, 6, 7, 8, 9, 10, 11, 12, 13, 14, 15, 16, 17, 18, 19, 20, 21, 22, 23, 24, 25, 26]), (12, 332, 0, con_1212, [27, 2, 28, 4, 29, 5, 30, 6]), (21, 387, 0, con_2690, [0, 1, 3]), (52, 372, 0, con_899, [31, 3, 27, 16, 32, 18, 33, 29, 34, 28, 35, 22, 23, 36, 37, 38, 30])]
noncomputable def cu_2691 : List CUT2 := []
theorem ch_2691 : staG tb_X11_drawHarvest 1 bt_RX11 [] ct_2691 [] [] cu_2691 28 con_2691 = true := by decide +kernel
theorem cto_2691 (l : Launch) : CTOK2 l RX11 vwCl gTbl ct_2691 := ct2_cons (vl_900 l) ck_RX11_208_900 (ct2_cons (vl_1212 l) ck_RX11_332_1212 (ct2_cons (vl_2690 l) ck_RX11_387_2690 (ct2_cons (vl_899 l) ck_RX11_372_899 (ct2_nil))))
theorem vl_2691 (l : Launch) : Vld2 l vwCl gTbl con_2691 := conR_ok3 gT_all (hd_2691) rfl pn_RX11 tk_X11_drawHarvest bo_RX11 xo_RX11 (cto_2691 l) ch_2691 cut_nil
/-- RookHusting drawn -/
noncomputable def gi_3065 : GI := jl_n [gp_162, gp_345, gp_799]
noncomputable def ac_1463 : AC := .inl (4, jl_n [jl_1 26 5, vp_95, vp_75, jl_8 37 2, jl_6 10 1])
noncomputable def hc_251 : List AC := [ac_1374, .inl (9, [(6, 2, 0), (6, 11, 0)]), ac_1463, .inl (7, [(6, 4, 0), (6, 5, 0), (6, 6, 0), (1, 41, 0)]), am_3, am_1, am_1, am_1, .inl (1, [(6, 2, 0), (8, 43, 0)]), am_5, am_7, .inl (0, [(1, 44, 0), (6, 12, 0), (6, 13, 0), (6, 14, 0)]), ac_642, am_12, ac_643, ac_1059, am_4, am_0, am_11, am_0, am_1, am_0, am_4, am_10, am_0, am_0, am_9, .inl (7, [(6, 28, 0), (6, 29, 0), (6, 30, 0), (1, 120, 0)]), am_3, am_1, am_1, ac_1376, am_0, am_0, am_1, am_0, am_0, am_0, am_9]
noncomputable def gi_3066 : GI := jl_n [gp_162, gp_345, gp_799, gp_792]
noncomputable def hq_993 : HP := [(true, ac_1377), (false, .inl (9, [(6, 2, 0), (6, 11, 0)])), (false, ac_1463), (true, .inl (7, [(6, 4, 0), (6, 5, 0), (6, 6, 0), (1, 150, 0)])), (true, am_3), (true, am_1), (true, am_1), (false, am_1), (false, .inl (1, [(6, 2, 0), (8, 43, 0)])), (false, am_5), (false, am_7), (false, .inl (0, [(1, 44, 0), (6, 12, 0), (6, 13, 0), (6, 14, 0)])), (false, ac_642), (false, am_12), (false, ac_643), (true, ac_1378), (false, am_4), (true, am_0), (false, am_11), (true, am_0), (true, am_1), (true, am_0), (false, am_4), (false, am_10), (true, am_0), (true, am_0), (true, am_9), (true, .inl (7, [(6, 28, 0), (6, 29, 0), (6, 30, 0), (1, 163, 0)])), (true, am_3), (true, am_1), (true, am_1), (true, ac_1379), (true, am_0), (true, am_0), (true, am_1), (true, am_0), (true, am_0), (true, am_0), (true, am_9)]
noncomputable def con_2692 : Con2 := ((yX11_drawn, cX11_drawn, 3, (some .int)), (7, 173), ([(6, 0, 0), (1, 1, 0), (1, 2, 0)], gi_3065, hc_251, rq_6), [((1, 130, 0), gi_3066, hq_993, [], tg_20)])
theorem hd_2692 : con_2692.1 = (yX11_drawn, cX11_drawn, 3, (some .int)) := rfl
theorem ck_RX11_391_2691 : COK2 RX11 vwCl gTbl 391 0 con_2691 := ⟨wd_1311, wd_125, mh_X11_drawHarvest, .inr (.inr ⟨rfl, wd_1308, wd_1310, wd_50, ⟨_, rfl, pd_X11_drawHarvest⟩, 11, _, TX11, 16, rfl, rfl⟩)⟩
theorem ck_RX11_384_2689 : COK2 RX11 vwCl gTbl 384 1 con_2689 := ⟨wd_1298, wd_125, mh_X11_isSeed, .inl ⟨rfl, wd_1296, wd_1297, pd_X11_isSeed⟩⟩
noncomputable def ct_2692 : CTB2 := [(1, 219, 0, con_667, [0, 1, 2]), (8, 384, 1, con_2689, []), (15, 143, 1, con_644, []), (31, 387, 0, con_2690, [0, 1, 2]), (38, 391, 0, con_2691, [0, 1, 3, 2, 4, 5, 6, 7, 8, 9, 10, 11, 12, 13, 14, 15, 16, 17, 18, 19, 20, 21, 22, 23, 24, 25, 26, 27, 28, 29, 30, 31, 32, 33, 34, 35, 36, 37, 38]), (62, 300, 0, con_1130, [31, 33])]
noncomputable def cu_2692 : List CUT2 := []
theorem ch_2692 : staG tb_X11_drawn 1 bt_RX11 [] ct_2692 [] [] cu_2692 28 con_2692 = true := by decide +kernel
theorem cto_2692 (l : Launch) : CTOK2 l RX11 vwCl gTbl ct_2692 := ct2_cons (vl_667 l) ck_RX11_219_667 (ct2_cons (vl_2689 l) ck_RX11_384_2689 (ct2_cons (vl_644 l) ck_RX11_143_644 (ct2_cons (vl_2690 l) ck_RX11_387_2690 (ct2_cons (vl_2691 l) ck_RX11_391_2691 (ct2_cons (vl_1130 l) ck_RX11_300_1130 (ct2_nil))))))
theorem vl_2692 (l : Launch) : Vld2 l vwCl gTbl con_2692 := conR_ok3 gT_all (hd_2692) rfl pn_RX11 tk_X11_drawn bo_RX11 xo_RX11 (cto_2692 l) ch_2692 cut_nil
/-- RookHustingModel in -/
noncomputable def con_2693 : Con2 := ((yX12_in, cX12_in, 6, (some .boolean)), (0, 0), ([(4, 0, 0), (3, 0, 0), (3, 2000000000, 0)], gi_146, [], []), [((0, 0, 0), gi_147, [], [], [1]), ((0, 1, 0), [(0, 2000000000), (0, 0), (0, 0), (0, 0)], [], [], [1])])
theorem hd_2693 : con_2693.1 = (yX12_in, cX12_in, 6, (some .boolean)) := rfl
noncomputable def cu_2693 : List CUT2 := []
theorem ch_2693 : staG tb_X12_in 1 bt_RX12 [] ct_2 [] [] cu_2693 11 con_2693 = true := by decide +kernel
theorem vl_2693 (l : Launch) : Vld2 l vwCl gTbl con_2693 := conR_ok3 gT_all (hd_2693) rfl pn_RX12 tk_X12_in bo_RX12 xo_RX12 (cto_2 l) ch_2693 cut_nil
/-- RookHustingModel isSeed -/
noncomputable def con_2694 : Con2 := ((yX12_isSeed, cX12_isSeed, 1, (some .boolean)), (1, 25), ([(1, 0, 0)], [((-2147483648), 2147483647)], [], []), [((0, 0, 0), [((-2147483648), 2147483647), (0, 0)], [], [], [1]), ((0, 1, 0), [(0, 2000000000), (0, 0)], [], [], [1])])
theorem hd_2694 : con_2694.1 = (yX12_isSeed, cX12_isSeed, 1, (some .boolean)) := rfl
theorem ck_RX12_91_2693 : COK2 RX12 vwCl gTbl 91 1 con_2693 := ⟨wd_1544, wd_137, mh_X12_in, .inl ⟨rfl, wd_1542, wd_1543, pd_X12_in⟩⟩
noncomputable def ct_2694 : CTB2 := [(6, 91, 1, con_2693, [])]
noncomputable def cu_2694 : List CUT2 := []
theorem ch_2694 : staG tb_X12_isSeed 1 bt_RX12 [] ct_2694 [] [] cu_2694 8 con_2694 = true := by decide +kernel
theorem cto_2694 (l : Launch) : CTOK2 l RX12 vwCl gTbl ct_2694 := ct2_cons (vl_2693 l) ck_RX12_91_2693 (ct2_nil)
theorem vl_2694 (l : Launch) : Vld2 l vwCl gTbl con_2694 := conR_ok3 gT_all (hd_2694) rfl pn_RX12 tk_X12_isSeed bo_RX12 xo_RX12 (cto_2694 l) ch_2694 cut_nil
/-- RookHustingModel goDrawn -/
noncomputable def gi_3067 : GI := jl_n [gp_909, gp_289]
noncomputable def gi_3068 : GI := jl_n [gp_909, gp_288, gp_802, jl_t, jl_z 23]
noncomputable def ac_1464 : AC := .inl (12, jl_n [vp_58, vp_85, jl_1 92 1, vp_114, jl_8 47 14])
noncomputable def hq_994 : HP := [(true, ac_1464), (false, ac_438), (true, am_8), (true, am_6), (true, am_3), (true, am_3), (true, am_1), (true, am_0), (true, am_0), (true, am_0), (true, am_13), (true, am_14), (true, am_15)]
noncomputable def con_2695 : Con2 := ((yX12_goDrawn, cX12_goDrawn, 6, none), (8, 188), ([(6, 0, 0), (4, 1, 0)], gi_3067, hc_148, []), [((9, 0, 0), gi_3068, hq_994, [], tg_10)])
theorem hd_2695 : con_2695.1 = (yX12_goDrawn, cX12_goDrawn, 6, none) := rfl
noncomputable def ct_2695 : CTB2 := [(1, 345, 0, con_905, [0, 1, 2, 3, 4, 5, 6]), (12, 103, 0, con_1100, [0, 1]), (76, 363, 0, con_1108, [0, 1, 7, 8, 5, 6, 9, 10, 11, 12])]
noncomputable def gi_3069 : GI := jl_n [gp_909, gp_288, gp_123, jl_z 16, jl_u, jl_i 0 16, jl_z 21, jl_t, jl_z 23]
noncomputable def ac_1465 : AC := .inl (12, jl_n [vp_58, vp_85, jl_1 96 1, vp_114, jl_8 47 14])
noncomputable def hq_995 : HP := [(true, ac_1465), (false, ac_438), (true, am_8), (true, am_6), (true, am_3), (true, am_3), (true, am_1), (false, am_0), (false, am_0), (false, am_0), (false, am_13), (false, am_14), (false, am_15)]
noncomputable def cu_2695 : List CUT2 := [((9, [lq 0 6 0, lq 1 4 1, lq 3 4 72, lq 5 1 73], [], gi_3069, hq_995), [], ([(73, (-1))], 16))]
theorem ch_2695 : staG tb_X12_goDrawn 1 bt_RX12 [] ct_2695 [] [] cu_2695 37 con_2695 = true := by decide +kernel
theorem cc_2695 : cu_2695.all (cutG tb_X12_goDrawn 1 bt_RX12 [] ct_2695 [] [] cu_2695 37 con_2695) = true := by decide +kernel
theorem cto_2695 (l : Launch) : CTOK2 l RX12 vwCl gTbl ct_2695 := ct2_cons (vl_905 l) ck_RX12_345_905 (ct2_cons (vl_1100 l) ck_RX12_103_1100 (ct2_cons (vl_1108 l) ck_RX12_363_1108 (ct2_nil)))
theorem vl_2695 (l : Launch) : Vld2 l vwCl gTbl con_2695 := conR_ok3 gT_all (hd_2695) rfl pn_RX12 tk_X12_goDrawn bo_RX12 xo_RX12 (cto_2695 l) ch_2695 (cut_all cc_2695)
/-- RookHustingModel drawn -/
noncomputable def con_2696 : Con2 := ((yX12_drawn, cX12_drawn, 3, (some .int)), (9, 213), ([(6, 0, 0), (1, 1, 0), (1, 2, 0)], gi_746, hc_149, []), [((1, 71, 0), gi_2713, hq_961, [], tg_1)])
theorem hd_2696 : con_2696.1 = (yX12_drawn, cX12_drawn, 3, (some .int)) := rfl
theorem ck_RX12_492_2695 : COK2 RX12 vwCl gTbl 492 0 con_2695 := ⟨wd_2149, wd_137, mh_X12_goDrawn, .inr (.inr ⟨rfl, wd_2146, wd_2148, wd_123, ⟨_, rfl, pd_X12_goDrawn⟩, 12, _, TX12, 45, rfl, rfl⟩)⟩
theorem ck_RX12_489_2694 : COK2 RX12 vwCl gTbl 489 1 con_2694 := ⟨wd_2144, wd_137, mh_X12_isSeed, .inl ⟨rfl, wd_2142, wd_2143, pd_X12_isSeed⟩⟩
noncomputable def ct_2696 : CTB2 := [(1, 99, 0, con_673, [0, 1]), (8, 489, 1, con_2694, []), (18, 91, 1, con_648, []), (30, 492, 0, con_2695, [0, 1, 2, 3, 4, 5, 6, 7, 8, 9, 10, 11, 12]), (45, 390, 0, con_1223, [0, 1, 7])]
noncomputable def cu_2696 : List CUT2 := []
theorem ch_2696 : staG tb_X12_drawn 1 bt_RX12 [] ct_2696 [] [] cu_2696 24 con_2696 = true := by decide +kernel
theorem cto_2696 (l : Launch) : CTOK2 l RX12 vwCl gTbl ct_2696 := ct2_cons (vl_673 l) ck_RX12_99_673 (ct2_cons (vl_2694 l) ck_RX12_489_2694 (ct2_cons (vl_648 l) ck_RX12_91_648 (ct2_cons (vl_2695 l) ck_RX12_492_2695 (ct2_cons (vl_1223 l) ck_RX12_390_1223 (ct2_nil)))))
theorem vl_2696 (l : Launch) : Vld2 l vwCl gTbl con_2696 := conR_ok3 gT_all (hd_2696) rfl pn_RX12 tk_X12_drawn bo_RX12 xo_RX12 (cto_2696 l) ch_2696 cut_nil
/-- RookHusting luck -/
noncomputable def gi_3070 : GI := jl_n [gp_199, gp_274, gp_799]
noncomputable def ac_1466 : AC := .inl (11, jl_n [vp_53, vp_151, jl_8 17 3, jl_1 18 1, jl_8 20 2])
noncomputable def ac_1467 : AC := .inl (4, jl_n [jl_8 23 1, jl_1 27 4, jl_8 28 1, jl_1 30 2, vp_75, jl_8 38 2, jl_6 10 1])
noncomputable def ac_1468 : AC := .inl (3, jl_n [vp_78, jl_1 118 2])
noncomputable def ac_1469 : AC := .inl (3, jl_n [vp_142, jl_1 131 2])
noncomputable def hc_252 : List AC := [ac_1466, .inl (9, [(6, 2, 0), (6, 11, 0)]), ac_1467, .inl (7, [(6, 4, 0), (6, 5, 0), (6, 6, 0), (1, 42, 0)]), am_3, am_1, am_1, am_1, .inl (1, [(6, 2, 0), (8, 44, 0)]), am_5, am_7, .inl (0, [(1, 45, 0), (6, 12, 0), (6, 13, 0), (6, 14, 0)]), ac_594, am_12, ac_595, ac_1468, am_4, am_0, am_11, am_0, am_1, am_0, am_4, am_10, am_0, am_0, am_9, .inl (7, [(6, 28, 0), (6, 29, 0), (6, 30, 0), (1, 121, 0)]), am_3, am_1, am_1, ac_1469, am_0, am_0, am_1, am_0, am_0, am_0, am_9]
noncomputable def gi_3071 : GI := jl_n [gp_199, gp_274, gp_799, gp_792]
noncomputable def ac_1470 : AC := .inl (11, jl_n [vp_53, vp_151, jl_8 17 3, jl_1 146 1, jl_8 20 2])
noncomputable def ac_1471 : AC := .inl (3, jl_n [vp_78, jl_1 161 2])
noncomputable def hq_996 : HP := [(true, ac_1470), (false, .inl (9, [(6, 2, 0), (6, 11, 0)])), (false, ac_1467), (true, .inl (7, [(6, 4, 0), (6, 5, 0), (6, 6, 0), (1, 151, 0)])), (true, am_3), (true, am_1), (true, am_1), (false, am_1), (false, .inl (1, [(6, 2, 0), (8, 44, 0)])), (false, am_5), (false, am_7), (false, .inl (0, [(1, 45, 0), (6, 12, 0), (6, 13, 0), (6, 14, 0)])), (false, ac_594), (false, am_12), (false, ac_595), (true, ac_1471), (false, am_4), (true, am_0), (false, am_11), (true, am_0), (true, am_1), (true, am_0), (false, am_4), (false, am_10), (true, am_0), (true, am_0), (true, am_9), (true, .inl (7, [(6, 28, 0), (6, 29, 0), (6, 30, 0), (1, 164, 0)])), (true, am_3), (true, am_1), (true, am_1), (true, ac_798), (true, am_0), (true, am_0), (true, am_1), (true, am_0), (true, am_0), (true, am_0), (true, am_9)]
noncomputable def con_2697 : Con2 := ((yX11_luck, cX11_luck, 6, (some .int)), (7, 173), ([(6, 0, 0), (1, 1, 0), (1, 2, 0), (1, 3, 0)], gi_3070, hc_252, rq_4), [((1, 131, 0), gi_3071, hq_996, [], tg_20)])
theorem hd_2697 : con_2697.1 = (yX11_luck, cX11_luck, 6, (some .int)) := rfl
noncomputable def ct_2697 : CTB2 := [(2, 139, 0, con_643, [0, 1, 2]), (9, 384, 1, con_2689, []), (48, 391, 0, con_2691, [0, 1, 3, 2, 4, 5, 6, 7, 8, 9, 10, 11, 12, 13, 14, 15, 16, 17, 18, 19, 20, 21, 22, 23, 24, 25, 26, 27, 28, 29, 30, 31, 32, 33, 34, 35, 36, 37, 38])]
noncomputable def gi_3072 : GI := jl_n [jl_z 1, jl_i 0 2000000000, jl_i 1 20, gp_720, gp_152, gp_798, gp_344, jl_i 0 20, gp_791]
noncomputable def ac_1472 : AC := .inl (11, jl_n [vp_53, vp_151, jl_8 17 3, jl_1 151 1, jl_8 20 2])
noncomputable def ac_1473 : AC := .inl (3, jl_n [vp_142, jl_1 179 2])
noncomputable def hq_997 : HP := [(true, ac_1472), (false, .inl (9, [(6, 2, 0), (6, 11, 0)])), (false, ac_1467), (true, .inl (7, [(6, 4, 0), (6, 5, 0), (6, 6, 0), (1, 156, 0)])), (true, am_3), (true, am_1), (true, am_1), (false, am_1), (false, .inl (1, [(6, 2, 0), (8, 44, 0)])), (false, am_5), (false, am_7), (false, .inl (0, [(1, 45, 0), (6, 12, 0), (6, 13, 0), (6, 14, 0)])), (false, ac_594), (false, am_12), (false, ac_595), (true, ac_720), (false, am_4), (true, am_0), (false, am_11), (true, am_0), (true, am_1), (true, am_0), (false, am_4), (false, am_10), (true, am_0), (true, am_0), (true, am_9), (true, .inl (7, [(6, 28, 0), (6, 29, 0), (6, 30, 0), (1, 169, 0)])), (true, am_3), (true, am_1), (true, am_1), (true, ac_1473), (true, am_0), (true, am_0), (true, am_1), (true, am_0), (true, am_0), (true, am_0), (true, am_9)]
noncomputable def cu_2697 : List CUT2 := [((35, [lq 0 6 0, lq 1 1 1, lq 2 1 2, lq 3 1 3, lq 4 1 135, lq 5 1 136], [], gi_3072, hq_997), rq_4, ([(136, (-1))], 20))]
theorem ch_2697 : staG tb_X11_luck 1 bt_RX11 [] ct_2697 [] [] cu_2697 29 con_2697 = true := by decide +kernel
theorem cc_2697 : cu_2697.all (cutG tb_X11_luck 1 bt_RX11 [] ct_2697 [] [] cu_2697 29 con_2697) = true := by decide +kernel
theorem cto_2697 (l : Launch) : CTOK2 l RX11 vwCl gTbl ct_2697 := ct2_cons (vl_643 l) ck_RX11_139_643 (ct2_cons (vl_2689 l) ck_RX11_384_2689 (ct2_cons (vl_2691 l) ck_RX11_391_2691 (ct2_nil)))
theorem vl_2697 (l : Launch) : Vld2 l vwCl gTbl con_2697 := conR_ok3 gT_all (hd_2697) rfl pn_RX11 tk_X11_luck bo_RX11 xo_RX11 (cto_2697 l) ch_2697 (cut_all cc_2697)
/-- RookHustingModel in -/
noncomputable def con_2698 : Con2 := ((yX12_in, cX12_in, 6, (some .boolean)), (0, 0), ([(4, 0, 0), (3, 1, 0), (3, 20, 0)], gi_146, [], []), [((0, 0, 0), gi_147, [], [], [1]), ((0, 1, 0), [(1, 20), (0, 0), (0, 0), (0, 0)], [], [], [1])])
theorem hd_2698 : con_2698.1 = (yX12_in, cX12_in, 6, (some .boolean)) := rfl
noncomputable def cu_2698 : List CUT2 := []
theorem ch_2698 : staG tb_X12_in 1 bt_RX12 [] ct_2 [] [] cu_2698 11 con_2698 = true := by decide +kernel
theorem vl_2698 (l : Launch) : Vld2 l vwCl gTbl con_2698 := conR_ok3 gT_all (hd_2698) rfl pn_RX12 tk_X12_in bo_RX12 xo_RX12 (cto_2 l) ch_2698 cut_nil
/-- RookHustingModel luck -/
noncomputable def gi_3073 : GI := jl_n [gp_199, gp_289]
noncomputable def ac_1474 : AC := .inl (12, jl_n [vp_56, jl_1 22 1, jl_6 7 3, jl_1 29 4, vp_112, jl_8 49 14])
noncomputable def hc_253 : List AC := [ac_1474, ac_461, am_8, am_6, am_3, am_3, am_1, am_0, am_0, am_0, am_13, am_14, am_15]
noncomputable def gi_3074 : GI := jl_n [gp_199, gp_289, gp_414]
noncomputable def ac_1475 : AC := .inl (12, jl_n [vp_56, jl_1 91 1, jl_6 7 3, jl_1 98 4, vp_112, jl_8 49 14])
noncomputable def hq_998 : HP := [(true, ac_1475), (false, ac_461), (true, am_8), (true, am_6), (true, am_3), (true, am_3), (true, am_1), (true, am_0), (true, am_0), (true, am_0), (true, am_13), (true, am_14), (true, am_15)]
noncomputable def con_2699 : Con2 := ((yX12_luck, cX12_luck, 6, (some .int)), (9, 213), ([(6, 0, 0), (1, 1, 0), (1, 2, 0), (1, 3, 0)], gi_3073, hc_253, []), [((1, 72, 0), gi_3074, hq_998, [], tg_1)])
theorem hd_2699 : con_2699.1 = (yX12_luck, cX12_luck, 6, (some .int)) := rfl
theorem ck_RX12_91_2698 : COK2 RX12 vwCl gTbl 91 1 con_2698 := ⟨wd_1544, wd_137, mh_X12_in, .inl ⟨rfl, wd_1542, wd_1543, pd_X12_in⟩⟩
noncomputable def ct_2699 : CTB2 := [(1, 489, 1, con_2694, []), (13, 91, 1, con_2698, []), (22, 109, 0, con_647, [0, 1]), (50, 492, 0, con_2695, [0, 1, 2, 3, 4, 5, 6, 7, 8, 9, 10, 11, 12]), (61, 103, 0, con_1100, [0, 1])]
noncomputable def gi_3075 : GI := jl_n [jl_z 1, jl_i 0 2000000000, jl_i 1 20, jl_i 0 4, gp_370, jl_z 18, jl_t, jl_i 0 20, gp_288]
noncomputable def ac_1476 : AC := .inl (12, jl_n [vp_56, jl_1 96 1, jl_6 7 3, jl_1 103 4, vp_112, jl_8 49 14])
noncomputable def hq_999 : HP := [(true, ac_1476), (false, ac_461), (true, am_8), (true, am_6), (true, am_3), (true, am_3), (true, am_1), (true, am_0), (true, am_0), (true, am_0), (true, am_13), (true, am_14), (true, am_15)]
noncomputable def cu_2699 : List CUT2 := [((37, [lq 0 6 0, lq 1 1 1, lq 2 1 2, lq 3 1 3, lq 4 1 76, lq 5 1 77], [], gi_3075, hq_999), [], ([(77, (-1))], 20))]
theorem ch_2699 : staG tb_X12_luck 1 bt_RX12 [] ct_2699 [] [] cu_2699 30 con_2699 = true := by decide +kernel
theorem cc_2699 : cu_2699.all (cutG tb_X12_luck 1 bt_RX12 [] ct_2699 [] [] cu_2699 30 con_2699) = true := by decide +kernel
theorem cto_2699 (l : Launch) : CTOK2 l RX12 vwCl gTbl ct_2699 := ct2_cons (vl_2694 l) ck_RX12_489_2694 (ct2_cons (vl_2698 l) ck_RX12_91_2698 (ct2_cons (vl_647 l) ck_RX12_109_647 (ct2_cons (vl_2695 l) ck_RX12_492_2695 (ct2_cons (vl_1100 l) ck_RX12_103_1100 (ct2_nil)))))
theorem vl_2699 (l : Launch) : Vld2 l vwCl gTbl con_2699 := conR_ok3 gT_all (hd_2699) rfl pn_RX12 tk_X12_luck bo_RX12 xo_RX12 (cto_2699 l) ch_2699 (cut_all cc_2699)
/-- RookHusting rate -/
noncomputable def gi_3076 : GI := jl_n [gp_902, gp_231, gp_75]
noncomputable def ac_1477 : AC := .inl (11, jl_n [vp_39, jl_8 13 7, jl_6 6 1, jl_8 16 2, jl_1 18 2, jl_8 19 1])
noncomputable def ac_1478 : AC := .inl (4, jl_n [jl_8 27 6, jl_1 28 1, jl_8 32 4, jl_6 5 1, jl_8 38 5])
noncomputable def ac_1479 : AC := .inl (5, jl_n [jl_8 46 4, jl_1 47 1, jl_6 3 1, jl_8 50 2])
noncomputable def hc_254 : List AC := [ac_1477, .inl (9, [(6, 2, 0), (6, 3, 0)]), ac_1478, .inl (0, [(1, 38, 0), (8, 39, 0), (8, 40, 0), (8, 41, 0)]), am_4, ac_1479]
noncomputable def gi_3077 : GI := jl_n [gp_902, gp_231, gp_75, jl_m 4 40, gp_76, jl_z 5, gp_73]
noncomputable def ac_1480 : AC := .inl (11, jl_n [vp_39, jl_8 13 7, jl_6 6 1, jl_8 16 2, jl_1 66 2, jl_8 19 1])
noncomputable def ac_1481 : AC := .inl (5, jl_n [jl_8 46 4, jl_1 72 1, jl_6 3 1, jl_8 50 2])
noncomputable def hq_1000 : HP := [(true, ac_1480), (false, .inl (9, [(6, 2, 0), (6, 3, 0)])), (false, ac_1478), (false, .inl (0, [(1, 38, 0), (8, 39, 0), (8, 40, 0), (8, 41, 0)])), (true, am_4), (true, ac_1481)]
noncomputable def con_2700 : Con2 := ((yX11_rate, cX11_rate, 4, (some .int)), (1, 21), ([(6, 0, 0), (1, 1, 0), (1, 2, 0)], gi_3076, hc_254, []), [((1, 50, 0), gi_3077, hq_1000, [], tg_29)])
theorem hd_2700 : con_2700.1 = (yX11_rate, cX11_rate, 4, (some .int)) := rfl
noncomputable def ct_2700 : CTB2 := [(2, 156, 0, con_653, [0, 1, 2]), (64, 130, 0, con_308, [0, 5])]
noncomputable def cu_2700 : List CUT2 := []
theorem ch_2700 : staG tb_X11_rate 1 bt_RX11 [] ct_2700 [] [] cu_2700 34 con_2700 = true := by decide +kernel
theorem cto_2700 (l : Launch) : CTOK2 l RX11 vwCl gTbl ct_2700 := ct2_cons (vl_653 l) ck_RX11_156_653 (ct2_cons (vl_308 l) ck_RX11_130_308 (ct2_nil))
theorem vl_2700 (l : Launch) : Vld2 l vwCl gTbl con_2700 := conR_ok3 gT_all (hd_2700) rfl pn_RX11 tk_X11_rate bo_RX11 xo_RX11 (cto_2700 l) ch_2700 cut_nil
/-- RookHustingModel rate -/
noncomputable def gi_3078 : GI := jl_n [gp_170, jl_m 4 40, jl_z 7, gp_114]
noncomputable def ac_1482 : AC := .inr (1, jl_n [js_1 55 7, js_1 80 1, js_1 57 1, sp_124])
noncomputable def con_2701 : Con2 := ((yX12_rate, cX12_rate, 4, (some .int)), (2, 46), ([(6, 0, 0), (1, 1, 0), (1, 2, 0)], gi_304, [ac_439, ac_440], []), [((1, 71, 0), gi_3078, [(false, ac_439), (true, ac_1482)], [], tg_8)])
theorem hd_2701 : con_2701.1 = (yX12_rate, cX12_rate, 4, (some .int)) := rfl
noncomputable def ct_2701 : CTB2 := [(2, 236, 0, con_656, [0, 1]), (14, 91, 1, con_556, [])]
noncomputable def cu_2701 : List CUT2 := []
theorem ch_2701 : staG tb_X12_rate 1 bt_RX12 [] ct_2701 [] [] cu_2701 37 con_2701 = true := by decide +kernel
theorem cto_2701 (l : Launch) : CTOK2 l RX12 vwCl gTbl ct_2701 := ct2_cons (vl_656 l) ck_RX12_236_656 (ct2_cons (vl_556 l) ck_RX12_91_556 (ct2_nil))
theorem vl_2701 (l : Launch) : Vld2 l vwCl gTbl con_2701 := conR_ok3 gT_all (hd_2701) rfl pn_RX12 tk_X12_rate bo_RX12 xo_RX12 (cto_2701 l) ch_2701 cut_nil
/-- RookHusting$Slots hasRow -/
noncomputable def gi_3079 : GI := jl_n [jl_z 1, gp_303, jl_r 4 (jl_m 0 60)]
noncomputable def gi_3080 : GI := jl_n [jl_z 1, gp_303, gp_425]
noncomputable def con_2704 : Con2 := ((yX8_hasRow, cX8_hasRow, 2, (some .boolean)), (0, 0), ([(6, 0, 0), (1, 1, 0)], gi_3079, [.inl (8, [(8, 2, 0), (8, 3, 0), (6, 1, 0)]), ac_808], []), [((0, 0, 0), gi_3080, hq_640, [], [1]), ((0, 1, 0), gi_3080, hq_640, [], [1])])
theorem hd_2704 : con_2704.1 = (yX8_hasRow, cX8_hasRow, 2, (some .boolean)) := rfl
noncomputable def cu_2704 : List CUT2 := []
theorem ch_2704 : staG tb_X8_hasRow 1 bt_RX8 [] ct_1253 [] [] cu_2704 11 con_2704 = true := by decide +kernel
theorem vl_2704 (l : Launch) : Vld2 l vwCl gTbl con_2704 := conR_ok3 gT_all (hd_2704) rfl pn_RX8 tk_X8_hasRow bo_RX8 xo_RX8 (cto_1253 l) ch_2704 cut_nil
/-- RookHusting$Slots countRows -/
noncomputable def gi_3081 : GI := jl_n [jl_z 4, jl_r 4 (jl_m 0 60)]
noncomputable def ac_1483 : AC := .inr (1, jl_n [js_1 8 4])
noncomputable def gi_3082 : GI := jl_n [jl_z 4, jl_r 4 (jl_m 0 60), jl_t]
noncomputable def hq_1001 : HP := [(false, .inl (8, [(8, 1, 0), (8, 2, 0), (6, 1, 0)])), (false, ac_1483)]
noncomputable def con_2705 : Con2 := ((yX8_countRows, cX8_countRows, 3, (some .int)), (1, 21), ([(6, 0, 0)], gi_3081, [.inl (8, [(8, 1, 0), (8, 2, 0), (6, 1, 0)]), ac_1483], []), [((1, 8, 0), gi_3082, hq_1001, [], [1])])
theorem hd_2705 : con_2705.1 = (yX8_countRows, cX8_countRows, 3, (some .int)) := rfl
theorem ck_RX8_22_2704 : COK2 RX8 vwCl gTbl 22 0 con_2704 := ⟨wd_1214, wd_131, mh_X8_hasRow, .inr (.inr ⟨rfl, wd_1348, wd_1212, wd_1213, ⟨_, rfl, pd_X8_hasRow⟩, 8, _, TX8, 3, rfl, rfl⟩)⟩
noncomputable def ct_2705 : CTB2 := [(11, 22, 0, con_2704, [0, 1])]
noncomputable def gi_3083 : GI := jl_n [jl_z 4, jl_r 4 (jl_m 0 60), gp_7, jl_i 0 4]
noncomputable def cu_2705 : List CUT2 := [((4, [lq 0 6 0, lq 1 1 9, lq 2 1 10], [], gi_3083, hq_1001), [], ([(10, (-1))], 4))]
theorem ch_2705 : staG tb_X8_countRows 1 bt_RX8 [] ct_2705 [] [] cu_2705 13 con_2705 = true := by decide +kernel
theorem cc_2705 : cu_2705.all (cutG tb_X8_countRows 1 bt_RX8 [] ct_2705 [] [] cu_2705 13 con_2705) = true := by decide +kernel
theorem cto_2705 (l : Launch) : CTOK2 l RX8 vwCl gTbl ct_2705 := ct2_cons (vl_2704 l) ck_RX8_22_2704 (ct2_nil)
theorem vl_2705 (l : Launch) : Vld2 l vwCl gTbl con_2705 := conR_ok3 gT_all (hd_2705) rfl pn_RX8 tk_X8_countRows bo_RX8 xo_RX8 (cto_2705 l) ch_2705 (cut_all cc_2705)
/-- RookHusting count -/
noncomputable def gi_3084 : GI := jl_n [gp_7, gp_910, gp_3, jl_z 6, gp_911]
noncomputable def ac_1484 : AC := .inl (11, jl_n [jl_6 4 1, jl_8 4 1, jl_6 5 1, vp_93, jl_8 18 11])
noncomputable def ac_1485 : AC := .inl (10, jl_n [jl_8 26 1, jl_1 27 1, jl_8 31 4])
noncomputable def ac_1486 : AC := .inl (4, jl_n [jl_1 41 8, jl_8 50 9])
noncomputable def hc_255 : List AC := [ac_1484, .inl (8, [(8, 18, 0), (8, 19, 0), (6, 2, 0)]), ac_1054, ac_1485, .inl (9, [(6, 5, 0), (6, 6, 0)]), ac_1486, .inl (0, [(1, 50, 0), (8, 51, 0), (8, 52, 0), (8, 53, 0)])]
noncomputable def gi_3085 : GI := jl_n [gp_7, gp_910, gp_3, jl_z 6, gp_911, jl_t]
noncomputable def hq_1002 : HP := [(false, ac_1484), (false, .inl (8, [(8, 18, 0), (8, 19, 0), (6, 2, 0)])), (false, ac_1054), (false, ac_1485), (false, .inl (9, [(6, 5, 0), (6, 6, 0)])), (false, ac_1486), (false, .inl (0, [(1, 50, 0), (8, 51, 0), (8, 52, 0), (8, 53, 0)]))]
noncomputable def con_2706 : Con2 := ((yX11_count, cX11_count, 2, (some .int)), (2, 43), ([(6, 0, 0), (1, 1, 0)], gi_3084, hc_255, []), [((1, 54, 0), gi_3085, hq_1002, [], [1])])
theorem hd_2706 : con_2706.1 = (yX11_count, cX11_count, 2, (some .int)) := rfl
theorem ck_RX11_405_2705 : COK2 RX11 vwCl gTbl 405 0 con_2705 := ⟨wd_1347, wd_131, mh_X8_countRows, .inr (.inr ⟨rfl, wd_1344, wd_1345, wd_1346, ⟨_, rfl, pd_X8_countRows⟩, 8, _, TX8, 3, rfl, rfl⟩)⟩
noncomputable def ct_2706 : CTB2 := [(171, 405, 0, con_2705, [1, 2])]
noncomputable def cu_2706 : List CUT2 := []
theorem ch_2706 : staG tb_X11_count 1 bt_RX11 [] ct_2706 [] [] cu_2706 9 con_2706 = true := by decide +kernel
theorem cto_2706 (l : Launch) : CTOK2 l RX11 vwCl gTbl ct_2706 := ct2_cons (vl_2705 l) ck_RX11_405_2705 (ct2_nil)
theorem vl_2706 (l : Launch) : Vld2 l vwCl gTbl con_2706 := conR_ok3 gT_all (hd_2706) rfl pn_RX11 tk_X11_count bo_RX11 xo_RX11 (cto_2706 l) ch_2706 cut_nil
/-- RookHustingModel in -/
noncomputable def con_2707 : Con2 := ((yX12_in, cX12_in, 6, (some .boolean)), (0, 0), ([(4, 0, 0), (3, 0, 0), (3, 8, 0)], gi_146, [], []), [((0, 0, 0), gi_147, [], [], [1]), ((0, 1, 0), [(0, 8), (0, 0), (0, 0), (0, 0)], [], [], [1])])
theorem hd_2707 : con_2707.1 = (yX12_in, cX12_in, 6, (some .boolean)) := rfl
noncomputable def cu_2707 : List CUT2 := []
theorem ch_2707 : staG tb_X12_in 1 bt_RX12 [] ct_2 [] [] cu_2707 11 con_2707 = true := by decide +kernel
theorem vl_2707 (l : Launch) : Vld2 l vwCl gTbl con_2707 := conR_ok3 gT_all (hd_2707) rfl pn_RX12 tk_X12_in bo_RX12 xo_RX12 (cto_2 l) ch_2707 cut_nil
/-- RookHustingModel count -/
noncomputable def gi_3086 : GI := jl_n [gp_9, gp_737]
noncomputable def ac_1487 : AC := .inl (12, jl_n [vp_37, jl_8 7 3, jl_1 8 1, jl_8 43 35, jl_6 3 1, jl_8 47 3])
noncomputable def ac_1488 : AC := .inr (1, jl_n [js_1 74 4])
noncomputable def gi_3087 : GI := jl_n [gp_9, gp_737, jl_t]
noncomputable def con_2708 : Con2 := ((yX12_count, cX12_count, 4, (some .int)), (1, 25), ([(6, 0, 0), (1, 1, 0)], gi_3086, [ac_1487, ac_438, ac_1488], []), [((1, 74, 0), gi_3087, [(false, ac_1487), (false, ac_438), (false, ac_1488)], [], [1])])
theorem hd_2708 : con_2708.1 = (yX12_count, cX12_count, 4, (some .int)) := rfl
theorem ck_RX12_91_2707 : COK2 RX12 vwCl gTbl 91 1 con_2707 := ⟨wd_1544, wd_137, mh_X12_in, .inl ⟨rfl, wd_1542, wd_1543, pd_X12_in⟩⟩
noncomputable def ct_2708 : CTB2 := [(6, 91, 1, con_2707, [])]
noncomputable def gi_3088 : GI := jl_n [jl_z 1, jl_i 10 10, gp_6, gp_737, gp_194, jl_i 0 4]
noncomputable def cu_2708 : List CUT2 := [((42, [lq 0 6 0, lq 1 0 10, lq 2 1 76, lq 3 1 77], [], gi_3088, [(false, ac_1487), (false, ac_438), (false, ac_1488)]), [], ([(77, (-1))], 4))]
theorem ch_2708 : staG tb_X12_count 1 bt_RX12 [] ct_2708 [] [] cu_2708 19 con_2708 = true := by decide +kernel
theorem cc_2708 : cu_2708.all (cutG tb_X12_count 1 bt_RX12 [] ct_2708 [] [] cu_2708 19 con_2708) = true := by decide +kernel
theorem cto_2708 (l : Launch) : CTOK2 l RX12 vwCl gTbl ct_2708 := ct2_cons (vl_2707 l) ck_RX12_91_2707 (ct2_nil)
theorem vl_2708 (l : Launch) : Vld2 l vwCl gTbl con_2708 := conR_ok3 gT_all (hd_2708) rfl pn_RX12 tk_X12_count bo_RX12 xo_RX12 (cto_2708 l) ch_2708 (cut_all cc_2708)
/-- RookHusting$Acts copyFrom -/
noncomputable def gi_3089 : GI := jl_n [jl_z 2, gp_265, gp_912]
noncomputable def ac_1489 : AC := .inr (1, jl_n [js_1 40 30])
noncomputable def ac_1490 : AC := .inr (1, jl_n [js_1 70 30])
noncomputable def ac_1491 : AC := .inr (1, jl_n [js_1 100 30])
noncomputable def ac_1492 : AC := .inr (1, jl_n [js_1 130 30])
noncomputable def hc_256 : List AC := [.inl (0, [(1, 2, 0), (6, 2, 0), (6, 4, 0), (6, 6, 0)]), .inl (0, [(1, 6, 0), (6, 3, 0), (6, 5, 0), (6, 7, 0)]), ac_1489, ac_1490, am_12, am_12, ac_1491, ac_1492]
noncomputable def rq_16 : RLs := [([(10, 12), (70, (-1))], 4), ([(11, 12), (71, (-1))], 4), ([(12, 12), (72, (-1))], 4), ([(13, 12), (73, (-1))], 4), ([(14, 12), (74, (-1))], 4), ([(15, 12), (75, (-1))], 4), ([(16, 12), (76, (-1))], 4), ([(17, 12), (77, (-1))], 4), ([(18, 12), (78, (-1))], 4), ([(19, 12), (79, (-1))], 4), ([(20, 12), (80, (-1))], 4), ([(21, 12), (81, (-1))], 4), ([(22, 12), (82, (-1))], 4), ([(23, 12), (83, (-1))], 4), ([(24, 12), (84, (-1))], 4), ([(25, 12), (85, (-1))], 4), ([(26, 12), (86, (-1))], 4), ([(27, 12), (87, (-1))], 4), ([(28, 12), (88, (-1))], 4), ([(29, 12), (89, (-1))], 4), ([(30, 12), (90, (-1))], 4), ([(31, 12), (91, (-1))], 4), ([(32, 12), (92, (-1))], 4), ([(33, 12), (93, (-1))], 4), ([(34, 12), (94, (-1))], 4), ([(35, 12), (95, (-1))], 4), ([(36, 12), (96, (-1))], 4), ([(37, 12), (97, (-1))], 4), ([(38, 12), (98, (-1))], 4), ([(39, 12), (99, (-1))], 4), ([(40, 12), (100, (-1))], 4), ([(41, 12), (101, (-1))], 4), ([(42, 12), (102, (-1))], 4), ([(43, 12), (103, (-1))], 4), ([(44, 12), (104, (-1))], 4), ([(45, 12), (105, (-1))], 4), ([(46, 12), (106, (-1))], 4), ([(47, 12), (107, (-1))], 4), ([(48, 12), (108, (-1))], 4), ([(49, 12), (109, (-1))], 4), ([(50, 12), (110, (-1))], 4), ([(51, 12), (111, (-1))], 4), ([(52, 12), (112, (-1))], 4), ([(53, 12), (113, (-1))], 4), ([(54, 12), (114, (-1))], 4), ([(55, 12), (115, (-1))], 4), ([(56, 12), (116, (-1))], 4), ([(57, 12), (117, (-1))], 4), ([(58, 12), (118, (-1))], 4), ([(59, 12), (119, (-1))], 4), ([(60, 12), (120, (-1))], 4), ([(61, 12), (121, (-1))], 4), ([(62, 12), (122, (-1))], 4), ([(63, 12), (123, (-1))], 4), ([(64, 12), (124, (-1))], 4), ([(65, 12), (125, (-1))], 4), ([(66, 12), (126, (-1))], 4), ([(67, 12), (127, (-1))], 4), ([(68, 12), (128, (-1))], 4), ([(69, 12), (129, (-1))], 4)]
noncomputable def gi_3090 : GI := jl_n [jl_z 2, gp_265, gp_912, jl_z 64]
noncomputable def hq_1003 : HP := [(true, .inl (0, [(1, 6, 0), (6, 2, 0), (6, 4, 0), (6, 6, 0)])), (false, .inl (0, [(1, 6, 0), (6, 3, 0), (6, 5, 0), (6, 7, 0)])), (true, ac_1490), (false, ac_1490), (true, am_12), (false, am_12), (true, ac_1492), (false, ac_1492)]
noncomputable def rq_17 : RLs := [([(40, 12), (100, (-1))], 4), ([(41, 12), (101, (-1))], 4), ([(42, 12), (102, (-1))], 4), ([(43, 12), (103, (-1))], 4), ([(44, 12), (104, (-1))], 4), ([(45, 12), (105, (-1))], 4), ([(46, 12), (106, (-1))], 4), ([(47, 12), (107, (-1))], 4), ([(48, 12), (108, (-1))], 4), ([(49, 12), (109, (-1))], 4), ([(50, 12), (110, (-1))], 4), ([(51, 12), (111, (-1))], 4), ([(52, 12), (112, (-1))], 4), ([(53, 12), (113, (-1))], 4), ([(54, 12), (114, (-1))], 4), ([(55, 12), (115, (-1))], 4), ([(56, 12), (116, (-1))], 4), ([(57, 12), (117, (-1))], 4), ([(58, 12), (118, (-1))], 4), ([(59, 12), (119, (-1))], 4), ([(60, 12), (120, (-1))], 4), ([(61, 12), (121, (-1))], 4), ([(62, 12), (122, (-1))], 4), ([(63, 12), (123, (-1))], 4), ([(64, 12), (124, (-1))], 4), ([(65, 12), (125, (-1))], 4), ([(66, 12), (126, (-1))], 4), ([(67, 12), (127, (-1))], 4), ([(68, 12), (128, (-1))], 4), ([(69, 12), (129, (-1))], 4)]
noncomputable def con_2709 : Con2 := ((yX0_copyFrom, cX0_copyFrom, 2, none), (1, 18), ([(6, 0, 0), (6, 1, 0)], gi_3089, hc_256, rq_16), [((9, 0, 0), gi_3090, hq_1003, rq_17, tg_25)])
theorem hd_2709 : con_2709.1 = (yX0_copyFrom, cX0_copyFrom, 2, none) := rfl
noncomputable def cu_2709 : List CUT2 := []
theorem ch_2709 : staG tb_X0_copyFrom 1 bt_RX0 [] ct_1240 [] [] cu_2709 31 con_2709 = true := by decide +kernel
theorem vl_2709 (l : Launch) : Vld2 l vwCl gTbl con_2709 := conR_ok3 gT_all (hd_2709) rfl pn_RX0 tk_X0_copyFrom bo_RX0 xo_RX0 (cto_1240 l) ch_2709 cut_nil
/-- RookHusting$State copyFrom -/
noncomputable def gi_3091 : GI := jl_n [jl_z 6, gp_913]
noncomputable def ac_1493 : AC := .inl (4, jl_n [jl_1 14 8, jl_6 5 1, vp_157])
noncomputable def ac_1494 : AC := .inl (4, jl_n [jl_1 31 8, vp_9, jl_6 10 1, jl_6 12 1, vp_10, jl_6 18 1, vp_156])
noncomputable def ac_1495 : AC := .inr (1, jl_n [js_1 138 30])
noncomputable def ac_1496 : AC := .inr (1, jl_n [js_1 168 30])
noncomputable def hc_257 : List AC := [.inl (9, [(6, 2, 0), (6, 22, 0)]), .inl (9, [(6, 3, 0), (6, 23, 0)]), ac_1493, ac_1494, am_11, am_11, am_4, am_4, am_1, am_1, am_4, am_4, am_10, am_10, am_7, am_7, am_8, am_8, am_6, am_6, am_5, am_5, .inl (0, [(1, 40, 0), (6, 24, 0), (6, 26, 0), (6, 28, 0)]), .inl (0, [(1, 44, 0), (6, 25, 0), (6, 27, 0), (6, 29, 0)]), ac_642, ac_643, am_12, am_12, ac_1495, ac_1496]
noncomputable def rq_18 : RLs := [([(48, 12), (108, (-1))], 4), ([(49, 12), (109, (-1))], 4), ([(50, 12), (110, (-1))], 4), ([(51, 12), (111, (-1))], 4), ([(52, 12), (112, (-1))], 4), ([(53, 12), (113, (-1))], 4), ([(54, 12), (114, (-1))], 4), ([(55, 12), (115, (-1))], 4), ([(56, 12), (116, (-1))], 4), ([(57, 12), (117, (-1))], 4), ([(58, 12), (118, (-1))], 4), ([(59, 12), (119, (-1))], 4), ([(60, 12), (120, (-1))], 4), ([(61, 12), (121, (-1))], 4), ([(62, 12), (122, (-1))], 4), ([(63, 12), (123, (-1))], 4), ([(64, 12), (124, (-1))], 4), ([(65, 12), (125, (-1))], 4), ([(66, 12), (126, (-1))], 4), ([(67, 12), (127, (-1))], 4), ([(68, 12), (128, (-1))], 4), ([(69, 12), (129, (-1))], 4), ([(70, 12), (130, (-1))], 4), ([(71, 12), (131, (-1))], 4), ([(72, 12), (132, (-1))], 4), ([(73, 12), (133, (-1))], 4), ([(74, 12), (134, (-1))], 4), ([(75, 12), (135, (-1))], 4), ([(76, 12), (136, (-1))], 4), ([(77, 12), (137, (-1))], 4), ([(78, 12), (138, (-1))], 4), ([(79, 12), (139, (-1))], 4), ([(80, 12), (140, (-1))], 4), ([(81, 12), (141, (-1))], 4), ([(82, 12), (142, (-1))], 4), ([(83, 12), (143, (-1))], 4), ([(84, 12), (144, (-1))], 4), ([(85, 12), (145, (-1))], 4), ([(86, 12), (146, (-1))], 4), ([(87, 12), (147, (-1))], 4), ([(88, 12), (148, (-1))], 4), ([(89, 12), (149, (-1))], 4), ([(90, 12), (150, (-1))], 4), ([(91, 12), (151, (-1))], 4), ([(92, 12), (152, (-1))], 4), ([(93, 12), (153, (-1))], 4), ([(94, 12), (154, (-1))], 4), ([(95, 12), (155, (-1))], 4), ([(96, 12), (156, (-1))], 4), ([(97, 12), (157, (-1))], 4), ([(98, 12), (158, (-1))], 4), ([(99, 12), (159, (-1))], 4), ([(100, 12), (160, (-1))], 4), ([(101, 12), (161, (-1))], 4), ([(102, 12), (162, (-1))], 4), ([(103, 12), (163, (-1))], 4), ([(104, 12), (164, (-1))], 4), ([(105, 12), (165, (-1))], 4), ([(106, 12), (166, (-1))], 4), ([(107, 12), (167, (-1))], 4)]
noncomputable def gi_3092 : GI := jl_n [jl_z 6, gp_913, jl_z 81]
noncomputable def ac_1497 : AC := .inl (4, jl_n [jl_1 31 8, jl_6 5 1, vp_157])
noncomputable def hq_1004 : HP := [(false, .inl (9, [(6, 2, 0), (6, 22, 0)])), (false, .inl (9, [(6, 3, 0), (6, 23, 0)])), (true, ac_1497), (false, ac_1494), (true, am_11), (false, am_11), (true, am_4), (false, am_4), (true, am_1), (false, am_1), (true, am_4), (false, am_4), (true, am_10), (false, am_10), (true, am_7), (false, am_7), (true, am_8), (false, am_8), (true, am_6), (false, am_6), (true, am_5), (false, am_5), (true, .inl (0, [(1, 44, 0), (6, 24, 0), (6, 26, 0), (6, 28, 0)])), (false, .inl (0, [(1, 44, 0), (6, 25, 0), (6, 27, 0), (6, 29, 0)])), (true, ac_643), (false, ac_643), (true, am_12), (false, am_12), (true, ac_1496), (false, ac_1496)]
noncomputable def rq_19 : RLs := [([(78, 12), (138, (-1))], 4), ([(79, 12), (139, (-1))], 4), ([(80, 12), (140, (-1))], 4), ([(81, 12), (141, (-1))], 4), ([(82, 12), (142, (-1))], 4), ([(83, 12), (143, (-1))], 4), ([(84, 12), (144, (-1))], 4), ([(85, 12), (145, (-1))], 4), ([(86, 12), (146, (-1))], 4), ([(87, 12), (147, (-1))], 4), ([(88, 12), (148, (-1))], 4), ([(89, 12), (149, (-1))], 4), ([(90, 12), (150, (-1))], 4), ([(91, 12), (151, (-1))], 4), ([(92, 12), (152, (-1))], 4), ([(93, 12), (153, (-1))], 4), ([(94, 12), (154, (-1))], 4), ([(95, 12), (155, (-1))], 4), ([(96, 12), (156, (-1))], 4), ([(97, 12), (157, (-1))], 4), ([(98, 12), (158, (-1))], 4), ([(99, 12), (159, (-1))], 4), ([(100, 12), (160, (-1))], 4), ([(101, 12), (161, (-1))], 4), ([(102, 12), (162, (-1))], 4), ([(103, 12), (163, (-1))], 4), ([(104, 12), (164, (-1))], 4), ([(105, 12), (165, (-1))], 4), ([(106, 12), (166, (-1))], 4), ([(107, 12), (167, (-1))], 4)]
noncomputable def con_2710 : Con2 := ((yX9_copyFrom, cX9_copyFrom, 2, none), (2, 39), ([(6, 0, 0), (6, 1, 0)], gi_3091, hc_257, rq_18), [((9, 0, 0), gi_3092, hq_1004, rq_19, tg_30)])
theorem hd_2710 : con_2710.1 = (yX9_copyFrom, cX9_copyFrom, 2, none) := rfl
theorem ck_RX9_27_2709 : COK2 RX9 vwCl gTbl 27 0 con_2709 := ⟨wd_1361, wd_130, mh_X0_copyFrom, .inr (.inr ⟨rfl, wd_1358, wd_1359, wd_1360, ⟨_, rfl, pd_X0_copyFrom⟩, 0, _, TX0, 4, rfl, rfl⟩)⟩
theorem ck_RX9_23_307 : COK2 RX9 vwCl gTbl 23 0 con_307 := ⟨wd_737, wd_128, mh_X4_copyFrom, .inr (.inr ⟨rfl, wd_1357, wd_735, wd_736, ⟨_, rfl, pd_X4_copyFrom⟩, 4, _, TX4, 17, rfl, rfl⟩)⟩
noncomputable def ct_2710 : CTB2 := [(8, 23, 0, con_307, [2, 3, 4, 5, 6, 7, 8, 9, 10, 11, 12, 13, 14, 15, 16, 17, 18, 19, 20, 21]), (19, 27, 0, con_2709, [22, 23, 24, 25, 26, 27, 28, 29])]
noncomputable def cu_2710 : List CUT2 := []
theorem ch_2710 : staG tb_X9_copyFrom 1 bt_RX9 [] ct_2710 [] [] cu_2710 13 con_2710 = true := by decide +kernel
theorem cto_2710 (l : Launch) : CTOK2 l RX9 vwCl gTbl ct_2710 := ct2_cons (vl_307 l) ck_RX9_23_307 (ct2_cons (vl_2709 l) ck_RX9_27_2709 (ct2_nil))
theorem vl_2710 (l : Launch) : Vld2 l vwCl gTbl con_2710 := conR_ok3 gT_all (hd_2710) rfl pn_RX9 tk_X9_copyFrom bo_RX9 xo_RX9 (cto_2710 l) ch_2710 cut_nil
/-- RookHusting image -/
noncomputable def gi_3093 : GI := jl_n [gp_7, gp_915]
noncomputable def ac_1498 : AC := .inl (11, jl_n [jl_8 4 2, vp_12, jl_8 14 8, jl_1 15 1, jl_8 18 3])
noncomputable def ac_1499 : AC := .inr (4, jl_n [jl_x (1, (6, 47, 0)), jl_x (1, (6, 32, 0)), jl_x (1, (6, 2, 0))])
noncomputable def ac_1500 : AC := .inl (4, jl_n [jl_1 33 8, vp_157, jl_6 23 1])
noncomputable def ac_1501 : AC := .inl (4, jl_n [jl_1 50 8, jl_6 8 1, jl_6 10 1, jl_6 12 1, vp_10, jl_6 18 1, vp_156, jl_6 24 1])
noncomputable def ac_1502 : AC := .inr (1, jl_n [js_1 97 30])
noncomputable def ac_1503 : AC := .inr (1, jl_n [js_1 127 30])
noncomputable def ac_1504 : AC := .inr (1, jl_n [js_1 157 30])
noncomputable def ac_1505 : AC := .inr (1, jl_n [js_1 187 30])
noncomputable def ac_1506 : AC := .inl (4, jl_n [jl_1 197 8, jl_6 43 9])
noncomputable def ac_1507 : AC := .inr (1, jl_n [js_1 240 30])
noncomputable def ac_1508 : AC := .inr (1, jl_n [js_1 270 30])
noncomputable def ac_1509 : AC := .inl (4, jl_n [jl_1 280 8, jl_6 58 9])
noncomputable def ac_1510 : AC := .inr (1, jl_n [js_1 323 30])
noncomputable def ac_1511 : AC := .inr (1, jl_n [js_1 353 30])
noncomputable def hc_258 : List AC := [ac_1498, ac_1499, .inl (9, [(6, 4, 0), (6, 24, 0)]), .inl (9, [(6, 5, 0), (6, 25, 0)]), ac_1500, ac_1501, am_11, am_11, am_4, am_4, am_1, am_1, am_4, am_4, am_10, am_10, am_7, am_7, am_8, am_8, am_6, am_6, am_5, am_5, .inl (0, [(1, 59, 0), (6, 26, 0), (6, 28, 0), (6, 30, 0)]), .inl (0, [(1, 63, 0), (6, 27, 0), (6, 29, 0), (6, 31, 0)]), ac_1502, ac_1503, am_12, am_12, ac_1504, ac_1505, .inl (9, [(6, 33, 0), (6, 43, 0)]), ac_1506, am_11, am_4, am_1, am_4, am_10, am_7, am_8, am_6, am_5, .inl (0, [(1, 206, 0), (6, 44, 0), (6, 45, 0), (6, 46, 0)]), ac_1507, am_12, ac_1508, .inl (9, [(6, 48, 0), (6, 58, 0)]), ac_1509, am_11, am_4, am_1, am_4, am_10, am_7, am_8, am_6, am_5, .inl (0, [(1, 289, 0), (6, 59, 0), (6, 60, 0), (6, 61, 0)]), ac_1510, am_12, ac_1511]
noncomputable def rq_20 : RLs := [([(67, 12), (127, (-1))], 4), ([(68, 12), (128, (-1))], 4), ([(69, 12), (129, (-1))], 4), ([(70, 12), (130, (-1))], 4), ([(71, 12), (131, (-1))], 4), ([(72, 12), (132, (-1))], 4), ([(73, 12), (133, (-1))], 4), ([(74, 12), (134, (-1))], 4), ([(75, 12), (135, (-1))], 4), ([(76, 12), (136, (-1))], 4), ([(77, 12), (137, (-1))], 4), ([(78, 12), (138, (-1))], 4), ([(79, 12), (139, (-1))], 4), ([(80, 12), (140, (-1))], 4), ([(81, 12), (141, (-1))], 4), ([(82, 12), (142, (-1))], 4), ([(83, 12), (143, (-1))], 4), ([(84, 12), (144, (-1))], 4), ([(85, 12), (145, (-1))], 4), ([(86, 12), (146, (-1))], 4), ([(87, 12), (147, (-1))], 4), ([(88, 12), (148, (-1))], 4), ([(89, 12), (149, (-1))], 4), ([(90, 12), (150, (-1))], 4), ([(91, 12), (151, (-1))], 4), ([(92, 12), (152, (-1))], 4), ([(93, 12), (153, (-1))], 4), ([(94, 12), (154, (-1))], 4), ([(95, 12), (155, (-1))], 4), ([(96, 12), (156, (-1))], 4), ([(97, 12), (157, (-1))], 4), ([(98, 12), (158, (-1))], 4), ([(99, 12), (159, (-1))], 4), ([(100, 12), (160, (-1))], 4), ([(101, 12), (161, (-1))], 4), ([(102, 12), (162, (-1))], 4), ([(103, 12), (163, (-1))], 4), ([(104, 12), (164, (-1))], 4), ([(105, 12), (165, (-1))], 4), ([(106, 12), (166, (-1))], 4), ([(107, 12), (167, (-1))], 4), ([(108, 12), (168, (-1))], 4), ([(109, 12), (169, (-1))], 4), ([(110, 12), (170, (-1))], 4), ([(111, 12), (171, (-1))], 4), ([(112, 12), (172, (-1))], 4), ([(113, 12), (173, (-1))], 4), ([(114, 12), (174, (-1))], 4), ([(115, 12), (175, (-1))], 4), ([(116, 12), (176, (-1))], 4), ([(117, 12), (177, (-1))], 4), ([(118, 12), (178, (-1))], 4), ([(119, 12), (179, (-1))], 4), ([(120, 12), (180, (-1))], 4), ([(121, 12), (181, (-1))], 4), ([(122, 12), (182, (-1))], 4), ([(123, 12), (183, (-1))], 4), ([(124, 12), (184, (-1))], 4), ([(125, 12), (185, (-1))], 4), ([(126, 12), (186, (-1))], 4), ([(210, 12), (240, (-1))], 4), ([(211, 12), (241, (-1))], 4), ([(212, 12), (242, (-1))], 4), ([(213, 12), (243, (-1))], 4), ([(214, 12), (244, (-1))], 4), ([(215, 12), (245, (-1))], 4), ([(216, 12), (246, (-1))], 4), ([(217, 12), (247, (-1))], 4), ([(218, 12), (248, (-1))], 4), ([(219, 12), (249, (-1))], 4), ([(220, 12), (250, (-1))], 4), ([(221, 12), (251, (-1))], 4), ([(222, 12), (252, (-1))], 4), ([(223, 12), (253, (-1))], 4), ([(224, 12), (254, (-1))], 4), ([(225, 12), (255, (-1))], 4), ([(226, 12), (256, (-1))], 4), ([(227, 12), (257, (-1))], 4), ([(228, 12), (258, (-1))], 4), ([(229, 12), (259, (-1))], 4), ([(230, 12), (260, (-1))], 4), ([(231, 12), (261, (-1))], 4), ([(232, 12), (262, (-1))], 4), ([(233, 12), (263, (-1))], 4), ([(234, 12), (264, (-1))], 4), ([(235, 12), (265, (-1))], 4), ([(236, 12), (266, (-1))], 4), ([(237, 12), (267, (-1))], 4), ([(238, 12), (268, (-1))], 4), ([(239, 12), (269, (-1))], 4), ([(293, 12), (323, (-1))], 4), ([(294, 12), (324, (-1))], 4), ([(295, 12), (325, (-1))], 4), ([(296, 12), (326, (-1))], 4), ([(297, 12), (327, (-1))], 4), ([(298, 12), (328, (-1))], 4), ([(299, 12), (329, (-1))], 4), ([(300, 12), (330, (-1))], 4), ([(301, 12), (331, (-1))], 4), ([(302, 12), (332, (-1))], 4), ([(303, 12), (333, (-1))], 4), ([(304, 12), (334, (-1))], 4), ([(305, 12), (335, (-1))], 4), ([(306, 12), (336, (-1))], 4), ([(307, 12), (337, (-1))], 4), ([(308, 12), (338, (-1))], 4), ([(309, 12), (339, (-1))], 4), ([(310, 12), (340, (-1))], 4), ([(311, 12), (341, (-1))], 4), ([(312, 12), (342, (-1))], 4), ([(313, 12), (343, (-1))], 4), ([(314, 12), (344, (-1))], 4), ([(315, 12), (345, (-1))], 4), ([(316, 12), (346, (-1))], 4), ([(317, 12), (347, (-1))], 4), ([(318, 12), (348, (-1))], 4), ([(319, 12), (349, (-1))], 4), ([(320, 12), (350, (-1))], 4), ([(321, 12), (351, (-1))], 4), ([(322, 12), (352, (-1))], 4)]
noncomputable def gi_3094 : GI := jl_n [gp_624, gp_915, jl_z 1]
noncomputable def hq_1005 : HP := [(false, ac_1498), (false, ac_1499), (false, .inl (9, [(6, 4, 0), (6, 24, 0)])), (false, .inl (9, [(6, 5, 0), (6, 25, 0)])), (false, ac_1500), (false, ac_1501), (false, am_11), (false, am_11), (false, am_4), (false, am_4), (false, am_1), (false, am_1), (false, am_4), (false, am_4), (false, am_10), (false, am_10), (false, am_7), (false, am_7), (false, am_8), (false, am_8), (false, am_6), (false, am_6), (false, am_5), (false, am_5), (false, .inl (0, [(1, 59, 0), (6, 26, 0), (6, 28, 0), (6, 30, 0)])), (false, .inl (0, [(1, 63, 0), (6, 27, 0), (6, 29, 0), (6, 31, 0)])), (false, ac_1502), (false, ac_1503), (false, am_12), (false, am_12), (false, ac_1504), (false, ac_1505), (false, .inl (9, [(6, 33, 0), (6, 43, 0)])), (false, ac_1506), (false, am_11), (false, am_4), (false, am_1), (false, am_4), (false, am_10), (false, am_7), (false, am_8), (false, am_6), (false, am_5), (false, .inl (0, [(1, 206, 0), (6, 44, 0), (6, 45, 0), (6, 46, 0)])), (false, ac_1507), (false, am_12), (false, ac_1508), (false, .inl (9, [(6, 48, 0), (6, 58, 0)])), (false, ac_1509), (false, am_11), (false, am_4), (false, am_1), (false, am_4), (false, am_10), (false, am_7), (false, am_8), (false, am_6), (false, am_5), (false, .inl (0, [(1, 289, 0), (6, 59, 0), (6, 60, 0), (6, 61, 0)])), (false, ac_1510), (false, am_12), (false, ac_1511)]
noncomputable def gi_3095 : GI := jl_n [jl_z 1, jl_i 3 2147483647, gp_915, jl_z 1]
noncomputable def gi_3096 : GI := jl_n [gp_210, gp_915, jl_z 13, gp_383, gp_916, gp_916, gp_916]
noncomputable def ac_1512 : AC := .inl (11, jl_n [jl_8 4 2, vp_12, jl_8 14 8, jl_1 367 1, jl_8 18 3])
noncomputable def ac_1513 : AC := .inl (4, jl_n [jl_1 378 8, vp_157, jl_6 23 1])
noncomputable def ac_1514 : AC := .inr (1, jl_n [js_1 421 30])
noncomputable def ac_1515 : AC := .inr (1, jl_n [js_1 451 30])
noncomputable def ac_1516 : AC := .inl (4, jl_n [jl_1 459 8, jl_6 43 9])
noncomputable def ac_1517 : AC := .inr (1, jl_n [js_1 502 30])
noncomputable def ac_1518 : AC := .inr (1, jl_n [js_1 532 30])
noncomputable def ac_1519 : AC := .inl (4, jl_n [jl_1 540 8, jl_6 58 9])
noncomputable def ac_1520 : AC := .inr (1, jl_n [js_1 583 30])
noncomputable def ac_1521 : AC := .inr (1, jl_n [js_1 613 30])
noncomputable def hq_1006 : HP := [(true, ac_1512), (false, ac_1499), (false, .inl (9, [(6, 4, 0), (6, 24, 0)])), (false, .inl (9, [(6, 5, 0), (6, 25, 0)])), (true, ac_1513), (false, ac_1501), (true, am_11), (false, am_11), (true, am_4), (false, am_4), (true, am_1), (false, am_1), (true, am_4), (false, am_4), (true, am_10), (false, am_10), (true, am_7), (false, am_7), (true, am_8), (false, am_8), (true, am_6), (false, am_6), (true, am_5), (false, am_5), (true, .inl (0, [(1, 387, 0), (6, 26, 0), (6, 28, 0), (6, 30, 0)])), (false, .inl (0, [(1, 63, 0), (6, 27, 0), (6, 29, 0), (6, 31, 0)])), (true, ac_1514), (false, ac_1503), (true, am_12), (false, am_12), (true, ac_1515), (false, ac_1505), (false, .inl (9, [(6, 33, 0), (6, 43, 0)])), (true, ac_1516), (true, am_11), (true, am_4), (true, am_1), (true, am_4), (true, am_10), (true, am_7), (true, am_8), (true, am_6), (true, am_5), (true, .inl (0, [(1, 468, 0), (6, 44, 0), (6, 45, 0), (6, 46, 0)])), (true, ac_1517), (true, am_12), (true, ac_1518), (false, .inl (9, [(6, 48, 0), (6, 58, 0)])), (true, ac_1519), (true, am_11), (true, am_4), (true, am_1), (true, am_4), (true, am_10), (true, am_7), (true, am_8), (true, am_6), (true, am_5), (true, .inl (0, [(1, 549, 0), (6, 59, 0), (6, 60, 0), (6, 61, 0)])), (true, ac_1520), (true, am_12), (true, ac_1521)]
noncomputable def rq_21 : RLs := [([(391, 12), (421, (-1))], 4), ([(392, 12), (422, (-1))], 4), ([(393, 12), (423, (-1))], 4), ([(394, 12), (424, (-1))], 4), ([(395, 12), (425, (-1))], 4), ([(396, 12), (426, (-1))], 4), ([(397, 12), (427, (-1))], 4), ([(398, 12), (428, (-1))], 4), ([(399, 12), (429, (-1))], 4), ([(400, 12), (430, (-1))], 4), ([(401, 12), (431, (-1))], 4), ([(402, 12), (432, (-1))], 4), ([(403, 12), (433, (-1))], 4), ([(404, 12), (434, (-1))], 4), ([(405, 12), (435, (-1))], 4), ([(406, 12), (436, (-1))], 4), ([(407, 12), (437, (-1))], 4), ([(408, 12), (438, (-1))], 4), ([(409, 12), (439, (-1))], 4), ([(410, 12), (440, (-1))], 4), ([(411, 12), (441, (-1))], 4), ([(412, 12), (442, (-1))], 4), ([(413, 12), (443, (-1))], 4), ([(414, 12), (444, (-1))], 4), ([(415, 12), (445, (-1))], 4), ([(416, 12), (446, (-1))], 4), ([(417, 12), (447, (-1))], 4), ([(418, 12), (448, (-1))], 4), ([(419, 12), (449, (-1))], 4), ([(420, 12), (450, (-1))], 4), ([(472, 12), (502, (-1))], 4), ([(473, 12), (503, (-1))], 4), ([(474, 12), (504, (-1))], 4), ([(475, 12), (505, (-1))], 4), ([(476, 12), (506, (-1))], 4), ([(477, 12), (507, (-1))], 4), ([(478, 12), (508, (-1))], 4), ([(479, 12), (509, (-1))], 4), ([(480, 12), (510, (-1))], 4), ([(481, 12), (511, (-1))], 4), ([(482, 12), (512, (-1))], 4), ([(483, 12), (513, (-1))], 4), ([(484, 12), (514, (-1))], 4), ([(485, 12), (515, (-1))], 4), ([(486, 12), (516, (-1))], 4), ([(487, 12), (517, (-1))], 4), ([(488, 12), (518, (-1))], 4), ([(489, 12), (519, (-1))], 4), ([(490, 12), (520, (-1))], 4), ([(491, 12), (521, (-1))], 4), ([(492, 12), (522, (-1))], 4), ([(493, 12), (523, (-1))], 4), ([(494, 12), (524, (-1))], 4), ([(495, 12), (525, (-1))], 4), ([(496, 12), (526, (-1))], 4), ([(497, 12), (527, (-1))], 4), ([(498, 12), (528, (-1))], 4), ([(499, 12), (529, (-1))], 4), ([(500, 12), (530, (-1))], 4), ([(501, 12), (531, (-1))], 4), ([(553, 12), (583, (-1))], 4), ([(554, 12), (584, (-1))], 4), ([(555, 12), (585, (-1))], 4), ([(556, 12), (586, (-1))], 4), ([(557, 12), (587, (-1))], 4), ([(558, 12), (588, (-1))], 4), ([(559, 12), (589, (-1))], 4), ([(560, 12), (590, (-1))], 4), ([(561, 12), (591, (-1))], 4), ([(562, 12), (592, (-1))], 4), ([(563, 12), (593, (-1))], 4), ([(564, 12), (594, (-1))], 4), ([(565, 12), (595, (-1))], 4), ([(566, 12), (596, (-1))], 4), ([(567, 12), (597, (-1))], 4), ([(568, 12), (598, (-1))], 4), ([(569, 12), (599, (-1))], 4), ([(570, 12), (600, (-1))], 4), ([(571, 12), (601, (-1))], 4), ([(572, 12), (602, (-1))], 4), ([(573, 12), (603, (-1))], 4), ([(574, 12), (604, (-1))], 4), ([(575, 12), (605, (-1))], 4), ([(576, 12), (606, (-1))], 4), ([(577, 12), (607, (-1))], 4), ([(578, 12), (608, (-1))], 4), ([(579, 12), (609, (-1))], 4), ([(580, 12), (610, (-1))], 4), ([(581, 12), (611, (-1))], 4), ([(582, 12), (612, (-1))], 4)]
noncomputable def con_2711 : Con2 := ((yX11_image, cX11_image, 2, (some .int)), (3, 60), ([(6, 0, 0), (1, 1, 0)], gi_3093, hc_258, rq_20), [((0, (-2), 0), gi_3094, hq_1005, [], [1]), ((0, (-2), 0), gi_3095, hq_1005, [], [1]), ((0, 0, 0), gi_3096, hq_1006, rq_21, tg_31)])
theorem hd_2711 : con_2711.1 = (yX11_image, cX11_image, 2, (some .int)) := rfl
theorem ck_RX11_408_2710 : COK2 RX11 vwCl gTbl 408 0 con_2710 := ⟨wd_1356, wd_129, mh_X9_copyFrom, .inr (.inr ⟨rfl, wd_1353, wd_1354, wd_1355, ⟨_, rfl, pd_X9_copyFrom⟩, 9, _, TX9, 2, rfl, rfl⟩)⟩
noncomputable def ct_2711 : CTB2 := [(22, 408, 0, con_2710, [2, 3, 4, 5, 6, 7, 8, 9, 10, 11, 12, 13, 14, 15, 16, 17, 18, 19, 20, 21, 22, 23, 24, 25, 26, 27, 28, 29, 30, 31]), (22, 408, 0, con_2710, [32, 3, 33, 5, 34, 7, 35, 9, 36, 11, 37, 13, 38, 15, 39, 17, 40, 19, 41, 21, 42, 23, 43, 25, 44, 27, 45, 29, 46, 31]), (22, 408, 0, con_2710, [47, 3, 48, 5, 49, 7, 50, 9, 51, 11, 52, 13, 53, 15, 54, 17, 55, 19, 56, 21, 57, 23, 58, 25, 59, 27, 60, 29, 61, 31])]
noncomputable def cu_2711 : List CUT2 := []
theorem ch_2711 : staG tb_X11_image 1 bt_RX11 [] ct_2711 [] [] cu_2711 24 con_2711 = true := by decide +kernel
theorem cto_2711 (l : Launch) : CTOK2 l RX11 vwCl gTbl ct_2711 := ct2_cons (vl_2710 l) ck_RX11_408_2710 (ct2_cons (vl_2710 l) ck_RX11_408_2710 (ct2_cons (vl_2710 l) ck_RX11_408_2710 (ct2_nil)))
theorem vl_2711 (l : Launch) : Vld2 l vwCl gTbl con_2711 := conR_ok3 gT_all (hd_2711) rfl pn_RX11 tk_X11_image bo_RX11 xo_RX11 (cto_2711 l) ch_2711 cut_nil
