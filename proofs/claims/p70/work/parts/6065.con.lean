/-! ===== contracts, 65 ===== -/
/-- RookHustingModel layWinds -/
noncomputable def gi_2986 : GI := jl_n [gp_791, jl_i 0 1, jl_z 16, jl_i 1 29, jl_i 0 18, gp_887]
noncomputable def con_3135 : Con2 := ((yX12_layWinds, cX12_layWinds, 8, none), (8, 188), ([(6, 0, 0), (1, 1, 0), (0, 0, 0), (1, 3, 0)], gi_2738, hc_241, []), [((9, 0, 0), gi_2986, hq_968, [], tg_23)])
theorem hd_3135 : con_3135.1 = (yX12_layWinds, cX12_layWinds, 8, none) := rfl
noncomputable def ct_3135 : CTB2 := [(16, 345, 0, con_934, [0, 1, 2, 3, 4, 5, 6]), (48, 199, 1, con_420, []), (48, 199, 1, con_393, []), (101, 363, 0, con_1352, [0, 1, 7, 8, 5, 6, 9, 10, 11, 12]), (157, 375, 0, con_1377, [0, 1, 7])]
noncomputable def rf_3135 : List (Nat × List POP) := [(19, [(2, (2, 1, 2), 1, 0), (2, (2, 1, 2), 10, 0)]), (30, [(2, (1, 4, 0), 1, 0)]), (111, [(0, (0, 1, 0), 0, 20)])]
noncomputable def gi_2987 : GI := jl_n [gp_802, jl_z 39, jl_i 1 9, jl_i 0 9, gp_887]
noncomputable def ac_1416 : AC := .inl (12, jl_n [vp_152, vp_0, vp_153, vp_155])
noncomputable def hq_978 : HP := [(true, ac_1416), (false, ac_461), (true, am_8), (true, am_5), (true, am_7), (true, am_7), (true, am_1), (true, am_0), (true, am_0), (true, am_0), (true, am_13), (true, am_14), (true, am_15)]
noncomputable def gi_2988 : GI := jl_n [gp_800, jl_z 60, jl_i 0 10, gp_887]
noncomputable def ac_1417 : AC := .inl (12, jl_n [vp_152, vp_0, vp_153, jl_x (3, 10, 0), jl_4 120 2, jl_8 49 4])
noncomputable def hq_979 : HP := [(true, ac_1417), (false, ac_461), (true, am_8), (true, am_5), (true, am_7), (true, am_7), (true, am_1), (true, am_0), (true, am_0), (true, am_0), (true, am_13), (true, am_14), (true, am_15)]
noncomputable def gi_2989 : GI := jl_n [gp_798, jl_z 59, jl_i 1 9, jl_i 0 9, gp_887]
noncomputable def gi_2990 : GI := jl_n [gp_796, jl_z 60, jl_i 0 10, gp_887]
noncomputable def ac_1418 : AC := .inl (12, jl_n [vp_152, jl_c 1, vp_154, jl_x (3, 10, 0), jl_4 120 2, jl_8 49 4])
noncomputable def hq_980 : HP := [(true, ac_1418), (false, ac_461), (true, am_8), (true, am_5), (true, am_7), (true, am_7), (true, am_1), (true, am_0), (true, am_0), (true, am_0), (true, am_13), (true, am_14), (true, am_15)]
noncomputable def gi_2991 : GI := jl_n [gp_802, jl_z 39, jl_i 1 29, jl_i 0 18, gp_887]
noncomputable def ac_1419 : AC := .inl (12, jl_n [vp_152, jl_c 1, vp_156])
noncomputable def hq_981 : HP := [(true, ac_1419), (false, ac_461), (true, am_8), (true, am_5), (true, am_7), (true, am_7), (true, am_1), (true, am_0), (true, am_0), (true, am_0), (true, am_13), (true, am_14), (true, am_15)]
noncomputable def cu_3135 : List CUT2 := [((22, [lq 0 6 0, lq 1 1 1, lq 2 0 0, lq 3 1 3, lq 4 0 0], [], gi_2740, hq_969), [], ([], 8)), ((22, [lq 0 6 0, lq 1 1 1, lq 2 0 0, lq 3 1 3, lq 4 0 0], [], gi_2741, hq_969), [], ([], 8)), ((22, [lq 0 6 0, lq 1 1 1, lq 2 0 0, lq 3 1 3, lq 4 0 0], [], gi_2742, hq_969), [], ([], 8)), ((36, [lq 0 6 0, lq 1 1 1, lq 2 0 0, lq 3 1 3, lq 4 0 0, lq 5 3 1, lq 7 0 0], [], gi_2743, hq_969), [], ([], 7)), ((36, [lq 0 6 0, lq 1 1 1, lq 2 0 0, lq 3 1 3, lq 4 0 0, lq 5 3 1, lq 7 0 0], [], gi_2744, hq_969), [], ([], 7)), ((36, [lq 0 6 0, lq 1 1 1, lq 2 0 0, lq 3 1 3, lq 4 0 0, lq 5 3 1, lq 7 0 0], [], gi_2745, hq_969), [], ([], 7)), ((36, [lq 0 6 0, lq 1 1 1, lq 2 0 0, lq 3 1 3, lq 4 0 0, lq 5 3 0, lq 7 0 1], [], gi_2743, hq_969), [], ([], 6)), ((36, [lq 0 6 0, lq 1 1 1, lq 2 0 0, lq 3 1 3, lq 4 0 0, lq 5 4 77, lq 7 0 1], [], gi_2746, hq_969), [], ([], 6)), ((36, [lq 0 6 0, lq 1 1 1, lq 2 0 0, lq 3 1 3, lq 4 0 0, lq 5 3 10, lq 7 0 1], [], gi_2745, hq_969), [], ([], 6)), ((22, [lq 0 6 0, lq 1 1 1, lq 2 0 0, lq 3 1 3, lq 4 0 1, lq 5 3 0, lq 7 0 1], [], gi_2743, hq_969), [], ([], 5)), ((22, [lq 0 6 0, lq 1 1 1, lq 2 0 0, lq 3 1 3, lq 4 0 1, lq 5 4 77, lq 7 0 1], [], gi_2987, hq_978), [([(117, (-1))], 10)], ([], 5)), ((22, [lq 0 6 0, lq 1 1 1, lq 2 0 0, lq 3 1 3, lq 4 0 1, lq 5 3 10, lq 7 0 1], [], gi_2988, hq_979), [], ([], 5)), ((36, [lq 0 6 0, lq 1 1 1, lq 2 0 0, lq 3 1 3, lq 4 0 1, lq 5 3 1, lq 7 0 0], [], gi_2743, hq_969), [], ([], 4)), ((36, [lq 0 6 0, lq 1 1 1, lq 2 0 0, lq 3 1 3, lq 4 0 1, lq 5 3 1, lq 7 0 0], [], gi_2989, hq_978), [([(117, (-1))], 10)], ([], 4)), ((36, [lq 0 6 0, lq 1 1 1, lq 2 0 0, lq 3 1 3, lq 4 0 1, lq 5 3 1, lq 7 0 0], [], gi_2988, hq_979), [], ([], 4)), ((36, [lq 0 6 0, lq 1 1 1, lq 2 0 0, lq 3 1 3, lq 4 0 1, lq 5 3 10, lq 7 0 1], [], gi_2743, hq_969), [], ([], 3)), ((36, [lq 0 6 0, lq 1 1 1, lq 2 0 0, lq 3 1 3, lq 4 0 1, lq 5 4 77, lq 7 0 1], [], gi_2987, hq_978), [([(117, (-1))], 10)], ([], 3)), ((36, [lq 0 6 0, lq 1 1 1, lq 2 0 0, lq 3 1 3, lq 4 0 1, lq 5 3 0, lq 7 0 1], [], gi_2988, hq_979), [], ([], 3)), ((22, [lq 0 6 0, lq 1 1 1, lq 2 0 0, lq 3 1 3, lq 4 0 2, lq 5 3 10, lq 7 0 1], [], gi_2990, hq_980), [], ([], 2)), ((22, [lq 0 6 0, lq 1 1 1, lq 2 0 0, lq 3 1 3, lq 4 0 2, lq 5 4 77, lq 7 0 1], [], gi_2991, hq_981), [([(117, (-1))], 20)], ([], 2)), ((22, [lq 0 6 0, lq 1 1 1, lq 2 0 0, lq 3 1 3, lq 4 0 2, lq 5 3 0, lq 7 0 1], [], gi_2988, hq_979), [], ([], 2))]
theorem ch_3135 : staG tb_X12_layWinds 2 bt_RX12 [] ct_3135 rf_3135 [111] cu_3135 54 con_3135 = true := by decide +kernel
theorem cc_3135 : cu_3135.all (cutG tb_X12_layWinds 2 bt_RX12 [] ct_3135 rf_3135 [111] cu_3135 54 con_3135) = true := by decide +kernel
theorem cto_3135 (l : Launch) : CTOK2 l RX12 vwCl gTbl ct_3135 := ct2_cons (vl_934 l) ck_RX12_345_934 (ct2_cons (vl_420 l) ck_RX12_199_420 (ct2_cons (vl_393 l) ck_RX12_199_393 (ct2_cons (vl_1352 l) ck_RX12_363_1352 (ct2_cons (vl_1377 l) ck_RX12_375_1377 (ct2_nil)))))
theorem vl_3135 (l : Launch) : Vld2 l vwCl gTbl con_3135 := conR_ok3 gT_all (hd_3135) rfl pn_RX12 tk_X12_layWinds bo_RX12 xo_RX12 (cto_3135 l) ch_3135 (cut_all cc_3135)
/-- RookHustingModel chance -/
noncomputable def gi_2992 : GI := jl_n [gp_782, gp_888]
noncomputable def ac_1420 : AC := .inl (12, jl_n [vp_151, jl_1 23 1, jl_6 7 3, jl_1 30 4, vp_110, jl_8 43 7, jl_4 46 3, jl_8 50 4])
noncomputable def hc_242 : List AC := [ac_1420, ac_1398, am_8, am_5, am_7, am_7, am_1, am_0, am_0, am_0, am_13, am_14, am_15]
noncomputable def gi_2993 : GI := jl_n [gp_782, gp_888, jl_u, gp_788]
noncomputable def ac_1421 : AC := .inl (12, jl_n [vp_151, jl_1 92 1, jl_6 7 3, jl_1 99 4, vp_110, jl_8 43 7, jl_4 115 3, jl_8 50 4])
noncomputable def hq_982 : HP := [(true, ac_1421), (false, ac_1398), (true, am_8), (true, am_5), (true, am_7), (true, am_7), (true, am_1), (true, am_0), (true, am_0), (true, am_0), (true, am_13), (true, am_14), (true, am_15)]
noncomputable def con_3136 : Con2 := ((yX12_chance, cX12_chance, 5, (some .long)), (9, 215), ([(6, 0, 0), (1, 1, 0), (1, 2, 0), (1, 3, 0), (1, 4, 0)], gi_2992, hc_242, []), [((4, 73, 0), gi_2993, hq_982, [], tg_24)])
theorem hd_3136 : con_3136.1 = (yX12_chance, cX12_chance, 5, (some .long)) := rfl
theorem ck_RX12_319_3115 : COK2 RX12 vwCl gTbl 319 1 con_3115 := ⟨wd_1807, wd_137, mh_X12_part, .inl ⟨rfl, wd_1805, wd_1806, pd_X12_part⟩⟩
theorem ck_RX12_470_3135 : COK2 RX12 vwCl gTbl 470 0 con_3135 := ⟨wd_2113, wd_137, mh_X12_layWinds, .inr (.inr ⟨rfl, wd_2110, wd_2112, wd_121, ⟨_, rfl, pd_X12_layWinds⟩, 12, _, TX12, 45, rfl, rfl⟩)⟩
theorem ck_RX12_470_3134 : COK2 RX12 vwCl gTbl 470 0 con_3134 := ⟨wd_2113, wd_137, mh_X12_layWinds, .inr (.inr ⟨rfl, wd_2110, wd_2112, wd_121, ⟨_, rfl, pd_X12_layWinds⟩, 12, _, TX12, 45, rfl, rfl⟩)⟩
theorem ck_RX12_470_3133 : COK2 RX12 vwCl gTbl 470 0 con_3133 := ⟨wd_2113, wd_137, mh_X12_layWinds, .inr (.inr ⟨rfl, wd_2110, wd_2112, wd_121, ⟨_, rfl, pd_X12_layWinds⟩, 12, _, TX12, 45, rfl, rfl⟩)⟩
theorem ck_RX12_470_3132 : COK2 RX12 vwCl gTbl 470 0 con_3132 := ⟨wd_2113, wd_137, mh_X12_layWinds, .inr (.inr ⟨rfl, wd_2110, wd_2112, wd_121, ⟨_, rfl, pd_X12_layWinds⟩, 12, _, TX12, 45, rfl, rfl⟩)⟩
theorem ck_RX12_470_3131 : COK2 RX12 vwCl gTbl 470 0 con_3131 := ⟨wd_2113, wd_137, mh_X12_layWinds, .inr (.inr ⟨rfl, wd_2110, wd_2112, wd_121, ⟨_, rfl, pd_X12_layWinds⟩, 12, _, TX12, 45, rfl, rfl⟩)⟩
theorem ck_RX12_470_3130 : COK2 RX12 vwCl gTbl 470 0 con_3130 := ⟨wd_2113, wd_137, mh_X12_layWinds, .inr (.inr ⟨rfl, wd_2110, wd_2112, wd_121, ⟨_, rfl, pd_X12_layWinds⟩, 12, _, TX12, 45, rfl, rfl⟩)⟩
theorem ck_RX12_470_3123 : COK2 RX12 vwCl gTbl 470 0 con_3123 := ⟨wd_2113, wd_137, mh_X12_layWinds, .inr (.inr ⟨rfl, wd_2110, wd_2112, wd_121, ⟨_, rfl, pd_X12_layWinds⟩, 12, _, TX12, 45, rfl, rfl⟩)⟩
theorem ck_RX12_470_3113 : COK2 RX12 vwCl gTbl 470 0 con_3113 := ⟨wd_2113, wd_137, mh_X12_layWinds, .inr (.inr ⟨rfl, wd_2110, wd_2112, wd_121, ⟨_, rfl, pd_X12_layWinds⟩, 12, _, TX12, 45, rfl, rfl⟩)⟩
theorem ck_RX12_465_3098 : COK2 RX12 vwCl gTbl 465 0 con_3098 := ⟨wd_2107, wd_137, mh_X12_isWinds, .inr (.inr ⟨rfl, wd_2104, wd_2106, wd_120, ⟨_, rfl, pd_X12_isWinds⟩, 12, _, TX12, 45, rfl, rfl⟩)⟩
noncomputable def ct_3136 : CTB2 := [(3, 109, 0, con_651, [0, 1]), (15, 91, 1, con_594, []), (25, 465, 0, con_3098, [0, 1]), (39, 470, 0, con_3113, [0, 1, 2, 3, 4, 5, 6, 7, 8, 9, 10, 11, 12]), (39, 470, 0, con_3123, [0, 1, 2, 3, 4, 5, 6, 7, 8, 9, 10, 11, 12]), (39, 470, 0, con_3130, [0, 1, 2, 3, 4, 5, 6, 7, 8, 9, 10, 11, 12]), (39, 470, 0, con_3131, [0, 1, 2, 3, 4, 5, 6, 7, 8, 9, 10, 11, 12]), (39, 470, 0, con_3132, [0, 1, 2, 3, 4, 5, 6, 7, 8, 9, 10, 11, 12]), (39, 470, 0, con_3133, [0, 1, 2, 3, 4, 5, 6, 7, 8, 9, 10, 11, 12]), (39, 470, 0, con_3134, [0, 1, 2, 3, 4, 5, 6, 7, 8, 9, 10, 11, 12]), (39, 470, 0, con_3135, [0, 1, 2, 3, 4, 5, 6, 7, 8, 9, 10, 11, 12]), (52, 319, 1, con_3115, [])]
noncomputable def cu_3136 : List CUT2 := []
theorem ch_3136 : staG tb_X12_chance 1 bt_RX12 [] ct_3136 [(35, [(1, (1, 2, 0), 0, 0)])] [] cu_3136 30 con_3136 = true := by decide +kernel
theorem cto_3136 (l : Launch) : CTOK2 l RX12 vwCl gTbl ct_3136 := ct2_cons (vl_651 l) ck_RX12_109_651 (ct2_cons (vl_594 l) ck_RX12_91_594 (ct2_cons (vl_3098 l) ck_RX12_465_3098 (ct2_cons (vl_3113 l) ck_RX12_470_3113 (ct2_cons (vl_3123 l) ck_RX12_470_3123 (ct2_cons (vl_3130 l) ck_RX12_470_3130 (ct2_cons (vl_3131 l) ck_RX12_470_3131 (ct2_cons (vl_3132 l) ck_RX12_470_3132 (ct2_cons (vl_3133 l) ck_RX12_470_3133 (ct2_cons (vl_3134 l) ck_RX12_470_3134 (ct2_cons (vl_3135 l) ck_RX12_470_3135 (ct2_cons (vl_3115 l) ck_RX12_319_3115 (ct2_nil))))))))))))
theorem vl_3136 (l : Launch) : Vld2 l vwCl gTbl con_3136 := conR_ok3 gT_all (hd_3136) rfl pn_RX12 tk_X12_chance bo_RX12 xo_RX12 (cto_3136 l) ch_3136 cut_nil
/-- RookHusting$Harvest sumOf -/
noncomputable def gi_2994 : GI := jl_n [jl_z 2, jl_i 1 8, gp_244]
noncomputable def gi_2995 : GI := jl_n [jl_z 2, jl_i 1 8, gp_245, gp_7]
noncomputable def con_3137 : Con2 := ((yX3_sumOf, cX3_sumOf, 5, (some .int)), (0, 0), ([(6, 0, 0), (6, 1, 0), (1, 2, 0)], gi_2994, [ac_639, am_0], []), [((1, 12, 0), gi_2995, hq_578, [], [1])])
theorem hd_3137 : con_3137.1 = (yX3_sumOf, cX3_sumOf, 5, (some .int)) := rfl
noncomputable def gi_2996 : GI := jl_n [jl_z 2, jl_i 1 8, gp_245, gp_365]
noncomputable def cu_3137 : List CUT2 := [((5, [lq 0 6 0, lq 1 6 1, lq 2 1 2, lq 3 1 15, lq 4 1 16], [], gi_2996, hq_578), [], ([(16, (-1))], 5))]
theorem ch_3137 : staG tb_X3_sumOf 1 bt_RX3 [] ct_873 [] [] cu_3137 19 con_3137 = true := by decide +kernel
theorem cc_3137 : cu_3137.all (cutG tb_X3_sumOf 1 bt_RX3 [] ct_873 [] [] cu_3137 19 con_3137) = true := by decide +kernel
theorem vl_3137 (l : Launch) : Vld2 l vwCl gTbl con_3137 := conR_ok3 gT_all (hd_3137) rfl pn_RX3 tk_X3_sumOf bo_RX3 xo_RX3 (cto_873 l) ch_3137 (cut_all cc_3137)
/-- RookHusting mean -/
noncomputable def gi_2997 : GI := jl_n [gp_363, gp_787]
noncomputable def ac_1422 : AC := .inl (4, jl_n [jl_8 22 1, jl_1 26 4, vp_93, vp_74, jl_8 37 2, jl_6 10 1])
noncomputable def hc_243 : List AC := [ac_1374, .inl (9, [(6, 2, 0), (6, 11, 0)]), ac_1422, .inl (7, [(6, 4, 0), (6, 5, 0), (6, 6, 0), (1, 41, 0)]), am_7, am_1, am_1, am_1, .inl (1, [(6, 2, 0), (8, 43, 0)]), am_4, am_6, .inl (0, [(1, 44, 0), (6, 12, 0), (6, 13, 0), (6, 14, 0)]), ac_642, am_11, ac_643, ac_1059, am_2, am_0, am_10, am_0, am_1, am_0, am_2, am_9, am_0, am_0, am_12, .inl (7, [(6, 28, 0), (6, 29, 0), (6, 30, 0), (1, 120, 0)]), am_7, am_1, am_1, ac_1376, am_0, am_0, am_1, am_0, am_0, am_0, am_12]
noncomputable def gi_2998 : GI := jl_n [gp_363, gp_787, jl_u, gp_276, gp_410]
noncomputable def hq_983 : HP := [(true, ac_1377), (false, .inl (9, [(6, 2, 0), (6, 11, 0)])), (false, ac_1422), (true, .inl (7, [(6, 4, 0), (6, 5, 0), (6, 6, 0), (1, 150, 0)])), (true, am_7), (true, am_1), (true, am_1), (false, am_1), (false, .inl (1, [(6, 2, 0), (8, 43, 0)])), (false, am_4), (false, am_6), (false, .inl (0, [(1, 44, 0), (6, 12, 0), (6, 13, 0), (6, 14, 0)])), (false, ac_642), (false, am_11), (false, ac_643), (true, ac_1378), (false, am_2), (true, am_0), (false, am_10), (true, am_0), (true, am_1), (true, am_0), (false, am_2), (false, am_9), (true, am_0), (true, am_0), (true, am_12), (true, .inl (7, [(6, 28, 0), (6, 29, 0), (6, 30, 0), (1, 163, 0)])), (true, am_7), (true, am_1), (true, am_1), (true, ac_1379), (true, am_0), (true, am_0), (true, am_1), (true, am_0), (true, am_0), (true, am_0), (true, am_12)]
noncomputable def con_3138 : Con2 := ((yX11_mean, cX11_mean, 7, (some .long)), (6, 151), ([(6, 0, 0), (1, 1, 0), (1, 2, 0)], gi_2997, hc_243, rq_6), [((4, 130, 0), gi_2998, hq_983, [], tg_22)])
theorem hd_3138 : con_3138.1 = (yX11_mean, cX11_mean, 7, (some .long)) := rfl
theorem ck_RX11_300_3137 : COK2 RX11 vwCl gTbl 300 0 con_3137 := ⟨wd_1055, wd_134, mh_X3_sumOf, .inr (.inr ⟨rfl, wd_1052, wd_1053, wd_1054, ⟨_, rfl, pd_X3_sumOf⟩, 3, _, TX3, 9, rfl, rfl⟩)⟩
noncomputable def ct_3138 : CTB2 := [(2, 364, 0, con_2817, [0, 1, 2]), (9, 143, 1, con_648, []), (20, 208, 0, con_929, [0, 1, 3, 2, 4, 5, 6, 7, 8, 9, 10, 11, 12, 13, 14, 15, 16, 17, 18, 19, 20, 21, 22, 23, 24, 25, 26]), (31, 332, 0, con_1456, [27, 3, 28, 4, 29, 5, 30, 6]), (77, 372, 0, con_2826, [31, 2, 27, 16, 32, 18, 33, 29, 34, 28, 35, 22, 23, 36, 37, 38, 30]), (86, 376, 0, con_3096, [0, 1, 2]), (101, 300, 0, con_3137, [31, 33]), (118, 380, 1, con_2851, []), (122, 247, 1, con_2853, [])]
noncomputable def gi_2999 : GI := jl_n [gp_225, jl_i 0 1, gp_269, gp_118, jl_i 0 5, gp_786, jl_z 4, jl_u, jl_i 0 256, gp_781]
noncomputable def hq_984 : HP := [(true, ac_1380), (false, .inl (9, [(6, 2, 0), (6, 11, 0)])), (false, ac_1422), (true, .inl (7, [(6, 4, 0), (6, 5, 0), (6, 6, 0), (1, 155, 0)])), (true, am_7), (true, am_1), (true, am_1), (false, am_1), (false, .inl (1, [(6, 2, 0), (8, 43, 0)])), (false, am_4), (false, am_6), (false, .inl (0, [(1, 44, 0), (6, 12, 0), (6, 13, 0), (6, 14, 0)])), (false, ac_642), (false, am_11), (false, ac_643), (true, ac_1383), (false, am_2), (true, am_0), (false, am_10), (true, am_0), (true, am_1), (true, am_0), (false, am_2), (false, am_9), (true, am_0), (true, am_0), (true, am_12), (true, .inl (7, [(6, 28, 0), (6, 29, 0), (6, 30, 0), (1, 168, 0)])), (true, am_7), (true, am_1), (true, am_1), (true, ac_1384), (true, am_0), (true, am_0), (true, am_1), (true, am_0), (true, am_0), (true, am_0), (true, am_12)]
noncomputable def cu_3138 : List CUT2 := [((44, [lq 0 6 0, lq 1 1 1, lq 2 1 2, (3, (1, 1, 1)), lq 4 4 134, lq 6 1 135], [], gi_2999, hq_984), rq_6, ([(135, (-1))], 256))]
theorem ch_3138 : staG tb_X11_mean 1 bt_RX11 [] ct_3138 [] [] cu_3138 39 con_3138 = true := by decide +kernel
theorem cc_3138 : cu_3138.all (cutG tb_X11_mean 1 bt_RX11 [] ct_3138 [] [] cu_3138 39 con_3138) = true := by decide +kernel
theorem cto_3138 (l : Launch) : CTOK2 l RX11 vwCl gTbl ct_3138 := ct2_cons (vl_2817 l) ck_RX11_364_2817 (ct2_cons (vl_648 l) ck_RX11_143_648 (ct2_cons (vl_929 l) ck_RX11_208_929 (ct2_cons (vl_1456 l) ck_RX11_332_1456 (ct2_cons (vl_2826 l) ck_RX11_372_2826 (ct2_cons (vl_3096 l) ck_RX11_376_3096 (ct2_cons (vl_3137 l) ck_RX11_300_3137 (ct2_cons (vl_2851 l) ck_RX11_380_2851 (ct2_cons (vl_2853 l) ck_RX11_247_2853 (ct2_nil)))))))))
theorem vl_3138 (l : Launch) : Vld2 l vwCl gTbl con_3138 := conR_ok3 gT_all (hd_3138) rfl pn_RX11 tk_X11_mean bo_RX11 xo_RX11 (cto_3138 l) ch_3138 (cut_all cc_3138)
/-- RookHustingModel mean -/
noncomputable def gi_3000 : GI := jl_n [gp_163, gp_888]
noncomputable def ac_1423 : AC := .inl (12, jl_n [vp_49, jl_6 7 3, jl_1 28 4, vp_110, jl_8 41 7, jl_4 44 3, jl_8 48 4])
noncomputable def hc_244 : List AC := [ac_1423, ac_440, am_8, am_5, am_7, am_7, am_1, am_0, am_0, am_0, am_13, am_14, am_15]
noncomputable def gi_3001 : GI := jl_n [gp_163, gp_888, jl_u, gp_788]
noncomputable def ac_1424 : AC := .inl (12, jl_n [vp_50, vp_139, vp_110, jl_8 41 7, jl_4 113 3, jl_8 48 4])
noncomputable def hq_985 : HP := [(true, ac_1424), (false, ac_440), (true, am_8), (true, am_5), (true, am_7), (true, am_7), (true, am_1), (true, am_0), (true, am_0), (true, am_0), (true, am_13), (true, am_14), (true, am_15)]
noncomputable def con_3139 : Con2 := ((yX12_mean, cX12_mean, 3, (some .long)), (9, 215), ([(6, 0, 0), (1, 1, 0), (1, 2, 0)], gi_3000, hc_244, []), [((4, 71, 0), gi_3001, hq_985, [], tg_24)])
theorem hd_3139 : con_3139.1 = (yX12_mean, cX12_mean, 3, (some .long)) := rfl
noncomputable def ct_3139 : CTB2 := [(3, 465, 0, con_3098, [0, 1]), (17, 470, 0, con_3113, [0, 1, 2, 3, 4, 5, 6, 7, 8, 9, 10, 11, 12]), (17, 470, 0, con_3123, [0, 1, 2, 3, 4, 5, 6, 7, 8, 9, 10, 11, 12]), (17, 470, 0, con_3130, [0, 1, 2, 3, 4, 5, 6, 7, 8, 9, 10, 11, 12]), (17, 470, 0, con_3131, [0, 1, 2, 3, 4, 5, 6, 7, 8, 9, 10, 11, 12]), (17, 470, 0, con_3132, [0, 1, 2, 3, 4, 5, 6, 7, 8, 9, 10, 11, 12]), (17, 470, 0, con_3133, [0, 1, 2, 3, 4, 5, 6, 7, 8, 9, 10, 11, 12]), (17, 470, 0, con_3134, [0, 1, 2, 3, 4, 5, 6, 7, 8, 9, 10, 11, 12]), (17, 470, 0, con_3135, [0, 1, 2, 3, 4, 5, 6, 7, 8, 9, 10, 11, 12]), (29, 319, 1, con_3115, [])]
noncomputable def cu_3139 : List CUT2 := []
theorem ch_3139 : staG tb_X12_mean 1 bt_RX12 [] ct_3139 [(13, [(1, (1, 1, 0), 0, 0)])] [] cu_3139 19 con_3139 = true := by decide +kernel
theorem cto_3139 (l : Launch) : CTOK2 l RX12 vwCl gTbl ct_3139 := ct2_cons (vl_3098 l) ck_RX12_465_3098 (ct2_cons (vl_3113 l) ck_RX12_470_3113 (ct2_cons (vl_3123 l) ck_RX12_470_3123 (ct2_cons (vl_3130 l) ck_RX12_470_3130 (ct2_cons (vl_3131 l) ck_RX12_470_3131 (ct2_cons (vl_3132 l) ck_RX12_470_3132 (ct2_cons (vl_3133 l) ck_RX12_470_3133 (ct2_cons (vl_3134 l) ck_RX12_470_3134 (ct2_cons (vl_3135 l) ck_RX12_470_3135 (ct2_cons (vl_3115 l) ck_RX12_319_3115 (ct2_nil))))))))))
theorem vl_3139 (l : Launch) : Vld2 l vwCl gTbl con_3139 := conR_ok3 gT_all (hd_3139) rfl pn_RX12 tk_X12_mean bo_RX12 xo_RX12 (cto_3139 l) ch_3139 cut_nil
/-- RookHusting isMan -/
noncomputable def gi_3002 : GI := jl_n [gp_380, gp_177]
noncomputable def gi_3003 : GI := jl_n [gp_380, jl_z 24, gp_178]
noncomputable def con_3140 : Con2 := ((yX11_isMan, cX11_isMan, 2, (some .boolean)), (0, 0), ([(6, 0, 0), (1, 1, 0)], gi_3002, [ac_431, .inl (9, [(6, 2, 0), (8, 19, 0)]), ac_444], []), [((0, 0, 0), gi_3003, hq_449, [], [1]), ((0, 1, 0), gi_313, hq_449, [], [1])])
theorem hd_3140 : con_3140.1 = (yX11_isMan, cX11_isMan, 2, (some .boolean)) := rfl
noncomputable def cu_3140 : List CUT2 := []
theorem ch_3140 : staG tb_X11_isMan 1 bt_RX11 [] ct_3 [] [] cu_3140 13 con_3140 = true := by decide +kernel
theorem vl_3140 (l : Launch) : Vld2 l vwCl gTbl con_3140 := conR_ok3 gT_all (hd_3140) rfl pn_RX11 tk_X11_isMan bo_RX11 xo_RX11 (cto_3 l) ch_3140 cut_nil
/-- RookHusting$Acts add -/
noncomputable def gi_3004 : GI := jl_n [jl_z 2, jl_r 2 (jl_i 0 4), gp_261]
noncomputable def ac_1425 : AC := .inr (1, jl_n [js_1 38 30])
noncomputable def ac_1426 : AC := .inr (1, jl_n [js_1 68 30])
noncomputable def hc_245 : List AC := [.inl (0, [(1, 4, 0), (6, 1, 0), (6, 2, 0), (6, 3, 0)]), ac_1425, am_11, ac_1426]
noncomputable def rq_11 : RLs := [([(8, 12), (38, (-1))], 4), ([(9, 12), (39, (-1))], 4), ([(10, 12), (40, (-1))], 4), ([(11, 12), (41, (-1))], 4), ([(12, 12), (42, (-1))], 4), ([(13, 12), (43, (-1))], 4), ([(14, 12), (44, (-1))], 4), ([(15, 12), (45, (-1))], 4), ([(16, 12), (46, (-1))], 4), ([(17, 12), (47, (-1))], 4), ([(18, 12), (48, (-1))], 4), ([(19, 12), (49, (-1))], 4), ([(20, 12), (50, (-1))], 4), ([(21, 12), (51, (-1))], 4), ([(22, 12), (52, (-1))], 4), ([(23, 12), (53, (-1))], 4), ([(24, 12), (54, (-1))], 4), ([(25, 12), (55, (-1))], 4), ([(26, 12), (56, (-1))], 4), ([(27, 12), (57, (-1))], 4), ([(28, 12), (58, (-1))], 4), ([(29, 12), (59, (-1))], 4), ([(30, 12), (60, (-1))], 4), ([(31, 12), (61, (-1))], 4), ([(32, 12), (62, (-1))], 4), ([(33, 12), (63, (-1))], 4), ([(34, 12), (64, (-1))], 4), ([(35, 12), (65, (-1))], 4), ([(36, 12), (66, (-1))], 4), ([(37, 12), (67, (-1))], 4)]
noncomputable def gi_3005 : GI := jl_n [jl_z 2, jl_r 2 (jl_i 0 4), gp_261, jl_i 1 30, jl_z 3, gp_241]
noncomputable def ac_1427 : AC := .inr (1, jl_n [js_1 102 30])
noncomputable def ac_1428 : AC := .inr (1, jl_n [js_1 132 30])
noncomputable def hq_986 : HP := [(true, .inl (0, [(1, 68, 0), (6, 1, 0), (6, 2, 0), (6, 3, 0)])), (true, ac_1427), (true, am_11), (true, ac_1428)]
noncomputable def rq_12 : RLs := [([(72, 12), (102, (-1))], 4), ([(73, 12), (103, (-1))], 4), ([(74, 12), (104, (-1))], 4), ([(75, 12), (105, (-1))], 4), ([(76, 12), (106, (-1))], 4), ([(77, 12), (107, (-1))], 4), ([(78, 12), (108, (-1))], 4), ([(79, 12), (109, (-1))], 4), ([(80, 12), (110, (-1))], 4), ([(81, 12), (111, (-1))], 4), ([(82, 12), (112, (-1))], 4), ([(83, 12), (113, (-1))], 4), ([(84, 12), (114, (-1))], 4), ([(85, 12), (115, (-1))], 4), ([(86, 12), (116, (-1))], 4), ([(87, 12), (117, (-1))], 4), ([(88, 12), (118, (-1))], 4), ([(89, 12), (119, (-1))], 4), ([(90, 12), (120, (-1))], 4), ([(91, 12), (121, (-1))], 4), ([(92, 12), (122, (-1))], 4), ([(93, 12), (123, (-1))], 4), ([(94, 12), (124, (-1))], 4), ([(95, 12), (125, (-1))], 4), ([(96, 12), (126, (-1))], 4), ([(97, 12), (127, (-1))], 4), ([(98, 12), (128, (-1))], 4), ([(99, 12), (129, (-1))], 4), ([(100, 12), (130, (-1))], 4), ([(101, 12), (131, (-1))], 4)]
noncomputable def con_3141 : Con2 := ((yX0_add, cX0_add, 4, none), (0, 0), ([(6, 0, 0), (0, 0, 0), (1, 2, 0), (1, 3, 0)], gi_3004, hc_245, rq_11), [((9, 0, 0), gi_3005, hq_986, rq_12, tg_25)])
theorem hd_3141 : con_3141.1 = (yX0_add, cX0_add, 4, none) := rfl
noncomputable def cu_3141 : List CUT2 := []
theorem ch_3141 : staG tb_X0_add 1 bt_RX0 [] ct_1484 [(0, [(1, (2, 0, 0), 0, 0)])] [] cu_3141 31 con_3141 = true := by decide +kernel
theorem vl_3141 (l : Launch) : Vld2 l vwCl gTbl con_3141 := conR_ok3 gT_all (hd_3141) rfl pn_RX0 tk_X0_add bo_RX0 xo_RX0 (cto_1484 l) ch_3141 cut_nil
/-- RookHusting isMan -/
noncomputable def gi_3006 : GI := jl_n [gp_889, gp_177]
noncomputable def gi_3007 : GI := jl_n [gp_889, jl_z 24, gp_178]
noncomputable def con_3142 : Con2 := ((yX11_isMan, cX11_isMan, 2, (some .boolean)), (0, 0), ([(6, 0, 0), (1, 1, 0)], gi_3006, [ac_431, .inl (9, [(6, 2, 0), (8, 19, 0)]), ac_444], []), [((0, 0, 0), gi_3007, hq_449, [], [1])])
theorem hd_3142 : con_3142.1 = (yX11_isMan, cX11_isMan, 2, (some .boolean)) := rfl
noncomputable def cu_3142 : List CUT2 := []
theorem ch_3142 : staG tb_X11_isMan 1 bt_RX11 [] ct_3 [] [] cu_3142 6 con_3142 = true := by decide +kernel
theorem vl_3142 (l : Launch) : Vld2 l vwCl gTbl con_3142 := conR_ok3 gT_all (hd_3142) rfl pn_RX11 tk_X11_isMan bo_RX11 xo_RX11 (cto_3 l) ch_3142 cut_nil
/-- RookHusting$Acts add -/
noncomputable def gi_3008 : GI := jl_n [gp_23, jl_z 1, gp_261]
noncomputable def gi_3009 : GI := jl_n [gp_23, jl_z 1, gp_261, jl_i 1 30, jl_z 3, gp_241]
noncomputable def con_3143 : Con2 := ((yX0_add, cX0_add, 4, none), (0, 0), ([(6, 0, 0), (0, 0, 0), (1, 2, 0), (0, (-1), 0)], gi_3008, hc_245, rq_11), [((9, 0, 0), gi_3009, hq_986, rq_12, tg_25)])
theorem hd_3143 : con_3143.1 = (yX0_add, cX0_add, 4, none) := rfl
noncomputable def cu_3143 : List CUT2 := []
theorem ch_3143 : staG tb_X0_add 1 bt_RX0 [] ct_1484 [(0, [(1, (2, 0, 0), 0, 0)])] [] cu_3143 31 con_3143 = true := by decide +kernel
theorem vl_3143 (l : Launch) : Vld2 l vwCl gTbl con_3143 := conR_ok3 gT_all (hd_3143) rfl pn_RX0 tk_X0_add bo_RX0 xo_RX0 (cto_1484 l) ch_3143 cut_nil
/-- RookHusting puts -/
noncomputable def gi_3010 : GI := jl_n [gp_891, jl_i 0 30, jl_z 6, gp_272, gp_241, gp_251, jl_z 4, gp_74]
noncomputable def ac_1429 : AC := .inl (11, jl_n [vp_56, jl_6 10 1, jl_6 5 1, vp_138, jl_8 13 1, jl_6 28 1, jl_8 16 2, jl_1 18 2, jl_8 19 1])
noncomputable def ac_1430 : AC := .inl (4, jl_n [vp_121, vp_73, vp_95, jl_8 37 2, jl_6 11 1])
noncomputable def ac_1431 : AC := .inl (5, jl_n [jl_8 121 4, jl_1 122 1, jl_6 3 1, jl_8 125 2])
noncomputable def hc_246 : List AC := [ac_1429, .inl (9, [(6, 2, 0), (6, 3, 0)]), ac_1430, .inl (0, [(1, 38, 0), (6, 12, 0), (6, 13, 0), (6, 14, 0)]), .inl (7, [(6, 5, 0), (6, 6, 0), (6, 7, 0), (1, 45, 0)]), am_7, am_1, am_1, am_1, .inl (1, [(6, 2, 0), (8, 47, 0)]), am_4, am_6, ac_642, am_11, ac_643, ac_1059, am_2, am_0, am_10, am_0, am_1, am_0, am_2, am_9, am_0, am_0, am_12, ac_1431]
noncomputable def gi_3011 : GI := jl_n [gp_891, jl_i 0 30, jl_z 6, gp_272, gp_241, gp_251, jl_z 4, gp_74, jl_m 4 4, gp_892, jl_i 0 30, jl_z 6, jl_t, gp_241, gp_251, jl_z 4, gp_74]
noncomputable def ac_1432 : AC := .inl (11, jl_n [vp_56, jl_6 10 1, jl_6 5 1, vp_138, jl_8 13 1, jl_6 28 1, jl_8 16 2, jl_1 141 2, jl_8 19 1])
noncomputable def ac_1433 : AC := .inr (1, jl_n [js_1 180 30])
noncomputable def ac_1434 : AC := .inr (1, jl_n [js_1 210 30])
noncomputable def ac_1435 : AC := .inl (3, jl_n [vp_77, jl_1 219 2])
noncomputable def ac_1436 : AC := .inl (5, jl_n [jl_8 121 4, jl_1 224 1, jl_6 3 1, jl_8 125 2])
noncomputable def hq_987 : HP := [(true, ac_1432), (false, .inl (9, [(6, 2, 0), (6, 3, 0)])), (false, ac_1430), (true, .inl (0, [(1, 142, 0), (6, 12, 0), (6, 13, 0), (6, 14, 0)])), (true, .inl (7, [(6, 5, 0), (6, 6, 0), (6, 7, 0), (1, 149, 0)])), (true, am_7), (true, am_1), (true, am_1), (false, am_1), (false, .inl (1, [(6, 2, 0), (8, 47, 0)])), (false, am_4), (false, am_6), (true, ac_1433), (true, am_11), (true, ac_1434), (true, ac_1435), (false, am_2), (true, am_0), (false, am_10), (true, am_0), (true, am_1), (true, am_0), (false, am_2), (false, am_9), (true, am_0), (true, am_0), (true, am_12), (true, ac_1436)]
noncomputable def rq_13 : RLs := [([(150, 12), (180, (-1))], 4), ([(151, 12), (181, (-1))], 4), ([(152, 12), (182, (-1))], 4), ([(153, 12), (183, (-1))], 4), ([(154, 12), (184, (-1))], 4), ([(155, 12), (185, (-1))], 4), ([(156, 12), (186, (-1))], 4), ([(157, 12), (187, (-1))], 4), ([(158, 12), (188, (-1))], 4), ([(159, 12), (189, (-1))], 4), ([(160, 12), (190, (-1))], 4), ([(161, 12), (191, (-1))], 4), ([(162, 12), (192, (-1))], 4), ([(163, 12), (193, (-1))], 4), ([(164, 12), (194, (-1))], 4), ([(165, 12), (195, (-1))], 4), ([(166, 12), (196, (-1))], 4), ([(167, 12), (197, (-1))], 4), ([(168, 12), (198, (-1))], 4), ([(169, 12), (199, (-1))], 4), ([(170, 12), (200, (-1))], 4), ([(171, 12), (201, (-1))], 4), ([(172, 12), (202, (-1))], 4), ([(173, 12), (203, (-1))], 4), ([(174, 12), (204, (-1))], 4), ([(175, 12), (205, (-1))], 4), ([(176, 12), (206, (-1))], 4), ([(177, 12), (207, (-1))], 4), ([(178, 12), (208, (-1))], 4), ([(179, 12), (209, (-1))], 4)]
noncomputable def con_3144 : Con2 := ((yX11_puts, cX11_puts, 4, (some .int)), (6, 151), ([(6, 0, 0), (1, 1, 0), (1, 2, 0)], gi_3010, hc_246, rq_6), [((1, 125, 0), gi_3011, hq_987, rq_13, tg_26)])
theorem hd_3144 : con_3144.1 = (yX11_puts, cX11_puts, 4, (some .int)) := rfl
theorem ck_RX11_395_3143 : COK2 RX11 vwCl gTbl 395 0 con_3143 := ⟨wd_1323, wd_130, mh_X0_add, .inr (.inr ⟨rfl, wd_1320, wd_1321, wd_1322, ⟨_, rfl, pd_X0_add⟩, 0, _, TX0, 4, rfl, rfl⟩)⟩
theorem ck_RX11_395_3141 : COK2 RX11 vwCl gTbl 395 0 con_3141 := ⟨wd_1323, wd_130, mh_X0_add, .inr (.inr ⟨rfl, wd_1320, wd_1321, wd_1322, ⟨_, rfl, pd_X0_add⟩, 0, _, TX0, 4, rfl, rfl⟩)⟩
theorem ck_RX11_156_3142 : COK2 RX11 vwCl gTbl 156 0 con_3142 := ⟨wd_771, wd_125, mh_X11_isMan, .inr (.inr ⟨rfl, wd_768, wd_770, wd_12, ⟨_, rfl, pd_X11_isMan⟩, 11, _, TX11, 16, rfl, rfl⟩)⟩
theorem ck_RX11_156_3140 : COK2 RX11 vwCl gTbl 156 0 con_3140 := ⟨wd_771, wd_125, mh_X11_isMan, .inr (.inr ⟨rfl, wd_768, wd_770, wd_12, ⟨_, rfl, pd_X11_isMan⟩, 11, _, TX11, 16, rfl, rfl⟩)⟩
noncomputable def ct_3144 : CTB2 := [(2, 139, 0, con_647, [0, 1, 2]), (15, 156, 0, con_3140, [0, 1, 2]), (15, 156, 0, con_3142, [0, 1, 2]), (43, 208, 0, con_929, [0, 1, 4, 2, 5, 6, 7, 8, 9, 10, 11, 3, 12, 13, 14, 15, 16, 17, 18, 19, 20, 21, 22, 23, 24, 25, 26]), (66, 395, 0, con_3141, [3, 12, 13, 14]), (66, 395, 0, con_3143, [3, 12, 13, 14]), (70, 130, 0, con_312, [0, 27])]
noncomputable def cu_3144 : List CUT2 := []
theorem ch_3144 : staG tb_X11_puts 1 bt_RX11 [] ct_3144 [] [] cu_3144 38 con_3144 = true := by decide +kernel
theorem cto_3144 (l : Launch) : CTOK2 l RX11 vwCl gTbl ct_3144 := ct2_cons (vl_647 l) ck_RX11_139_647 (ct2_cons (vl_3140 l) ck_RX11_156_3140 (ct2_cons (vl_3142 l) ck_RX11_156_3142 (ct2_cons (vl_929 l) ck_RX11_208_929 (ct2_cons (vl_3141 l) ck_RX11_395_3141 (ct2_cons (vl_3143 l) ck_RX11_395_3143 (ct2_cons (vl_312 l) ck_RX11_130_312 (ct2_nil)))))))
theorem vl_3144 (l : Launch) : Vld2 l vwCl gTbl con_3144 := conR_ok3 gT_all (hd_3144) rfl pn_RX11 tk_X11_puts bo_RX11 xo_RX11 (cto_3144 l) ch_3144 cut_nil
/-- RookHustingModel isMan -/
noncomputable def gi_3012 : GI := jl_n [gp_380, gp_165]
noncomputable def gi_3013 : GI := jl_n [gp_380, gp_166]
noncomputable def con_3145 : Con2 := ((yX12_isMan, cX12_isMan, 2, (some .boolean)), (1, 25), ([(6, 0, 0), (1, 1, 0)], gi_3012, [ac_437, ac_438], []), [((0, 0, 0), gi_3013, [(false, ac_437), (false, ac_438)], [], [1]), ((0, 1, 0), gi_318, [(false, ac_437), (false, ac_438)], [], [1])])
theorem hd_3145 : con_3145.1 = (yX12_isMan, cX12_isMan, 2, (some .boolean)) := rfl
noncomputable def cu_3145 : List CUT2 := []
theorem ch_3145 : staG tb_X12_isMan 1 bt_RX12 [] ct_660 [] [] cu_3145 12 con_3145 = true := by decide +kernel
theorem vl_3145 (l : Launch) : Vld2 l vwCl gTbl con_3145 := conR_ok3 gT_all (hd_3145) rfl pn_RX12 tk_X12_isMan bo_RX12 xo_RX12 (cto_660 l) ch_3145 cut_nil
/-- RookHustingModel keepAct -/
noncomputable def gi_3014 : GI := jl_n [jl_z 1, jl_i 50 54, gp_165]
noncomputable def gi_3015 : GI := jl_n [jl_z 1, jl_i 50 54, gp_893]
noncomputable def gi_3016 : GI := jl_n [jl_z 1, jl_i 50 54, gp_894]
noncomputable def ac_1437 : AC := .inr (1, jl_n [js_1 54 7, jl_x (1, (1, 54, 1)), js_1 56 1, sp_124])
noncomputable def con_3146 : Con2 := ((yX12_keepAct, cX12_keepAct, 2, (some .boolean)), (0, 0), ([(6, 0, 0), (1, 1, 0)], gi_3014, [ac_437, ac_438], []), [((0, 0, 0), gi_3015, [(false, ac_437), (false, ac_438)], [], [1]), ((0, 1, 0), gi_3016, [(false, ac_437), (true, ac_1437)], [], tg_8)])
theorem hd_3146 : con_3146.1 = (yX12_keepAct, cX12_keepAct, 2, (some .boolean)) := rfl
noncomputable def cu_3146 : List CUT2 := []
theorem ch_3146 : staG tb_X12_keepAct 1 bt_RX12 [] ct_2 [] [] cu_3146 28 con_3146 = true := by decide +kernel
theorem vl_3146 (l : Launch) : Vld2 l vwCl gTbl con_3146 := conR_ok3 gT_all (hd_3146) rfl pn_RX12 tk_X12_keepAct bo_RX12 xo_RX12 (cto_2 l) ch_3146 cut_nil
/-- RookHustingModel keepAct -/
noncomputable def gi_3017 : GI := jl_n [jl_z 1, jl_i 40 44, gp_165]
noncomputable def gi_3018 : GI := jl_n [jl_z 1, jl_i 40 44, gp_893]
noncomputable def gi_3019 : GI := jl_n [jl_z 1, jl_i 40 44, gp_894]
noncomputable def con_3147 : Con2 := ((yX12_keepAct, cX12_keepAct, 2, (some .boolean)), (0, 0), ([(6, 0, 0), (1, 1, 0)], gi_3017, [ac_437, ac_438], []), [((0, 0, 0), gi_3018, [(false, ac_437), (false, ac_438)], [], [1]), ((0, 1, 0), gi_3019, [(false, ac_437), (true, ac_1437)], [], tg_8)])
theorem hd_3147 : con_3147.1 = (yX12_keepAct, cX12_keepAct, 2, (some .boolean)) := rfl
noncomputable def cu_3147 : List CUT2 := []
theorem ch_3147 : staG tb_X12_keepAct 1 bt_RX12 [] ct_2 [] [] cu_3147 28 con_3147 = true := by decide +kernel
theorem vl_3147 (l : Launch) : Vld2 l vwCl gTbl con_3147 := conR_ok3 gT_all (hd_3147) rfl pn_RX12 tk_X12_keepAct bo_RX12 xo_RX12 (cto_2 l) ch_3147 cut_nil
/-- RookHustingModel keepAct -/
noncomputable def gi_3020 : GI := jl_n [jl_z 1, jl_i 30 34, gp_165]
noncomputable def gi_3021 : GI := jl_n [jl_z 1, jl_i 30 34, gp_893]
noncomputable def gi_3022 : GI := jl_n [jl_z 1, jl_i 30 34, gp_894]
noncomputable def con_3148 : Con2 := ((yX12_keepAct, cX12_keepAct, 2, (some .boolean)), (0, 0), ([(6, 0, 0), (1, 1, 0)], gi_3020, [ac_437, ac_438], []), [((0, 0, 0), gi_3021, [(false, ac_437), (false, ac_438)], [], [1]), ((0, 1, 0), gi_3022, [(false, ac_437), (true, ac_1437)], [], tg_8)])
theorem hd_3148 : con_3148.1 = (yX12_keepAct, cX12_keepAct, 2, (some .boolean)) := rfl
noncomputable def cu_3148 : List CUT2 := []
theorem ch_3148 : staG tb_X12_keepAct 1 bt_RX12 [] ct_2 [] [] cu_3148 28 con_3148 = true := by decide +kernel
theorem vl_3148 (l : Launch) : Vld2 l vwCl gTbl con_3148 := conR_ok3 gT_all (hd_3148) rfl pn_RX12 tk_X12_keepAct bo_RX12 xo_RX12 (cto_2 l) ch_3148 cut_nil
/-- RookHustingModel keepAct -/
noncomputable def gi_3023 : GI := jl_n [jl_z 1, jl_i 20 24, gp_165]
noncomputable def gi_3024 : GI := jl_n [jl_z 1, jl_i 20 24, gp_893]
noncomputable def gi_3025 : GI := jl_n [jl_z 1, jl_i 20 24, gp_894]
noncomputable def con_3149 : Con2 := ((yX12_keepAct, cX12_keepAct, 2, (some .boolean)), (0, 0), ([(6, 0, 0), (1, 1, 0)], gi_3023, [ac_437, ac_438], []), [((0, 0, 0), gi_3024, [(false, ac_437), (false, ac_438)], [], [1]), ((0, 1, 0), gi_3025, [(false, ac_437), (true, ac_1437)], [], tg_8)])
theorem hd_3149 : con_3149.1 = (yX12_keepAct, cX12_keepAct, 2, (some .boolean)) := rfl
noncomputable def cu_3149 : List CUT2 := []
theorem ch_3149 : staG tb_X12_keepAct 1 bt_RX12 [] ct_2 [] [] cu_3149 28 con_3149 = true := by decide +kernel
theorem vl_3149 (l : Launch) : Vld2 l vwCl gTbl con_3149 := conR_ok3 gT_all (hd_3149) rfl pn_RX12 tk_X12_keepAct bo_RX12 xo_RX12 (cto_2 l) ch_3149 cut_nil
/-- RookHustingModel keepAct -/
noncomputable def gi_3026 : GI := jl_n [jl_z 1, jl_i 10 14, gp_165]
noncomputable def gi_3027 : GI := jl_n [jl_z 1, jl_i 10 14, gp_893]
noncomputable def gi_3028 : GI := jl_n [jl_z 1, jl_i 10 14, gp_894]
noncomputable def con_3150 : Con2 := ((yX12_keepAct, cX12_keepAct, 2, (some .boolean)), (0, 0), ([(6, 0, 0), (1, 1, 0)], gi_3026, [ac_437, ac_438], []), [((0, 0, 0), gi_3027, [(false, ac_437), (false, ac_438)], [], [1]), ((0, 1, 0), gi_3028, [(false, ac_437), (true, ac_1437)], [], tg_8)])
theorem hd_3150 : con_3150.1 = (yX12_keepAct, cX12_keepAct, 2, (some .boolean)) := rfl
noncomputable def cu_3150 : List CUT2 := []
theorem ch_3150 : staG tb_X12_keepAct 1 bt_RX12 [] ct_2 [] [] cu_3150 28 con_3150 = true := by decide +kernel
theorem vl_3150 (l : Launch) : Vld2 l vwCl gTbl con_3150 := conR_ok3 gT_all (hd_3150) rfl pn_RX12 tk_X12_keepAct bo_RX12 xo_RX12 (cto_2 l) ch_3150 cut_nil
/-- RookHustingModel isMan -/
noncomputable def gi_3029 : GI := jl_n [gp_889, gp_165]
noncomputable def gi_3030 : GI := jl_n [gp_889, gp_166]
noncomputable def con_3151 : Con2 := ((yX12_isMan, cX12_isMan, 2, (some .boolean)), (1, 25), ([(6, 0, 0), (1, 1, 0)], gi_3029, [ac_437, ac_438], []), [((0, 0, 0), gi_3030, [(false, ac_437), (false, ac_438)], [], [1])])
theorem hd_3151 : con_3151.1 = (yX12_isMan, cX12_isMan, 2, (some .boolean)) := rfl
noncomputable def cu_3151 : List CUT2 := []
theorem ch_3151 : staG tb_X12_isMan 1 bt_RX12 [] ct_660 [] [] cu_3151 12 con_3151 = true := by decide +kernel
theorem vl_3151 (l : Launch) : Vld2 l vwCl gTbl con_3151 := conR_ok3 gT_all (hd_3151) rfl pn_RX12 tk_X12_isMan bo_RX12 xo_RX12 (cto_660 l) ch_3151 cut_nil
/-- RookHustingModel keepAct -/
noncomputable def gi_3031 : GI := jl_n [gp_52, gp_893]
noncomputable def gi_3032 : GI := jl_n [gp_52, gp_894]
noncomputable def con_3152 : Con2 := ((yX12_keepAct, cX12_keepAct, 2, (some .boolean)), (0, 0), ([(6, 0, 0), (1, 1, 0)], gi_364, [ac_437, ac_438], []), [((0, 0, 0), gi_3031, [(false, ac_437), (false, ac_438)], [], [1]), ((0, 1, 0), gi_3032, [(false, ac_437), (true, ac_1437)], [], tg_8)])
theorem hd_3152 : con_3152.1 = (yX12_keepAct, cX12_keepAct, 2, (some .boolean)) := rfl
noncomputable def cu_3152 : List CUT2 := []
theorem ch_3152 : staG tb_X12_keepAct 1 bt_RX12 [] ct_2 [] [] cu_3152 28 con_3152 = true := by decide +kernel
theorem vl_3152 (l : Launch) : Vld2 l vwCl gTbl con_3152 := conR_ok3 gT_all (hd_3152) rfl pn_RX12 tk_X12_keepAct bo_RX12 xo_RX12 (cto_2 l) ch_3152 cut_nil
/-- RookHustingModel puts -/
noncomputable def ac_1438 : AC := .inl (12, jl_n [vp_49, jl_6 7 3, jl_1 28 4, jl_8 48 20])
noncomputable def hc_247 : List AC := [ac_1438, ac_440, am_8, am_5, am_7, am_7, am_1]
noncomputable def gi_3033 : GI := jl_n [gp_360, jl_m 4 4, gp_281, jl_z 27, gp_114]
noncomputable def ac_1439 : AC := .inl (12, jl_n [vp_50, vp_139, jl_8 48 20])
noncomputable def ac_1440 : AC := .inr (1, jl_n [js_1 55 7, js_1 125 1, js_1 57 1, sp_124])
noncomputable def hq_988 : HP := [(true, ac_1439), (true, ac_1440), (true, am_8), (true, am_5), (true, am_7), (true, am_7), (true, am_1)]
noncomputable def con_3153 : Con2 := ((yX12_puts, cX12_puts, 3, (some .int)), (8, 188), ([(6, 0, 0), (1, 1, 0), (1, 2, 0)], gi_745, hc_247, []), [((1, 71, 0), gi_3033, hq_988, [], tg_27)])
theorem hd_3153 : con_3153.1 = (yX12_puts, cX12_puts, 3, (some .int)) := rfl
theorem ck_RX12_474_3152 : COK2 RX12 vwCl gTbl 474 0 con_3152 := ⟨wd_2125, wd_137, mh_X12_keepAct, .inr (.inr ⟨rfl, wd_2122, wd_2124, wd_122, ⟨_, rfl, pd_X12_keepAct⟩, 12, _, TX12, 45, rfl, rfl⟩)⟩
theorem ck_RX12_474_3150 : COK2 RX12 vwCl gTbl 474 0 con_3150 := ⟨wd_2125, wd_137, mh_X12_keepAct, .inr (.inr ⟨rfl, wd_2122, wd_2124, wd_122, ⟨_, rfl, pd_X12_keepAct⟩, 12, _, TX12, 45, rfl, rfl⟩)⟩
theorem ck_RX12_474_3149 : COK2 RX12 vwCl gTbl 474 0 con_3149 := ⟨wd_2125, wd_137, mh_X12_keepAct, .inr (.inr ⟨rfl, wd_2122, wd_2124, wd_122, ⟨_, rfl, pd_X12_keepAct⟩, 12, _, TX12, 45, rfl, rfl⟩)⟩
theorem ck_RX12_474_3148 : COK2 RX12 vwCl gTbl 474 0 con_3148 := ⟨wd_2125, wd_137, mh_X12_keepAct, .inr (.inr ⟨rfl, wd_2122, wd_2124, wd_122, ⟨_, rfl, pd_X12_keepAct⟩, 12, _, TX12, 45, rfl, rfl⟩)⟩
theorem ck_RX12_474_3147 : COK2 RX12 vwCl gTbl 474 0 con_3147 := ⟨wd_2125, wd_137, mh_X12_keepAct, .inr (.inr ⟨rfl, wd_2122, wd_2124, wd_122, ⟨_, rfl, pd_X12_keepAct⟩, 12, _, TX12, 45, rfl, rfl⟩)⟩
theorem ck_RX12_474_3146 : COK2 RX12 vwCl gTbl 474 0 con_3146 := ⟨wd_2125, wd_137, mh_X12_keepAct, .inr (.inr ⟨rfl, wd_2122, wd_2124, wd_122, ⟨_, rfl, pd_X12_keepAct⟩, 12, _, TX12, 45, rfl, rfl⟩)⟩
theorem ck_RX12_236_3151 : COK2 RX12 vwCl gTbl 236 0 con_3151 := ⟨wd_1668, wd_137, mh_X12_isMan, .inr (.inr ⟨rfl, wd_1665, wd_1667, wd_68, ⟨_, rfl, pd_X12_isMan⟩, 12, _, TX12, 45, rfl, rfl⟩)⟩
theorem ck_RX12_236_3145 : COK2 RX12 vwCl gTbl 236 0 con_3145 := ⟨wd_1668, wd_137, mh_X12_isMan, .inr (.inr ⟨rfl, wd_1665, wd_1667, wd_68, ⟨_, rfl, pd_X12_isMan⟩, 12, _, TX12, 45, rfl, rfl⟩)⟩
noncomputable def ct_3153 : CTB2 := [(3, 109, 0, con_651, [0, 1]), (16, 236, 0, con_3145, [0, 1]), (16, 236, 0, con_3151, [0, 1]), (26, 345, 0, con_934, [0, 1, 2, 3, 4, 5, 6]), (38, 474, 0, con_3146, [0, 1]), (38, 474, 0, con_3147, [0, 1]), (38, 474, 0, con_3148, [0, 1]), (38, 474, 0, con_3149, [0, 1]), (38, 474, 0, con_3150, [0, 1]), (38, 474, 0, con_3152, [0, 1])]
noncomputable def cu_3153 : List CUT2 := []
theorem ch_3153 : staG tb_X12_puts 1 bt_RX12 [] ct_3153 [(29, [(1, (1, 2, 0), 0, 0)])] [] cu_3153 32 con_3153 = true := by decide +kernel
theorem cto_3153 (l : Launch) : CTOK2 l RX12 vwCl gTbl ct_3153 := ct2_cons (vl_651 l) ck_RX12_109_651 (ct2_cons (vl_3145 l) ck_RX12_236_3145 (ct2_cons (vl_3151 l) ck_RX12_236_3151 (ct2_cons (vl_934 l) ck_RX12_345_934 (ct2_cons (vl_3146 l) ck_RX12_474_3146 (ct2_cons (vl_3147 l) ck_RX12_474_3147 (ct2_cons (vl_3148 l) ck_RX12_474_3148 (ct2_cons (vl_3149 l) ck_RX12_474_3149 (ct2_cons (vl_3150 l) ck_RX12_474_3150 (ct2_cons (vl_3152 l) ck_RX12_474_3152 (ct2_nil))))))))))
theorem vl_3153 (l : Launch) : Vld2 l vwCl gTbl con_3153 := conR_ok3 gT_all (hd_3153) rfl pn_RX12 tk_X12_puts bo_RX12 xo_RX12 (cto_3153 l) ch_3153 cut_nil
/-- RookHusting$Acts add -/
noncomputable def gi_3034 : GI := jl_n [gp_362, gp_261]
noncomputable def gi_3035 : GI := jl_n [gp_362, gp_261, jl_i 1 30, jl_z 3, gp_241]
noncomputable def con_3154 : Con2 := ((yX0_add, cX0_add, 4, none), (0, 0), ([(6, 0, 0), (0, 1, 0), (1, 2, 0), (1, 3, 0)], gi_3034, hc_245, rq_11), [((9, 0, 0), gi_3035, hq_986, rq_12, tg_25)])
theorem hd_3154 : con_3154.1 = (yX0_add, cX0_add, 4, none) := rfl
noncomputable def cu_3154 : List CUT2 := []
theorem ch_3154 : staG tb_X0_add 1 bt_RX0 [] ct_1484 [(0, [(1, (2, 0, 0), 0, 0)])] [] cu_3154 31 con_3154 = true := by decide +kernel
theorem vl_3154 (l : Launch) : Vld2 l vwCl gTbl con_3154 := conR_ok3 gT_all (hd_3154) rfl pn_RX0 tk_X0_add bo_RX0 xo_RX0 (cto_1484 l) ch_3154 cut_nil
/-- RookHusting cellNow -/
noncomputable def con_3155 : Con2 := ((yX11_cellNow, cX11_cellNow, 4, (some .int)), (6, 151), ([(6, 0, 0), (6, 1, 0), (1, 2, 0), (1, 3, 0)], gi_750, hc_141, rq_4), [((1, 118, 0), gi_751, hq_558, [], tg_15)])
theorem hd_3155 : con_3155.1 = (yX11_cellNow, cX11_cellNow, 4, (some .int)) := rfl
noncomputable def cu_3155 : List CUT2 := []
theorem ch_3155 : staG tb_X11_cellNow 1 bt_RX11 [] ct_1342 [] [] cu_3155 12 con_3155 = true := by decide +kernel
theorem vl_3155 (l : Launch) : Vld2 l vwCl gTbl con_3155 := conR_ok3 gT_all (hd_3155) rfl pn_RX11 tk_X11_cellNow bo_RX11 xo_RX11 (cto_1342 l) ch_3155 cut_nil
/-- RookHusting speaks -/
noncomputable def gi_3036 : GI := jl_n [gp_891, gp_261, gp_895, jl_z 10, gp_345]
noncomputable def ac_1441 : AC := .inl (11, jl_n [vp_56, jl_6 16 1, jl_6 11 1, jl_8 11 1, jl_6 9 1, jl_8 13 1, jl_6 8 1, jl_8 16 2, jl_1 18 2, jl_8 19 1])
noncomputable def ac_1442 : AC := .inl (4, jl_n [vp_121, jl_6 21 1, jl_6 19 1, jl_6 15 1, jl_6 25 2, jl_6 18 1, jl_8 37 2, jl_6 17 1])
noncomputable def ac_1443 : AC := .inr (1, jl_n [js_1 72 30])
noncomputable def ac_1444 : AC := .inl (5, jl_n [jl_8 106 4, jl_1 107 1, jl_6 3 1, jl_8 110 2])
noncomputable def ac_1445 : AC := .inl (3, jl_n [jl_6 10 1, vp_157, jl_6 28 3, jl_6 23 1, jl_1 119 2])
noncomputable def hc_248 : List AC := [ac_1441, .inl (9, [(6, 2, 0), (6, 3, 0)]), ac_1442, .inl (0, [(1, 38, 0), (6, 4, 0), (6, 5, 0), (6, 6, 0)]), ac_1443, am_11, ac_1427, ac_1444, ac_1445, am_0, .inl (7, [(6, 11, 0), (6, 12, 0), (6, 13, 0), (1, 122, 0)]), am_7, am_1, am_1, am_1, .inl (1, [(6, 2, 0), (8, 124, 0)]), am_4, am_6, am_2, am_0, am_10, am_0, am_1, am_2, am_9, am_0, am_0, am_12]
noncomputable def rq_14 : RLs := [([(42, 12), (72, (-1))], 4), ([(43, 12), (73, (-1))], 4), ([(44, 12), (74, (-1))], 4), ([(45, 12), (75, (-1))], 4), ([(46, 12), (76, (-1))], 4), ([(47, 12), (77, (-1))], 4), ([(48, 12), (78, (-1))], 4), ([(49, 12), (79, (-1))], 4), ([(50, 12), (80, (-1))], 4), ([(51, 12), (81, (-1))], 4), ([(52, 12), (82, (-1))], 4), ([(53, 12), (83, (-1))], 4), ([(54, 12), (84, (-1))], 4), ([(55, 12), (85, (-1))], 4), ([(56, 12), (86, (-1))], 4), ([(57, 12), (87, (-1))], 4), ([(58, 12), (88, (-1))], 4), ([(59, 12), (89, (-1))], 4), ([(60, 12), (90, (-1))], 4), ([(61, 12), (91, (-1))], 4), ([(62, 12), (92, (-1))], 4), ([(63, 12), (93, (-1))], 4), ([(64, 12), (94, (-1))], 4), ([(65, 12), (95, (-1))], 4), ([(66, 12), (96, (-1))], 4), ([(67, 12), (97, (-1))], 4), ([(68, 12), (98, (-1))], 4), ([(69, 12), (99, (-1))], 4), ([(70, 12), (100, (-1))], 4), ([(71, 12), (101, (-1))], 4)]
noncomputable def gi_3037 : GI := jl_n [gp_891, gp_261, gp_895, jl_z 10, gp_345, jl_t, gp_892, gp_261, gp_895, jl_z 10, gp_349]
noncomputable def ac_1446 : AC := .inl (11, jl_n [vp_56, jl_6 16 1, jl_6 11 1, jl_8 11 1, jl_6 9 1, jl_8 13 1, jl_6 8 1, jl_8 16 2, jl_1 141 2, jl_8 19 1])
noncomputable def ac_1447 : AC := .inr (1, jl_n [js_1 176 30])
noncomputable def ac_1448 : AC := .inr (1, jl_n [js_1 206 30])
noncomputable def ac_1449 : AC := .inl (5, jl_n [jl_8 106 4, jl_1 211 1, jl_6 3 1, jl_8 110 2])
noncomputable def ac_1450 : AC := .inl (3, jl_n [jl_6 10 1, vp_157, jl_6 28 3, jl_6 23 1, jl_1 223 2])
noncomputable def hq_989 : HP := [(true, ac_1446), (false, .inl (9, [(6, 2, 0), (6, 3, 0)])), (false, ac_1442), (true, .inl (0, [(1, 142, 0), (6, 4, 0), (6, 5, 0), (6, 6, 0)])), (true, ac_1447), (true, am_11), (true, ac_1448), (true, ac_1449), (true, ac_1450), (true, am_0), (true, .inl (7, [(6, 11, 0), (6, 12, 0), (6, 13, 0), (1, 226, 0)])), (true, am_7), (true, am_1), (true, am_1), (false, am_1), (false, .inl (1, [(6, 2, 0), (8, 124, 0)])), (false, am_4), (false, am_6), (false, am_2), (true, am_0), (false, am_10), (true, am_0), (true, am_1), (false, am_2), (false, am_9), (true, am_0), (true, am_0), (true, am_12)]
noncomputable def rq_15 : RLs := [([(146, 12), (176, (-1))], 4), ([(147, 12), (177, (-1))], 4), ([(148, 12), (178, (-1))], 4), ([(149, 12), (179, (-1))], 4), ([(150, 12), (180, (-1))], 4), ([(151, 12), (181, (-1))], 4), ([(152, 12), (182, (-1))], 4), ([(153, 12), (183, (-1))], 4), ([(154, 12), (184, (-1))], 4), ([(155, 12), (185, (-1))], 4), ([(156, 12), (186, (-1))], 4), ([(157, 12), (187, (-1))], 4), ([(158, 12), (188, (-1))], 4), ([(159, 12), (189, (-1))], 4), ([(160, 12), (190, (-1))], 4), ([(161, 12), (191, (-1))], 4), ([(162, 12), (192, (-1))], 4), ([(163, 12), (193, (-1))], 4), ([(164, 12), (194, (-1))], 4), ([(165, 12), (195, (-1))], 4), ([(166, 12), (196, (-1))], 4), ([(167, 12), (197, (-1))], 4), ([(168, 12), (198, (-1))], 4), ([(169, 12), (199, (-1))], 4), ([(170, 12), (200, (-1))], 4), ([(171, 12), (201, (-1))], 4), ([(172, 12), (202, (-1))], 4), ([(173, 12), (203, (-1))], 4), ([(174, 12), (204, (-1))], 4), ([(175, 12), (205, (-1))], 4)]
noncomputable def con_3156 : Con2 := ((yX11_speaks, cX11_speaks, 3, (some .int)), (7, 174), ([(6, 0, 0), (1, 1, 0), (1, 2, 0)], gi_3036, hc_248, rq_14), [((1, 125, 0), gi_3037, hq_989, rq_15, tg_26)])
theorem hd_3156 : con_3156.1 = (yX11_speaks, cX11_speaks, 3, (some .int)) := rfl
theorem ck_RX11_266_3155 : COK2 RX11 vwCl gTbl 266 0 con_3155 := ⟨wd_1023, wd_125, mh_X11_cellNow, .inr (.inr ⟨rfl, wd_1020, wd_1022, wd_32, ⟨_, rfl, pd_X11_cellNow⟩, 11, _, TX11, 16, rfl, rfl⟩)⟩
theorem ck_RX11_395_3154 : COK2 RX11 vwCl gTbl 395 0 con_3154 := ⟨wd_1323, wd_130, mh_X0_add, .inr (.inr ⟨rfl, wd_1320, wd_1321, wd_1322, ⟨_, rfl, pd_X0_add⟩, 0, _, TX0, 4, rfl, rfl⟩)⟩
noncomputable def ct_3156 : CTB2 := [(2, 139, 0, con_647, [0, 1, 2]), (10, 272, 0, con_1364, [0, 1, 2]), (47, 395, 0, con_3154, [3, 4, 5, 6]), (51, 130, 0, con_312, [0, 7]), (64, 266, 0, con_3155, [0, 9, 1, 10, 2, 11, 12, 13, 14, 15, 16, 17, 3, 4, 5, 6, 8, 18, 19, 20, 21, 22, 23, 24, 25, 26, 27])]
noncomputable def cu_3156 : List CUT2 := []
theorem ch_3156 : staG tb_X11_speaks 1 bt_RX11 [] ct_3156 [] [] cu_3156 33 con_3156 = true := by decide +kernel
theorem cto_3156 (l : Launch) : CTOK2 l RX11 vwCl gTbl ct_3156 := ct2_cons (vl_647 l) ck_RX11_139_647 (ct2_cons (vl_1364 l) ck_RX11_272_1364 (ct2_cons (vl_3154 l) ck_RX11_395_3154 (ct2_cons (vl_312 l) ck_RX11_130_312 (ct2_cons (vl_3155 l) ck_RX11_266_3155 (ct2_nil)))))
theorem vl_3156 (l : Launch) : Vld2 l vwCl gTbl con_3156 := conR_ok3 gT_all (hd_3156) rfl pn_RX11 tk_X11_speaks bo_RX11 xo_RX11 (cto_3156 l) ch_3156 cut_nil
/-- RookHustingModel keepAct -/
noncomputable def gi_3038 : GI := jl_n [jl_z 1, jl_i 10400 10415, gp_165]
noncomputable def gi_3039 : GI := jl_n [jl_z 1, jl_i 10400 10415, gp_893]
noncomputable def gi_3040 : GI := jl_n [jl_z 1, jl_i 10400 10415, gp_894]
noncomputable def con_3157 : Con2 := ((yX12_keepAct, cX12_keepAct, 2, (some .boolean)), (0, 0), ([(6, 0, 0), (1, 1, 0)], gi_3038, [ac_437, ac_438], []), [((0, 0, 0), gi_3039, [(false, ac_437), (false, ac_438)], [], [1]), ((0, 1, 0), gi_3040, [(false, ac_437), (true, ac_1437)], [], tg_8)])
theorem hd_3157 : con_3157.1 = (yX12_keepAct, cX12_keepAct, 2, (some .boolean)) := rfl
noncomputable def cu_3157 : List CUT2 := []
theorem ch_3157 : staG tb_X12_keepAct 1 bt_RX12 [] ct_2 [] [] cu_3157 28 con_3157 = true := by decide +kernel
theorem vl_3157 (l : Launch) : Vld2 l vwCl gTbl con_3157 := conR_ok3 gT_all (hd_3157) rfl pn_RX12 tk_X12_keepAct bo_RX12 xo_RX12 (cto_2 l) ch_3157 cut_nil
/-- RookHustingModel keepAct -/
noncomputable def gi_3041 : GI := jl_n [jl_z 1, jl_i 10300 10315, gp_165]
noncomputable def gi_3042 : GI := jl_n [jl_z 1, jl_i 10300 10315, gp_893]
noncomputable def gi_3043 : GI := jl_n [jl_z 1, jl_i 10300 10315, gp_894]
noncomputable def con_3158 : Con2 := ((yX12_keepAct, cX12_keepAct, 2, (some .boolean)), (0, 0), ([(6, 0, 0), (1, 1, 0)], gi_3041, [ac_437, ac_438], []), [((0, 0, 0), gi_3042, [(false, ac_437), (false, ac_438)], [], [1]), ((0, 1, 0), gi_3043, [(false, ac_437), (true, ac_1437)], [], tg_8)])
theorem hd_3158 : con_3158.1 = (yX12_keepAct, cX12_keepAct, 2, (some .boolean)) := rfl
noncomputable def cu_3158 : List CUT2 := []
theorem ch_3158 : staG tb_X12_keepAct 1 bt_RX12 [] ct_2 [] [] cu_3158 28 con_3158 = true := by decide +kernel
theorem vl_3158 (l : Launch) : Vld2 l vwCl gTbl con_3158 := conR_ok3 gT_all (hd_3158) rfl pn_RX12 tk_X12_keepAct bo_RX12 xo_RX12 (cto_2 l) ch_3158 cut_nil
/-- RookHustingModel keepAct -/
noncomputable def gi_3044 : GI := jl_n [jl_z 1, jl_i 10200 10215, gp_165]
noncomputable def gi_3045 : GI := jl_n [jl_z 1, jl_i 10200 10215, gp_893]
noncomputable def gi_3046 : GI := jl_n [jl_z 1, jl_i 10200 10215, gp_894]
noncomputable def con_3159 : Con2 := ((yX12_keepAct, cX12_keepAct, 2, (some .boolean)), (0, 0), ([(6, 0, 0), (1, 1, 0)], gi_3044, [ac_437, ac_438], []), [((0, 0, 0), gi_3045, [(false, ac_437), (false, ac_438)], [], [1]), ((0, 1, 0), gi_3046, [(false, ac_437), (true, ac_1437)], [], tg_8)])
theorem hd_3159 : con_3159.1 = (yX12_keepAct, cX12_keepAct, 2, (some .boolean)) := rfl
noncomputable def cu_3159 : List CUT2 := []
theorem ch_3159 : staG tb_X12_keepAct 1 bt_RX12 [] ct_2 [] [] cu_3159 28 con_3159 = true := by decide +kernel
theorem vl_3159 (l : Launch) : Vld2 l vwCl gTbl con_3159 := conR_ok3 gT_all (hd_3159) rfl pn_RX12 tk_X12_keepAct bo_RX12 xo_RX12 (cto_2 l) ch_3159 cut_nil
/-- RookHustingModel keepAct -/
noncomputable def gi_3047 : GI := jl_n [jl_z 1, jl_i 10100 10115, gp_165]
noncomputable def gi_3048 : GI := jl_n [jl_z 1, jl_i 10100 10115, gp_893]
noncomputable def gi_3049 : GI := jl_n [jl_z 1, jl_i 10100 10115, gp_894]
noncomputable def con_3160 : Con2 := ((yX12_keepAct, cX12_keepAct, 2, (some .boolean)), (0, 0), ([(6, 0, 0), (1, 1, 0)], gi_3047, [ac_437, ac_438], []), [((0, 0, 0), gi_3048, [(false, ac_437), (false, ac_438)], [], [1]), ((0, 1, 0), gi_3049, [(false, ac_437), (true, ac_1437)], [], tg_8)])
theorem hd_3160 : con_3160.1 = (yX12_keepAct, cX12_keepAct, 2, (some .boolean)) := rfl
noncomputable def cu_3160 : List CUT2 := []
theorem ch_3160 : staG tb_X12_keepAct 1 bt_RX12 [] ct_2 [] [] cu_3160 28 con_3160 = true := by decide +kernel
theorem vl_3160 (l : Launch) : Vld2 l vwCl gTbl con_3160 := conR_ok3 gT_all (hd_3160) rfl pn_RX12 tk_X12_keepAct bo_RX12 xo_RX12 (cto_2 l) ch_3160 cut_nil
/-- RookHustingModel keepAct -/
noncomputable def gi_3050 : GI := jl_n [jl_z 1, jl_i 10000 10015, gp_165]
noncomputable def gi_3051 : GI := jl_n [jl_z 1, jl_i 10000 10015, gp_893]
noncomputable def gi_3052 : GI := jl_n [jl_z 1, jl_i 10000 10015, gp_894]
noncomputable def con_3161 : Con2 := ((yX12_keepAct, cX12_keepAct, 2, (some .boolean)), (0, 0), ([(6, 0, 0), (1, 1, 0)], gi_3050, [ac_437, ac_438], []), [((0, 0, 0), gi_3051, [(false, ac_437), (false, ac_438)], [], [1]), ((0, 1, 0), gi_3052, [(false, ac_437), (true, ac_1437)], [], tg_8)])
theorem hd_3161 : con_3161.1 = (yX12_keepAct, cX12_keepAct, 2, (some .boolean)) := rfl
noncomputable def cu_3161 : List CUT2 := []
theorem ch_3161 : staG tb_X12_keepAct 1 bt_RX12 [] ct_2 [] [] cu_3161 28 con_3161 = true := by decide +kernel
theorem vl_3161 (l : Launch) : Vld2 l vwCl gTbl con_3161 := conR_ok3 gT_all (hd_3161) rfl pn_RX12 tk_X12_keepAct bo_RX12 xo_RX12 (cto_2 l) ch_3161 cut_nil
/-- RookHustingModel speaks -/
noncomputable def gi_3053 : GI := jl_n [gp_360, jl_m 4 2147483647, gp_281, jl_z 27, gp_114]
noncomputable def con_3162 : Con2 := ((yX12_speaks, cX12_speaks, 3, (some .int)), (8, 188), ([(6, 0, 0), (1, 1, 0), (1, 2, 0)], gi_745, hc_247, []), [((1, 71, 0), gi_3053, hq_988, [], tg_27)])
theorem hd_3162 : con_3162.1 = (yX12_speaks, cX12_speaks, 3, (some .int)) := rfl
theorem ck_RX12_474_3161 : COK2 RX12 vwCl gTbl 474 0 con_3161 := ⟨wd_2125, wd_137, mh_X12_keepAct, .inr (.inr ⟨rfl, wd_2122, wd_2124, wd_122, ⟨_, rfl, pd_X12_keepAct⟩, 12, _, TX12, 45, rfl, rfl⟩)⟩
theorem ck_RX12_474_3160 : COK2 RX12 vwCl gTbl 474 0 con_3160 := ⟨wd_2125, wd_137, mh_X12_keepAct, .inr (.inr ⟨rfl, wd_2122, wd_2124, wd_122, ⟨_, rfl, pd_X12_keepAct⟩, 12, _, TX12, 45, rfl, rfl⟩)⟩
theorem ck_RX12_474_3159 : COK2 RX12 vwCl gTbl 474 0 con_3159 := ⟨wd_2125, wd_137, mh_X12_keepAct, .inr (.inr ⟨rfl, wd_2122, wd_2124, wd_122, ⟨_, rfl, pd_X12_keepAct⟩, 12, _, TX12, 45, rfl, rfl⟩)⟩
theorem ck_RX12_474_3158 : COK2 RX12 vwCl gTbl 474 0 con_3158 := ⟨wd_2125, wd_137, mh_X12_keepAct, .inr (.inr ⟨rfl, wd_2122, wd_2124, wd_122, ⟨_, rfl, pd_X12_keepAct⟩, 12, _, TX12, 45, rfl, rfl⟩)⟩
theorem ck_RX12_474_3157 : COK2 RX12 vwCl gTbl 474 0 con_3157 := ⟨wd_2125, wd_137, mh_X12_keepAct, .inr (.inr ⟨rfl, wd_2122, wd_2124, wd_122, ⟨_, rfl, pd_X12_keepAct⟩, 12, _, TX12, 45, rfl, rfl⟩)⟩
noncomputable def ct_3162 : CTB2 := [(3, 109, 0, con_651, [0, 1]), (12, 372, 0, con_1368, [0, 1]), (32, 474, 0, con_3157, [0, 1]), (32, 474, 0, con_3158, [0, 1]), (32, 474, 0, con_3159, [0, 1]), (32, 474, 0, con_3160, [0, 1]), (32, 474, 0, con_3161, [0, 1]), (42, 345, 0, con_934, [0, 1, 2, 3, 4, 5, 6]), (48, 357, 0, con_1346, [0, 5, 6, 1])]
noncomputable def cu_3162 : List CUT2 := []
theorem ch_3162 : staG tb_X12_speaks 1 bt_RX12 [] ct_3162 [(21, [(1, (1, 1, 0), 0, 0)])] [] cu_3162 29 con_3162 = true := by decide +kernel
theorem cto_3162 (l : Launch) : CTOK2 l RX12 vwCl gTbl ct_3162 := ct2_cons (vl_651 l) ck_RX12_109_651 (ct2_cons (vl_1368 l) ck_RX12_372_1368 (ct2_cons (vl_3157 l) ck_RX12_474_3157 (ct2_cons (vl_3158 l) ck_RX12_474_3158 (ct2_cons (vl_3159 l) ck_RX12_474_3159 (ct2_cons (vl_3160 l) ck_RX12_474_3160 (ct2_cons (vl_3161 l) ck_RX12_474_3161 (ct2_cons (vl_934 l) ck_RX12_345_934 (ct2_cons (vl_1346 l) ck_RX12_357_1346 (ct2_nil)))))))))
theorem vl_3162 (l : Launch) : Vld2 l vwCl gTbl con_3162 := conR_ok3 gT_all (hd_3162) rfl pn_RX12 tk_X12_speaks bo_RX12 xo_RX12 (cto_3162 l) ch_3162 cut_nil
/-- RookHusting undo -/
noncomputable def gi_3054 : GI := jl_n [gp_73, gp_768, jl_z 16, gp_76]
noncomputable def ac_1451 : AC := .inl (11, jl_n [vp_51, jl_8 11 7, jl_6 5 1, jl_8 14 2, jl_1 16 2, jl_8 17 1])
noncomputable def ac_1452 : AC := .inl (5, jl_n [jl_8 44 4, jl_1 45 1, jl_6 3 1, jl_8 48 2])
noncomputable def hc_249 : List AC := [ac_1451, .inl (9, [(6, 2, 0), (6, 3, 0)]), ac_454, .inl (0, [(1, 36, 0), (8, 37, 0), (8, 38, 0), (8, 39, 0)]), ac_1452]
noncomputable def gi_3055 : GI := jl_n [gp_73, gp_768, jl_z 16, gp_76, jl_m 4 29, gp_892, gp_76]
noncomputable def ac_1453 : AC := .inl (11, jl_n [vp_51, jl_8 11 7, jl_6 5 1, jl_8 14 2, jl_1 64 2, jl_8 17 1])
noncomputable def ac_1454 : AC := .inl (5, jl_n [jl_8 44 4, jl_1 74 1, jl_6 3 1, jl_8 48 2])
noncomputable def hq_990 : HP := [(true, ac_1453), (false, .inl (9, [(6, 2, 0), (6, 3, 0)])), (false, ac_454), (true, .inl (0, [(1, 65, 0), (8, 37, 0), (8, 38, 0), (8, 39, 0)])), (true, ac_1454)]
noncomputable def con_3163 : Con2 := ((yX11_undo, cX11_undo, 1, (some .int)), (1, 20), ([(6, 0, 0)], gi_3054, hc_249, []), [((1, 48, 0), gi_3055, hq_990, [], tg_14)])
theorem hd_3163 : con_3163.1 = (yX11_undo, cX11_undo, 1, (some .int)) := rfl
noncomputable def ct_3163 : CTB2 := [(1, 219, 0, con_671, [0, 1, 2]), (43, 130, 0, con_312, [0, 4])]
noncomputable def cu_3163 : List CUT2 := []
theorem ch_3163 : staG tb_X11_undo 1 bt_RX11 [] ct_3163 [] [] cu_3163 25 con_3163 = true := by decide +kernel
theorem cto_3163 (l : Launch) : CTOK2 l RX11 vwCl gTbl ct_3163 := ct2_cons (vl_671 l) ck_RX11_219_671 (ct2_cons (vl_312 l) ck_RX11_130_312 (ct2_nil))
theorem vl_3163 (l : Launch) : Vld2 l vwCl gTbl con_3163 := conR_ok3 gT_all (hd_3163) rfl pn_RX11 tk_X11_undo bo_RX11 xo_RX11 (cto_3163 l) ch_3163 cut_nil
/-- RookHustingModel undo -/
noncomputable def gi_3056 : GI := jl_n [gp_164, jl_m 4 29, jl_z 7, gp_329]
noncomputable def ac_1455 : AC := .inr (1, jl_n [js_1 53 7, js_1 79 2, sp_124])
noncomputable def con_3164 : Con2 := ((yX12_undo, cX12_undo, 1, (some .int)), (1, 20), ([(6, 0, 0)], gi_298, [ac_435, ac_436], []), [((1, 69, 0), gi_3056, [(false, ac_435), (true, ac_1455)], [], tg_8)])
theorem hd_3164 : con_3164.1 = (yX12_undo, cX12_undo, 1, (some .int)) := rfl
noncomputable def ct_3164 : CTB2 := [(1, 99, 0, con_678, [0, 1])]
noncomputable def cu_3164 : List CUT2 := []
theorem ch_3164 : staG tb_X12_undo 1 bt_RX12 [] ct_3164 [] [] cu_3164 23 con_3164 = true := by decide +kernel
theorem cto_3164 (l : Launch) : CTOK2 l RX12 vwCl gTbl ct_3164 := ct2_cons (vl_678 l) ck_RX12_99_678 (ct2_nil)
theorem vl_3164 (l : Launch) : Vld2 l vwCl gTbl con_3164 := conR_ok3 gT_all (hd_3164) rfl pn_RX12 tk_X12_undo bo_RX12 xo_RX12 (cto_3164 l) ch_3164 cut_nil
/-- RookHusting anew -/
noncomputable def gi_3057 : GI := jl_n [gp_73, gp_768, jl_z 16, gp_76, jl_m 1 30, gp_892, gp_76]
noncomputable def con_3165 : Con2 := ((yX11_anew, cX11_anew, 2, (some .int)), (1, 20), ([(6, 0, 0)], gi_3054, hc_249, []), [((1, 48, 0), gi_3057, hq_990, [], tg_14)])
theorem hd_3165 : con_3165.1 = (yX11_anew, cX11_anew, 2, (some .int)) := rfl
noncomputable def ct_3165 : CTB2 := [(1, 219, 0, con_671, [0, 1, 2]), (33, 130, 0, con_312, [0, 4])]
noncomputable def cu_3165 : List CUT2 := []
theorem ch_3165 : staG tb_X11_anew 1 bt_RX11 [] ct_3165 [] [] cu_3165 19 con_3165 = true := by decide +kernel
theorem cto_3165 (l : Launch) : CTOK2 l RX11 vwCl gTbl ct_3165 := ct2_cons (vl_671 l) ck_RX11_219_671 (ct2_cons (vl_312 l) ck_RX11_130_312 (ct2_nil))
theorem vl_3165 (l : Launch) : Vld2 l vwCl gTbl con_3165 := conR_ok3 gT_all (hd_3165) rfl pn_RX11 tk_X11_anew bo_RX11 xo_RX11 (cto_3165 l) ch_3165 cut_nil
/-- RookHustingModel anew -/
noncomputable def gi_3058 : GI := jl_n [gp_164, jl_m 1 30, jl_z 7, gp_329]
noncomputable def con_3166 : Con2 := ((yX12_anew, cX12_anew, 2, (some .int)), (1, 20), ([(6, 0, 0)], gi_298, [ac_435, ac_436], []), [((1, 69, 0), gi_3058, [(false, ac_435), (true, ac_1455)], [], tg_8)])
theorem hd_3166 : con_3166.1 = (yX12_anew, cX12_anew, 2, (some .int)) := rfl
noncomputable def cu_3166 : List CUT2 := []
theorem ch_3166 : staG tb_X12_anew 1 bt_RX12 [] ct_3164 [] [] cu_3166 17 con_3166 = true := by decide +kernel
theorem vl_3166 (l : Launch) : Vld2 l vwCl gTbl con_3166 := conR_ok3 gT_all (hd_3166) rfl pn_RX12 tk_X12_anew bo_RX12 xo_RX12 (cto_3164 l) ch_3166 cut_nil
/-- RookHusting isSeed -/
noncomputable def con_3167 : Con2 := ((yX11_isSeed, cX11_isSeed, 1, (some .boolean)), (0, 0), ([(1, 0, 0)], [((-2147483648), 2147483647)], [], []), [((0, 0, 0), [((-2147483648), 2147483647), (0, 0)], [], [], [1]), ((0, 1, 0), [(0, 2000000000), (0, 0)], [], [], [1])])
theorem hd_3167 : con_3167.1 = (yX11_isSeed, cX11_isSeed, 1, (some .boolean)) := rfl
noncomputable def cu_3167 : List CUT2 := []
theorem ch_3167 : staG tb_X11_isSeed 1 bt_RX11 [] ct_3 [] [] cu_3167 10 con_3167 = true := by decide +kernel
theorem vl_3167 (l : Launch) : Vld2 l vwCl gTbl con_3167 := conR_ok3 gT_all (hd_3167) rfl pn_RX11 tk_X11_isSeed bo_RX11 xo_RX11 (cto_3 l) ch_3167 cut_nil
/-- RookHusting drawWind -/
noncomputable def gi_3059 : GI := jl_n [gp_896, jl_z 19, gp_359, gp_785]
noncomputable def ac_1456 : AC := .inl (4, jl_n [jl_8 21 1, jl_1 22 1, jl_8 23 1, jl_1 24 1, jl_8 37 13])
noncomputable def gi_3060 : GI := jl_n [gp_896, jl_z 19, gp_359, gp_785, jl_t]
noncomputable def hq_991 : HP := [(false, ac_431), (false, .inl (9, [(6, 2, 0), (8, 19, 0)])), (false, ac_1456)]
noncomputable def con_3168 : Con2 := ((yX11_drawWind, cX11_drawWind, 7, (some .int)), (0, 0), ([(6, 0, 0), (4, 1, 0)], gi_3059, [ac_431, .inl (9, [(6, 2, 0), (8, 19, 0)]), ac_1456], []), [((1, 37, 0), gi_3060, hq_991, [], [1])])
theorem hd_3168 : con_3168.1 = (yX11_drawWind, cX11_drawWind, 7, (some .int)) := rfl
noncomputable def gi_3061 : GI := jl_n [gp_896, jl_z 19, gp_359, jl_i 0 10, jl_z 15, jl_u, gp_337]
noncomputable def cu_3168 : List CUT2 := [((8, [lq 0 6 0, lq 1 4 1, lq 3 4 39, lq 5 1 40, lq 6 1 41], [], gi_3061, hq_991), [], ([(41, (-1))], 16))]
theorem ch_3168 : staG tb_X11_drawWind 1 bt_RX11 [] ct_3 [] [] cu_3168 36 con_3168 = true := by decide +kernel
theorem cc_3168 : cu_3168.all (cutG tb_X11_drawWind 1 bt_RX11 [] ct_3 [] [] cu_3168 36 con_3168) = true := by decide +kernel
theorem vl_3168 (l : Launch) : Vld2 l vwCl gTbl con_3168 := conR_ok3 gT_all (hd_3168) rfl pn_RX11 tk_X11_drawWind bo_RX11 xo_RX11 (cto_3 l) ch_3168 (cut_all cc_3168)
/-- RookHusting drawHarvest -/
noncomputable def gi_3062 : GI := jl_n [gp_896, gp_268, jl_z 7, gp_0, gp_110, gp_408, gp_410]
noncomputable def ac_1457 : AC := .inl (11, jl_n [vp_60, vp_70, vp_149, jl_8 15 3, vp_81])
noncomputable def ac_1458 : AC := .inl (4, jl_n [jl_8 25 1, jl_1 29 4, jl_8 30 1, jl_1 32 2, vp_74, jl_8 40 2, jl_6 10 1])
noncomputable def ac_1459 : AC := .inl (3, jl_n [vp_140, jl_1 129 2])
noncomputable def hc_250 : List AC := [ac_1457, .inl (9, [(6, 3, 0), (6, 11, 0)]), .inl (7, [(6, 4, 0), (6, 5, 0), (6, 6, 0), (1, 23, 0)]), ac_1458, am_7, am_1, am_1, am_1, .inl (1, [(6, 3, 0), (8, 42, 0)]), am_4, am_6, .inl (0, [(1, 43, 0), (6, 12, 0), (6, 13, 0), (6, 14, 0)]), ac_515, am_11, ac_516, ac_517, am_2, am_0, am_10, am_0, am_1, am_0, am_2, am_9, am_0, am_0, am_12, .inl (7, [(6, 28, 0), (6, 29, 0), (6, 30, 0), (1, 119, 0)]), am_7, am_1, am_1, ac_1459, am_0, am_0, am_1, am_0, am_0, am_0, am_12]
noncomputable def gi_3063 : GI := jl_n [gp_896, gp_268, jl_z 7, gp_0, gp_110, gp_408, gp_410, gp_267, jl_z 3, gp_256, gp_112]
noncomputable def ac_1460 : AC := .inl (11, jl_n [vp_60, vp_70, vp_149, jl_8 15 3, jl_c 1, jl_8 18 2])
noncomputable def ac_1461 : AC := .inl (3, jl_n [vp_77, jl_1 158 2])
noncomputable def ac_1462 : AC := .inl (3, jl_n [vp_140, jl_1 170 1, jl_1 26 1])
noncomputable def hq_992 : HP := [(true, ac_1460), (false, .inl (9, [(6, 3, 0), (6, 11, 0)])), (true, .inl (7, [(6, 4, 0), (6, 5, 0), (6, 6, 0), (1, 148, 0)])), (false, ac_1458), (true, am_7), (true, am_1), (true, am_1), (false, am_1), (false, .inl (1, [(6, 3, 0), (8, 42, 0)])), (false, am_4), (false, am_6), (false, .inl (0, [(1, 43, 0), (6, 12, 0), (6, 13, 0), (6, 14, 0)])), (false, ac_515), (false, am_11), (false, ac_516), (true, ac_1461), (false, am_2), (true, am_0), (false, am_10), (true, am_0), (true, am_1), (true, am_0), (false, am_2), (false, am_9), (true, am_0), (true, am_0), (true, am_12), (true, .inl (7, [(6, 28, 0), (6, 29, 0), (6, 30, 0), (1, 161, 0)])), (true, am_7), (true, am_1), (true, am_1), (true, ac_1462), (true, am_0), (true, am_0), (true, am_1), (true, am_0), (true, am_0), (true, am_0), (true, am_12)]
noncomputable def con_3169 : Con2 := ((yX11_drawHarvest, cX11_drawHarvest, 3, none), (6, 151), ([(6, 0, 0), (4, 1, 0)], gi_3062, hc_250, rq_3), [((9, 0, 0), gi_3063, hq_992, [], tg_28)])
theorem hd_3169 : con_3169.1 = (yX11_drawHarvest, cX11_drawHarvest, 3, none) := rfl
theorem ck_RX11_387_3168 : COK2 RX11 vwCl gTbl 387 0 con_3168 := ⟨wd_1303, wd_125, mh_X11_drawWind, .inr (.inr ⟨rfl, wd_1300, wd_1302, wd_49, ⟨_, rfl, pd_X11_drawWind⟩, 11, _, TX11, 16, rfl, rfl⟩)⟩
noncomputable def ct_3169 : CTB2 := [(1, 208, 0, con_929, [0, 1, 2, 3, 4, 5, 6, 7, 8, 9, 10, 11, 12, 13, 14, 15, 16, 17, 18, 19, 20, 21, 22, 23, 24, 25, 26]), (12, 332, 0, con_1456, [27, 2, 28, 4, 29, 5, 30, 6]), (21, 387, 0, con_3168, [0, 1, 3]), (52, 372, 0, con_928, [31, 3, 27, 16, 32, 18, 33, 29, 34, 28, 35, 22, 23, 36, 37, 38, 30])]
noncomputable def cu_3169 : List CUT2 := []
theorem ch_3169 : staG tb_X11_drawHarvest 1 bt_RX11 [] ct_3169 [] [] cu_3169 28 con_3169 = true := by decide +kernel
theorem cto_3169 (l : Launch) : CTOK2 l RX11 vwCl gTbl ct_3169 := ct2_cons (vl_929 l) ck_RX11_208_929 (ct2_cons (vl_1456 l) ck_RX11_332_1456 (ct2_cons (vl_3168 l) ck_RX11_387_3168 (ct2_cons (vl_928 l) ck_RX11_372_928 (ct2_nil))))
theorem vl_3169 (l : Launch) : Vld2 l vwCl gTbl con_3169 := conR_ok3 gT_all (hd_3169) rfl pn_RX11 tk_X11_drawHarvest bo_RX11 xo_RX11 (cto_3169 l) ch_3169 cut_nil
/-- RookHusting drawn -/
noncomputable def gi_3064 : GI := jl_n [gp_163, gp_343, gp_787]
noncomputable def ac_1463 : AC := .inl (4, jl_n [jl_1 26 5, vp_93, vp_74, jl_8 37 2, jl_6 10 1])
noncomputable def hc_251 : List AC := [ac_1374, .inl (9, [(6, 2, 0), (6, 11, 0)]), ac_1463, .inl (7, [(6, 4, 0), (6, 5, 0), (6, 6, 0), (1, 41, 0)]), am_7, am_1, am_1, am_1, .inl (1, [(6, 2, 0), (8, 43, 0)]), am_4, am_6, .inl (0, [(1, 44, 0), (6, 12, 0), (6, 13, 0), (6, 14, 0)]), ac_642, am_11, ac_643, ac_1059, am_2, am_0, am_10, am_0, am_1, am_0, am_2, am_9, am_0, am_0, am_12, .inl (7, [(6, 28, 0), (6, 29, 0), (6, 30, 0), (1, 120, 0)]), am_7, am_1, am_1, ac_1376, am_0, am_0, am_1, am_0, am_0, am_0, am_12]
noncomputable def gi_3065 : GI := jl_n [gp_163, gp_343, gp_787, gp_780]
noncomputable def hq_993 : HP := [(true, ac_1377), (false, .inl (9, [(6, 2, 0), (6, 11, 0)])), (false, ac_1463), (true, .inl (7, [(6, 4, 0), (6, 5, 0), (6, 6, 0), (1, 150, 0)])), (true, am_7), (true, am_1), (true, am_1), (false, am_1), (false, .inl (1, [(6, 2, 0), (8, 43, 0)])), (false, am_4), (false, am_6), (false, .inl (0, [(1, 44, 0), (6, 12, 0), (6, 13, 0), (6, 14, 0)])), (false, ac_642), (false, am_11), (false, ac_643), (true, ac_1378), (false, am_2), (true, am_0), (false, am_10), (true, am_0), (true, am_1), (true, am_0), (false, am_2), (false, am_9), (true, am_0), (true, am_0), (true, am_12), (true, .inl (7, [(6, 28, 0), (6, 29, 0), (6, 30, 0), (1, 163, 0)])), (true, am_7), (true, am_1), (true, am_1), (true, ac_1379), (true, am_0), (true, am_0), (true, am_1), (true, am_0), (true, am_0), (true, am_0), (true, am_12)]
noncomputable def con_3170 : Con2 := ((yX11_drawn, cX11_drawn, 3, (some .int)), (7, 173), ([(6, 0, 0), (1, 1, 0), (1, 2, 0)], gi_3064, hc_251, rq_6), [((1, 130, 0), gi_3065, hq_993, [], tg_20)])
theorem hd_3170 : con_3170.1 = (yX11_drawn, cX11_drawn, 3, (some .int)) := rfl
theorem ck_RX11_391_3169 : COK2 RX11 vwCl gTbl 391 0 con_3169 := ⟨wd_1311, wd_125, mh_X11_drawHarvest, .inr (.inr ⟨rfl, wd_1308, wd_1310, wd_50, ⟨_, rfl, pd_X11_drawHarvest⟩, 11, _, TX11, 16, rfl, rfl⟩)⟩
theorem ck_RX11_384_3167 : COK2 RX11 vwCl gTbl 384 1 con_3167 := ⟨wd_1298, wd_125, mh_X11_isSeed, .inl ⟨rfl, wd_1296, wd_1297, pd_X11_isSeed⟩⟩
noncomputable def ct_3170 : CTB2 := [(1, 219, 0, con_671, [0, 1, 2]), (8, 384, 1, con_3167, []), (15, 143, 1, con_648, []), (31, 387, 0, con_3168, [0, 1, 2]), (38, 391, 0, con_3169, [0, 1, 3, 2, 4, 5, 6, 7, 8, 9, 10, 11, 12, 13, 14, 15, 16, 17, 18, 19, 20, 21, 22, 23, 24, 25, 26, 27, 28, 29, 30, 31, 32, 33, 34, 35, 36, 37, 38]), (62, 300, 0, con_1374, [31, 33])]
noncomputable def cu_3170 : List CUT2 := []
theorem ch_3170 : staG tb_X11_drawn 1 bt_RX11 [] ct_3170 [] [] cu_3170 28 con_3170 = true := by decide +kernel
theorem cto_3170 (l : Launch) : CTOK2 l RX11 vwCl gTbl ct_3170 := ct2_cons (vl_671 l) ck_RX11_219_671 (ct2_cons (vl_3167 l) ck_RX11_384_3167 (ct2_cons (vl_648 l) ck_RX11_143_648 (ct2_cons (vl_3168 l) ck_RX11_387_3168 (ct2_cons (vl_3169 l) ck_RX11_391_3169 (ct2_cons (vl_1374 l) ck_RX11_300_1374 (ct2_nil))))))
theorem vl_3170 (l : Launch) : Vld2 l vwCl gTbl con_3170 := conR_ok3 gT_all (hd_3170) rfl pn_RX11 tk_X11_drawn bo_RX11 xo_RX11 (cto_3170 l) ch_3170 cut_nil
/-- RookHustingModel in -/
noncomputable def con_3171 : Con2 := ((yX12_in, cX12_in, 6, (some .boolean)), (0, 0), ([(4, 0, 0), (3, 0, 0), (3, 2000000000, 0)], gi_145, [], []), [((0, 0, 0), gi_146, [], [], [1]), ((0, 1, 0), [(0, 2000000000), (0, 0), (0, 0), (0, 0)], [], [], [1])])
theorem hd_3171 : con_3171.1 = (yX12_in, cX12_in, 6, (some .boolean)) := rfl
noncomputable def cu_3171 : List CUT2 := []
theorem ch_3171 : staG tb_X12_in 1 bt_RX12 [] ct_2 [] [] cu_3171 11 con_3171 = true := by decide +kernel
theorem vl_3171 (l : Launch) : Vld2 l vwCl gTbl con_3171 := conR_ok3 gT_all (hd_3171) rfl pn_RX12 tk_X12_in bo_RX12 xo_RX12 (cto_2 l) ch_3171 cut_nil
/-- RookHustingModel isSeed -/
noncomputable def con_3172 : Con2 := ((yX12_isSeed, cX12_isSeed, 1, (some .boolean)), (1, 25), ([(1, 0, 0)], [((-2147483648), 2147483647)], [], []), [((0, 0, 0), [((-2147483648), 2147483647), (0, 0)], [], [], [1]), ((0, 1, 0), [(0, 2000000000), (0, 0)], [], [], [1])])
theorem hd_3172 : con_3172.1 = (yX12_isSeed, cX12_isSeed, 1, (some .boolean)) := rfl
theorem ck_RX12_91_3171 : COK2 RX12 vwCl gTbl 91 1 con_3171 := ⟨wd_1544, wd_137, mh_X12_in, .inl ⟨rfl, wd_1542, wd_1543, pd_X12_in⟩⟩
noncomputable def ct_3172 : CTB2 := [(6, 91, 1, con_3171, [])]
noncomputable def cu_3172 : List CUT2 := []
theorem ch_3172 : staG tb_X12_isSeed 1 bt_RX12 [] ct_3172 [] [] cu_3172 8 con_3172 = true := by decide +kernel
theorem cto_3172 (l : Launch) : CTOK2 l RX12 vwCl gTbl ct_3172 := ct2_cons (vl_3171 l) ck_RX12_91_3171 (ct2_nil)
theorem vl_3172 (l : Launch) : Vld2 l vwCl gTbl con_3172 := conR_ok3 gT_all (hd_3172) rfl pn_RX12 tk_X12_isSeed bo_RX12 xo_RX12 (cto_3172 l) ch_3172 cut_nil
/-- RookHustingModel goDrawn -/
noncomputable def gi_3066 : GI := jl_n [gp_896, gp_283]
noncomputable def gi_3067 : GI := jl_n [gp_896, gp_282, gp_790, jl_t, jl_z 23]
noncomputable def ac_1464 : AC := .inl (12, jl_n [vp_57, vp_83, jl_1 92 1, jl_c 0, vp_112, jl_8 47 14])
noncomputable def hq_994 : HP := [(true, ac_1464), (false, ac_438), (true, am_8), (true, am_5), (true, am_7), (true, am_7), (true, am_1), (true, am_0), (true, am_0), (true, am_0), (true, am_13), (true, am_14), (true, am_15)]
noncomputable def con_3173 : Con2 := ((yX12_goDrawn, cX12_goDrawn, 6, none), (8, 188), ([(6, 0, 0), (4, 1, 0)], gi_3066, hc_148, []), [((9, 0, 0), gi_3067, hq_994, [], tg_10)])
theorem hd_3173 : con_3173.1 = (yX12_goDrawn, cX12_goDrawn, 6, none) := rfl
noncomputable def ct_3173 : CTB2 := [(1, 345, 0, con_934, [0, 1, 2, 3, 4, 5, 6]), (12, 103, 0, con_1344, [0, 1]), (76, 363, 0, con_1352, [0, 1, 7, 8, 5, 6, 9, 10, 11, 12])]
noncomputable def gi_3068 : GI := jl_n [gp_896, gp_282, gp_123, jl_z 16, jl_u, jl_i 0 16, jl_z 21, jl_t, jl_z 23]
noncomputable def ac_1465 : AC := .inl (12, jl_n [vp_57, vp_83, jl_1 96 1, jl_c 0, vp_112, jl_8 47 14])
noncomputable def hq_995 : HP := [(true, ac_1465), (false, ac_438), (true, am_8), (true, am_5), (true, am_7), (true, am_7), (true, am_1), (false, am_0), (false, am_0), (false, am_0), (false, am_13), (false, am_14), (false, am_15)]
noncomputable def cu_3173 : List CUT2 := [((9, [lq 0 6 0, lq 1 4 1, lq 3 4 72, lq 5 1 73], [], gi_3068, hq_995), [], ([(73, (-1))], 16))]
theorem ch_3173 : staG tb_X12_goDrawn 1 bt_RX12 [] ct_3173 [] [] cu_3173 37 con_3173 = true := by decide +kernel
theorem cc_3173 : cu_3173.all (cutG tb_X12_goDrawn 1 bt_RX12 [] ct_3173 [] [] cu_3173 37 con_3173) = true := by decide +kernel
theorem cto_3173 (l : Launch) : CTOK2 l RX12 vwCl gTbl ct_3173 := ct2_cons (vl_934 l) ck_RX12_345_934 (ct2_cons (vl_1344 l) ck_RX12_103_1344 (ct2_cons (vl_1352 l) ck_RX12_363_1352 (ct2_nil)))
theorem vl_3173 (l : Launch) : Vld2 l vwCl gTbl con_3173 := conR_ok3 gT_all (hd_3173) rfl pn_RX12 tk_X12_goDrawn bo_RX12 xo_RX12 (cto_3173 l) ch_3173 (cut_all cc_3173)
/-- RookHustingModel drawn -/
noncomputable def con_3174 : Con2 := ((yX12_drawn, cX12_drawn, 3, (some .int)), (9, 213), ([(6, 0, 0), (1, 1, 0), (1, 2, 0)], gi_745, hc_149, []), [((1, 71, 0), gi_2712, hq_961, [], tg_1)])
theorem hd_3174 : con_3174.1 = (yX12_drawn, cX12_drawn, 3, (some .int)) := rfl
theorem ck_RX12_492_3173 : COK2 RX12 vwCl gTbl 492 0 con_3173 := ⟨wd_2149, wd_137, mh_X12_goDrawn, .inr (.inr ⟨rfl, wd_2146, wd_2148, wd_123, ⟨_, rfl, pd_X12_goDrawn⟩, 12, _, TX12, 45, rfl, rfl⟩)⟩
theorem ck_RX12_489_3172 : COK2 RX12 vwCl gTbl 489 1 con_3172 := ⟨wd_2144, wd_137, mh_X12_isSeed, .inl ⟨rfl, wd_2142, wd_2143, pd_X12_isSeed⟩⟩
noncomputable def ct_3174 : CTB2 := [(1, 99, 0, con_678, [0, 1]), (8, 489, 1, con_3172, []), (18, 91, 1, con_652, []), (30, 492, 0, con_3173, [0, 1, 2, 3, 4, 5, 6, 7, 8, 9, 10, 11, 12]), (45, 390, 0, con_1467, [0, 1, 7])]
noncomputable def cu_3174 : List CUT2 := []
theorem ch_3174 : staG tb_X12_drawn 1 bt_RX12 [] ct_3174 [] [] cu_3174 24 con_3174 = true := by decide +kernel
theorem cto_3174 (l : Launch) : CTOK2 l RX12 vwCl gTbl ct_3174 := ct2_cons (vl_678 l) ck_RX12_99_678 (ct2_cons (vl_3172 l) ck_RX12_489_3172 (ct2_cons (vl_652 l) ck_RX12_91_652 (ct2_cons (vl_3173 l) ck_RX12_492_3173 (ct2_cons (vl_1467 l) ck_RX12_390_1467 (ct2_nil)))))
theorem vl_3174 (l : Launch) : Vld2 l vwCl gTbl con_3174 := conR_ok3 gT_all (hd_3174) rfl pn_RX12 tk_X12_drawn bo_RX12 xo_RX12 (cto_3174 l) ch_3174 cut_nil
/-- RookHusting luck -/
noncomputable def gi_3069 : GI := jl_n [gp_198, gp_269, gp_787]
noncomputable def ac_1466 : AC := .inl (11, jl_n [vp_52, vp_150, jl_8 17 3, jl_1 18 1, jl_8 20 2])
noncomputable def ac_1467 : AC := .inl (4, jl_n [jl_8 23 1, jl_1 27 4, jl_8 28 1, jl_1 30 2, vp_74, jl_8 38 2, jl_6 10 1])
noncomputable def ac_1468 : AC := .inl (3, jl_n [vp_77, jl_1 118 2])
noncomputable def ac_1469 : AC := .inl (3, jl_n [vp_140, jl_1 131 2])
noncomputable def hc_252 : List AC := [ac_1466, .inl (9, [(6, 2, 0), (6, 11, 0)]), ac_1467, .inl (7, [(6, 4, 0), (6, 5, 0), (6, 6, 0), (1, 42, 0)]), am_7, am_1, am_1, am_1, .inl (1, [(6, 2, 0), (8, 44, 0)]), am_4, am_6, .inl (0, [(1, 45, 0), (6, 12, 0), (6, 13, 0), (6, 14, 0)]), ac_594, am_11, ac_595, ac_1468, am_2, am_0, am_10, am_0, am_1, am_0, am_2, am_9, am_0, am_0, am_12, .inl (7, [(6, 28, 0), (6, 29, 0), (6, 30, 0), (1, 121, 0)]), am_7, am_1, am_1, ac_1469, am_0, am_0, am_1, am_0, am_0, am_0, am_12]
noncomputable def gi_3070 : GI := jl_n [gp_198, gp_269, gp_787, gp_780]
noncomputable def ac_1470 : AC := .inl (11, jl_n [vp_52, vp_150, jl_8 17 3, jl_1 146 1, jl_8 20 2])
noncomputable def ac_1471 : AC := .inl (3, jl_n [vp_77, jl_1 161 2])
noncomputable def hq_996 : HP := [(true, ac_1470), (false, .inl (9, [(6, 2, 0), (6, 11, 0)])), (false, ac_1467), (true, .inl (7, [(6, 4, 0), (6, 5, 0), (6, 6, 0), (1, 151, 0)])), (true, am_7), (true, am_1), (true, am_1), (false, am_1), (false, .inl (1, [(6, 2, 0), (8, 44, 0)])), (false, am_4), (false, am_6), (false, .inl (0, [(1, 45, 0), (6, 12, 0), (6, 13, 0), (6, 14, 0)])), (false, ac_594), (false, am_11), (false, ac_595), (true, ac_1471), (false, am_2), (true, am_0), (false, am_10), (true, am_0), (true, am_1), (true, am_0), (false, am_2), (false, am_9), (true, am_0), (true, am_0), (true, am_12), (true, .inl (7, [(6, 28, 0), (6, 29, 0), (6, 30, 0), (1, 164, 0)])), (true, am_7), (true, am_1), (true, am_1), (true, ac_798), (true, am_0), (true, am_0), (true, am_1), (true, am_0), (true, am_0), (true, am_0), (true, am_12)]
noncomputable def con_3175 : Con2 := ((yX11_luck, cX11_luck, 6, (some .int)), (7, 173), ([(6, 0, 0), (1, 1, 0), (1, 2, 0), (1, 3, 0)], gi_3069, hc_252, rq_4), [((1, 131, 0), gi_3070, hq_996, [], tg_20)])
theorem hd_3175 : con_3175.1 = (yX11_luck, cX11_luck, 6, (some .int)) := rfl
noncomputable def ct_3175 : CTB2 := [(2, 139, 0, con_647, [0, 1, 2]), (9, 384, 1, con_3167, []), (48, 391, 0, con_3169, [0, 1, 3, 2, 4, 5, 6, 7, 8, 9, 10, 11, 12, 13, 14, 15, 16, 17, 18, 19, 20, 21, 22, 23, 24, 25, 26, 27, 28, 29, 30, 31, 32, 33, 34, 35, 36, 37, 38])]
noncomputable def gi_3071 : GI := jl_n [jl_z 1, jl_i 0 2000000000, jl_i 1 20, gp_710, gp_152, gp_786, gp_342, jl_i 0 20, gp_276, gp_410]
noncomputable def ac_1472 : AC := .inl (11, jl_n [vp_52, vp_150, jl_8 17 3, jl_1 151 1, jl_8 20 2])
noncomputable def ac_1473 : AC := .inl (3, jl_n [vp_140, jl_1 179 2])
noncomputable def hq_997 : HP := [(true, ac_1472), (false, .inl (9, [(6, 2, 0), (6, 11, 0)])), (false, ac_1467), (true, .inl (7, [(6, 4, 0), (6, 5, 0), (6, 6, 0), (1, 156, 0)])), (true, am_7), (true, am_1), (true, am_1), (false, am_1), (false, .inl (1, [(6, 2, 0), (8, 44, 0)])), (false, am_4), (false, am_6), (false, .inl (0, [(1, 45, 0), (6, 12, 0), (6, 13, 0), (6, 14, 0)])), (false, ac_594), (false, am_11), (false, ac_595), (true, ac_720), (false, am_2), (true, am_0), (false, am_10), (true, am_0), (true, am_1), (true, am_0), (false, am_2), (false, am_9), (true, am_0), (true, am_0), (true, am_12), (true, .inl (7, [(6, 28, 0), (6, 29, 0), (6, 30, 0), (1, 169, 0)])), (true, am_7), (true, am_1), (true, am_1), (true, ac_1473), (true, am_0), (true, am_0), (true, am_1), (true, am_0), (true, am_0), (true, am_0), (true, am_12)]
noncomputable def cu_3175 : List CUT2 := [((35, [lq 0 6 0, lq 1 1 1, lq 2 1 2, lq 3 1 3, lq 4 1 135, lq 5 1 136], [], gi_3071, hq_997), rq_4, ([(136, (-1))], 20))]
theorem ch_3175 : staG tb_X11_luck 1 bt_RX11 [] ct_3175 [] [] cu_3175 29 con_3175 = true := by decide +kernel
theorem cc_3175 : cu_3175.all (cutG tb_X11_luck 1 bt_RX11 [] ct_3175 [] [] cu_3175 29 con_3175) = true := by decide +kernel
theorem cto_3175 (l : Launch) : CTOK2 l RX11 vwCl gTbl ct_3175 := ct2_cons (vl_647 l) ck_RX11_139_647 (ct2_cons (vl_3167 l) ck_RX11_384_3167 (ct2_cons (vl_3169 l) ck_RX11_391_3169 (ct2_nil)))
theorem vl_3175 (l : Launch) : Vld2 l vwCl gTbl con_3175 := conR_ok3 gT_all (hd_3175) rfl pn_RX11 tk_X11_luck bo_RX11 xo_RX11 (cto_3175 l) ch_3175 (cut_all cc_3175)
/-- RookHustingModel in -/
noncomputable def con_3176 : Con2 := ((yX12_in, cX12_in, 6, (some .boolean)), (0, 0), ([(4, 0, 0), (3, 1, 0), (3, 20, 0)], gi_145, [], []), [((0, 0, 0), gi_146, [], [], [1]), ((0, 1, 0), [(1, 20), (0, 0), (0, 0), (0, 0)], [], [], [1])])
theorem hd_3176 : con_3176.1 = (yX12_in, cX12_in, 6, (some .boolean)) := rfl
noncomputable def cu_3176 : List CUT2 := []
theorem ch_3176 : staG tb_X12_in 1 bt_RX12 [] ct_2 [] [] cu_3176 11 con_3176 = true := by decide +kernel
theorem vl_3176 (l : Launch) : Vld2 l vwCl gTbl con_3176 := conR_ok3 gT_all (hd_3176) rfl pn_RX12 tk_X12_in bo_RX12 xo_RX12 (cto_2 l) ch_3176 cut_nil
/-- RookHustingModel luck -/
noncomputable def gi_3072 : GI := jl_n [gp_198, gp_283]
noncomputable def ac_1474 : AC := .inl (12, jl_n [vp_55, jl_1 22 1, jl_6 7 3, jl_1 29 4, vp_110, jl_8 49 14])
noncomputable def hc_253 : List AC := [ac_1474, ac_461, am_8, am_5, am_7, am_7, am_1, am_0, am_0, am_0, am_13, am_14, am_15]
noncomputable def gi_3073 : GI := jl_n [gp_198, gp_283, gp_411]
noncomputable def ac_1475 : AC := .inl (12, jl_n [vp_55, jl_1 91 1, jl_6 7 3, jl_1 98 4, vp_110, jl_8 49 14])
noncomputable def hq_998 : HP := [(true, ac_1475), (false, ac_461), (true, am_8), (true, am_5), (true, am_7), (true, am_7), (true, am_1), (true, am_0), (true, am_0), (true, am_0), (true, am_13), (true, am_14), (true, am_15)]
noncomputable def con_3177 : Con2 := ((yX12_luck, cX12_luck, 6, (some .int)), (9, 213), ([(6, 0, 0), (1, 1, 0), (1, 2, 0), (1, 3, 0)], gi_3072, hc_253, []), [((1, 72, 0), gi_3073, hq_998, [], tg_1)])
theorem hd_3177 : con_3177.1 = (yX12_luck, cX12_luck, 6, (some .int)) := rfl
theorem ck_RX12_91_3176 : COK2 RX12 vwCl gTbl 91 1 con_3176 := ⟨wd_1544, wd_137, mh_X12_in, .inl ⟨rfl, wd_1542, wd_1543, pd_X12_in⟩⟩
noncomputable def ct_3177 : CTB2 := [(1, 489, 1, con_3172, []), (13, 91, 1, con_3176, []), (22, 109, 0, con_651, [0, 1]), (50, 492, 0, con_3173, [0, 1, 2, 3, 4, 5, 6, 7, 8, 9, 10, 11, 12]), (61, 103, 0, con_1344, [0, 1])]
noncomputable def gi_3074 : GI := jl_n [jl_z 1, jl_i 0 2000000000, jl_i 1 20, jl_i 0 4, gp_369, jl_z 18, jl_t, jl_i 0 20, gp_282]
noncomputable def ac_1476 : AC := .inl (12, jl_n [vp_55, jl_1 96 1, jl_6 7 3, jl_1 103 4, vp_110, jl_8 49 14])
noncomputable def hq_999 : HP := [(true, ac_1476), (false, ac_461), (true, am_8), (true, am_5), (true, am_7), (true, am_7), (true, am_1), (true, am_0), (true, am_0), (true, am_0), (true, am_13), (true, am_14), (true, am_15)]
noncomputable def cu_3177 : List CUT2 := [((37, [lq 0 6 0, lq 1 1 1, lq 2 1 2, lq 3 1 3, lq 4 1 76, lq 5 1 77], [], gi_3074, hq_999), [], ([(77, (-1))], 20))]
theorem ch_3177 : staG tb_X12_luck 1 bt_RX12 [] ct_3177 [] [] cu_3177 30 con_3177 = true := by decide +kernel
theorem cc_3177 : cu_3177.all (cutG tb_X12_luck 1 bt_RX12 [] ct_3177 [] [] cu_3177 30 con_3177) = true := by decide +kernel
theorem cto_3177 (l : Launch) : CTOK2 l RX12 vwCl gTbl ct_3177 := ct2_cons (vl_3172 l) ck_RX12_489_3172 (ct2_cons (vl_3176 l) ck_RX12_91_3176 (ct2_cons (vl_651 l) ck_RX12_109_651 (ct2_cons (vl_3173 l) ck_RX12_492_3173 (ct2_cons (vl_1344 l) ck_RX12_103_1344 (ct2_nil)))))
theorem vl_3177 (l : Launch) : Vld2 l vwCl gTbl con_3177 := conR_ok3 gT_all (hd_3177) rfl pn_RX12 tk_X12_luck bo_RX12 xo_RX12 (cto_3177 l) ch_3177 (cut_all cc_3177)
/-- RookHusting rate -/
noncomputable def gi_3075 : GI := jl_n [gp_890, gp_226, gp_76]
noncomputable def ac_1477 : AC := .inl (11, jl_n [vp_38, jl_8 13 7, jl_6 6 1, jl_8 16 2, jl_1 18 2, jl_8 19 1])
noncomputable def ac_1478 : AC := .inl (4, jl_n [jl_8 27 6, jl_1 28 1, jl_8 32 4, jl_6 5 1, jl_8 38 5])
noncomputable def ac_1479 : AC := .inl (5, jl_n [jl_8 46 4, jl_1 47 1, jl_6 3 1, jl_8 50 2])
noncomputable def hc_254 : List AC := [ac_1477, .inl (9, [(6, 2, 0), (6, 3, 0)]), ac_1478, .inl (0, [(1, 38, 0), (8, 39, 0), (8, 40, 0), (8, 41, 0)]), am_2, ac_1479]
noncomputable def gi_3076 : GI := jl_n [gp_890, gp_226, gp_76, jl_m 4 40, gp_77, jl_z 5, gp_74]
noncomputable def ac_1480 : AC := .inl (11, jl_n [vp_38, jl_8 13 7, jl_6 6 1, jl_8 16 2, jl_1 66 2, jl_8 19 1])
noncomputable def ac_1481 : AC := .inl (5, jl_n [jl_8 46 4, jl_1 72 1, jl_6 3 1, jl_8 50 2])
noncomputable def hq_1000 : HP := [(true, ac_1480), (false, .inl (9, [(6, 2, 0), (6, 3, 0)])), (false, ac_1478), (false, .inl (0, [(1, 38, 0), (8, 39, 0), (8, 40, 0), (8, 41, 0)])), (true, am_2), (true, ac_1481)]
noncomputable def con_3178 : Con2 := ((yX11_rate, cX11_rate, 4, (some .int)), (1, 21), ([(6, 0, 0), (1, 1, 0), (1, 2, 0)], gi_3075, hc_254, []), [((1, 50, 0), gi_3076, hq_1000, [], tg_29)])
theorem hd_3178 : con_3178.1 = (yX11_rate, cX11_rate, 4, (some .int)) := rfl
noncomputable def ct_3178 : CTB2 := [(2, 156, 0, con_657, [0, 1, 2]), (64, 130, 0, con_312, [0, 5])]
noncomputable def cu_3178 : List CUT2 := []
theorem ch_3178 : staG tb_X11_rate 1 bt_RX11 [] ct_3178 [] [] cu_3178 34 con_3178 = true := by decide +kernel
theorem cto_3178 (l : Launch) : CTOK2 l RX11 vwCl gTbl ct_3178 := ct2_cons (vl_657 l) ck_RX11_156_657 (ct2_cons (vl_312 l) ck_RX11_130_312 (ct2_nil))
theorem vl_3178 (l : Launch) : Vld2 l vwCl gTbl con_3178 := conR_ok3 gT_all (hd_3178) rfl pn_RX11 tk_X11_rate bo_RX11 xo_RX11 (cto_3178 l) ch_3178 cut_nil
/-- RookHustingModel rate -/
noncomputable def gi_3077 : GI := jl_n [gp_170, jl_m 4 40, jl_z 7, gp_114]
noncomputable def ac_1482 : AC := .inr (1, jl_n [js_1 55 7, js_1 80 1, js_1 57 1, sp_124])
noncomputable def con_3179 : Con2 := ((yX12_rate, cX12_rate, 4, (some .int)), (2, 46), ([(6, 0, 0), (1, 1, 0), (1, 2, 0)], gi_303, [ac_439, ac_440], []), [((1, 71, 0), gi_3077, [(false, ac_439), (true, ac_1482)], [], tg_8)])
theorem hd_3179 : con_3179.1 = (yX12_rate, cX12_rate, 4, (some .int)) := rfl
noncomputable def ct_3179 : CTB2 := [(2, 236, 0, con_660, [0, 1]), (14, 91, 1, con_560, [])]
noncomputable def cu_3179 : List CUT2 := []
theorem ch_3179 : staG tb_X12_rate 1 bt_RX12 [] ct_3179 [] [] cu_3179 37 con_3179 = true := by decide +kernel
theorem cto_3179 (l : Launch) : CTOK2 l RX12 vwCl gTbl ct_3179 := ct2_cons (vl_660 l) ck_RX12_236_660 (ct2_cons (vl_560 l) ck_RX12_91_560 (ct2_nil))
theorem vl_3179 (l : Launch) : Vld2 l vwCl gTbl con_3179 := conR_ok3 gT_all (hd_3179) rfl pn_RX12 tk_X12_rate bo_RX12 xo_RX12 (cto_3179 l) ch_3179 cut_nil
/-- RookHusting$Slots hasRow -/
noncomputable def gi_3078 : GI := jl_n [gp_210, gp_897]
noncomputable def gi_3079 : GI := jl_n [gp_210, gp_898]
noncomputable def con_3182 : Con2 := ((yX8_hasRow, cX8_hasRow, 2, (some .boolean)), (0, 0), ([(6, 0, 0), (1, 1, 0)], gi_3078, [.inl (8, [(8, 2, 0), (8, 3, 0), (6, 1, 0)]), ac_808], []), [((0, 0, 0), gi_3079, hq_640, [], [1]), ((0, 1, 0), gi_3079, hq_640, [], [1])])
theorem hd_3182 : con_3182.1 = (yX8_hasRow, cX8_hasRow, 2, (some .boolean)) := rfl
noncomputable def cu_3182 : List CUT2 := []
theorem ch_3182 : staG tb_X8_hasRow 1 bt_RX8 [] ct_1497 [] [] cu_3182 11 con_3182 = true := by decide +kernel
theorem vl_3182 (l : Launch) : Vld2 l vwCl gTbl con_3182 := conR_ok3 gT_all (hd_3182) rfl pn_RX8 tk_X8_hasRow bo_RX8 xo_RX8 (cto_1497 l) ch_3182 cut_nil
/-- RookHusting$Slots countRows -/
noncomputable def gi_3080 : GI := jl_n [jl_z 4, jl_r 4 (jl_m 0 60)]
noncomputable def ac_1483 : AC := .inr (1, jl_n [js_1 8 4])
noncomputable def gi_3081 : GI := jl_n [jl_z 4, jl_r 4 (jl_m 0 60), jl_t]
noncomputable def hq_1001 : HP := [(false, .inl (8, [(8, 1, 0), (8, 2, 0), (6, 1, 0)])), (false, ac_1483)]
noncomputable def con_3183 : Con2 := ((yX8_countRows, cX8_countRows, 3, (some .int)), (1, 21), ([(6, 0, 0)], gi_3080, [.inl (8, [(8, 1, 0), (8, 2, 0), (6, 1, 0)]), ac_1483], []), [((1, 8, 0), gi_3081, hq_1001, [], [1])])
theorem hd_3183 : con_3183.1 = (yX8_countRows, cX8_countRows, 3, (some .int)) := rfl
theorem ck_RX8_22_3182 : COK2 RX8 vwCl gTbl 22 0 con_3182 := ⟨wd_1214, wd_131, mh_X8_hasRow, .inr (.inr ⟨rfl, wd_1348, wd_1212, wd_1213, ⟨_, rfl, pd_X8_hasRow⟩, 8, _, TX8, 3, rfl, rfl⟩)⟩
noncomputable def ct_3183 : CTB2 := [(11, 22, 0, con_3182, [0, 1])]
noncomputable def gi_3082 : GI := jl_n [jl_z 4, jl_r 4 (jl_m 0 60), gp_7, jl_i 0 4]
noncomputable def cu_3183 : List CUT2 := [((4, [lq 0 6 0, lq 1 1 9, lq 2 1 10], [], gi_3082, hq_1001), [], ([(10, (-1))], 4))]
theorem ch_3183 : staG tb_X8_countRows 1 bt_RX8 [] ct_3183 [] [] cu_3183 13 con_3183 = true := by decide +kernel
theorem cc_3183 : cu_3183.all (cutG tb_X8_countRows 1 bt_RX8 [] ct_3183 [] [] cu_3183 13 con_3183) = true := by decide +kernel
theorem cto_3183 (l : Launch) : CTOK2 l RX8 vwCl gTbl ct_3183 := ct2_cons (vl_3182 l) ck_RX8_22_3182 (ct2_nil)
theorem vl_3183 (l : Launch) : Vld2 l vwCl gTbl con_3183 := conR_ok3 gT_all (hd_3183) rfl pn_RX8 tk_X8_countRows bo_RX8 xo_RX8 (cto_3183 l) ch_3183 (cut_all cc_3183)
/-- RookHusting count -/
noncomputable def gi_3083 : GI := jl_n [gp_361, jl_r 4 (jl_m 0 60), gp_3, jl_z 6, gp_899]
noncomputable def ac_1484 : AC := .inl (11, jl_n [jl_6 4 1, jl_8 4 1, jl_6 5 1, vp_91, jl_8 18 11])
noncomputable def ac_1485 : AC := .inl (10, jl_n [jl_8 26 1, jl_1 27 1, jl_8 31 4])
noncomputable def ac_1486 : AC := .inl (4, jl_n [jl_1 41 8, jl_8 50 9])
noncomputable def hc_255 : List AC := [ac_1484, .inl (8, [(8, 18, 0), (8, 19, 0), (6, 2, 0)]), ac_1054, ac_1485, .inl (9, [(6, 5, 0), (6, 6, 0)]), ac_1486, .inl (0, [(1, 50, 0), (8, 51, 0), (8, 52, 0), (8, 53, 0)])]
noncomputable def gi_3084 : GI := jl_n [gp_361, jl_r 4 (jl_m 0 60), gp_3, jl_z 6, gp_899, jl_t]
noncomputable def hq_1002 : HP := [(false, ac_1484), (false, .inl (8, [(8, 18, 0), (8, 19, 0), (6, 2, 0)])), (false, ac_1054), (false, ac_1485), (false, .inl (9, [(6, 5, 0), (6, 6, 0)])), (false, ac_1486), (false, .inl (0, [(1, 50, 0), (8, 51, 0), (8, 52, 0), (8, 53, 0)]))]
noncomputable def con_3184 : Con2 := ((yX11_count, cX11_count, 2, (some .int)), (2, 43), ([(6, 0, 0), (1, 1, 0)], gi_3083, hc_255, []), [((1, 54, 0), gi_3084, hq_1002, [], [1])])
theorem hd_3184 : con_3184.1 = (yX11_count, cX11_count, 2, (some .int)) := rfl
theorem ck_RX11_405_3183 : COK2 RX11 vwCl gTbl 405 0 con_3183 := ⟨wd_1347, wd_131, mh_X8_countRows, .inr (.inr ⟨rfl, wd_1344, wd_1345, wd_1346, ⟨_, rfl, pd_X8_countRows⟩, 8, _, TX8, 3, rfl, rfl⟩)⟩
noncomputable def ct_3184 : CTB2 := [(171, 405, 0, con_3183, [1, 2])]
noncomputable def cu_3184 : List CUT2 := []
theorem ch_3184 : staG tb_X11_count 1 bt_RX11 [] ct_3184 [] [] cu_3184 9 con_3184 = true := by decide +kernel
theorem cto_3184 (l : Launch) : CTOK2 l RX11 vwCl gTbl ct_3184 := ct2_cons (vl_3183 l) ck_RX11_405_3183 (ct2_nil)
theorem vl_3184 (l : Launch) : Vld2 l vwCl gTbl con_3184 := conR_ok3 gT_all (hd_3184) rfl pn_RX11 tk_X11_count bo_RX11 xo_RX11 (cto_3184 l) ch_3184 cut_nil
/-- RookHustingModel in -/
noncomputable def con_3185 : Con2 := ((yX12_in, cX12_in, 6, (some .boolean)), (0, 0), ([(4, 0, 0), (3, 0, 0), (3, 8, 0)], gi_145, [], []), [((0, 0, 0), gi_146, [], [], [1]), ((0, 1, 0), [(0, 8), (0, 0), (0, 0), (0, 0)], [], [], [1])])
theorem hd_3185 : con_3185.1 = (yX12_in, cX12_in, 6, (some .boolean)) := rfl
noncomputable def cu_3185 : List CUT2 := []
theorem ch_3185 : staG tb_X12_in 1 bt_RX12 [] ct_2 [] [] cu_3185 11 con_3185 = true := by decide +kernel
theorem vl_3185 (l : Launch) : Vld2 l vwCl gTbl con_3185 := conR_ok3 gT_all (hd_3185) rfl pn_RX12 tk_X12_in bo_RX12 xo_RX12 (cto_2 l) ch_3185 cut_nil
/-- RookHustingModel count -/
noncomputable def gi_3085 : GI := jl_n [gp_9, gp_727]
noncomputable def ac_1487 : AC := .inl (12, jl_n [vp_36, jl_8 7 3, jl_1 8 1, jl_8 43 35, jl_6 3 1, jl_8 47 3])
noncomputable def ac_1488 : AC := .inr (1, jl_n [js_1 74 4])
noncomputable def gi_3086 : GI := jl_n [gp_9, gp_727, jl_t]
noncomputable def con_3186 : Con2 := ((yX12_count, cX12_count, 4, (some .int)), (1, 25), ([(6, 0, 0), (1, 1, 0)], gi_3085, [ac_1487, ac_438, ac_1488], []), [((1, 74, 0), gi_3086, [(false, ac_1487), (false, ac_438), (false, ac_1488)], [], [1])])
theorem hd_3186 : con_3186.1 = (yX12_count, cX12_count, 4, (some .int)) := rfl
theorem ck_RX12_91_3185 : COK2 RX12 vwCl gTbl 91 1 con_3185 := ⟨wd_1544, wd_137, mh_X12_in, .inl ⟨rfl, wd_1542, wd_1543, pd_X12_in⟩⟩
noncomputable def ct_3186 : CTB2 := [(6, 91, 1, con_3185, [])]
noncomputable def gi_3087 : GI := jl_n [jl_z 1, jl_i 10 10, gp_6, gp_727, gp_193, jl_i 0 4]
noncomputable def cu_3186 : List CUT2 := [((42, [lq 0 6 0, lq 1 0 10, lq 2 1 76, lq 3 1 77], [], gi_3087, [(false, ac_1487), (false, ac_438), (false, ac_1488)]), [], ([(77, (-1))], 4))]
theorem ch_3186 : staG tb_X12_count 1 bt_RX12 [] ct_3186 [] [] cu_3186 19 con_3186 = true := by decide +kernel
theorem cc_3186 : cu_3186.all (cutG tb_X12_count 1 bt_RX12 [] ct_3186 [] [] cu_3186 19 con_3186) = true := by decide +kernel
theorem cto_3186 (l : Launch) : CTOK2 l RX12 vwCl gTbl ct_3186 := ct2_cons (vl_3185 l) ck_RX12_91_3185 (ct2_nil)
theorem vl_3186 (l : Launch) : Vld2 l vwCl gTbl con_3186 := conR_ok3 gT_all (hd_3186) rfl pn_RX12 tk_X12_count bo_RX12 xo_RX12 (cto_3186 l) ch_3186 (cut_all cc_3186)
/-- RookHusting image -/
noncomputable def gi_3088 : GI := jl_n [gp_614, gp_905]
noncomputable def ac_1489 : AC := .inl (11, jl_n [vp_158, jl_c 7, jl_8 18 3])
noncomputable def ac_1490 : AC := .inr (4, jl_n [jl_x (1, (6, 47, 0)), jl_x (1, (6, 32, 0)), jl_x (1, (6, 2, 0))])
noncomputable def ac_1491 : AC := .inl (4, jl_n [jl_1 33 8, vp_160])
noncomputable def ac_1492 : AC := .inl (4, jl_n [jl_1 50 8, jl_6 8 1, jl_6 10 1, jl_6 12 1, vp_10, jl_6 18 1, vp_157, jl_6 24 1])
noncomputable def ac_1493 : AC := .inr (1, jl_n [js_1 97 30])
noncomputable def ac_1494 : AC := .inr (1, jl_n [js_1 127 30])
noncomputable def ac_1495 : AC := .inr (1, jl_n [js_1 157 30])
noncomputable def ac_1496 : AC := .inr (1, jl_n [js_1 187 30])
noncomputable def ac_1497 : AC := .inl (4, jl_n [jl_1 197 8, jl_6 43 9])
noncomputable def ac_1498 : AC := .inr (1, jl_n [js_1 240 30])
noncomputable def ac_1499 : AC := .inr (1, jl_n [js_1 270 30])
noncomputable def ac_1500 : AC := .inl (4, jl_n [jl_1 280 8, jl_6 58 9])
noncomputable def ac_1501 : AC := .inr (1, jl_n [js_1 323 30])
noncomputable def ac_1502 : AC := .inr (1, jl_n [js_1 353 30])
noncomputable def hc_256 : List AC := [ac_1489, ac_1490, .inl (9, [(6, 4, 0), (6, 24, 0)]), .inl (9, [(6, 5, 0), (6, 25, 0)]), ac_1491, ac_1492, am_10, am_10, am_2, am_2, am_1, am_1, am_2, am_2, am_9, am_9, am_6, am_6, am_8, am_8, am_5, am_5, am_4, am_4, .inl (0, [(1, 59, 0), (6, 26, 0), (6, 28, 0), (6, 30, 0)]), .inl (0, [(1, 63, 0), (6, 27, 0), (6, 29, 0), (6, 31, 0)]), ac_1493, ac_1494, am_11, am_11, ac_1495, ac_1496, .inl (9, [(6, 33, 0), (6, 43, 0)]), ac_1497, am_10, am_2, am_1, am_2, am_9, am_6, am_8, am_5, am_4, .inl (0, [(1, 206, 0), (6, 44, 0), (6, 45, 0), (6, 46, 0)]), ac_1498, am_11, ac_1499, .inl (9, [(6, 48, 0), (6, 58, 0)]), ac_1500, am_10, am_2, am_1, am_2, am_9, am_6, am_8, am_5, am_4, .inl (0, [(1, 289, 0), (6, 59, 0), (6, 60, 0), (6, 61, 0)]), ac_1501, am_11, ac_1502]
noncomputable def rq_16 : RLs := [([(67, 12), (127, (-1))], 4), ([(68, 12), (128, (-1))], 4), ([(69, 12), (129, (-1))], 4), ([(70, 12), (130, (-1))], 4), ([(71, 12), (131, (-1))], 4), ([(72, 12), (132, (-1))], 4), ([(73, 12), (133, (-1))], 4), ([(74, 12), (134, (-1))], 4), ([(75, 12), (135, (-1))], 4), ([(76, 12), (136, (-1))], 4), ([(77, 12), (137, (-1))], 4), ([(78, 12), (138, (-1))], 4), ([(79, 12), (139, (-1))], 4), ([(80, 12), (140, (-1))], 4), ([(81, 12), (141, (-1))], 4), ([(82, 12), (142, (-1))], 4), ([(83, 12), (143, (-1))], 4), ([(84, 12), (144, (-1))], 4), ([(85, 12), (145, (-1))], 4), ([(86, 12), (146, (-1))], 4), ([(87, 12), (147, (-1))], 4), ([(88, 12), (148, (-1))], 4), ([(89, 12), (149, (-1))], 4), ([(90, 12), (150, (-1))], 4), ([(91, 12), (151, (-1))], 4), ([(92, 12), (152, (-1))], 4), ([(93, 12), (153, (-1))], 4), ([(94, 12), (154, (-1))], 4), ([(95, 12), (155, (-1))], 4), ([(96, 12), (156, (-1))], 4), ([(97, 12), (157, (-1))], 4), ([(98, 12), (158, (-1))], 4), ([(99, 12), (159, (-1))], 4), ([(100, 12), (160, (-1))], 4), ([(101, 12), (161, (-1))], 4), ([(102, 12), (162, (-1))], 4), ([(103, 12), (163, (-1))], 4), ([(104, 12), (164, (-1))], 4), ([(105, 12), (165, (-1))], 4), ([(106, 12), (166, (-1))], 4), ([(107, 12), (167, (-1))], 4), ([(108, 12), (168, (-1))], 4), ([(109, 12), (169, (-1))], 4), ([(110, 12), (170, (-1))], 4), ([(111, 12), (171, (-1))], 4), ([(112, 12), (172, (-1))], 4), ([(113, 12), (173, (-1))], 4), ([(114, 12), (174, (-1))], 4), ([(115, 12), (175, (-1))], 4), ([(116, 12), (176, (-1))], 4), ([(117, 12), (177, (-1))], 4), ([(118, 12), (178, (-1))], 4), ([(119, 12), (179, (-1))], 4), ([(120, 12), (180, (-1))], 4), ([(121, 12), (181, (-1))], 4), ([(122, 12), (182, (-1))], 4), ([(123, 12), (183, (-1))], 4), ([(124, 12), (184, (-1))], 4), ([(125, 12), (185, (-1))], 4), ([(126, 12), (186, (-1))], 4), ([(210, 12), (240, (-1))], 4), ([(211, 12), (241, (-1))], 4), ([(212, 12), (242, (-1))], 4), ([(213, 12), (243, (-1))], 4), ([(214, 12), (244, (-1))], 4), ([(215, 12), (245, (-1))], 4), ([(216, 12), (246, (-1))], 4), ([(217, 12), (247, (-1))], 4), ([(218, 12), (248, (-1))], 4), ([(219, 12), (249, (-1))], 4), ([(220, 12), (250, (-1))], 4), ([(221, 12), (251, (-1))], 4), ([(222, 12), (252, (-1))], 4), ([(223, 12), (253, (-1))], 4), ([(224, 12), (254, (-1))], 4), ([(225, 12), (255, (-1))], 4), ([(226, 12), (256, (-1))], 4), ([(227, 12), (257, (-1))], 4), ([(228, 12), (258, (-1))], 4), ([(229, 12), (259, (-1))], 4), ([(230, 12), (260, (-1))], 4), ([(231, 12), (261, (-1))], 4), ([(232, 12), (262, (-1))], 4), ([(233, 12), (263, (-1))], 4), ([(234, 12), (264, (-1))], 4), ([(235, 12), (265, (-1))], 4), ([(236, 12), (266, (-1))], 4), ([(237, 12), (267, (-1))], 4), ([(238, 12), (268, (-1))], 4), ([(239, 12), (269, (-1))], 4), ([(293, 12), (323, (-1))], 4), ([(294, 12), (324, (-1))], 4), ([(295, 12), (325, (-1))], 4), ([(296, 12), (326, (-1))], 4), ([(297, 12), (327, (-1))], 4), ([(298, 12), (328, (-1))], 4), ([(299, 12), (329, (-1))], 4), ([(300, 12), (330, (-1))], 4), ([(301, 12), (331, (-1))], 4), ([(302, 12), (332, (-1))], 4), ([(303, 12), (333, (-1))], 4), ([(304, 12), (334, (-1))], 4), ([(305, 12), (335, (-1))], 4), ([(306, 12), (336, (-1))], 4), ([(307, 12), (337, (-1))], 4), ([(308, 12), (338, (-1))], 4), ([(309, 12), (339, (-1))], 4), ([(310, 12), (340, (-1))], 4), ([(311, 12), (341, (-1))], 4), ([(312, 12), (342, (-1))], 4), ([(313, 12), (343, (-1))], 4), ([(314, 12), (344, (-1))], 4), ([(315, 12), (345, (-1))], 4), ([(316, 12), (346, (-1))], 4), ([(317, 12), (347, (-1))], 4), ([(318, 12), (348, (-1))], 4), ([(319, 12), (349, (-1))], 4), ([(320, 12), (350, (-1))], 4), ([(321, 12), (351, (-1))], 4), ([(322, 12), (352, (-1))], 4)]
noncomputable def gi_3089 : GI := jl_n [gp_614, gp_905, jl_z 1]
noncomputable def hq_1003 : HP := [(false, ac_1489), (false, ac_1490), (false, .inl (9, [(6, 4, 0), (6, 24, 0)])), (false, .inl (9, [(6, 5, 0), (6, 25, 0)])), (false, ac_1491), (false, ac_1492), (false, am_10), (false, am_10), (false, am_2), (false, am_2), (false, am_1), (false, am_1), (false, am_2), (false, am_2), (false, am_9), (false, am_9), (false, am_6), (false, am_6), (false, am_8), (false, am_8), (false, am_5), (false, am_5), (false, am_4), (false, am_4), (false, .inl (0, [(1, 59, 0), (6, 26, 0), (6, 28, 0), (6, 30, 0)])), (false, .inl (0, [(1, 63, 0), (6, 27, 0), (6, 29, 0), (6, 31, 0)])), (false, ac_1493), (false, ac_1494), (false, am_11), (false, am_11), (false, ac_1495), (false, ac_1496), (false, .inl (9, [(6, 33, 0), (6, 43, 0)])), (false, ac_1497), (false, am_10), (false, am_2), (false, am_1), (false, am_2), (false, am_9), (false, am_6), (false, am_8), (false, am_5), (false, am_4), (false, .inl (0, [(1, 206, 0), (6, 44, 0), (6, 45, 0), (6, 46, 0)])), (false, ac_1498), (false, am_11), (false, ac_1499), (false, .inl (9, [(6, 48, 0), (6, 58, 0)])), (false, ac_1500), (false, am_10), (false, am_2), (false, am_1), (false, am_2), (false, am_9), (false, am_6), (false, am_8), (false, am_5), (false, am_4), (false, .inl (0, [(1, 289, 0), (6, 59, 0), (6, 60, 0), (6, 61, 0)])), (false, ac_1501), (false, am_11), (false, ac_1502)]
noncomputable def con_3187 : Con2 := ((yX11_image, cX11_image, 2, (some .int)), (0, 0), ([(6, 0, 0), (1, 1, 0)], gi_3088, hc_256, rq_16), [((0, (-2), 0), gi_3089, hq_1003, [], [1])])
theorem hd_3187 : con_3187.1 = (yX11_image, cX11_image, 2, (some .int)) := rfl
noncomputable def cu_3187 : List CUT2 := []
theorem ch_3187 : staG tb_X11_image 1 bt_RX11 [] ct_3 [] [] cu_3187 6 con_3187 = true := by decide +kernel
theorem vl_3187 (l : Launch) : Vld2 l vwCl gTbl con_3187 := conR_ok3 gT_all (hd_3187) rfl pn_RX11 tk_X11_image bo_RX11 xo_RX11 (cto_3 l) ch_3187 cut_nil
/-- RookHusting$Acts copyFrom -/
noncomputable def gi_3090 : GI := jl_n [jl_z 2, gp_260, gp_900]
noncomputable def ac_1503 : AC := .inr (1, jl_n [js_1 40 30])
noncomputable def ac_1504 : AC := .inr (1, jl_n [js_1 70 30])
noncomputable def ac_1505 : AC := .inr (1, jl_n [js_1 100 30])
noncomputable def ac_1506 : AC := .inr (1, jl_n [js_1 130 30])
noncomputable def hc_257 : List AC := [.inl (0, [(1, 2, 0), (6, 2, 0), (6, 4, 0), (6, 6, 0)]), .inl (0, [(1, 6, 0), (6, 3, 0), (6, 5, 0), (6, 7, 0)]), ac_1503, ac_1504, am_11, am_11, ac_1505, ac_1506]
noncomputable def rq_17 : RLs := [([(10, 12), (70, (-1))], 4), ([(11, 12), (71, (-1))], 4), ([(12, 12), (72, (-1))], 4), ([(13, 12), (73, (-1))], 4), ([(14, 12), (74, (-1))], 4), ([(15, 12), (75, (-1))], 4), ([(16, 12), (76, (-1))], 4), ([(17, 12), (77, (-1))], 4), ([(18, 12), (78, (-1))], 4), ([(19, 12), (79, (-1))], 4), ([(20, 12), (80, (-1))], 4), ([(21, 12), (81, (-1))], 4), ([(22, 12), (82, (-1))], 4), ([(23, 12), (83, (-1))], 4), ([(24, 12), (84, (-1))], 4), ([(25, 12), (85, (-1))], 4), ([(26, 12), (86, (-1))], 4), ([(27, 12), (87, (-1))], 4), ([(28, 12), (88, (-1))], 4), ([(29, 12), (89, (-1))], 4), ([(30, 12), (90, (-1))], 4), ([(31, 12), (91, (-1))], 4), ([(32, 12), (92, (-1))], 4), ([(33, 12), (93, (-1))], 4), ([(34, 12), (94, (-1))], 4), ([(35, 12), (95, (-1))], 4), ([(36, 12), (96, (-1))], 4), ([(37, 12), (97, (-1))], 4), ([(38, 12), (98, (-1))], 4), ([(39, 12), (99, (-1))], 4), ([(40, 12), (100, (-1))], 4), ([(41, 12), (101, (-1))], 4), ([(42, 12), (102, (-1))], 4), ([(43, 12), (103, (-1))], 4), ([(44, 12), (104, (-1))], 4), ([(45, 12), (105, (-1))], 4), ([(46, 12), (106, (-1))], 4), ([(47, 12), (107, (-1))], 4), ([(48, 12), (108, (-1))], 4), ([(49, 12), (109, (-1))], 4), ([(50, 12), (110, (-1))], 4), ([(51, 12), (111, (-1))], 4), ([(52, 12), (112, (-1))], 4), ([(53, 12), (113, (-1))], 4), ([(54, 12), (114, (-1))], 4), ([(55, 12), (115, (-1))], 4), ([(56, 12), (116, (-1))], 4), ([(57, 12), (117, (-1))], 4), ([(58, 12), (118, (-1))], 4), ([(59, 12), (119, (-1))], 4), ([(60, 12), (120, (-1))], 4), ([(61, 12), (121, (-1))], 4), ([(62, 12), (122, (-1))], 4), ([(63, 12), (123, (-1))], 4), ([(64, 12), (124, (-1))], 4), ([(65, 12), (125, (-1))], 4), ([(66, 12), (126, (-1))], 4), ([(67, 12), (127, (-1))], 4), ([(68, 12), (128, (-1))], 4), ([(69, 12), (129, (-1))], 4)]
noncomputable def gi_3091 : GI := jl_n [jl_z 2, gp_260, gp_900, jl_z 64]
noncomputable def hq_1004 : HP := [(true, .inl (0, [(1, 6, 0), (6, 2, 0), (6, 4, 0), (6, 6, 0)])), (false, .inl (0, [(1, 6, 0), (6, 3, 0), (6, 5, 0), (6, 7, 0)])), (true, ac_1504), (false, ac_1504), (true, am_11), (false, am_11), (true, ac_1506), (false, ac_1506)]
noncomputable def rq_18 : RLs := [([(40, 12), (100, (-1))], 4), ([(41, 12), (101, (-1))], 4), ([(42, 12), (102, (-1))], 4), ([(43, 12), (103, (-1))], 4), ([(44, 12), (104, (-1))], 4), ([(45, 12), (105, (-1))], 4), ([(46, 12), (106, (-1))], 4), ([(47, 12), (107, (-1))], 4), ([(48, 12), (108, (-1))], 4), ([(49, 12), (109, (-1))], 4), ([(50, 12), (110, (-1))], 4), ([(51, 12), (111, (-1))], 4), ([(52, 12), (112, (-1))], 4), ([(53, 12), (113, (-1))], 4), ([(54, 12), (114, (-1))], 4), ([(55, 12), (115, (-1))], 4), ([(56, 12), (116, (-1))], 4), ([(57, 12), (117, (-1))], 4), ([(58, 12), (118, (-1))], 4), ([(59, 12), (119, (-1))], 4), ([(60, 12), (120, (-1))], 4), ([(61, 12), (121, (-1))], 4), ([(62, 12), (122, (-1))], 4), ([(63, 12), (123, (-1))], 4), ([(64, 12), (124, (-1))], 4), ([(65, 12), (125, (-1))], 4), ([(66, 12), (126, (-1))], 4), ([(67, 12), (127, (-1))], 4), ([(68, 12), (128, (-1))], 4), ([(69, 12), (129, (-1))], 4)]
noncomputable def con_3188 : Con2 := ((yX0_copyFrom, cX0_copyFrom, 2, none), (1, 18), ([(6, 0, 0), (6, 1, 0)], gi_3090, hc_257, rq_17), [((9, 0, 0), gi_3091, hq_1004, rq_18, tg_25)])
theorem hd_3188 : con_3188.1 = (yX0_copyFrom, cX0_copyFrom, 2, none) := rfl
noncomputable def cu_3188 : List CUT2 := []
theorem ch_3188 : staG tb_X0_copyFrom 1 bt_RX0 [] ct_1484 [] [] cu_3188 31 con_3188 = true := by decide +kernel
theorem vl_3188 (l : Launch) : Vld2 l vwCl gTbl con_3188 := conR_ok3 gT_all (hd_3188) rfl pn_RX0 tk_X0_copyFrom bo_RX0 xo_RX0 (cto_1484 l) ch_3188 cut_nil
/-- RookHusting$State copyFrom -/
noncomputable def gi_3092 : GI := jl_n [jl_z 6, gp_901]
noncomputable def ac_1507 : AC := .inl (4, jl_n [jl_1 14 8, jl_6 5 1, vp_159])
noncomputable def ac_1508 : AC := .inl (4, jl_n [jl_1 31 8, vp_9, jl_6 10 1, jl_6 12 1, vp_10, jl_6 18 1, vp_157])
noncomputable def ac_1509 : AC := .inr (1, jl_n [js_1 138 30])
noncomputable def ac_1510 : AC := .inr (1, jl_n [js_1 168 30])
noncomputable def hc_258 : List AC := [.inl (9, [(6, 2, 0), (6, 22, 0)]), .inl (9, [(6, 3, 0), (6, 23, 0)]), ac_1507, ac_1508, am_10, am_10, am_2, am_2, am_1, am_1, am_2, am_2, am_9, am_9, am_6, am_6, am_8, am_8, am_5, am_5, am_4, am_4, .inl (0, [(1, 40, 0), (6, 24, 0), (6, 26, 0), (6, 28, 0)]), .inl (0, [(1, 44, 0), (6, 25, 0), (6, 27, 0), (6, 29, 0)]), ac_642, ac_643, am_11, am_11, ac_1509, ac_1510]
noncomputable def rq_19 : RLs := [([(48, 12), (108, (-1))], 4), ([(49, 12), (109, (-1))], 4), ([(50, 12), (110, (-1))], 4), ([(51, 12), (111, (-1))], 4), ([(52, 12), (112, (-1))], 4), ([(53, 12), (113, (-1))], 4), ([(54, 12), (114, (-1))], 4), ([(55, 12), (115, (-1))], 4), ([(56, 12), (116, (-1))], 4), ([(57, 12), (117, (-1))], 4), ([(58, 12), (118, (-1))], 4), ([(59, 12), (119, (-1))], 4), ([(60, 12), (120, (-1))], 4), ([(61, 12), (121, (-1))], 4), ([(62, 12), (122, (-1))], 4), ([(63, 12), (123, (-1))], 4), ([(64, 12), (124, (-1))], 4), ([(65, 12), (125, (-1))], 4), ([(66, 12), (126, (-1))], 4), ([(67, 12), (127, (-1))], 4), ([(68, 12), (128, (-1))], 4), ([(69, 12), (129, (-1))], 4), ([(70, 12), (130, (-1))], 4), ([(71, 12), (131, (-1))], 4), ([(72, 12), (132, (-1))], 4), ([(73, 12), (133, (-1))], 4), ([(74, 12), (134, (-1))], 4), ([(75, 12), (135, (-1))], 4), ([(76, 12), (136, (-1))], 4), ([(77, 12), (137, (-1))], 4), ([(78, 12), (138, (-1))], 4), ([(79, 12), (139, (-1))], 4), ([(80, 12), (140, (-1))], 4), ([(81, 12), (141, (-1))], 4), ([(82, 12), (142, (-1))], 4), ([(83, 12), (143, (-1))], 4), ([(84, 12), (144, (-1))], 4), ([(85, 12), (145, (-1))], 4), ([(86, 12), (146, (-1))], 4), ([(87, 12), (147, (-1))], 4), ([(88, 12), (148, (-1))], 4), ([(89, 12), (149, (-1))], 4), ([(90, 12), (150, (-1))], 4), ([(91, 12), (151, (-1))], 4), ([(92, 12), (152, (-1))], 4), ([(93, 12), (153, (-1))], 4), ([(94, 12), (154, (-1))], 4), ([(95, 12), (155, (-1))], 4), ([(96, 12), (156, (-1))], 4), ([(97, 12), (157, (-1))], 4), ([(98, 12), (158, (-1))], 4), ([(99, 12), (159, (-1))], 4), ([(100, 12), (160, (-1))], 4), ([(101, 12), (161, (-1))], 4), ([(102, 12), (162, (-1))], 4), ([(103, 12), (163, (-1))], 4), ([(104, 12), (164, (-1))], 4), ([(105, 12), (165, (-1))], 4), ([(106, 12), (166, (-1))], 4), ([(107, 12), (167, (-1))], 4)]
noncomputable def gi_3093 : GI := jl_n [jl_z 6, gp_901, jl_z 81]
noncomputable def ac_1511 : AC := .inl (4, jl_n [jl_1 31 8, jl_6 5 1, vp_159])
noncomputable def hq_1005 : HP := [(false, .inl (9, [(6, 2, 0), (6, 22, 0)])), (false, .inl (9, [(6, 3, 0), (6, 23, 0)])), (true, ac_1511), (false, ac_1508), (true, am_10), (false, am_10), (true, am_2), (false, am_2), (true, am_1), (false, am_1), (true, am_2), (false, am_2), (true, am_9), (false, am_9), (true, am_6), (false, am_6), (true, am_8), (false, am_8), (true, am_5), (false, am_5), (true, am_4), (false, am_4), (true, .inl (0, [(1, 44, 0), (6, 24, 0), (6, 26, 0), (6, 28, 0)])), (false, .inl (0, [(1, 44, 0), (6, 25, 0), (6, 27, 0), (6, 29, 0)])), (true, ac_643), (false, ac_643), (true, am_11), (false, am_11), (true, ac_1510), (false, ac_1510)]
noncomputable def rq_20 : RLs := [([(78, 12), (138, (-1))], 4), ([(79, 12), (139, (-1))], 4), ([(80, 12), (140, (-1))], 4), ([(81, 12), (141, (-1))], 4), ([(82, 12), (142, (-1))], 4), ([(83, 12), (143, (-1))], 4), ([(84, 12), (144, (-1))], 4), ([(85, 12), (145, (-1))], 4), ([(86, 12), (146, (-1))], 4), ([(87, 12), (147, (-1))], 4), ([(88, 12), (148, (-1))], 4), ([(89, 12), (149, (-1))], 4), ([(90, 12), (150, (-1))], 4), ([(91, 12), (151, (-1))], 4), ([(92, 12), (152, (-1))], 4), ([(93, 12), (153, (-1))], 4), ([(94, 12), (154, (-1))], 4), ([(95, 12), (155, (-1))], 4), ([(96, 12), (156, (-1))], 4), ([(97, 12), (157, (-1))], 4), ([(98, 12), (158, (-1))], 4), ([(99, 12), (159, (-1))], 4), ([(100, 12), (160, (-1))], 4), ([(101, 12), (161, (-1))], 4), ([(102, 12), (162, (-1))], 4), ([(103, 12), (163, (-1))], 4), ([(104, 12), (164, (-1))], 4), ([(105, 12), (165, (-1))], 4), ([(106, 12), (166, (-1))], 4), ([(107, 12), (167, (-1))], 4)]
noncomputable def con_3189 : Con2 := ((yX9_copyFrom, cX9_copyFrom, 2, none), (2, 39), ([(6, 0, 0), (6, 1, 0)], gi_3092, hc_258, rq_19), [((9, 0, 0), gi_3093, hq_1005, rq_20, tg_30)])
theorem hd_3189 : con_3189.1 = (yX9_copyFrom, cX9_copyFrom, 2, none) := rfl
theorem ck_RX9_27_3188 : COK2 RX9 vwCl gTbl 27 0 con_3188 := ⟨wd_1361, wd_130, mh_X0_copyFrom, .inr (.inr ⟨rfl, wd_1358, wd_1359, wd_1360, ⟨_, rfl, pd_X0_copyFrom⟩, 0, _, TX0, 4, rfl, rfl⟩)⟩
theorem ck_RX9_23_311 : COK2 RX9 vwCl gTbl 23 0 con_311 := ⟨wd_737, wd_128, mh_X4_copyFrom, .inr (.inr ⟨rfl, wd_1357, wd_735, wd_736, ⟨_, rfl, pd_X4_copyFrom⟩, 4, _, TX4, 17, rfl, rfl⟩)⟩
noncomputable def ct_3189 : CTB2 := [(8, 23, 0, con_311, [2, 3, 4, 5, 6, 7, 8, 9, 10, 11, 12, 13, 14, 15, 16, 17, 18, 19, 20, 21]), (19, 27, 0, con_3188, [22, 23, 24, 25, 26, 27, 28, 29])]
noncomputable def cu_3189 : List CUT2 := []
theorem ch_3189 : staG tb_X9_copyFrom 1 bt_RX9 [] ct_3189 [] [] cu_3189 13 con_3189 = true := by decide +kernel
theorem cto_3189 (l : Launch) : CTOK2 l RX9 vwCl gTbl ct_3189 := ct2_cons (vl_311 l) ck_RX9_23_311 (ct2_cons (vl_3188 l) ck_RX9_27_3188 (ct2_nil))
theorem vl_3189 (l : Launch) : Vld2 l vwCl gTbl con_3189 := conR_ok3 gT_all (hd_3189) rfl pn_RX9 tk_X9_copyFrom bo_RX9 xo_RX9 (cto_3189 l) ch_3189 cut_nil
/-- RookHusting image -/
noncomputable def gi_3094 : GI := jl_n [jl_z 25, gp_904]
noncomputable def gi_3095 : GI := jl_n [jl_z 25, gp_904, jl_z 98]
noncomputable def ac_1512 : AC := .inl (4, jl_n [jl_1 50 8, jl_6 58 9])
noncomputable def hq_1006 : HP := [(true, ac_1489), (false, ac_1490), (false, .inl (9, [(6, 4, 0), (6, 24, 0)])), (false, .inl (9, [(6, 5, 0), (6, 25, 0)])), (false, ac_1491), (false, ac_1492), (false, am_10), (false, am_10), (false, am_2), (false, am_2), (false, am_1), (false, am_1), (false, am_2), (false, am_2), (false, am_9), (false, am_9), (false, am_6), (false, am_6), (false, am_8), (false, am_8), (false, am_5), (false, am_5), (false, am_4), (false, am_4), (false, .inl (0, [(1, 59, 0), (6, 26, 0), (6, 28, 0), (6, 30, 0)])), (false, .inl (0, [(1, 63, 0), (6, 27, 0), (6, 29, 0), (6, 31, 0)])), (false, ac_1493), (false, ac_1494), (false, am_11), (false, am_11), (false, ac_1495), (false, ac_1496), (false, .inl (9, [(6, 33, 0), (6, 43, 0)])), (false, ac_1497), (false, am_10), (false, am_2), (false, am_1), (false, am_2), (false, am_9), (false, am_6), (false, am_8), (false, am_5), (false, am_4), (false, .inl (0, [(1, 206, 0), (6, 44, 0), (6, 45, 0), (6, 46, 0)])), (false, ac_1498), (false, am_11), (false, ac_1499), (false, .inl (9, [(6, 48, 0), (6, 58, 0)])), (true, ac_1512), (true, am_10), (true, am_2), (true, am_1), (true, am_2), (true, am_9), (true, am_6), (true, am_8), (true, am_5), (true, am_4), (true, .inl (0, [(1, 63, 0), (6, 59, 0), (6, 60, 0), (6, 61, 0)])), (true, ac_1494), (true, am_11), (true, ac_1496)]
noncomputable def rq_21 : RLs := [([(97, 12), (157, (-1))], 4), ([(98, 12), (158, (-1))], 4), ([(99, 12), (159, (-1))], 4), ([(100, 12), (160, (-1))], 4), ([(101, 12), (161, (-1))], 4), ([(102, 12), (162, (-1))], 4), ([(103, 12), (163, (-1))], 4), ([(104, 12), (164, (-1))], 4), ([(105, 12), (165, (-1))], 4), ([(106, 12), (166, (-1))], 4), ([(107, 12), (167, (-1))], 4), ([(108, 12), (168, (-1))], 4), ([(109, 12), (169, (-1))], 4), ([(110, 12), (170, (-1))], 4), ([(111, 12), (171, (-1))], 4), ([(112, 12), (172, (-1))], 4), ([(113, 12), (173, (-1))], 4), ([(114, 12), (174, (-1))], 4), ([(115, 12), (175, (-1))], 4), ([(116, 12), (176, (-1))], 4), ([(117, 12), (177, (-1))], 4), ([(118, 12), (178, (-1))], 4), ([(119, 12), (179, (-1))], 4), ([(120, 12), (180, (-1))], 4), ([(121, 12), (181, (-1))], 4), ([(122, 12), (182, (-1))], 4), ([(123, 12), (183, (-1))], 4), ([(124, 12), (184, (-1))], 4), ([(125, 12), (185, (-1))], 4), ([(126, 12), (186, (-1))], 4)]
noncomputable def con_3190 : Con2 := ((yX11_image, cX11_image, 2, (some .int)), (3, 60), ([(6, 0, 0), (0, 0, 0)], gi_3094, hc_256, rq_16), [((0, 0, 0), gi_3095, hq_1006, rq_21, tg_31)])
theorem hd_3190 : con_3190.1 = (yX11_image, cX11_image, 2, (some .int)) := rfl
theorem ck_RX11_408_3189 : COK2 RX11 vwCl gTbl 408 0 con_3189 := ⟨wd_1356, wd_129, mh_X9_copyFrom, .inr (.inr ⟨rfl, wd_1353, wd_1354, wd_1355, ⟨_, rfl, pd_X9_copyFrom⟩, 9, _, TX9, 2, rfl, rfl⟩)⟩
noncomputable def ct_3190 : CTB2 := [(22, 408, 0, con_3189, [47, 3, 48, 5, 49, 7, 50, 9, 51, 11, 52, 13, 53, 15, 54, 17, 55, 19, 56, 21, 57, 23, 58, 25, 59, 27, 60, 29, 61, 31])]
noncomputable def cu_3190 : List CUT2 := []
theorem ch_3190 : staG tb_X11_image 1 bt_RX11 [] ct_3190 [] [] cu_3190 24 con_3190 = true := by decide +kernel
theorem cto_3190 (l : Launch) : CTOK2 l RX11 vwCl gTbl ct_3190 := ct2_cons (vl_3189 l) ck_RX11_408_3189 (ct2_nil)
theorem vl_3190 (l : Launch) : Vld2 l vwCl gTbl con_3190 := conR_ok3 gT_all (hd_3190) rfl pn_RX11 tk_X11_image bo_RX11 xo_RX11 (cto_3190 l) ch_3190 cut_nil
/-- RookHusting image -/
noncomputable def ac_1513 : AC := .inl (4, jl_n [jl_1 50 8, jl_6 43 9])
noncomputable def hq_1007 : HP := [(true, ac_1489), (false, ac_1490), (false, .inl (9, [(6, 4, 0), (6, 24, 0)])), (false, .inl (9, [(6, 5, 0), (6, 25, 0)])), (false, ac_1491), (false, ac_1492), (false, am_10), (false, am_10), (false, am_2), (false, am_2), (false, am_1), (false, am_1), (false, am_2), (false, am_2), (false, am_9), (false, am_9), (false, am_6), (false, am_6), (false, am_8), (false, am_8), (false, am_5), (false, am_5), (false, am_4), (false, am_4), (false, .inl (0, [(1, 59, 0), (6, 26, 0), (6, 28, 0), (6, 30, 0)])), (false, .inl (0, [(1, 63, 0), (6, 27, 0), (6, 29, 0), (6, 31, 0)])), (false, ac_1493), (false, ac_1494), (false, am_11), (false, am_11), (false, ac_1495), (false, ac_1496), (false, .inl (9, [(6, 33, 0), (6, 43, 0)])), (true, ac_1513), (true, am_10), (true, am_2), (true, am_1), (true, am_2), (true, am_9), (true, am_6), (true, am_8), (true, am_5), (true, am_4), (true, .inl (0, [(1, 63, 0), (6, 44, 0), (6, 45, 0), (6, 46, 0)])), (true, ac_1494), (true, am_11), (true, ac_1496), (false, .inl (9, [(6, 48, 0), (6, 58, 0)])), (false, ac_1500), (false, am_10), (false, am_2), (false, am_1), (false, am_2), (false, am_9), (false, am_6), (false, am_8), (false, am_5), (false, am_4), (false, .inl (0, [(1, 289, 0), (6, 59, 0), (6, 60, 0), (6, 61, 0)])), (false, ac_1501), (false, am_11), (false, ac_1502)]
noncomputable def con_3191 : Con2 := ((yX11_image, cX11_image, 2, (some .int)), (3, 60), ([(6, 0, 0), (0, 1, 0)], gi_3094, hc_256, rq_16), [((0, 0, 0), gi_3095, hq_1007, rq_21, tg_31)])
theorem hd_3191 : con_3191.1 = (yX11_image, cX11_image, 2, (some .int)) := rfl
noncomputable def ct_3191 : CTB2 := [(22, 408, 0, con_3189, [32, 3, 33, 5, 34, 7, 35, 9, 36, 11, 37, 13, 38, 15, 39, 17, 40, 19, 41, 21, 42, 23, 43, 25, 44, 27, 45, 29, 46, 31])]
noncomputable def cu_3191 : List CUT2 := []
theorem ch_3191 : staG tb_X11_image 1 bt_RX11 [] ct_3191 [] [] cu_3191 24 con_3191 = true := by decide +kernel
theorem cto_3191 (l : Launch) : CTOK2 l RX11 vwCl gTbl ct_3191 := ct2_cons (vl_3189 l) ck_RX11_408_3189 (ct2_nil)
theorem vl_3191 (l : Launch) : Vld2 l vwCl gTbl con_3191 := conR_ok3 gT_all (hd_3191) rfl pn_RX11 tk_X11_image bo_RX11 xo_RX11 (cto_3191 l) ch_3191 cut_nil
/-- RookHusting image -/
noncomputable def ac_1514 : AC := .inl (4, jl_n [jl_1 50 8, vp_160])
noncomputable def hq_1008 : HP := [(true, ac_1489), (false, ac_1490), (false, .inl (9, [(6, 4, 0), (6, 24, 0)])), (false, .inl (9, [(6, 5, 0), (6, 25, 0)])), (true, ac_1514), (false, ac_1492), (true, am_10), (false, am_10), (true, am_2), (false, am_2), (true, am_1), (false, am_1), (true, am_2), (false, am_2), (true, am_9), (false, am_9), (true, am_6), (false, am_6), (true, am_8), (false, am_8), (true, am_5), (false, am_5), (true, am_4), (false, am_4), (true, .inl (0, [(1, 63, 0), (6, 26, 0), (6, 28, 0), (6, 30, 0)])), (false, .inl (0, [(1, 63, 0), (6, 27, 0), (6, 29, 0), (6, 31, 0)])), (true, ac_1494), (false, ac_1494), (true, am_11), (false, am_11), (true, ac_1496), (false, ac_1496), (false, .inl (9, [(6, 33, 0), (6, 43, 0)])), (false, ac_1497), (false, am_10), (false, am_2), (false, am_1), (false, am_2), (false, am_9), (false, am_6), (false, am_8), (false, am_5), (false, am_4), (false, .inl (0, [(1, 206, 0), (6, 44, 0), (6, 45, 0), (6, 46, 0)])), (false, ac_1498), (false, am_11), (false, ac_1499), (false, .inl (9, [(6, 48, 0), (6, 58, 0)])), (false, ac_1500), (false, am_10), (false, am_2), (false, am_1), (false, am_2), (false, am_9), (false, am_6), (false, am_8), (false, am_5), (false, am_4), (false, .inl (0, [(1, 289, 0), (6, 59, 0), (6, 60, 0), (6, 61, 0)])), (false, ac_1501), (false, am_11), (false, ac_1502)]
noncomputable def con_3192 : Con2 := ((yX11_image, cX11_image, 2, (some .int)), (3, 60), ([(6, 0, 0), (0, 2, 0)], gi_3094, hc_256, rq_16), [((0, 0, 0), gi_3095, hq_1008, rq_21, tg_31)])
theorem hd_3192 : con_3192.1 = (yX11_image, cX11_image, 2, (some .int)) := rfl
noncomputable def ct_3192 : CTB2 := [(22, 408, 0, con_3189, [2, 3, 4, 5, 6, 7, 8, 9, 10, 11, 12, 13, 14, 15, 16, 17, 18, 19, 20, 21, 22, 23, 24, 25, 26, 27, 28, 29, 30, 31])]
noncomputable def cu_3192 : List CUT2 := []
theorem ch_3192 : staG tb_X11_image 1 bt_RX11 [] ct_3192 [] [] cu_3192 24 con_3192 = true := by decide +kernel
theorem cto_3192 (l : Launch) : CTOK2 l RX11 vwCl gTbl ct_3192 := ct2_cons (vl_3189 l) ck_RX11_408_3189 (ct2_nil)
theorem vl_3192 (l : Launch) : Vld2 l vwCl gTbl con_3192 := conR_ok3 gT_all (hd_3192) rfl pn_RX11 tk_X11_image bo_RX11 xo_RX11 (cto_3192 l) ch_3192 cut_nil
/-- RookHusting image -/
noncomputable def gi_3096 : GI := jl_n [gp_906, gp_905]
noncomputable def gi_3097 : GI := jl_n [gp_906, gp_905, jl_z 1]
noncomputable def con_3193 : Con2 := ((yX11_image, cX11_image, 2, (some .int)), (0, 0), ([(6, 0, 0), (1, 1, 0)], gi_3096, hc_256, rq_16), [((0, (-2), 0), gi_3097, hq_1003, [], [1])])
theorem hd_3193 : con_3193.1 = (yX11_image, cX11_image, 2, (some .int)) := rfl
noncomputable def cu_3193 : List CUT2 := []
theorem ch_3193 : staG tb_X11_image 1 bt_RX11 [] ct_3 [] [] cu_3193 9 con_3193 = true := by decide +kernel
theorem vl_3193 (l : Launch) : Vld2 l vwCl gTbl con_3193 := conR_ok3 gT_all (hd_3193) rfl pn_RX11 tk_X11_image bo_RX11 xo_RX11 (cto_3 l) ch_3193 cut_nil
/-- RookHustingModel image -/
noncomputable def gi_3098 : GI := jl_n [gp_906, gp_908]
noncomputable def ac_1515 : AC := .inl (12, jl_n [jl_8 3 1, jl_6 4 3, jl_8 47 41])
noncomputable def ac_1516 : AC := .inr (1, jl_n [js_2 1 0 16, js_2 1 0 3, js_2 1 0 10, js_2 1 0 5, js_2 1 0 8, js_2 1 0 5, js_2 1 0 7, js_2 1 0 30, js_2 1 0 2147483647, sp_124, js_2 1 0 16, js_2 1 0 3, js_2 1 0 10, js_2 1 0 5, js_2 1 0 8, js_2 1 0 5, js_2 1 0 7, js_2 1 0 30, js_2 1 0 2147483647, sp_124, js_2 1 0 16, js_2 1 0 3, js_2 1 0 10, js_2 1 0 5, js_2 1 0 8, js_2 1 0 5, js_2 1 0 7, js_2 1 0 30, js_2 1 0 2147483647, sp_124])
noncomputable def ac_1517 : AC := .inr (3, jl_n [js_1 142 3])
noncomputable def gi_3099 : GI := jl_n [gp_906, gp_908, jl_z 1]
noncomputable def hq_1009 : HP := [(false, ac_1515), (false, ac_438), (false, ac_1516), (false, ac_1517)]
noncomputable def con_3194 : Con2 := ((yX12_image, cX12_image, 3, (some .int)), (1, 25), ([(6, 0, 0), (1, 1, 0)], gi_3098, [ac_1515, ac_438, ac_1516, ac_1517], []), [((0, (-2), 0), gi_3099, hq_1009, [], [1])])
theorem hd_3194 : con_3194.1 = (yX12_image, cX12_image, 3, (some .int)) := rfl
noncomputable def ct_3194 : CTB2 := [(6, 91, 1, con_1307, [])]
noncomputable def cu_3194 : List CUT2 := []
theorem ch_3194 : staG tb_X12_image 1 bt_RX12 [] ct_3194 [(15, [(1, (1, 1, 0), 0, 0)])] [] cu_3194 10 con_3194 = true := by decide +kernel
theorem cto_3194 (l : Launch) : CTOK2 l RX12 vwCl gTbl ct_3194 := ct2_cons (vl_1307 l) ck_RX12_91_1307 (ct2_nil)
theorem vl_3194 (l : Launch) : Vld2 l vwCl gTbl con_3194 := conR_ok3 gT_all (hd_3194) rfl pn_RX12 tk_X12_image bo_RX12 xo_RX12 (cto_3194 l) ch_3194 cut_nil
