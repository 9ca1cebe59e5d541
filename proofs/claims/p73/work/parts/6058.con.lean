/-! ===== contracts, 58 ===== -/
/-- RookHustingModel isSlot -/
noncomputable def con_2514 : Con2 := ((yX12_isSlot, cX12_isSlot, 1, (some .boolean)), (1, 25), ([(1, 0, 0)], [((-2147483648), (-1))], [], []), [((0, 0, 0), [((-2147483648), (-1)), (0, 0)], [], [], [1])])
theorem hd_2514 : con_2514.1 = (yX12_isSlot, cX12_isSlot, 1, (some .boolean)) := rfl
noncomputable def cu_2514 : List CUT2 := []
theorem ch_2514 : staG tb_X12_isSlot 1 bt_RX12 [] ct_1927 [] [] cu_2514 8 con_2514 = true := by decide +kernel
theorem vl_2514 (l : Launch) : Vld2 l vwCl gTbl con_2514 := conR_ok3 gT_all (hd_2514) rfl pn_RX12 tk_X12_isSlot bo_RX12 xo_RX12 (cto_1927 l) ch_2514 cut_nil
/-- RookHustingModel askSeen -/
noncomputable def gi_2590 : GI := jl_n [gp_625, gp_734]
noncomputable def gi_2591 : GI := jl_n [gp_625, gp_164, gp_425]
noncomputable def con_2515 : Con2 := ((yX12_askSeen, cX12_askSeen, 4, (some .int)), (2, 45), ([(6, 0, 0), (1, 1, 0), (1, 2, 0)], gi_2590, [ac_1097, ac_440, ac_1098, ac_807], []), [((0, (-2), 0), gi_2591, hq_912, [], [1])])
theorem hd_2515 : con_2515.1 = (yX12_askSeen, cX12_askSeen, 4, (some .int)) := rfl
theorem ck_RX12_414_2514 : COK2 RX12 vwCl gTbl 414 1 con_2514 := ⟨wd_2057, wd_137, mh_X12_isSlot, .inl ⟨rfl, wd_2055, wd_2056, pd_X12_isSlot⟩⟩
noncomputable def ct_2515 : CTB2 := [(1, 414, 1, con_2514, [])]
noncomputable def cu_2515 : List CUT2 := []
theorem ch_2515 : staG tb_X12_askSeen 1 bt_RX12 [] ct_2515 [] [] cu_2515 7 con_2515 = true := by decide +kernel
theorem cto_2515 (l : Launch) : CTOK2 l RX12 vwCl gTbl ct_2515 := ct2_cons (vl_2514 l) ck_RX12_414_2514 (ct2_nil)
theorem vl_2515 (l : Launch) : Vld2 l vwCl gTbl con_2515 := conR_ok3 gT_all (hd_2515) rfl pn_RX12 tk_X12_askSeen bo_RX12 xo_RX12 (cto_2515 l) ch_2515 cut_nil
/-- RookHustingModel layMay -/
noncomputable def gi_2592 : GI := jl_n [gp_625, gp_738]
noncomputable def gi_2593 : GI := jl_n [gp_625, gp_738, jl_z 1]
noncomputable def con_2516 : Con2 := ((yX12_layMay, cX12_layMay, 6, (some .int)), (3, 68), ([(6, 0, 0), (1, 1, 0), (1, 2, 0)], gi_2592, hc_214, []), [((0, (-2), 0), gi_2593, hq_913, [], [1])])
theorem hd_2516 : con_2516.1 = (yX12_layMay, cX12_layMay, 6, (some .int)) := rfl
theorem ck_RX12_423_2515 : COK2 RX12 vwCl gTbl 423 0 con_2515 := ⟨wd_2054, wd_137, mh_X12_askSeen, .inr (.inr ⟨rfl, wd_2051, wd_2053, wd_113, ⟨_, rfl, pd_X12_askSeen⟩, 12, _, TX12, 45, rfl, rfl⟩)⟩
noncomputable def ct_2516 : CTB2 := [(3, 423, 0, con_2515, [0, 1, 2, 3])]
noncomputable def cu_2516 : List CUT2 := []
theorem ch_2516 : staG tb_X12_layMay 1 bt_RX12 [] ct_2516 [] [] cu_2516 11 con_2516 = true := by decide +kernel
theorem cto_2516 (l : Launch) : CTOK2 l RX12 vwCl gTbl ct_2516 := ct2_cons (vl_2515 l) ck_RX12_423_2515 (ct2_nil)
theorem vl_2516 (l : Launch) : Vld2 l vwCl gTbl con_2516 := conR_ok3 gT_all (hd_2516) rfl pn_RX12 tk_X12_layMay bo_RX12 xo_RX12 (cto_2516 l) ch_2516 cut_nil
/-- RookHustingModel may -/
noncomputable def gi_2594 : GI := jl_n [gp_162, gp_738, jl_r 240 (jl_u)]
noncomputable def ac_1358 : AC := .inr (2, jl_n [js_4 315 240])
noncomputable def hc_227 : List AC := [ac_1099, ac_440, ac_1098, ac_1358, am_8, am_6, am_3, am_3, am_1, am_0, am_0, am_0, am_13, am_14, am_15, am_16]
noncomputable def gi_2595 : GI := jl_n [gp_162, gp_738, jl_r 240 (jl_u), jl_t, gp_736]
noncomputable def ac_1359 : AC := .inl (12, jl_n [vp_145, jl_1 334 1, jl_6 9 3, jl_1 341 4, vp_146, jl_1 353 1, vp_147])
noncomputable def hq_942 : HP := [(true, ac_1359), (false, ac_440), (false, ac_1098), (false, ac_1358), (true, am_8), (true, am_6), (true, am_3), (true, am_3), (true, am_1), (true, am_0), (true, am_0), (true, am_0), (true, am_13), (true, am_14), (true, am_15), (true, am_16)]
noncomputable def con_2517 : Con2 := ((yX12_may, cX12_may, 4, (some .int)), (9, 213), ([(6, 0, 0), (1, 1, 0), (1, 2, 0)], gi_2594, hc_227, []), [((1, 315, 0), gi_2595, hq_942, [], tg_1)])
theorem hd_2517 : con_2517.1 = (yX12_may, cX12_may, 4, (some .int)) := rfl
theorem ck_RX12_432_2516 : COK2 RX12 vwCl gTbl 432 0 con_2516 := ⟨wd_2050, wd_137, mh_X12_layMay, .inr (.inr ⟨rfl, wd_2047, wd_2049, wd_112, ⟨_, rfl, pd_X12_layMay⟩, 12, _, TX12, 45, rfl, rfl⟩)⟩
theorem ck_RX12_432_2513 : COK2 RX12 vwCl gTbl 432 0 con_2513 := ⟨wd_2050, wd_137, mh_X12_layMay, .inr (.inr ⟨rfl, wd_2047, wd_2049, wd_112, ⟨_, rfl, pd_X12_layMay⟩, 12, _, TX12, 45, rfl, rfl⟩)⟩
theorem ck_RX12_432_2369 : COK2 RX12 vwCl gTbl 432 0 con_2369 := ⟨wd_2050, wd_137, mh_X12_layMay, .inr (.inr ⟨rfl, wd_2047, wd_2049, wd_112, ⟨_, rfl, pd_X12_layMay⟩, 12, _, TX12, 45, rfl, rfl⟩)⟩
theorem ck_RX12_432_2225 : COK2 RX12 vwCl gTbl 432 0 con_2225 := ⟨wd_2050, wd_137, mh_X12_layMay, .inr (.inr ⟨rfl, wd_2047, wd_2049, wd_112, ⟨_, rfl, pd_X12_layMay⟩, 12, _, TX12, 45, rfl, rfl⟩)⟩
theorem ck_RX12_432_2081 : COK2 RX12 vwCl gTbl 432 0 con_2081 := ⟨wd_2050, wd_137, mh_X12_layMay, .inr (.inr ⟨rfl, wd_2047, wd_2049, wd_112, ⟨_, rfl, pd_X12_layMay⟩, 12, _, TX12, 45, rfl, rfl⟩)⟩
theorem ck_RX12_432_1929 : COK2 RX12 vwCl gTbl 432 0 con_1929 := ⟨wd_2050, wd_137, mh_X12_layMay, .inr (.inr ⟨rfl, wd_2047, wd_2049, wd_112, ⟨_, rfl, pd_X12_layMay⟩, 12, _, TX12, 45, rfl, rfl⟩)⟩
noncomputable def ct_2517 : CTB2 := [(3, 432, 0, con_1929, [0, 1, 2, 3, 4, 5, 6, 7, 8, 9, 10, 11, 12, 13, 14, 15]), (3, 432, 0, con_2081, [0, 1, 2, 3, 4, 5, 6, 7, 8, 9, 10, 11, 12, 13, 14, 15]), (3, 432, 0, con_2225, [0, 1, 2, 3, 4, 5, 6, 7, 8, 9, 10, 11, 12, 13, 14, 15]), (3, 432, 0, con_2369, [0, 1, 2, 3, 4, 5, 6, 7, 8, 9, 10, 11, 12, 13, 14, 15]), (3, 432, 0, con_2513, [0, 1, 2, 3, 4, 5, 6, 7, 8, 9, 10, 11, 12, 13, 14, 15]), (3, 432, 0, con_2516, [0, 1, 2, 3, 4, 5, 6, 7, 8, 9, 10, 11, 12, 13, 14, 15])]
noncomputable def rf_2517 : List (Nat × List POP) := [(0, [(2, (1, 1, 0), 0, 0), (2, (1, 1, 0), 1, 0), (2, (1, 1, 0), 2, 0), (2, (1, 1, 0), 3, 0), (2, (1, 1, 0), 4, 0)])]
noncomputable def cu_2517 : List CUT2 := []
theorem ch_2517 : staG tb_X12_may 1 bt_RX12 [] ct_2517 rf_2517 [] cu_2517 12 con_2517 = true := by decide +kernel
theorem cto_2517 (l : Launch) : CTOK2 l RX12 vwCl gTbl ct_2517 := ct2_cons (vl_1929 l) ck_RX12_432_1929 (ct2_cons (vl_2081 l) ck_RX12_432_2081 (ct2_cons (vl_2225 l) ck_RX12_432_2225 (ct2_cons (vl_2369 l) ck_RX12_432_2369 (ct2_cons (vl_2513 l) ck_RX12_432_2513 (ct2_cons (vl_2516 l) ck_RX12_432_2516 (ct2_nil))))))
theorem vl_2517 (l : Launch) : Vld2 l vwCl gTbl con_2517 := conR_ok3 gT_all (hd_2517) rfl pn_RX12 tk_X12_may bo_RX12 xo_RX12 (cto_2517 l) ch_2517 cut_nil
/-- RookHusting$Guesses countAlike -/
noncomputable def gi_2596 : GI := jl_n [gp_778, jl_r 2 (jl_t), jl_z 3]
noncomputable def hc_228 : List AC := [.inl (2, [(1, 3, 0), (8, 4, 0), (8, 5, 0), (6, 1, 0)]), am_16]
noncomputable def gi_2597 : GI := jl_n [gp_778, jl_r 2 (jl_t), gp_779]
noncomputable def hq_943 : HP := [(false, .inl (2, [(1, 3, 0), (8, 4, 0), (8, 5, 0), (6, 1, 0)])), (false, am_16)]
noncomputable def con_2532 : Con2 := ((yX2_countAlike, cX2_countAlike, 5, (some .int)), (1, 21), ([(6, 0, 0), (1, 1, 0), (1, 2, 0)], gi_2596, hc_228, []), [((1, 7, 0), gi_2597, hq_943, [], [1])])
theorem hd_2532 : con_2532.1 = (yX2_countAlike, cX2_countAlike, 5, (some .int)) := rfl
theorem ck_RX2_40_46 : COK2 RX2 vwCl gTbl 40 2 con_46 := ⟨wd_682, wd_125, mh_X11_hasBit, .inr (.inl ⟨rfl, by decide +kernel, wd_681, pd_X11_hasBit⟩)⟩
noncomputable def ct_2532 : CTB2 := [(18, 40, 2, con_46, [])]
noncomputable def gi_2598 : GI := jl_n [gp_778, jl_r 2 (jl_t), jl_z 6, jl_t, jl_i 0 6]
noncomputable def cu_2532 : List CUT2 := [((5, [lq 0 6 0, lq 1 1 1, lq 2 1 2, lq 3 1 10, lq 4 1 11], [], gi_2598, hq_943), [], ([(11, (-1))], 6))]
theorem ch_2532 : staG tb_X2_countAlike 1 bt_RX2 [] ct_2532 [] [] cu_2532 24 con_2532 = true := by decide +kernel
theorem cc_2532 : cu_2532.all (cutG tb_X2_countAlike 1 bt_RX2 [] ct_2532 [] [] cu_2532 24 con_2532) = true := by decide +kernel
theorem cto_2532 (l : Launch) : CTOK2 l RX2 vwCl gTbl ct_2532 := ct2_cons (vl_46 l) ck_RX2_40_46 (ct2_nil)
theorem vl_2532 (l : Launch) : Vld2 l vwCl gTbl con_2532 := conR_ok3 gT_all (hd_2532) rfl pn_RX2 tk_X2_countAlike bo_RX2 xo_RX2 (cto_2532 l) ch_2532 (cut_all cc_2532)
/-- RookHusting$Guesses mostAlike -/
noncomputable def gi_2599 : GI := jl_n [gp_778, gp_383]
noncomputable def hc_229 : List AC := [.inl (2, [(1, 2, 0), (8, 3, 0), (8, 4, 0), (6, 1, 0)]), am_16]
noncomputable def gi_2600 : GI := jl_n [gp_778, gp_383, jl_i 0 2147483647]
noncomputable def hq_944 : HP := [(false, .inl (2, [(1, 2, 0), (8, 3, 0), (8, 4, 0), (6, 1, 0)])), (false, am_16)]
noncomputable def con_2533 : Con2 := ((yX2_mostAlike, cX2_mostAlike, 4, (some .int)), (2, 45), ([(6, 0, 0), (1, 1, 0)], gi_2599, hc_229, []), [((1, 6, 0), gi_2600, hq_944, [], [1])])
theorem hd_2533 : con_2533.1 = (yX2_mostAlike, cX2_mostAlike, 4, (some .int)) := rfl
theorem ck_RX2_44_2532 : COK2 RX2 vwCl gTbl 44 0 con_2532 := ⟨wd_1253, wd_136, mh_X2_countAlike, .inr (.inr ⟨rfl, wd_1250, wd_1252, wd_45, ⟨_, rfl, pd_X2_countAlike⟩, 2, _, TX2, 4, rfl, rfl⟩)⟩
noncomputable def ct_2533 : CTB2 := [(15, 40, 2, con_46, []), (35, 44, 0, con_2532, [0, 1])]
noncomputable def gi_2601 : GI := jl_n [gp_778, gp_193, jl_i 0 2147483647, jl_i 0 6]
noncomputable def cu_2533 : List CUT2 := [((4, [lq 0 6 0, lq 1 1 1, lq 2 1 8, lq 3 1 9], [], gi_2601, hq_944), [], ([(9, (-1))], 6))]
theorem ch_2533 : staG tb_X2_mostAlike 1 bt_RX2 [] ct_2533 [] [] cu_2533 27 con_2533 = true := by decide +kernel
theorem cc_2533 : cu_2533.all (cutG tb_X2_mostAlike 1 bt_RX2 [] ct_2533 [] [] cu_2533 27 con_2533) = true := by decide +kernel
theorem cto_2533 (l : Launch) : CTOK2 l RX2 vwCl gTbl ct_2533 := ct2_cons (vl_46 l) ck_RX2_40_46 (ct2_cons (vl_2532 l) ck_RX2_44_2532 (ct2_nil))
theorem vl_2533 (l : Launch) : Vld2 l vwCl gTbl con_2533 := conR_ok3 gT_all (hd_2533) rfl pn_RX2 tk_X2_mostAlike bo_RX2 xo_RX2 (cto_2533 l) ch_2533 (cut_all cc_2533)
/-- RookHusting$Guesses findQuestion -/
noncomputable def gi_2602 : GI := jl_n [gp_780, jl_z 1]
noncomputable def hc_230 : List AC := [.inl (2, [(1, 3, 0), (1, 4, 0), (1, 5, 0), (6, 1, 0)]), am_16]
noncomputable def gi_2603 : GI := jl_n [gp_780, jl_z 2, jl_m 0 416, jl_i 0 63, jl_z 1]
noncomputable def hq_945 : HP := [(true, .inl (2, [(1, 3, 0), (1, 8, 0), (1, 9, 0), (6, 1, 0)])), (false, am_16)]
noncomputable def con_2534 : Con2 := ((yX2_findQuestion, cX2_findQuestion, 6, none), (3, 68), ([(6, 0, 0), (1, 1, 0), (1, 2, 0)], gi_2602, hc_230, []), [((9, 0, 0), gi_2603, hq_945, [], [1, 1, 1, 1])])
theorem hd_2534 : con_2534.1 = (yX2_findQuestion, cX2_findQuestion, 6, none) := rfl
theorem ck_RX2_37_2533 : COK2 RX2 vwCl gTbl 37 0 con_2533 := ⟨wd_1248, wd_136, mh_X2_mostAlike, .inr (.inr ⟨rfl, wd_1245, wd_1247, wd_44, ⟨_, rfl, pd_X2_mostAlike⟩, 2, _, TX2, 4, rfl, rfl⟩)⟩
theorem ck_RX2_28_670 : COK2 RX2 vwCl gTbl 28 1 con_670 := ⟨wd_806, wd_144, mh_J_bitCount, .inl ⟨rfl, wd_1244, wd_805, pd_J_bitCount⟩⟩
noncomputable def ct_2534 : CTB2 := [(10, 28, 1, con_670, []), (40, 37, 0, con_2533, [0, 1])]
noncomputable def gi_2604 : GI := jl_n [gp_780, gp_254, gp_112, jl_m 0 416, jl_i 0 63, jl_z 1]
noncomputable def hq_946 : HP := [(true, .inl (2, [(1, 3, 0), (1, 12, 0), (1, 13, 0), (6, 1, 0)])), (false, am_16)]
noncomputable def gi_2605 : GI := jl_n [gp_780, gp_254, jl_i 0 4, jl_i 0 17, jl_z 1, jl_m 0 416, jl_i 0 63, jl_z 1]
noncomputable def hq_947 : HP := [(true, .inl (2, [(1, 3, 0), (1, 13, 0), (1, 14, 0), (6, 1, 0)])), (false, am_16)]
noncomputable def cu_2534 : List CUT2 := [((18, [lq 0 6 0, lq 1 1 1, lq 2 1 9, lq 3 1 10], [], gi_2604, hq_946), [], ([(10, (-19))], 113)), ((26, [lq 0 6 0, lq 1 1 1, lq 2 1 9, lq 3 1 10, lq 4 1 11], [], gi_2605, hq_947), [], ([(10, (-19)), (11, (-1))], 112))]
theorem ch_2534 : staG tb_X2_findQuestion 1 bt_RX2 [] ct_2534 [] [] cu_2534 30 con_2534 = true := by decide +kernel
theorem cc_2534 : cu_2534.all (cutG tb_X2_findQuestion 1 bt_RX2 [] ct_2534 [] [] cu_2534 30 con_2534) = true := by decide +kernel
theorem cto_2534 (l : Launch) : CTOK2 l RX2 vwCl gTbl ct_2534 := ct2_cons (vl_670 l) ck_RX2_28_670 (ct2_cons (vl_2533 l) ck_RX2_37_2533 (ct2_nil))
theorem vl_2534 (l : Launch) : Vld2 l vwCl gTbl con_2534 := conR_ok3 gT_all (hd_2534) rfl pn_RX2 tk_X2_findQuestion bo_RX2 xo_RX2 (cto_2534 l) ch_2534 (cut_all cc_2534)
