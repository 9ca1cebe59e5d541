/-! ===== contracts, 58 ===== -/
/-- RookHustingModel isSlot -/
noncomputable def con_2758 : Con2 := ((yX12_isSlot, cX12_isSlot, 1, (some .boolean)), (1, 25), ([(1, 0, 0)], [((-2147483648), (-1))], [], []), [((0, 0, 0), [((-2147483648), (-1)), (0, 0)], [], [], [1])])
theorem hd_2758 : con_2758.1 = (yX12_isSlot, cX12_isSlot, 1, (some .boolean)) := rfl
noncomputable def cu_2758 : List CUT2 := []
theorem ch_2758 : staG tb_X12_isSlot 1 bt_RX12 [] ct_2171 [] [] cu_2758 8 con_2758 = true := by decide +kernel
theorem vl_2758 (l : Launch) : Vld2 l vwCl gTbl con_2758 := conR_ok3 gT_all (hd_2758) rfl pn_RX12 tk_X12_isSlot bo_RX12 xo_RX12 (cto_2171 l) ch_2758 cut_nil
/-- RookHustingModel askSeen -/
noncomputable def gi_2589 : GI := jl_n [gp_615, gp_724]
noncomputable def gi_2590 : GI := jl_n [gp_615, gp_724, jl_z 1]
noncomputable def con_2759 : Con2 := ((yX12_askSeen, cX12_askSeen, 4, (some .int)), (2, 45), ([(6, 0, 0), (1, 1, 0), (1, 2, 0)], gi_2589, [ac_1097, ac_440, ac_1098, ac_807], []), [((0, (-2), 0), gi_2590, hq_912, [], [1])])
theorem hd_2759 : con_2759.1 = (yX12_askSeen, cX12_askSeen, 4, (some .int)) := rfl
theorem ck_RX12_414_2758 : COK2 RX12 vwCl gTbl 414 1 con_2758 := ⟨wd_2057, wd_137, mh_X12_isSlot, .inl ⟨rfl, wd_2055, wd_2056, pd_X12_isSlot⟩⟩
noncomputable def ct_2759 : CTB2 := [(1, 414, 1, con_2758, [])]
noncomputable def cu_2759 : List CUT2 := []
theorem ch_2759 : staG tb_X12_askSeen 1 bt_RX12 [] ct_2759 [] [] cu_2759 7 con_2759 = true := by decide +kernel
theorem cto_2759 (l : Launch) : CTOK2 l RX12 vwCl gTbl ct_2759 := ct2_cons (vl_2758 l) ck_RX12_414_2758 (ct2_nil)
theorem vl_2759 (l : Launch) : Vld2 l vwCl gTbl con_2759 := conR_ok3 gT_all (hd_2759) rfl pn_RX12 tk_X12_askSeen bo_RX12 xo_RX12 (cto_2759 l) ch_2759 cut_nil
/-- RookHustingModel layMay -/
noncomputable def gi_2591 : GI := jl_n [gp_615, gp_728]
noncomputable def gi_2592 : GI := jl_n [gp_615, gp_728, jl_z 1]
noncomputable def con_2760 : Con2 := ((yX12_layMay, cX12_layMay, 6, (some .int)), (3, 68), ([(6, 0, 0), (1, 1, 0), (1, 2, 0)], gi_2591, hc_214, []), [((0, (-2), 0), gi_2592, hq_913, [], [1])])
theorem hd_2760 : con_2760.1 = (yX12_layMay, cX12_layMay, 6, (some .int)) := rfl
theorem ck_RX12_423_2759 : COK2 RX12 vwCl gTbl 423 0 con_2759 := ⟨wd_2054, wd_137, mh_X12_askSeen, .inr (.inr ⟨rfl, wd_2051, wd_2053, wd_113, ⟨_, rfl, pd_X12_askSeen⟩, 12, _, TX12, 45, rfl, rfl⟩)⟩
noncomputable def ct_2760 : CTB2 := [(3, 423, 0, con_2759, [0, 1, 2, 3])]
noncomputable def cu_2760 : List CUT2 := []
theorem ch_2760 : staG tb_X12_layMay 1 bt_RX12 [] ct_2760 [] [] cu_2760 11 con_2760 = true := by decide +kernel
theorem cto_2760 (l : Launch) : CTOK2 l RX12 vwCl gTbl ct_2760 := ct2_cons (vl_2759 l) ck_RX12_423_2759 (ct2_nil)
theorem vl_2760 (l : Launch) : Vld2 l vwCl gTbl con_2760 := conR_ok3 gT_all (hd_2760) rfl pn_RX12 tk_X12_layMay bo_RX12 xo_RX12 (cto_2760 l) ch_2760 cut_nil
/-- RookHustingModel may -/
noncomputable def gi_2593 : GI := jl_n [gp_163, gp_728, jl_r 240 (jl_u)]
noncomputable def ac_1358 : AC := .inr (2, jl_n [js_4 315 240])
noncomputable def hc_227 : List AC := [ac_1099, ac_440, ac_1098, ac_1358, am_8, am_5, am_7, am_7, am_1, am_0, am_0, am_0, am_13, am_14, am_15, am_16]
noncomputable def gi_2594 : GI := jl_n [gp_163, gp_728, jl_r 240 (jl_u), jl_t, gp_726]
noncomputable def ac_1359 : AC := .inl (12, jl_n [vp_144, jl_1 334 1, jl_6 9 3, jl_1 341 4, vp_145, jl_1 353 1, vp_146])
noncomputable def hq_942 : HP := [(true, ac_1359), (false, ac_440), (false, ac_1098), (false, ac_1358), (true, am_8), (true, am_5), (true, am_7), (true, am_7), (true, am_1), (true, am_0), (true, am_0), (true, am_0), (true, am_13), (true, am_14), (true, am_15), (true, am_16)]
noncomputable def con_2761 : Con2 := ((yX12_may, cX12_may, 4, (some .int)), (9, 213), ([(6, 0, 0), (1, 1, 0), (1, 2, 0)], gi_2593, hc_227, []), [((1, 315, 0), gi_2594, hq_942, [], tg_1)])
theorem hd_2761 : con_2761.1 = (yX12_may, cX12_may, 4, (some .int)) := rfl
theorem ck_RX12_432_2760 : COK2 RX12 vwCl gTbl 432 0 con_2760 := ⟨wd_2050, wd_137, mh_X12_layMay, .inr (.inr ⟨rfl, wd_2047, wd_2049, wd_112, ⟨_, rfl, pd_X12_layMay⟩, 12, _, TX12, 45, rfl, rfl⟩)⟩
theorem ck_RX12_432_2757 : COK2 RX12 vwCl gTbl 432 0 con_2757 := ⟨wd_2050, wd_137, mh_X12_layMay, .inr (.inr ⟨rfl, wd_2047, wd_2049, wd_112, ⟨_, rfl, pd_X12_layMay⟩, 12, _, TX12, 45, rfl, rfl⟩)⟩
theorem ck_RX12_432_2613 : COK2 RX12 vwCl gTbl 432 0 con_2613 := ⟨wd_2050, wd_137, mh_X12_layMay, .inr (.inr ⟨rfl, wd_2047, wd_2049, wd_112, ⟨_, rfl, pd_X12_layMay⟩, 12, _, TX12, 45, rfl, rfl⟩)⟩
theorem ck_RX12_432_2469 : COK2 RX12 vwCl gTbl 432 0 con_2469 := ⟨wd_2050, wd_137, mh_X12_layMay, .inr (.inr ⟨rfl, wd_2047, wd_2049, wd_112, ⟨_, rfl, pd_X12_layMay⟩, 12, _, TX12, 45, rfl, rfl⟩)⟩
theorem ck_RX12_432_2325 : COK2 RX12 vwCl gTbl 432 0 con_2325 := ⟨wd_2050, wd_137, mh_X12_layMay, .inr (.inr ⟨rfl, wd_2047, wd_2049, wd_112, ⟨_, rfl, pd_X12_layMay⟩, 12, _, TX12, 45, rfl, rfl⟩)⟩
theorem ck_RX12_432_2173 : COK2 RX12 vwCl gTbl 432 0 con_2173 := ⟨wd_2050, wd_137, mh_X12_layMay, .inr (.inr ⟨rfl, wd_2047, wd_2049, wd_112, ⟨_, rfl, pd_X12_layMay⟩, 12, _, TX12, 45, rfl, rfl⟩)⟩
noncomputable def ct_2761 : CTB2 := [(3, 432, 0, con_2173, [0, 1, 2, 3, 4, 5, 6, 7, 8, 9, 10, 11, 12, 13, 14, 15]), (3, 432, 0, con_2325, [0, 1, 2, 3, 4, 5, 6, 7, 8, 9, 10, 11, 12, 13, 14, 15]), (3, 432, 0, con_2469, [0, 1, 2, 3, 4, 5, 6, 7, 8, 9, 10, 11, 12, 13, 14, 15]), (3, 432, 0, con_2613, [0, 1, 2, 3, 4, 5, 6, 7, 8, 9, 10, 11, 12, 13, 14, 15]), (3, 432, 0, con_2757, [0, 1, 2, 3, 4, 5, 6, 7, 8, 9, 10, 11, 12, 13, 14, 15]), (3, 432, 0, con_2760, [0, 1, 2, 3, 4, 5, 6, 7, 8, 9, 10, 11, 12, 13, 14, 15])]
noncomputable def rf_2761 : List (Nat × List POP) := [(0, [(2, (1, 1, 0), 0, 0), (2, (1, 1, 0), 1, 0), (2, (1, 1, 0), 2, 0), (2, (1, 1, 0), 3, 0), (2, (1, 1, 0), 4, 0)])]
noncomputable def cu_2761 : List CUT2 := []
theorem ch_2761 : staG tb_X12_may 1 bt_RX12 [] ct_2761 rf_2761 [] cu_2761 12 con_2761 = true := by decide +kernel
theorem cto_2761 (l : Launch) : CTOK2 l RX12 vwCl gTbl ct_2761 := ct2_cons (vl_2173 l) ck_RX12_432_2173 (ct2_cons (vl_2325 l) ck_RX12_432_2325 (ct2_cons (vl_2469 l) ck_RX12_432_2469 (ct2_cons (vl_2613 l) ck_RX12_432_2613 (ct2_cons (vl_2757 l) ck_RX12_432_2757 (ct2_cons (vl_2760 l) ck_RX12_432_2760 (ct2_nil))))))
theorem vl_2761 (l : Launch) : Vld2 l vwCl gTbl con_2761 := conR_ok3 gT_all (hd_2761) rfl pn_RX12 tk_X12_may bo_RX12 xo_RX12 (cto_2761 l) ch_2761 cut_nil
/-- RookHusting$Guesses countAlike -/
noncomputable def gi_2595 : GI := jl_n [gp_767, jl_r 2 (jl_t), jl_z 3]
noncomputable def hc_228 : List AC := [.inl (2, [(1, 3, 0), (8, 4, 0), (8, 5, 0), (6, 1, 0)]), am_16]
noncomputable def gi_2596 : GI := jl_n [gp_767, jl_r 2 (jl_t), gp_768]
noncomputable def hq_943 : HP := [(false, .inl (2, [(1, 3, 0), (8, 4, 0), (8, 5, 0), (6, 1, 0)])), (false, am_16)]
noncomputable def con_2776 : Con2 := ((yX2_countAlike, cX2_countAlike, 5, (some .int)), (1, 21), ([(6, 0, 0), (1, 1, 0), (1, 2, 0)], gi_2595, hc_228, []), [((1, 7, 0), gi_2596, hq_943, [], [1])])
theorem hd_2776 : con_2776.1 = (yX2_countAlike, cX2_countAlike, 5, (some .int)) := rfl
theorem ck_RX2_40_894 : COK2 RX2 vwCl gTbl 40 2 con_894 := ⟨wd_682, wd_125, mh_X11_hasBit, .inr (.inl ⟨rfl, by decide +kernel, wd_681, pd_X11_hasBit⟩)⟩
noncomputable def ct_2776 : CTB2 := [(18, 40, 2, con_894, [])]
noncomputable def gi_2597 : GI := jl_n [gp_767, jl_r 2 (jl_t), jl_z 6, jl_t, jl_i 0 6]
noncomputable def cu_2776 : List CUT2 := [((5, [lq 0 6 0, lq 1 1 1, lq 2 1 2, lq 3 1 10, lq 4 1 11], [], gi_2597, hq_943), [], ([(11, (-1))], 6))]
theorem ch_2776 : staG tb_X2_countAlike 1 bt_RX2 [] ct_2776 [] [] cu_2776 24 con_2776 = true := by decide +kernel
theorem cc_2776 : cu_2776.all (cutG tb_X2_countAlike 1 bt_RX2 [] ct_2776 [] [] cu_2776 24 con_2776) = true := by decide +kernel
theorem cto_2776 (l : Launch) : CTOK2 l RX2 vwCl gTbl ct_2776 := ct2_cons (vl_894 l) ck_RX2_40_894 (ct2_nil)
theorem vl_2776 (l : Launch) : Vld2 l vwCl gTbl con_2776 := conR_ok3 gT_all (hd_2776) rfl pn_RX2 tk_X2_countAlike bo_RX2 xo_RX2 (cto_2776 l) ch_2776 (cut_all cc_2776)
/-- RookHusting$Guesses mostAlike -/
noncomputable def gi_2598 : GI := jl_n [gp_767, gp_381]
noncomputable def hc_229 : List AC := [.inl (2, [(1, 2, 0), (8, 3, 0), (8, 4, 0), (6, 1, 0)]), am_16]
noncomputable def gi_2599 : GI := jl_n [gp_767, gp_381, jl_i 0 2147483647]
noncomputable def hq_944 : HP := [(false, .inl (2, [(1, 2, 0), (8, 3, 0), (8, 4, 0), (6, 1, 0)])), (false, am_16)]
noncomputable def con_2777 : Con2 := ((yX2_mostAlike, cX2_mostAlike, 4, (some .int)), (2, 45), ([(6, 0, 0), (1, 1, 0)], gi_2598, hc_229, []), [((1, 6, 0), gi_2599, hq_944, [], [1])])
theorem hd_2777 : con_2777.1 = (yX2_mostAlike, cX2_mostAlike, 4, (some .int)) := rfl
theorem ck_RX2_44_2776 : COK2 RX2 vwCl gTbl 44 0 con_2776 := ⟨wd_1253, wd_136, mh_X2_countAlike, .inr (.inr ⟨rfl, wd_1250, wd_1252, wd_45, ⟨_, rfl, pd_X2_countAlike⟩, 2, _, TX2, 4, rfl, rfl⟩)⟩
noncomputable def ct_2777 : CTB2 := [(15, 40, 2, con_894, []), (35, 44, 0, con_2776, [0, 1])]
noncomputable def gi_2600 : GI := jl_n [gp_767, gp_192, jl_i 0 2147483647, jl_i 0 6]
noncomputable def cu_2777 : List CUT2 := [((4, [lq 0 6 0, lq 1 1 1, lq 2 1 8, lq 3 1 9], [], gi_2600, hq_944), [], ([(9, (-1))], 6))]
theorem ch_2777 : staG tb_X2_mostAlike 1 bt_RX2 [] ct_2777 [] [] cu_2777 27 con_2777 = true := by decide +kernel
theorem cc_2777 : cu_2777.all (cutG tb_X2_mostAlike 1 bt_RX2 [] ct_2777 [] [] cu_2777 27 con_2777) = true := by decide +kernel
theorem cto_2777 (l : Launch) : CTOK2 l RX2 vwCl gTbl ct_2777 := ct2_cons (vl_894 l) ck_RX2_40_894 (ct2_cons (vl_2776 l) ck_RX2_44_2776 (ct2_nil))
theorem vl_2777 (l : Launch) : Vld2 l vwCl gTbl con_2777 := conR_ok3 gT_all (hd_2777) rfl pn_RX2 tk_X2_mostAlike bo_RX2 xo_RX2 (cto_2777 l) ch_2777 (cut_all cc_2777)
/-- RookHusting$Guesses findQuestion -/
noncomputable def gi_2601 : GI := jl_n [gp_769, jl_z 1]
noncomputable def hc_230 : List AC := [.inl (2, [(1, 3, 0), (1, 4, 0), (1, 5, 0), (6, 1, 0)]), am_16]
noncomputable def gi_2602 : GI := jl_n [gp_769, jl_z 2, jl_m 0 416, jl_i 0 63, jl_z 1]
noncomputable def hq_945 : HP := [(true, .inl (2, [(1, 3, 0), (1, 8, 0), (1, 9, 0), (6, 1, 0)])), (false, am_16)]
noncomputable def con_2778 : Con2 := ((yX2_findQuestion, cX2_findQuestion, 6, none), (3, 68), ([(6, 0, 0), (1, 1, 0), (1, 2, 0)], gi_2601, hc_230, []), [((9, 0, 0), gi_2602, hq_945, [], [1, 1, 1, 1])])
theorem hd_2778 : con_2778.1 = (yX2_findQuestion, cX2_findQuestion, 6, none) := rfl
theorem ck_RX2_37_2777 : COK2 RX2 vwCl gTbl 37 0 con_2777 := ⟨wd_1248, wd_136, mh_X2_mostAlike, .inr (.inr ⟨rfl, wd_1245, wd_1247, wd_44, ⟨_, rfl, pd_X2_mostAlike⟩, 2, _, TX2, 4, rfl, rfl⟩)⟩
theorem ck_RX2_28_675 : COK2 RX2 vwCl gTbl 28 1 con_675 := ⟨wd_806, wd_144, mh_J_bitCount, .inl ⟨rfl, wd_1244, wd_805, pd_J_bitCount⟩⟩
noncomputable def ct_2778 : CTB2 := [(10, 28, 1, con_675, []), (40, 37, 0, con_2777, [0, 1])]
noncomputable def gi_2603 : GI := jl_n [gp_769, gp_249, gp_112, jl_m 0 416, jl_i 0 63, jl_z 1]
noncomputable def hq_946 : HP := [(true, .inl (2, [(1, 3, 0), (1, 12, 0), (1, 13, 0), (6, 1, 0)])), (false, am_16)]
noncomputable def gi_2604 : GI := jl_n [gp_769, gp_249, jl_i 0 4, jl_i 0 17, jl_z 1, jl_m 0 416, jl_i 0 63, jl_z 1]
noncomputable def hq_947 : HP := [(true, .inl (2, [(1, 3, 0), (1, 13, 0), (1, 14, 0), (6, 1, 0)])), (false, am_16)]
noncomputable def cu_2778 : List CUT2 := [((18, [lq 0 6 0, lq 1 1 1, lq 2 1 9, lq 3 1 10], [], gi_2603, hq_946), [], ([(10, (-19))], 113)), ((26, [lq 0 6 0, lq 1 1 1, lq 2 1 9, lq 3 1 10, lq 4 1 11], [], gi_2604, hq_947), [], ([(10, (-19)), (11, (-1))], 112))]
theorem ch_2778 : staG tb_X2_findQuestion 1 bt_RX2 [] ct_2778 [] [] cu_2778 30 con_2778 = true := by decide +kernel
theorem cc_2778 : cu_2778.all (cutG tb_X2_findQuestion 1 bt_RX2 [] ct_2778 [] [] cu_2778 30 con_2778) = true := by decide +kernel
theorem cto_2778 (l : Launch) : CTOK2 l RX2 vwCl gTbl ct_2778 := ct2_cons (vl_675 l) ck_RX2_28_675 (ct2_cons (vl_2777 l) ck_RX2_37_2777 (ct2_nil))
theorem vl_2778 (l : Launch) : Vld2 l vwCl gTbl con_2778 := conR_ok3 gT_all (hd_2778) rfl pn_RX2 tk_X2_findQuestion bo_RX2 xo_RX2 (cto_2778 l) ch_2778 (cut_all cc_2778)
