/-! ===== contracts, 72 ===== -/
/-- RookHustingModel row -/
noncomputable def gi_3161 : GI := jl_n [gp_198, gp_925]
noncomputable def ac_1584 : AC := .inl (12, jl_n [jl_8 45 41, jl_6 4 3, jl_8 49 1])
noncomputable def ac_1585 : AC := .inr (1, jl_n [js_1 53 4])
noncomputable def ac_1586 : AC := .inr (1, jl_n [js_1 57 4])
noncomputable def gi_3162 : GI := jl_n [gp_198, gp_925, jl_m 2 0, gp_924]
noncomputable def ac_1587 : AC := .inr (1, jl_n [js_1 62 4])
noncomputable def ac_1588 : AC := .inr (1, jl_n [js_1 66 4])
noncomputable def hq_1090 : HP := [(false, ac_1584), (true, ac_1587), (true, ac_1588), (true, ac_807)]
noncomputable def con_3286 : Con2 := ((yX12_row, cX12_row, 5, (some .int)), (2, 45), ([(6, 0, 0), (1, 1, 0), (1, 2, 0), (1, 3, 0)], gi_3161, [ac_1584, ac_1585, ac_1586, ac_807], []), [((1, 57, 0), gi_3162, hq_1090, [], tg_13)])
theorem hd_3286 : con_3286.1 = (yX12_row, cX12_row, 5, (some .int)) := rfl
theorem ck_RX12_414_3285 : COK2 RX12 vwCl gTbl 414 1 con_3285 := ⟨wd_2057, wd_137, mh_X12_isSlot, .inl ⟨rfl, wd_2055, wd_2056, pd_X12_isSlot⟩⟩
noncomputable def ct_3286 : CTB2 := [(1, 414, 1, con_3285, []), (13, 91, 1, con_336, [])]
noncomputable def gi_3163 : GI := jl_n [gp_922, gp_925, jl_z 4, jl_i 0 60, gp_924]
noncomputable def ac_1589 : AC := .inr (1, jl_n [js_1 70 4])
noncomputable def hq_1091 : HP := [(false, ac_1584), (true, ac_1588), (true, ac_1589), (true, ac_807)]
noncomputable def cu_3286 : List CUT2 := [((52, [lq 0 6 0, lq 1 1 1, lq 2 1 2, lq 3 1 3, lq 4 1 61], [], gi_3163, hq_1091), [], ([(61, (-1))], 60))]
theorem ch_3286 : staG tb_X12_row 1 bt_RX12 [] ct_3286 [] [] cu_3286 29 con_3286 = true := by decide +kernel
theorem cc_3286 : cu_3286.all (cutG tb_X12_row 1 bt_RX12 [] ct_3286 [] [] cu_3286 29 con_3286) = true := by decide +kernel
theorem cto_3286 (l : Launch) : CTOK2 l RX12 vwCl gTbl ct_3286 := ct2_cons (vl_3285 l) ck_RX12_414_3285 (ct2_cons (vl_336 l) ck_RX12_91_336 (ct2_nil))
theorem vl_3286 (l : Launch) : Vld2 l vwCl gTbl con_3286 := conR_ok3 gT_all (hd_3286) rfl pn_RX12 tk_X12_row bo_RX12 xo_RX12 (cto_3286 l) ch_3286 (cut_all cc_3286)
/-- RookHusting$Slots cut -/
noncomputable def gi_3164 : GI := jl_n [jl_u, jl_i 0 3, jl_u]
noncomputable def con_3287 : Con2 := ((yX8_cut, cX8_cut, 3, (some .long)), (0, 0), ([(4, 0, 0), (1, 1, 0)], [((-9223372036854775808), 9223372036854775807), (0, 3)], [], []), [((4, 2, 0), gi_3164, [], [], [4])])
theorem hd_3287 : con_3287.1 = (yX8_cut, cX8_cut, 3, (some .long)) := rfl
noncomputable def cu_3287 : List CUT2 := []
theorem ch_3287 : staG tb_X8_cut 1 bt_RX8 [] ct_1497 [] [] cu_3287 9 con_3287 = true := by decide +kernel
theorem vl_3287 (l : Launch) : Vld2 l vwCl gTbl con_3287 := conR_ok3 gT_all (hd_3287) rfl pn_RX8 tk_X8_cut bo_RX8 xo_RX8 (cto_1497 l) ch_3287 cut_nil
/-- RookHusting$Slots set -/
noncomputable def gi_3165 : GI := jl_n [gp_210, jl_i 0 59, jl_u, jl_z 3, jl_r 4 (jl_i 0 3)]
noncomputable def hc_276 : List AC := [.inl (8, [(6, 2, 0), (6, 1, 0), (8, 6, 0)]), ac_1573, ac_807]
noncomputable def hq_1092 : HP := [(false, .inl (8, [(6, 2, 0), (6, 1, 0), (8, 6, 0)])), (false, ac_1573), (true, ac_807)]
noncomputable def con_3288 : Con2 := ((yX8_set, cX8_set, 5, none), (1, 22), ([(6, 0, 0), (1, 1, 0), (1, 2, 0), (4, 3, 0)], gi_3165, hc_276, []), [((9, 0, 0), gi_3165, hq_1092, [], [])])
theorem hd_3288 : con_3288.1 = (yX8_set, cX8_set, 5, none) := rfl
theorem ck_RX8_26_3287 : COK2 RX8 vwCl gTbl 26 1 con_3287 := ⟨wd_1385, wd_131, mh_X8_cut, .inl ⟨rfl, wd_1383, wd_1384, pd_X8_cut⟩⟩
noncomputable def ct_3288 : CTB2 := [(17, 26, 1, con_3287, [])]
noncomputable def cu_3288 : List CUT2 := []
theorem ch_3288 : staG tb_X8_set 1 bt_RX8 [] ct_3288 [] [] cu_3288 17 con_3288 = true := by decide +kernel
theorem cto_3288 (l : Launch) : CTOK2 l RX8 vwCl gTbl ct_3288 := ct2_cons (vl_3287 l) ck_RX8_26_3287 (ct2_nil)
theorem vl_3288 (l : Launch) : Vld2 l vwCl gTbl con_3288 := conR_ok3 gT_all (hd_3288) rfl pn_RX8 tk_X8_set bo_RX8 xo_RX8 (cto_3288 l) ch_3288 cut_nil
/-- RookHusting write -/
noncomputable def gi_3166 : GI := jl_n [gp_926, gp_927]
noncomputable def hc_277 : List AC := [ac_1579, .inl (8, [(6, 4, 0), (6, 3, 0), (6, 2, 0)]), ac_1580, ac_1581, ac_807]
noncomputable def gi_3167 : GI := jl_n [gp_926, gp_927, jl_m 6 0]
noncomputable def hq_1093 : HP := [(false, ac_1579), (false, .inl (8, [(6, 4, 0), (6, 3, 0), (6, 2, 0)])), (false, ac_1580), (false, ac_1581), (true, ac_807)]
noncomputable def con_3289 : Con2 := ((yX11_write, cX11_write, 5, (some .int)), (2, 46), ([(6, 0, 0), (1, 1, 0), (1, 2, 0), (4, 3, 0)], gi_3166, hc_277, []), [((1, 31, 0), gi_3167, hq_1093, [], [1])])
theorem hd_3289 : con_3289.1 = (yX11_write, cX11_write, 5, (some .int)) := rfl
theorem ck_RX11_426_3288 : COK2 RX11 vwCl gTbl 426 0 con_3288 := ⟨wd_1382, wd_131, mh_X8_set, .inr (.inr ⟨rfl, wd_1379, wd_1380, wd_1381, ⟨_, rfl, pd_X8_set⟩, 8, _, TX8, 3, rfl, rfl⟩)⟩
theorem ck_RX11_420_3182 : COK2 RX11 vwCl gTbl 420 0 con_3182 := ⟨wd_1214, wd_131, mh_X8_hasRow, .inr (.inr ⟨rfl, wd_1211, wd_1212, wd_1213, ⟨_, rfl, pd_X8_hasRow⟩, 8, _, TX8, 3, rfl, rfl⟩)⟩
noncomputable def ct_3289 : CTB2 := [(1, 414, 1, con_3282, []), (15, 420, 0, con_3182, [1, 2]), (51, 426, 0, con_3288, [1, 3, 4])]
noncomputable def cu_3289 : List CUT2 := []
theorem ch_3289 : staG tb_X11_write 1 bt_RX11 [] ct_3289 [] [] cu_3289 27 con_3289 = true := by decide +kernel
theorem cto_3289 (l : Launch) : CTOK2 l RX11 vwCl gTbl ct_3289 := ct2_cons (vl_3282 l) ck_RX11_414_3282 (ct2_cons (vl_3182 l) ck_RX11_420_3182 (ct2_cons (vl_3288 l) ck_RX11_426_3288 (ct2_nil)))
theorem vl_3289 (l : Launch) : Vld2 l vwCl gTbl con_3289 := conR_ok3 gT_all (hd_3289) rfl pn_RX11 tk_X11_write bo_RX11 xo_RX11 (cto_3289 l) ch_3289 cut_nil
/-- RookHustingModel in -/
noncomputable def gi_3168 : GI := jl_n [gp_129, jl_m 1 59]
noncomputable def gi_3169 : GI := jl_n [gp_129, jl_m 1 59, jl_z 1]
noncomputable def con_3290 : Con2 := ((yX12_in, cX12_in, 6, (some .boolean)), (0, 0), ([(4, 0, 0), (3, 0, 0), (4, 2, 0)], gi_3168, [], []), [((0, 0, 0), gi_3169, [], [], [1]), ((0, 1, 0), [(0, 59), (0, 0), (0, 59), (0, 0)], [], [], [1])])
theorem hd_3290 : con_3290.1 = (yX12_in, cX12_in, 6, (some .boolean)) := rfl
noncomputable def cu_3290 : List CUT2 := []
theorem ch_3290 : staG tb_X12_in 1 bt_RX12 [] ct_2 [] [] cu_3290 11 con_3290 = true := by decide +kernel
theorem vl_3290 (l : Launch) : Vld2 l vwCl gTbl con_3290 := conR_ok3 gT_all (hd_3290) rfl pn_RX12 tk_X12_in bo_RX12 xo_RX12 (cto_2 l) ch_3290 cut_nil
/-- RookHustingModel clipped -/
noncomputable def con_3291 : Con2 := ((yX12_clipped, cX12_clipped, 4, (some .long)), (0, 0), ([(4, 0, 0), (1, 1, 0)], [((-9223372036854775808), 9223372036854775807), (0, 3)], [], []), [((4, 2, 0), gi_3164, [], [], [4])])
theorem hd_3291 : con_3291.1 = (yX12_clipped, cX12_clipped, 4, (some .long)) := rfl
noncomputable def cu_3291 : List CUT2 := []
theorem ch_3291 : staG tb_X12_clipped 1 bt_RX12 [] ct_2 [] [] cu_3291 14 con_3291 = true := by decide +kernel
theorem vl_3291 (l : Launch) : Vld2 l vwCl gTbl con_3291 := conR_ok3 gT_all (hd_3291) rfl pn_RX12 tk_X12_clipped bo_RX12 xo_RX12 (cto_2 l) ch_3291 cut_nil
/-- RookHustingModel write -/
noncomputable def gi_3170 : GI := jl_n [gp_926, gp_925]
noncomputable def gi_3171 : GI := jl_n [gp_926, gp_925, jl_m 6 0]
noncomputable def hq_1094 : HP := [(false, ac_1584), (false, ac_1585), (false, ac_1586), (true, ac_807)]
noncomputable def con_3292 : Con2 := ((yX12_write, cX12_write, 5, (some .int)), (2, 45), ([(6, 0, 0), (1, 1, 0), (1, 2, 0), (4, 3, 0)], gi_3170, [ac_1584, ac_1585, ac_1586, ac_807], []), [((1, 57, 0), gi_3171, hq_1094, [], [1])])
theorem hd_3292 : con_3292.1 = (yX12_write, cX12_write, 5, (some .int)) := rfl
theorem ck_RX12_502_3291 : COK2 RX12 vwCl gTbl 502 1 con_3291 := ⟨wd_2180, wd_137, mh_X12_clipped, .inl ⟨rfl, wd_2178, wd_2179, pd_X12_clipped⟩⟩
theorem ck_RX12_91_3290 : COK2 RX12 vwCl gTbl 91 1 con_3290 := ⟨wd_1544, wd_137, mh_X12_in, .inl ⟨rfl, wd_1542, wd_1543, pd_X12_in⟩⟩
noncomputable def ct_3292 : CTB2 := [(1, 414, 1, con_3285, []), (35, 91, 1, con_3290, []), (61, 502, 1, con_3291, [])]
noncomputable def cu_3292 : List CUT2 := []
theorem ch_3292 : staG tb_X12_write 1 bt_RX12 [] ct_3292 [] [] cu_3292 39 con_3292 = true := by decide +kernel
theorem cto_3292 (l : Launch) : CTOK2 l RX12 vwCl gTbl ct_3292 := ct2_cons (vl_3285 l) ck_RX12_414_3285 (ct2_cons (vl_3290 l) ck_RX12_91_3290 (ct2_cons (vl_3291 l) ck_RX12_502_3291 (ct2_nil)))
theorem vl_3292 (l : Launch) : Vld2 l vwCl gTbl con_3292 := conR_ok3 gT_all (hd_3292) rfl pn_RX12 tk_X12_write bo_RX12 xo_RX12 (cto_3292 l) ch_3292 cut_nil
/-- RookHusting$Slots holds -/
noncomputable def gi_3172 : GI := jl_n [gp_210, jl_r 2 (jl_t), gp_897]
noncomputable def gi_3173 : GI := jl_n [gp_210, jl_r 2 (jl_t), gp_898]
noncomputable def hq_1095 : HP := [(false, .inl (8, [(8, 4, 0), (8, 5, 0), (6, 1, 0)])), (false, ac_1573)]
noncomputable def gi_3174 : GI := jl_n [gp_210, jl_r 2 (jl_i 0 2147483647), gp_898]
noncomputable def con_3293 : Con2 := ((yX8_holds, cX8_holds, 4, (some .boolean)), (0, 0), ([(6, 0, 0), (1, 1, 0), (1, 2, 0), (1, 3, 0)], gi_3172, [.inl (8, [(8, 4, 0), (8, 5, 0), (6, 1, 0)]), ac_1573], []), [((0, 0, 0), gi_3173, hq_1095, [], [1]), ((0, 1, 0), gi_3174, hq_1095, [([(2, (-1)), (3, (-1))], 60)], [1])])
theorem hd_3293 : con_3293.1 = (yX8_holds, cX8_holds, 4, (some .boolean)) := rfl
noncomputable def cu_3293 : List CUT2 := []
theorem ch_3293 : staG tb_X8_holds 2 bt_RX8 [] ct_1497 [] [12, 20] cu_3293 20 con_3293 = true := by decide +kernel
theorem vl_3293 (l : Launch) : Vld2 l vwCl gTbl con_3293 := conR_ok3 gT_all (hd_3293) rfl pn_RX8 tk_X8_holds bo_RX8 xo_RX8 (cto_1497 l) ch_3293 cut_nil
/-- RookHusting$Slots holds -/
noncomputable def gi_3175 : GI := jl_n [gp_210, jl_t, jl_i 0 2147483647, gp_897]
noncomputable def gi_3176 : GI := jl_n [gp_210, jl_t, jl_i 0 2147483647, gp_898]
noncomputable def con_3294 : Con2 := ((yX8_holds, cX8_holds, 4, (some .boolean)), (0, 0), ([(6, 0, 0), (1, 1, 0), (1, 2, 0), (1, 3, 0)], gi_3175, [.inl (8, [(8, 4, 0), (8, 5, 0), (6, 1, 0)]), ac_1573], []), [((0, 0, 0), gi_3176, hq_1095, [], [1]), ((0, 1, 0), gi_3174, hq_1095, [([(2, (-1)), (3, (-1))], 60)], [1])])
theorem hd_3294 : con_3294.1 = (yX8_holds, cX8_holds, 4, (some .boolean)) := rfl
noncomputable def cu_3294 : List CUT2 := []
theorem ch_3294 : staG tb_X8_holds 2 bt_RX8 [] ct_1497 [] [12, 20] cu_3294 20 con_3294 = true := by decide +kernel
theorem vl_3294 (l : Launch) : Vld2 l vwCl gTbl con_3294 := conR_ok3 gT_all (hd_3294) rfl pn_RX8 tk_X8_holds bo_RX8 xo_RX8 (cto_1497 l) ch_3294 cut_nil
/-- RookHusting paste -/
noncomputable def gi_3177 : GI := jl_n [gp_4, gp_927]
noncomputable def ac_1590 : AC := .inl (11, jl_n [jl_8 10 4, jl_6 2 1, jl_8 22 11])
noncomputable def ac_1591 : AC := .inr (1, jl_n [js_1 29 4])
noncomputable def ac_1592 : AC := .inr (1, jl_n [js_1 33 4])
noncomputable def hc_278 : List AC := [ac_1590, .inl (8, [(6, 4, 0), (6, 3, 0), (6, 2, 0)]), ac_1591, ac_1592, ac_807]
noncomputable def gi_3178 : GI := jl_n [gp_4, gp_927, jl_m 7 0]
noncomputable def hq_1096 : HP := [(false, ac_1590), (false, .inl (8, [(6, 4, 0), (6, 3, 0), (6, 2, 0)])), (false, ac_1591), (false, ac_1592), (true, ac_807)]
noncomputable def con_3295 : Con2 := ((yX11_paste, cX11_paste, 6, (some .int)), (1, 23), ([(6, 0, 0), (1, 1, 0), (1, 2, 0), (1, 3, 0), (1, 4, 0), (1, 5, 0)], gi_3177, hc_278, []), [((1, 33, 0), gi_3178, hq_1096, [], [1])])
theorem hd_3295 : con_3295.1 = (yX11_paste, cX11_paste, 6, (some .int)) := rfl
theorem ck_RX11_433_3294 : COK2 RX11 vwCl gTbl 433 0 con_3294 := ⟨wd_1393, wd_131, mh_X8_holds, .inr (.inr ⟨rfl, wd_1390, wd_1391, wd_1392, ⟨_, rfl, pd_X8_holds⟩, 8, _, TX8, 3, rfl, rfl⟩)⟩
theorem ck_RX11_433_3293 : COK2 RX11 vwCl gTbl 433 0 con_3293 := ⟨wd_1393, wd_131, mh_X8_holds, .inr (.inr ⟨rfl, wd_1390, wd_1391, wd_1392, ⟨_, rfl, pd_X8_holds⟩, 8, _, TX8, 3, rfl, rfl⟩)⟩
noncomputable def ct_3295 : CTB2 := [(1, 414, 1, con_3282, []), (8, 414, 1, con_3282, []), (22, 420, 0, con_3182, [1, 2]), (33, 420, 0, con_3182, [1, 2]), (74, 433, 0, con_3293, [1, 2]), (89, 433, 0, con_3294, [1, 2])]
noncomputable def rf_3295 : List (Nat × List POP) := [(98, [(0, (1, 2, 0), 0, 60), (0, (1, 4, 0), 0, 60), (0, (1, 5, 0), 0, 60)])]
noncomputable def cu_3295 : List CUT2 := []
theorem ch_3295 : staG tb_X11_paste 2 bt_RX11 [] ct_3295 rf_3295 [110, 124] cu_3295 63 con_3295 = true := by decide +kernel
theorem cto_3295 (l : Launch) : CTOK2 l RX11 vwCl gTbl ct_3295 := ct2_cons (vl_3282 l) ck_RX11_414_3282 (ct2_cons (vl_3282 l) ck_RX11_414_3282 (ct2_cons (vl_3182 l) ck_RX11_420_3182 (ct2_cons (vl_3182 l) ck_RX11_420_3182 (ct2_cons (vl_3293 l) ck_RX11_433_3293 (ct2_cons (vl_3294 l) ck_RX11_433_3294 (ct2_nil))))))
theorem vl_3295 (l : Launch) : Vld2 l vwCl gTbl con_3295 := conR_ok3 gT_all (hd_3295) rfl pn_RX11 tk_X11_paste bo_RX11 xo_RX11 (cto_3295 l) ch_3295 cut_nil
/-- RookHustingModel paste -/
noncomputable def gi_3179 : GI := jl_n [gp_4, gp_925]
noncomputable def ac_1593 : AC := .inl (12, jl_n [jl_8 47 41, jl_6 5 4])
noncomputable def ac_1594 : AC := .inr (1, jl_n [js_1 55 4])
noncomputable def ac_1595 : AC := .inr (1, jl_n [js_1 59 4])
noncomputable def ac_1596 : AC := .inr (2, jl_n [js_5 60 9223372036854775807 9223372036854775807])
noncomputable def gi_3180 : GI := jl_n [gp_4, gp_925, jl_m 7 0]
noncomputable def hq_1097 : HP := [(false, ac_1593), (false, ac_1594), (false, ac_1595), (true, ac_807), (true, ac_1596)]
noncomputable def con_3296 : Con2 := ((yX12_paste, cX12_paste, 7, (some .int)), (2, 45), ([(6, 0, 0), (1, 1, 0), (1, 2, 0), (1, 3, 0), (1, 4, 0), (1, 5, 0)], gi_3179, [ac_1593, ac_1594, ac_1595, ac_807, ac_1596], []), [((1, 59, 0), gi_3180, hq_1097, [], [1])])
theorem hd_3296 : con_3296.1 = (yX12_paste, cX12_paste, 7, (some .int)) := rfl
noncomputable def ct_3296 : CTB2 := [(1, 414, 1, con_3285, []), (8, 414, 1, con_3285, [])]
noncomputable def rf_3296 : List (Nat × List POP) := [(17, [(1, (1, 1, 0), 0, 0), (1, (1, 3, 0), 0, 0)]), (110, [(0, (1, 2, 0), 0, 60), (0, (1, 4, 0), 0, 60), (0, (1, 5, 0), 0, 60)]), (139, [(0, (0, 0, 0), 0, 239)]), (178, [(0, (0, 1, 0), 0, 239)])]
noncomputable def gi_3181 : GI := jl_n [gp_928, jl_i 3 3, gp_929, gp_420, gp_930]
noncomputable def hq_1098 : HP := [(false, ac_1593), (false, ac_1594), (false, ac_1595), (false, ac_807), (true, ac_1596)]
noncomputable def rq_25 : RLs := [([(2, (-1)), (5, (-1))], 60), ([(4, (-1)), (5, (-1))], 60)]
noncomputable def gi_3182 : GI := jl_n [gp_928, jl_i 2 2, gp_929, jl_r 2 (jl_m 0 60), jl_r 2 (jl_i 0 60), gp_930]
noncomputable def gi_3183 : GI := jl_n [gp_928, gp_931, gp_528, gp_528, gp_930]
noncomputable def gi_3184 : GI := jl_n [gp_928, jl_z 1, gp_932, gp_484, gp_930]
noncomputable def gi_3185 : GI := jl_n [gp_933, jl_i 3 3, gp_929, jl_r 2 (jl_m 0 60), jl_r 2 (jl_i 0 60), gp_930]
noncomputable def gi_3186 : GI := jl_n [gp_933, jl_i 2 2, gp_929, gp_484, gp_934]
noncomputable def gi_3187 : GI := jl_n [gp_933, gp_931, jl_m 0 60, jl_r 2 (jl_i 0 60), gp_934]
noncomputable def gi_3188 : GI := jl_n [gp_933, jl_z 1, gp_932, gp_528, gp_934]
noncomputable def gi_3189 : GI := jl_n [gp_935, jl_i 3 3, gp_929, gp_528, gp_528, gp_930]
noncomputable def gi_3190 : GI := jl_n [gp_935, jl_i 2 2, gp_929, jl_m 0 60, jl_r 2 (jl_i 0 60), gp_934]
noncomputable def gi_3191 : GI := jl_n [gp_935, gp_931, gp_528, jl_r 2 (jl_m 0 60), gp_930]
noncomputable def gi_3192 : GI := jl_n [gp_935, jl_z 1, gp_929, jl_r 2 (jl_i 0 60), jl_r 2 (jl_m 0 60), gp_930]
noncomputable def gi_3193 : GI := jl_n [gp_936, jl_i 3 3, gp_932, gp_484, gp_930]
noncomputable def gi_3194 : GI := jl_n [gp_936, jl_i 2 2, gp_932, gp_528, gp_934]
noncomputable def gi_3195 : GI := jl_n [gp_936, gp_931, jl_r 2 (jl_i 0 60), jl_r 2 (jl_m 0 60), gp_930]
noncomputable def gi_3196 : GI := jl_n [gp_936, jl_z 1, gp_932, jl_r 3 (jl_m 0 60), gp_930]
noncomputable def cu_3296 : List CUT2 := [((113, [lq 0 6 0, lq 1 1 1, lq 2 1 2, lq 3 1 3, lq 4 1 4, lq 5 1 5, lq 6 1 65], [], gi_3181, hq_1098), rq_25, ([(65, (-1))], 121)), ((113, [lq 0 6 0, lq 1 1 1, lq 2 1 2, lq 3 1 3, lq 4 1 4, lq 5 1 5, lq 6 1 65], [], gi_3182, hq_1098), rq_25, ([(65, (-1))], 121)), ((113, [lq 0 6 0, lq 1 1 1, lq 2 1 2, lq 3 1 3, lq 4 1 4, lq 5 1 5, lq 6 1 65], [], gi_3183, hq_1098), rq_25, ([(65, (-1))], 121)), ((113, [lq 0 6 0, lq 1 1 1, lq 2 1 2, lq 3 1 3, lq 4 1 4, lq 5 1 5, lq 6 1 65], [], gi_3184, hq_1098), rq_25, ([(65, (-1))], 121)), ((113, [lq 0 6 0, lq 1 1 1, lq 2 1 2, lq 3 1 3, lq 4 1 4, lq 5 1 5, lq 6 1 65], [], gi_3185, hq_1098), rq_25, ([(65, (-1))], 121)), ((113, [lq 0 6 0, lq 1 1 1, lq 2 1 2, lq 3 1 3, lq 4 1 4, lq 5 1 5, lq 6 1 65], [], gi_3186, hq_1098), rq_25, ([(65, (-1))], 121)), ((113, [lq 0 6 0, lq 1 1 1, lq 2 1 2, lq 3 1 3, lq 4 1 4, lq 5 1 5, lq 6 1 65], [], gi_3187, hq_1098), rq_25, ([(65, (-1))], 121)), ((113, [lq 0 6 0, lq 1 1 1, lq 2 1 2, lq 3 1 3, lq 4 1 4, lq 5 1 5, lq 6 1 65], [], gi_3188, hq_1098), rq_25, ([(65, (-1))], 121)), ((113, [lq 0 6 0, lq 1 1 1, lq 2 1 2, lq 3 1 3, lq 4 1 4, lq 5 1 5, lq 6 1 65], [], gi_3189, hq_1098), rq_25, ([(65, (-1))], 121)), ((113, [lq 0 6 0, lq 1 1 1, lq 2 1 2, lq 3 1 3, lq 4 1 4, lq 5 1 5, lq 6 1 65], [], gi_3190, hq_1098), rq_25, ([(65, (-1))], 121)), ((113, [lq 0 6 0, lq 1 1 1, lq 2 1 2, lq 3 1 3, lq 4 1 4, lq 5 1 5, lq 6 1 65], [], gi_3191, hq_1098), rq_25, ([(65, (-1))], 121)), ((113, [lq 0 6 0, lq 1 1 1, lq 2 1 2, lq 3 1 3, lq 4 1 4, lq 5 1 5, lq 6 1 65], [], gi_3192, hq_1098), rq_25, ([(65, (-1))], 121)), ((113, [lq 0 6 0, lq 1 1 1, lq 2 1 2, lq 3 1 3, lq 4 1 4, lq 5 1 5, lq 6 1 65], [], gi_3193, hq_1098), rq_25, ([(65, (-1))], 121)), ((113, [lq 0 6 0, lq 1 1 1, lq 2 1 2, lq 3 1 3, lq 4 1 4, lq 5 1 5, lq 6 1 65], [], gi_3194, hq_1098), rq_25, ([(65, (-1))], 121)), ((113, [lq 0 6 0, lq 1 1 1, lq 2 1 2, lq 3 1 3, lq 4 1 4, lq 5 1 5, lq 6 1 65], [], gi_3195, hq_1098), rq_25, ([(65, (-1))], 121)), ((113, [lq 0 6 0, lq 1 1 1, lq 2 1 2, lq 3 1 3, lq 4 1 4, lq 5 1 5, lq 6 1 65], [], gi_3196, hq_1098), rq_25, ([(65, (-1))], 121)), ((150, [lq 0 6 0, lq 1 1 1, lq 2 1 2, lq 3 1 3, lq 4 1 4, lq 5 1 5, lq 6 1 65], [], gi_3181, hq_1097), rq_25, ([(65, (-1))], 60)), ((150, [lq 0 6 0, lq 1 1 1, lq 2 1 2, lq 3 1 3, lq 4 1 4, lq 5 1 5, lq 6 1 65], [], gi_3182, hq_1097), rq_25, ([(65, (-1))], 60)), ((150, [lq 0 6 0, lq 1 1 1, lq 2 1 2, lq 3 1 3, lq 4 1 4, lq 5 1 5, lq 6 1 65], [], gi_3183, hq_1097), rq_25, ([(65, (-1))], 60)), ((150, [lq 0 6 0, lq 1 1 1, lq 2 1 2, lq 3 1 3, lq 4 1 4, lq 5 1 5, lq 6 1 65], [], gi_3184, hq_1097), rq_25, ([(65, (-1))], 60)), ((150, [lq 0 6 0, lq 1 1 1, lq 2 1 2, lq 3 1 3, lq 4 1 4, lq 5 1 5, lq 6 1 65], [], gi_3185, hq_1097), rq_25, ([(65, (-1))], 60)), ((150, [lq 0 6 0, lq 1 1 1, lq 2 1 2, lq 3 1 3, lq 4 1 4, lq 5 1 5, lq 6 1 65], [], gi_3186, hq_1097), rq_25, ([(65, (-1))], 60)), ((150, [lq 0 6 0, lq 1 1 1, lq 2 1 2, lq 3 1 3, lq 4 1 4, lq 5 1 5, lq 6 1 65], [], gi_3187, hq_1097), rq_25, ([(65, (-1))], 60)), ((150, [lq 0 6 0, lq 1 1 1, lq 2 1 2, lq 3 1 3, lq 4 1 4, lq 5 1 5, lq 6 1 65], [], gi_3188, hq_1097), rq_25, ([(65, (-1))], 60)), ((150, [lq 0 6 0, lq 1 1 1, lq 2 1 2, lq 3 1 3, lq 4 1 4, lq 5 1 5, lq 6 1 65], [], gi_3189, hq_1097), rq_25, ([(65, (-1))], 60)), ((150, [lq 0 6 0, lq 1 1 1, lq 2 1 2, lq 3 1 3, lq 4 1 4, lq 5 1 5, lq 6 1 65], [], gi_3190, hq_1097), rq_25, ([(65, (-1))], 60)), ((150, [lq 0 6 0, lq 1 1 1, lq 2 1 2, lq 3 1 3, lq 4 1 4, lq 5 1 5, lq 6 1 65], [], gi_3191, hq_1097), rq_25, ([(65, (-1))], 60)), ((150, [lq 0 6 0, lq 1 1 1, lq 2 1 2, lq 3 1 3, lq 4 1 4, lq 5 1 5, lq 6 1 65], [], gi_3192, hq_1097), rq_25, ([(65, (-1))], 60)), ((150, [lq 0 6 0, lq 1 1 1, lq 2 1 2, lq 3 1 3, lq 4 1 4, lq 5 1 5, lq 6 1 65], [], gi_3193, hq_1097), rq_25, ([(65, (-1))], 60)), ((150, [lq 0 6 0, lq 1 1 1, lq 2 1 2, lq 3 1 3, lq 4 1 4, lq 5 1 5, lq 6 1 65], [], gi_3194, hq_1097), rq_25, ([(65, (-1))], 60)), ((150, [lq 0 6 0, lq 1 1 1, lq 2 1 2, lq 3 1 3, lq 4 1 4, lq 5 1 5, lq 6 1 65], [], gi_3195, hq_1097), rq_25, ([(65, (-1))], 60)), ((150, [lq 0 6 0, lq 1 1 1, lq 2 1 2, lq 3 1 3, lq 4 1 4, lq 5 1 5, lq 6 1 65], [], gi_3196, hq_1097), rq_25, ([(65, (-1))], 60))]
theorem ch_3296 : staG tb_X12_paste 3 bt_RX12 [] ct_3296 rf_3296 [77, 85, 95, 103, 117, 138, 154, 170] cu_3296 60 con_3296 = true := by decide +kernel
theorem cc_3296 : cu_3296.all (cutG tb_X12_paste 3 bt_RX12 [] ct_3296 rf_3296 [77, 85, 95, 103, 117, 138, 154, 170] cu_3296 60 con_3296) = true := by decide +kernel
theorem cto_3296 (l : Launch) : CTOK2 l RX12 vwCl gTbl ct_3296 := ct2_cons (vl_3285 l) ck_RX12_414_3285 (ct2_cons (vl_3285 l) ck_RX12_414_3285 (ct2_nil))
theorem vl_3296 (l : Launch) : Vld2 l vwCl gTbl con_3296 := conR_ok3 gT_all (hd_3296) rfl pn_RX12 tk_X12_paste bo_RX12 xo_RX12 (cto_3296 l) ch_3296 (cut_all cc_3296)
