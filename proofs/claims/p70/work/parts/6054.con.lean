/-! ===== contracts, 54 ===== -/
/-- RookHustingModel isSlot -/
noncomputable def con_2614 : Con2 := ((yX12_isSlot, cX12_isSlot, 1, (some .boolean)), (1, 25), ([(0, 0, 0)], [(0, 0)], [], []), [((0, 0, 0), [(0, 0), (0, 0)], [], [], [1]), ((0, 1, 0), [(0, 0), (0, 0)], [], [], [1])])
theorem hd_2614 : con_2614.1 = (yX12_isSlot, cX12_isSlot, 1, (some .boolean)) := rfl
noncomputable def cu_2614 : List CUT2 := []
theorem ch_2614 : staG tb_X12_isSlot 1 bt_RX12 [] ct_2171 [] [] cu_2614 8 con_2614 = true := by decide +kernel
theorem vl_2614 (l : Launch) : Vld2 l vwCl gTbl con_2614 := conR_ok3 gT_all (hd_2614) rfl pn_RX12 tk_X12_isSlot bo_RX12 xo_RX12 (cto_2171 l) ch_2614 cut_nil
/-- RookHustingModel numberAt -/
noncomputable def ac_1295 : AC := .inr (2, jl_n [js_4 49 1, js_5 239 9223372036854775807 9223372036854775807])
noncomputable def con_2615 : Con2 := ((yX12_numberAt, cX12_numberAt, 3, (some .long)), (0, 0), ([(6, 0, 0), (0, 0, 0), (0, 0, 0)], gi_1800, [ac_1100, ac_1295], []), [((4, 48, 0), gi_1801, [(false, ac_1100), (false, ac_1295)], [], [1])])
theorem hd_2615 : con_2615.1 = (yX12_numberAt, cX12_numberAt, 3, (some .long)) := rfl
noncomputable def cu_2615 : List CUT2 := []
theorem ch_2615 : staG tb_X12_numberAt 1 bt_RX12 [] ct_2 [] [] cu_2615 11 con_2615 = true := by decide +kernel
theorem vl_2615 (l : Launch) : Vld2 l vwCl gTbl con_2615 := conR_ok3 gT_all (hd_2615) rfl pn_RX12 tk_X12_numberAt bo_RX12 xo_RX12 (cto_2 l) ch_2615 cut_nil
/-- RookHustingModel numberAt -/
noncomputable def gi_2393 : GI := jl_n [jl_z 49, jl_u]
noncomputable def ac_1296 : AC := .inr (2, jl_n [js_5 1 9223372036854775807 9223372036854775807, js_4 50 1, js_5 238 9223372036854775807 9223372036854775807])
noncomputable def gi_2394 : GI := jl_n [jl_z 49, gp_129]
noncomputable def con_2616 : Con2 := ((yX12_numberAt, cX12_numberAt, 3, (some .long)), (0, 0), ([(6, 0, 0), (0, 0, 0), (0, 1, 0)], gi_2393, [ac_1100, ac_1296], []), [((4, 49, 0), gi_2394, [(false, ac_1100), (false, ac_1296)], [], [1])])
theorem hd_2616 : con_2616.1 = (yX12_numberAt, cX12_numberAt, 3, (some .long)) := rfl
noncomputable def cu_2616 : List CUT2 := []
theorem ch_2616 : staG tb_X12_numberAt 1 bt_RX12 [] ct_2 [] [] cu_2616 11 con_2616 = true := by decide +kernel
theorem vl_2616 (l : Launch) : Vld2 l vwCl gTbl con_2616 := conR_ok3 gT_all (hd_2616) rfl pn_RX12 tk_X12_numberAt bo_RX12 xo_RX12 (cto_2 l) ch_2616 cut_nil
/-- RookHustingModel numberAt -/
noncomputable def ac_1297 : AC := .inr (2, jl_n [js_5 2 9223372036854775807 9223372036854775807, js_4 49 1, js_5 237 9223372036854775807 9223372036854775807])
noncomputable def con_2617 : Con2 := ((yX12_numberAt, cX12_numberAt, 3, (some .long)), (0, 0), ([(6, 0, 0), (0, 0, 0), (0, 2, 0)], gi_1800, [ac_1100, ac_1297], []), [((4, 48, 0), gi_1801, [(false, ac_1100), (false, ac_1297)], [], [1])])
theorem hd_2617 : con_2617.1 = (yX12_numberAt, cX12_numberAt, 3, (some .long)) := rfl
noncomputable def cu_2617 : List CUT2 := []
theorem ch_2617 : staG tb_X12_numberAt 1 bt_RX12 [] ct_2 [] [] cu_2617 11 con_2617 = true := by decide +kernel
theorem vl_2617 (l : Launch) : Vld2 l vwCl gTbl con_2617 := conR_ok3 gT_all (hd_2617) rfl pn_RX12 tk_X12_numberAt bo_RX12 xo_RX12 (cto_2 l) ch_2617 cut_nil
/-- RookHustingModel numberAt -/
noncomputable def ac_1298 : AC := .inr (2, jl_n [js_5 3 9223372036854775807 9223372036854775807, js_4 49 1, js_5 236 9223372036854775807 9223372036854775807])
noncomputable def con_2618 : Con2 := ((yX12_numberAt, cX12_numberAt, 3, (some .long)), (0, 0), ([(6, 0, 0), (0, 0, 0), (0, 3, 0)], gi_1800, [ac_1100, ac_1298], []), [((4, 48, 0), gi_1801, [(false, ac_1100), (false, ac_1298)], [], [1])])
theorem hd_2618 : con_2618.1 = (yX12_numberAt, cX12_numberAt, 3, (some .long)) := rfl
noncomputable def cu_2618 : List CUT2 := []
theorem ch_2618 : staG tb_X12_numberAt 1 bt_RX12 [] ct_2 [] [] cu_2618 11 con_2618 = true := by decide +kernel
theorem vl_2618 (l : Launch) : Vld2 l vwCl gTbl con_2618 := conR_ok3 gT_all (hd_2618) rfl pn_RX12 tk_X12_numberAt bo_RX12 xo_RX12 (cto_2 l) ch_2618 cut_nil
/-- RookHustingModel numberAt -/
noncomputable def ac_1299 : AC := .inr (2, jl_n [js_5 4 9223372036854775807 9223372036854775807, js_4 49 1, js_5 235 9223372036854775807 9223372036854775807])
noncomputable def con_2619 : Con2 := ((yX12_numberAt, cX12_numberAt, 3, (some .long)), (0, 0), ([(6, 0, 0), (0, 0, 0), (0, 4, 0)], gi_1800, [ac_1100, ac_1299], []), [((4, 48, 0), gi_1801, [(false, ac_1100), (false, ac_1299)], [], [1])])
theorem hd_2619 : con_2619.1 = (yX12_numberAt, cX12_numberAt, 3, (some .long)) := rfl
noncomputable def cu_2619 : List CUT2 := []
theorem ch_2619 : staG tb_X12_numberAt 1 bt_RX12 [] ct_2 [] [] cu_2619 11 con_2619 = true := by decide +kernel
theorem vl_2619 (l : Launch) : Vld2 l vwCl gTbl con_2619 := conR_ok3 gT_all (hd_2619) rfl pn_RX12 tk_X12_numberAt bo_RX12 xo_RX12 (cto_2 l) ch_2619 cut_nil
/-- RookHustingModel numberAt -/
noncomputable def ac_1300 : AC := .inr (2, jl_n [js_5 5 9223372036854775807 9223372036854775807, js_4 49 1, js_5 234 9223372036854775807 9223372036854775807])
noncomputable def con_2620 : Con2 := ((yX12_numberAt, cX12_numberAt, 3, (some .long)), (0, 0), ([(6, 0, 0), (0, 0, 0), (0, 5, 0)], gi_1800, [ac_1100, ac_1300], []), [((4, 48, 0), gi_1801, [(false, ac_1100), (false, ac_1300)], [], [1])])
theorem hd_2620 : con_2620.1 = (yX12_numberAt, cX12_numberAt, 3, (some .long)) := rfl
noncomputable def cu_2620 : List CUT2 := []
theorem ch_2620 : staG tb_X12_numberAt 1 bt_RX12 [] ct_2 [] [] cu_2620 11 con_2620 = true := by decide +kernel
theorem vl_2620 (l : Launch) : Vld2 l vwCl gTbl con_2620 := conR_ok3 gT_all (hd_2620) rfl pn_RX12 tk_X12_numberAt bo_RX12 xo_RX12 (cto_2 l) ch_2620 cut_nil
/-- RookHustingModel numberAt -/
noncomputable def ac_1301 : AC := .inr (2, jl_n [js_5 6 9223372036854775807 9223372036854775807, js_4 49 1, js_5 233 9223372036854775807 9223372036854775807])
noncomputable def con_2621 : Con2 := ((yX12_numberAt, cX12_numberAt, 3, (some .long)), (0, 0), ([(6, 0, 0), (0, 0, 0), (0, 6, 0)], gi_1800, [ac_1100, ac_1301], []), [((4, 48, 0), gi_1801, [(false, ac_1100), (false, ac_1301)], [], [1])])
theorem hd_2621 : con_2621.1 = (yX12_numberAt, cX12_numberAt, 3, (some .long)) := rfl
noncomputable def cu_2621 : List CUT2 := []
theorem ch_2621 : staG tb_X12_numberAt 1 bt_RX12 [] ct_2 [] [] cu_2621 11 con_2621 = true := by decide +kernel
theorem vl_2621 (l : Launch) : Vld2 l vwCl gTbl con_2621 := conR_ok3 gT_all (hd_2621) rfl pn_RX12 tk_X12_numberAt bo_RX12 xo_RX12 (cto_2 l) ch_2621 cut_nil
/-- RookHustingModel numberAt -/
noncomputable def ac_1302 : AC := .inr (2, jl_n [js_5 7 9223372036854775807 9223372036854775807, js_4 49 1, js_5 232 9223372036854775807 9223372036854775807])
noncomputable def con_2622 : Con2 := ((yX12_numberAt, cX12_numberAt, 3, (some .long)), (0, 0), ([(6, 0, 0), (0, 0, 0), (0, 7, 0)], gi_1800, [ac_1100, ac_1302], []), [((4, 48, 0), gi_1801, [(false, ac_1100), (false, ac_1302)], [], [1])])
theorem hd_2622 : con_2622.1 = (yX12_numberAt, cX12_numberAt, 3, (some .long)) := rfl
noncomputable def cu_2622 : List CUT2 := []
theorem ch_2622 : staG tb_X12_numberAt 1 bt_RX12 [] ct_2 [] [] cu_2622 11 con_2622 = true := by decide +kernel
theorem vl_2622 (l : Launch) : Vld2 l vwCl gTbl con_2622 := conR_ok3 gT_all (hd_2622) rfl pn_RX12 tk_X12_numberAt bo_RX12 xo_RX12 (cto_2 l) ch_2622 cut_nil
/-- RookHustingModel numberAt -/
noncomputable def ac_1303 : AC := .inr (2, jl_n [js_5 8 9223372036854775807 9223372036854775807, js_4 49 1, js_5 231 9223372036854775807 9223372036854775807])
noncomputable def con_2623 : Con2 := ((yX12_numberAt, cX12_numberAt, 3, (some .long)), (0, 0), ([(6, 0, 0), (0, 0, 0), (0, 8, 0)], gi_1800, [ac_1100, ac_1303], []), [((4, 48, 0), gi_1801, [(false, ac_1100), (false, ac_1303)], [], [1])])
theorem hd_2623 : con_2623.1 = (yX12_numberAt, cX12_numberAt, 3, (some .long)) := rfl
noncomputable def cu_2623 : List CUT2 := []
theorem ch_2623 : staG tb_X12_numberAt 1 bt_RX12 [] ct_2 [] [] cu_2623 11 con_2623 = true := by decide +kernel
theorem vl_2623 (l : Launch) : Vld2 l vwCl gTbl con_2623 := conR_ok3 gT_all (hd_2623) rfl pn_RX12 tk_X12_numberAt bo_RX12 xo_RX12 (cto_2 l) ch_2623 cut_nil
/-- RookHustingModel numberAt -/
noncomputable def ac_1304 : AC := .inr (2, jl_n [js_5 9 9223372036854775807 9223372036854775807, js_4 49 1, js_5 230 9223372036854775807 9223372036854775807])
noncomputable def con_2624 : Con2 := ((yX12_numberAt, cX12_numberAt, 3, (some .long)), (0, 0), ([(6, 0, 0), (0, 0, 0), (0, 9, 0)], gi_1800, [ac_1100, ac_1304], []), [((4, 48, 0), gi_1801, [(false, ac_1100), (false, ac_1304)], [], [1])])
theorem hd_2624 : con_2624.1 = (yX12_numberAt, cX12_numberAt, 3, (some .long)) := rfl
noncomputable def cu_2624 : List CUT2 := []
theorem ch_2624 : staG tb_X12_numberAt 1 bt_RX12 [] ct_2 [] [] cu_2624 11 con_2624 = true := by decide +kernel
theorem vl_2624 (l : Launch) : Vld2 l vwCl gTbl con_2624 := conR_ok3 gT_all (hd_2624) rfl pn_RX12 tk_X12_numberAt bo_RX12 xo_RX12 (cto_2 l) ch_2624 cut_nil
/-- RookHustingModel numberAt -/
noncomputable def ac_1305 : AC := .inr (2, jl_n [js_5 10 9223372036854775807 9223372036854775807, js_4 49 1, js_5 229 9223372036854775807 9223372036854775807])
noncomputable def con_2625 : Con2 := ((yX12_numberAt, cX12_numberAt, 3, (some .long)), (0, 0), ([(6, 0, 0), (0, 0, 0), (0, 10, 0)], gi_1800, [ac_1100, ac_1305], []), [((4, 48, 0), gi_1801, [(false, ac_1100), (false, ac_1305)], [], [1])])
theorem hd_2625 : con_2625.1 = (yX12_numberAt, cX12_numberAt, 3, (some .long)) := rfl
noncomputable def cu_2625 : List CUT2 := []
theorem ch_2625 : staG tb_X12_numberAt 1 bt_RX12 [] ct_2 [] [] cu_2625 11 con_2625 = true := by decide +kernel
theorem vl_2625 (l : Launch) : Vld2 l vwCl gTbl con_2625 := conR_ok3 gT_all (hd_2625) rfl pn_RX12 tk_X12_numberAt bo_RX12 xo_RX12 (cto_2 l) ch_2625 cut_nil
/-- RookHustingModel numberAt -/
noncomputable def ac_1306 : AC := .inr (2, jl_n [js_5 11 9223372036854775807 9223372036854775807, js_4 49 1, js_5 228 9223372036854775807 9223372036854775807])
noncomputable def con_2626 : Con2 := ((yX12_numberAt, cX12_numberAt, 3, (some .long)), (0, 0), ([(6, 0, 0), (0, 0, 0), (0, 11, 0)], gi_1800, [ac_1100, ac_1306], []), [((4, 48, 0), gi_1801, [(false, ac_1100), (false, ac_1306)], [], [1])])
theorem hd_2626 : con_2626.1 = (yX12_numberAt, cX12_numberAt, 3, (some .long)) := rfl
noncomputable def cu_2626 : List CUT2 := []
theorem ch_2626 : staG tb_X12_numberAt 1 bt_RX12 [] ct_2 [] [] cu_2626 11 con_2626 = true := by decide +kernel
theorem vl_2626 (l : Launch) : Vld2 l vwCl gTbl con_2626 := conR_ok3 gT_all (hd_2626) rfl pn_RX12 tk_X12_numberAt bo_RX12 xo_RX12 (cto_2 l) ch_2626 cut_nil
/-- RookHustingModel numberAt -/
noncomputable def ac_1307 : AC := .inr (2, jl_n [js_5 12 9223372036854775807 9223372036854775807, js_4 49 1, js_5 227 9223372036854775807 9223372036854775807])
noncomputable def con_2627 : Con2 := ((yX12_numberAt, cX12_numberAt, 3, (some .long)), (0, 0), ([(6, 0, 0), (0, 0, 0), (0, 12, 0)], gi_1800, [ac_1100, ac_1307], []), [((4, 48, 0), gi_1801, [(false, ac_1100), (false, ac_1307)], [], [1])])
theorem hd_2627 : con_2627.1 = (yX12_numberAt, cX12_numberAt, 3, (some .long)) := rfl
noncomputable def cu_2627 : List CUT2 := []
theorem ch_2627 : staG tb_X12_numberAt 1 bt_RX12 [] ct_2 [] [] cu_2627 11 con_2627 = true := by decide +kernel
theorem vl_2627 (l : Launch) : Vld2 l vwCl gTbl con_2627 := conR_ok3 gT_all (hd_2627) rfl pn_RX12 tk_X12_numberAt bo_RX12 xo_RX12 (cto_2 l) ch_2627 cut_nil
/-- RookHustingModel numberAt -/
noncomputable def ac_1308 : AC := .inr (2, jl_n [js_5 13 9223372036854775807 9223372036854775807, js_4 49 1, js_5 226 9223372036854775807 9223372036854775807])
noncomputable def con_2628 : Con2 := ((yX12_numberAt, cX12_numberAt, 3, (some .long)), (0, 0), ([(6, 0, 0), (0, 0, 0), (0, 13, 0)], gi_1800, [ac_1100, ac_1308], []), [((4, 48, 0), gi_1801, [(false, ac_1100), (false, ac_1308)], [], [1])])
theorem hd_2628 : con_2628.1 = (yX12_numberAt, cX12_numberAt, 3, (some .long)) := rfl
noncomputable def cu_2628 : List CUT2 := []
theorem ch_2628 : staG tb_X12_numberAt 1 bt_RX12 [] ct_2 [] [] cu_2628 11 con_2628 = true := by decide +kernel
theorem vl_2628 (l : Launch) : Vld2 l vwCl gTbl con_2628 := conR_ok3 gT_all (hd_2628) rfl pn_RX12 tk_X12_numberAt bo_RX12 xo_RX12 (cto_2 l) ch_2628 cut_nil
/-- RookHustingModel numberAt -/
noncomputable def ac_1309 : AC := .inr (2, jl_n [js_5 14 9223372036854775807 9223372036854775807, js_4 49 1, js_5 225 9223372036854775807 9223372036854775807])
noncomputable def con_2629 : Con2 := ((yX12_numberAt, cX12_numberAt, 3, (some .long)), (0, 0), ([(6, 0, 0), (0, 0, 0), (0, 14, 0)], gi_1800, [ac_1100, ac_1309], []), [((4, 48, 0), gi_1801, [(false, ac_1100), (false, ac_1309)], [], [1])])
theorem hd_2629 : con_2629.1 = (yX12_numberAt, cX12_numberAt, 3, (some .long)) := rfl
noncomputable def cu_2629 : List CUT2 := []
theorem ch_2629 : staG tb_X12_numberAt 1 bt_RX12 [] ct_2 [] [] cu_2629 11 con_2629 = true := by decide +kernel
theorem vl_2629 (l : Launch) : Vld2 l vwCl gTbl con_2629 := conR_ok3 gT_all (hd_2629) rfl pn_RX12 tk_X12_numberAt bo_RX12 xo_RX12 (cto_2 l) ch_2629 cut_nil
/-- RookHustingModel numberAt -/
noncomputable def ac_1310 : AC := .inr (2, jl_n [js_5 15 9223372036854775807 9223372036854775807, js_4 49 1, js_5 224 9223372036854775807 9223372036854775807])
noncomputable def con_2630 : Con2 := ((yX12_numberAt, cX12_numberAt, 3, (some .long)), (0, 0), ([(6, 0, 0), (0, 0, 0), (0, 15, 0)], gi_1800, [ac_1100, ac_1310], []), [((4, 48, 0), gi_1801, [(false, ac_1100), (false, ac_1310)], [], [1])])
theorem hd_2630 : con_2630.1 = (yX12_numberAt, cX12_numberAt, 3, (some .long)) := rfl
noncomputable def cu_2630 : List CUT2 := []
theorem ch_2630 : staG tb_X12_numberAt 1 bt_RX12 [] ct_2 [] [] cu_2630 11 con_2630 = true := by decide +kernel
theorem vl_2630 (l : Launch) : Vld2 l vwCl gTbl con_2630 := conR_ok3 gT_all (hd_2630) rfl pn_RX12 tk_X12_numberAt bo_RX12 xo_RX12 (cto_2 l) ch_2630 cut_nil
/-- RookHustingModel numberAt -/
noncomputable def ac_1311 : AC := .inr (2, jl_n [js_5 16 9223372036854775807 9223372036854775807, js_4 49 1, js_5 223 9223372036854775807 9223372036854775807])
noncomputable def con_2631 : Con2 := ((yX12_numberAt, cX12_numberAt, 3, (some .long)), (0, 0), ([(6, 0, 0), (0, 0, 0), (0, 16, 0)], gi_1800, [ac_1100, ac_1311], []), [((4, 48, 0), gi_1801, [(false, ac_1100), (false, ac_1311)], [], [1])])
theorem hd_2631 : con_2631.1 = (yX12_numberAt, cX12_numberAt, 3, (some .long)) := rfl
noncomputable def cu_2631 : List CUT2 := []
theorem ch_2631 : staG tb_X12_numberAt 1 bt_RX12 [] ct_2 [] [] cu_2631 11 con_2631 = true := by decide +kernel
theorem vl_2631 (l : Launch) : Vld2 l vwCl gTbl con_2631 := conR_ok3 gT_all (hd_2631) rfl pn_RX12 tk_X12_numberAt bo_RX12 xo_RX12 (cto_2 l) ch_2631 cut_nil
/-- RookHustingModel numberAt -/
noncomputable def ac_1312 : AC := .inr (2, jl_n [js_5 17 9223372036854775807 9223372036854775807, js_4 49 1, js_5 222 9223372036854775807 9223372036854775807])
noncomputable def con_2632 : Con2 := ((yX12_numberAt, cX12_numberAt, 3, (some .long)), (0, 0), ([(6, 0, 0), (0, 0, 0), (0, 17, 0)], gi_1800, [ac_1100, ac_1312], []), [((4, 48, 0), gi_1801, [(false, ac_1100), (false, ac_1312)], [], [1])])
theorem hd_2632 : con_2632.1 = (yX12_numberAt, cX12_numberAt, 3, (some .long)) := rfl
noncomputable def cu_2632 : List CUT2 := []
theorem ch_2632 : staG tb_X12_numberAt 1 bt_RX12 [] ct_2 [] [] cu_2632 11 con_2632 = true := by decide +kernel
theorem vl_2632 (l : Launch) : Vld2 l vwCl gTbl con_2632 := conR_ok3 gT_all (hd_2632) rfl pn_RX12 tk_X12_numberAt bo_RX12 xo_RX12 (cto_2 l) ch_2632 cut_nil
/-- RookHustingModel numberAt -/
noncomputable def ac_1313 : AC := .inr (2, jl_n [js_5 18 9223372036854775807 9223372036854775807, js_4 49 1, js_5 221 9223372036854775807 9223372036854775807])
noncomputable def con_2633 : Con2 := ((yX12_numberAt, cX12_numberAt, 3, (some .long)), (0, 0), ([(6, 0, 0), (0, 0, 0), (0, 18, 0)], gi_1800, [ac_1100, ac_1313], []), [((4, 48, 0), gi_1801, [(false, ac_1100), (false, ac_1313)], [], [1])])
theorem hd_2633 : con_2633.1 = (yX12_numberAt, cX12_numberAt, 3, (some .long)) := rfl
noncomputable def cu_2633 : List CUT2 := []
theorem ch_2633 : staG tb_X12_numberAt 1 bt_RX12 [] ct_2 [] [] cu_2633 11 con_2633 = true := by decide +kernel
theorem vl_2633 (l : Launch) : Vld2 l vwCl gTbl con_2633 := conR_ok3 gT_all (hd_2633) rfl pn_RX12 tk_X12_numberAt bo_RX12 xo_RX12 (cto_2 l) ch_2633 cut_nil
/-- RookHustingModel numberAt -/
noncomputable def ac_1314 : AC := .inr (2, jl_n [js_5 19 9223372036854775807 9223372036854775807, js_4 49 1, js_5 220 9223372036854775807 9223372036854775807])
noncomputable def con_2634 : Con2 := ((yX12_numberAt, cX12_numberAt, 3, (some .long)), (0, 0), ([(6, 0, 0), (0, 0, 0), (0, 19, 0)], gi_1800, [ac_1100, ac_1314], []), [((4, 48, 0), gi_1801, [(false, ac_1100), (false, ac_1314)], [], [1])])
theorem hd_2634 : con_2634.1 = (yX12_numberAt, cX12_numberAt, 3, (some .long)) := rfl
noncomputable def cu_2634 : List CUT2 := []
theorem ch_2634 : staG tb_X12_numberAt 1 bt_RX12 [] ct_2 [] [] cu_2634 11 con_2634 = true := by decide +kernel
theorem vl_2634 (l : Launch) : Vld2 l vwCl gTbl con_2634 := conR_ok3 gT_all (hd_2634) rfl pn_RX12 tk_X12_numberAt bo_RX12 xo_RX12 (cto_2 l) ch_2634 cut_nil
/-- RookHustingModel numberAt -/
noncomputable def ac_1315 : AC := .inr (2, jl_n [js_5 20 9223372036854775807 9223372036854775807, js_4 49 1, js_5 219 9223372036854775807 9223372036854775807])
noncomputable def con_2635 : Con2 := ((yX12_numberAt, cX12_numberAt, 3, (some .long)), (0, 0), ([(6, 0, 0), (0, 0, 0), (0, 20, 0)], gi_1800, [ac_1100, ac_1315], []), [((4, 48, 0), gi_1801, [(false, ac_1100), (false, ac_1315)], [], [1])])
theorem hd_2635 : con_2635.1 = (yX12_numberAt, cX12_numberAt, 3, (some .long)) := rfl
noncomputable def cu_2635 : List CUT2 := []
theorem ch_2635 : staG tb_X12_numberAt 1 bt_RX12 [] ct_2 [] [] cu_2635 11 con_2635 = true := by decide +kernel
theorem vl_2635 (l : Launch) : Vld2 l vwCl gTbl con_2635 := conR_ok3 gT_all (hd_2635) rfl pn_RX12 tk_X12_numberAt bo_RX12 xo_RX12 (cto_2 l) ch_2635 cut_nil
/-- RookHustingModel numberAt -/
noncomputable def ac_1316 : AC := .inr (2, jl_n [js_5 21 9223372036854775807 9223372036854775807, js_4 49 1, js_5 218 9223372036854775807 9223372036854775807])
noncomputable def con_2636 : Con2 := ((yX12_numberAt, cX12_numberAt, 3, (some .long)), (0, 0), ([(6, 0, 0), (0, 0, 0), (0, 21, 0)], gi_1800, [ac_1100, ac_1316], []), [((4, 48, 0), gi_1801, [(false, ac_1100), (false, ac_1316)], [], [1])])
theorem hd_2636 : con_2636.1 = (yX12_numberAt, cX12_numberAt, 3, (some .long)) := rfl
noncomputable def cu_2636 : List CUT2 := []
theorem ch_2636 : staG tb_X12_numberAt 1 bt_RX12 [] ct_2 [] [] cu_2636 11 con_2636 = true := by decide +kernel
theorem vl_2636 (l : Launch) : Vld2 l vwCl gTbl con_2636 := conR_ok3 gT_all (hd_2636) rfl pn_RX12 tk_X12_numberAt bo_RX12 xo_RX12 (cto_2 l) ch_2636 cut_nil
/-- RookHustingModel numberAt -/
noncomputable def ac_1317 : AC := .inr (2, jl_n [js_5 22 9223372036854775807 9223372036854775807, js_4 49 1, js_5 217 9223372036854775807 9223372036854775807])
noncomputable def con_2637 : Con2 := ((yX12_numberAt, cX12_numberAt, 3, (some .long)), (0, 0), ([(6, 0, 0), (0, 0, 0), (0, 22, 0)], gi_1800, [ac_1100, ac_1317], []), [((4, 48, 0), gi_1801, [(false, ac_1100), (false, ac_1317)], [], [1])])
theorem hd_2637 : con_2637.1 = (yX12_numberAt, cX12_numberAt, 3, (some .long)) := rfl
noncomputable def cu_2637 : List CUT2 := []
theorem ch_2637 : staG tb_X12_numberAt 1 bt_RX12 [] ct_2 [] [] cu_2637 11 con_2637 = true := by decide +kernel
theorem vl_2637 (l : Launch) : Vld2 l vwCl gTbl con_2637 := conR_ok3 gT_all (hd_2637) rfl pn_RX12 tk_X12_numberAt bo_RX12 xo_RX12 (cto_2 l) ch_2637 cut_nil
/-- RookHustingModel numberAt -/
noncomputable def ac_1318 : AC := .inr (2, jl_n [js_5 23 9223372036854775807 9223372036854775807, js_4 49 1, js_5 216 9223372036854775807 9223372036854775807])
noncomputable def con_2638 : Con2 := ((yX12_numberAt, cX12_numberAt, 3, (some .long)), (0, 0), ([(6, 0, 0), (0, 0, 0), (0, 23, 0)], gi_1800, [ac_1100, ac_1318], []), [((4, 48, 0), gi_1801, [(false, ac_1100), (false, ac_1318)], [], [1])])
theorem hd_2638 : con_2638.1 = (yX12_numberAt, cX12_numberAt, 3, (some .long)) := rfl
noncomputable def cu_2638 : List CUT2 := []
theorem ch_2638 : staG tb_X12_numberAt 1 bt_RX12 [] ct_2 [] [] cu_2638 11 con_2638 = true := by decide +kernel
theorem vl_2638 (l : Launch) : Vld2 l vwCl gTbl con_2638 := conR_ok3 gT_all (hd_2638) rfl pn_RX12 tk_X12_numberAt bo_RX12 xo_RX12 (cto_2 l) ch_2638 cut_nil
/-- RookHustingModel numberAt -/
noncomputable def ac_1319 : AC := .inr (2, jl_n [js_5 24 9223372036854775807 9223372036854775807, js_4 49 1, js_5 215 9223372036854775807 9223372036854775807])
noncomputable def con_2639 : Con2 := ((yX12_numberAt, cX12_numberAt, 3, (some .long)), (0, 0), ([(6, 0, 0), (0, 0, 0), (0, 24, 0)], gi_1800, [ac_1100, ac_1319], []), [((4, 48, 0), gi_1801, [(false, ac_1100), (false, ac_1319)], [], [1])])
theorem hd_2639 : con_2639.1 = (yX12_numberAt, cX12_numberAt, 3, (some .long)) := rfl
noncomputable def cu_2639 : List CUT2 := []
theorem ch_2639 : staG tb_X12_numberAt 1 bt_RX12 [] ct_2 [] [] cu_2639 11 con_2639 = true := by decide +kernel
theorem vl_2639 (l : Launch) : Vld2 l vwCl gTbl con_2639 := conR_ok3 gT_all (hd_2639) rfl pn_RX12 tk_X12_numberAt bo_RX12 xo_RX12 (cto_2 l) ch_2639 cut_nil
/-- RookHustingModel numberAt -/
noncomputable def ac_1320 : AC := .inr (2, jl_n [js_5 25 9223372036854775807 9223372036854775807, js_4 49 1, js_5 214 9223372036854775807 9223372036854775807])
noncomputable def con_2640 : Con2 := ((yX12_numberAt, cX12_numberAt, 3, (some .long)), (0, 0), ([(6, 0, 0), (0, 0, 0), (0, 25, 0)], gi_1800, [ac_1100, ac_1320], []), [((4, 48, 0), gi_1801, [(false, ac_1100), (false, ac_1320)], [], [1])])
theorem hd_2640 : con_2640.1 = (yX12_numberAt, cX12_numberAt, 3, (some .long)) := rfl
noncomputable def cu_2640 : List CUT2 := []
theorem ch_2640 : staG tb_X12_numberAt 1 bt_RX12 [] ct_2 [] [] cu_2640 11 con_2640 = true := by decide +kernel
theorem vl_2640 (l : Launch) : Vld2 l vwCl gTbl con_2640 := conR_ok3 gT_all (hd_2640) rfl pn_RX12 tk_X12_numberAt bo_RX12 xo_RX12 (cto_2 l) ch_2640 cut_nil
/-- RookHustingModel numberAt -/
noncomputable def ac_1321 : AC := .inr (2, jl_n [js_5 26 9223372036854775807 9223372036854775807, js_4 49 1, js_5 213 9223372036854775807 9223372036854775807])
noncomputable def con_2641 : Con2 := ((yX12_numberAt, cX12_numberAt, 3, (some .long)), (0, 0), ([(6, 0, 0), (0, 0, 0), (0, 26, 0)], gi_1800, [ac_1100, ac_1321], []), [((4, 48, 0), gi_1801, [(false, ac_1100), (false, ac_1321)], [], [1])])
theorem hd_2641 : con_2641.1 = (yX12_numberAt, cX12_numberAt, 3, (some .long)) := rfl
noncomputable def cu_2641 : List CUT2 := []
theorem ch_2641 : staG tb_X12_numberAt 1 bt_RX12 [] ct_2 [] [] cu_2641 11 con_2641 = true := by decide +kernel
theorem vl_2641 (l : Launch) : Vld2 l vwCl gTbl con_2641 := conR_ok3 gT_all (hd_2641) rfl pn_RX12 tk_X12_numberAt bo_RX12 xo_RX12 (cto_2 l) ch_2641 cut_nil
/-- RookHustingModel numberAt -/
noncomputable def ac_1322 : AC := .inr (2, jl_n [js_5 27 9223372036854775807 9223372036854775807, js_4 49 1, js_5 212 9223372036854775807 9223372036854775807])
noncomputable def con_2642 : Con2 := ((yX12_numberAt, cX12_numberAt, 3, (some .long)), (0, 0), ([(6, 0, 0), (0, 0, 0), (0, 27, 0)], gi_1800, [ac_1100, ac_1322], []), [((4, 48, 0), gi_1801, [(false, ac_1100), (false, ac_1322)], [], [1])])
theorem hd_2642 : con_2642.1 = (yX12_numberAt, cX12_numberAt, 3, (some .long)) := rfl
noncomputable def cu_2642 : List CUT2 := []
theorem ch_2642 : staG tb_X12_numberAt 1 bt_RX12 [] ct_2 [] [] cu_2642 11 con_2642 = true := by decide +kernel
theorem vl_2642 (l : Launch) : Vld2 l vwCl gTbl con_2642 := conR_ok3 gT_all (hd_2642) rfl pn_RX12 tk_X12_numberAt bo_RX12 xo_RX12 (cto_2 l) ch_2642 cut_nil
/-- RookHustingModel numberAt -/
noncomputable def ac_1323 : AC := .inr (2, jl_n [js_5 28 9223372036854775807 9223372036854775807, js_4 49 1, js_5 211 9223372036854775807 9223372036854775807])
noncomputable def con_2643 : Con2 := ((yX12_numberAt, cX12_numberAt, 3, (some .long)), (0, 0), ([(6, 0, 0), (0, 0, 0), (0, 28, 0)], gi_1800, [ac_1100, ac_1323], []), [((4, 48, 0), gi_1801, [(false, ac_1100), (false, ac_1323)], [], [1])])
theorem hd_2643 : con_2643.1 = (yX12_numberAt, cX12_numberAt, 3, (some .long)) := rfl
noncomputable def cu_2643 : List CUT2 := []
theorem ch_2643 : staG tb_X12_numberAt 1 bt_RX12 [] ct_2 [] [] cu_2643 11 con_2643 = true := by decide +kernel
theorem vl_2643 (l : Launch) : Vld2 l vwCl gTbl con_2643 := conR_ok3 gT_all (hd_2643) rfl pn_RX12 tk_X12_numberAt bo_RX12 xo_RX12 (cto_2 l) ch_2643 cut_nil
/-- RookHustingModel numberAt -/
noncomputable def ac_1324 : AC := .inr (2, jl_n [js_5 29 9223372036854775807 9223372036854775807, js_4 49 1, js_5 210 9223372036854775807 9223372036854775807])
noncomputable def con_2644 : Con2 := ((yX12_numberAt, cX12_numberAt, 3, (some .long)), (0, 0), ([(6, 0, 0), (0, 0, 0), (0, 29, 0)], gi_1800, [ac_1100, ac_1324], []), [((4, 48, 0), gi_1801, [(false, ac_1100), (false, ac_1324)], [], [1])])
theorem hd_2644 : con_2644.1 = (yX12_numberAt, cX12_numberAt, 3, (some .long)) := rfl
noncomputable def cu_2644 : List CUT2 := []
theorem ch_2644 : staG tb_X12_numberAt 1 bt_RX12 [] ct_2 [] [] cu_2644 11 con_2644 = true := by decide +kernel
theorem vl_2644 (l : Launch) : Vld2 l vwCl gTbl con_2644 := conR_ok3 gT_all (hd_2644) rfl pn_RX12 tk_X12_numberAt bo_RX12 xo_RX12 (cto_2 l) ch_2644 cut_nil
/-- RookHustingModel numberAt -/
noncomputable def ac_1325 : AC := .inr (2, jl_n [js_5 30 9223372036854775807 9223372036854775807, js_4 49 1, js_5 209 9223372036854775807 9223372036854775807])
noncomputable def con_2645 : Con2 := ((yX12_numberAt, cX12_numberAt, 3, (some .long)), (0, 0), ([(6, 0, 0), (0, 0, 0), (0, 30, 0)], gi_1800, [ac_1100, ac_1325], []), [((4, 48, 0), gi_1801, [(false, ac_1100), (false, ac_1325)], [], [1])])
theorem hd_2645 : con_2645.1 = (yX12_numberAt, cX12_numberAt, 3, (some .long)) := rfl
noncomputable def cu_2645 : List CUT2 := []
theorem ch_2645 : staG tb_X12_numberAt 1 bt_RX12 [] ct_2 [] [] cu_2645 11 con_2645 = true := by decide +kernel
theorem vl_2645 (l : Launch) : Vld2 l vwCl gTbl con_2645 := conR_ok3 gT_all (hd_2645) rfl pn_RX12 tk_X12_numberAt bo_RX12 xo_RX12 (cto_2 l) ch_2645 cut_nil
/-- RookHustingModel numberAt -/
noncomputable def ac_1326 : AC := .inr (2, jl_n [js_5 31 9223372036854775807 9223372036854775807, js_4 49 1, js_5 208 9223372036854775807 9223372036854775807])
noncomputable def con_2646 : Con2 := ((yX12_numberAt, cX12_numberAt, 3, (some .long)), (0, 0), ([(6, 0, 0), (0, 0, 0), (0, 31, 0)], gi_1800, [ac_1100, ac_1326], []), [((4, 48, 0), gi_1801, [(false, ac_1100), (false, ac_1326)], [], [1])])
theorem hd_2646 : con_2646.1 = (yX12_numberAt, cX12_numberAt, 3, (some .long)) := rfl
noncomputable def cu_2646 : List CUT2 := []
theorem ch_2646 : staG tb_X12_numberAt 1 bt_RX12 [] ct_2 [] [] cu_2646 11 con_2646 = true := by decide +kernel
theorem vl_2646 (l : Launch) : Vld2 l vwCl gTbl con_2646 := conR_ok3 gT_all (hd_2646) rfl pn_RX12 tk_X12_numberAt bo_RX12 xo_RX12 (cto_2 l) ch_2646 cut_nil
/-- RookHustingModel numberAt -/
noncomputable def ac_1327 : AC := .inr (2, jl_n [js_5 32 9223372036854775807 9223372036854775807, js_4 49 1, js_5 207 9223372036854775807 9223372036854775807])
noncomputable def con_2647 : Con2 := ((yX12_numberAt, cX12_numberAt, 3, (some .long)), (0, 0), ([(6, 0, 0), (0, 0, 0), (0, 32, 0)], gi_1800, [ac_1100, ac_1327], []), [((4, 48, 0), gi_1801, [(false, ac_1100), (false, ac_1327)], [], [1])])
theorem hd_2647 : con_2647.1 = (yX12_numberAt, cX12_numberAt, 3, (some .long)) := rfl
noncomputable def cu_2647 : List CUT2 := []
theorem ch_2647 : staG tb_X12_numberAt 1 bt_RX12 [] ct_2 [] [] cu_2647 11 con_2647 = true := by decide +kernel
theorem vl_2647 (l : Launch) : Vld2 l vwCl gTbl con_2647 := conR_ok3 gT_all (hd_2647) rfl pn_RX12 tk_X12_numberAt bo_RX12 xo_RX12 (cto_2 l) ch_2647 cut_nil
/-- RookHustingModel numberAt -/
noncomputable def ac_1328 : AC := .inr (2, jl_n [js_5 33 9223372036854775807 9223372036854775807, js_4 49 1, js_5 206 9223372036854775807 9223372036854775807])
noncomputable def con_2648 : Con2 := ((yX12_numberAt, cX12_numberAt, 3, (some .long)), (0, 0), ([(6, 0, 0), (0, 0, 0), (0, 33, 0)], gi_1800, [ac_1100, ac_1328], []), [((4, 48, 0), gi_1801, [(false, ac_1100), (false, ac_1328)], [], [1])])
theorem hd_2648 : con_2648.1 = (yX12_numberAt, cX12_numberAt, 3, (some .long)) := rfl
noncomputable def cu_2648 : List CUT2 := []
theorem ch_2648 : staG tb_X12_numberAt 1 bt_RX12 [] ct_2 [] [] cu_2648 11 con_2648 = true := by decide +kernel
theorem vl_2648 (l : Launch) : Vld2 l vwCl gTbl con_2648 := conR_ok3 gT_all (hd_2648) rfl pn_RX12 tk_X12_numberAt bo_RX12 xo_RX12 (cto_2 l) ch_2648 cut_nil
/-- RookHustingModel numberAt -/
noncomputable def ac_1329 : AC := .inr (2, jl_n [js_5 34 9223372036854775807 9223372036854775807, js_4 49 1, js_5 205 9223372036854775807 9223372036854775807])
noncomputable def con_2649 : Con2 := ((yX12_numberAt, cX12_numberAt, 3, (some .long)), (0, 0), ([(6, 0, 0), (0, 0, 0), (0, 34, 0)], gi_1800, [ac_1100, ac_1329], []), [((4, 48, 0), gi_1801, [(false, ac_1100), (false, ac_1329)], [], [1])])
theorem hd_2649 : con_2649.1 = (yX12_numberAt, cX12_numberAt, 3, (some .long)) := rfl
noncomputable def cu_2649 : List CUT2 := []
theorem ch_2649 : staG tb_X12_numberAt 1 bt_RX12 [] ct_2 [] [] cu_2649 11 con_2649 = true := by decide +kernel
theorem vl_2649 (l : Launch) : Vld2 l vwCl gTbl con_2649 := conR_ok3 gT_all (hd_2649) rfl pn_RX12 tk_X12_numberAt bo_RX12 xo_RX12 (cto_2 l) ch_2649 cut_nil
/-- RookHustingModel numberAt -/
noncomputable def ac_1330 : AC := .inr (2, jl_n [js_5 35 9223372036854775807 9223372036854775807, js_4 49 1, js_5 204 9223372036854775807 9223372036854775807])
noncomputable def con_2650 : Con2 := ((yX12_numberAt, cX12_numberAt, 3, (some .long)), (0, 0), ([(6, 0, 0), (0, 0, 0), (0, 35, 0)], gi_1800, [ac_1100, ac_1330], []), [((4, 48, 0), gi_1801, [(false, ac_1100), (false, ac_1330)], [], [1])])
theorem hd_2650 : con_2650.1 = (yX12_numberAt, cX12_numberAt, 3, (some .long)) := rfl
noncomputable def cu_2650 : List CUT2 := []
theorem ch_2650 : staG tb_X12_numberAt 1 bt_RX12 [] ct_2 [] [] cu_2650 11 con_2650 = true := by decide +kernel
theorem vl_2650 (l : Launch) : Vld2 l vwCl gTbl con_2650 := conR_ok3 gT_all (hd_2650) rfl pn_RX12 tk_X12_numberAt bo_RX12 xo_RX12 (cto_2 l) ch_2650 cut_nil
/-- RookHustingModel numberAt -/
noncomputable def ac_1331 : AC := .inr (2, jl_n [js_5 36 9223372036854775807 9223372036854775807, js_4 49 1, js_5 203 9223372036854775807 9223372036854775807])
noncomputable def con_2651 : Con2 := ((yX12_numberAt, cX12_numberAt, 3, (some .long)), (0, 0), ([(6, 0, 0), (0, 0, 0), (0, 36, 0)], gi_1800, [ac_1100, ac_1331], []), [((4, 48, 0), gi_1801, [(false, ac_1100), (false, ac_1331)], [], [1])])
theorem hd_2651 : con_2651.1 = (yX12_numberAt, cX12_numberAt, 3, (some .long)) := rfl
noncomputable def cu_2651 : List CUT2 := []
theorem ch_2651 : staG tb_X12_numberAt 1 bt_RX12 [] ct_2 [] [] cu_2651 11 con_2651 = true := by decide +kernel
theorem vl_2651 (l : Launch) : Vld2 l vwCl gTbl con_2651 := conR_ok3 gT_all (hd_2651) rfl pn_RX12 tk_X12_numberAt bo_RX12 xo_RX12 (cto_2 l) ch_2651 cut_nil
/-- RookHustingModel numberAt -/
noncomputable def ac_1332 : AC := .inr (2, jl_n [js_5 37 9223372036854775807 9223372036854775807, js_4 49 1, js_5 202 9223372036854775807 9223372036854775807])
noncomputable def con_2652 : Con2 := ((yX12_numberAt, cX12_numberAt, 3, (some .long)), (0, 0), ([(6, 0, 0), (0, 0, 0), (0, 37, 0)], gi_1800, [ac_1100, ac_1332], []), [((4, 48, 0), gi_1801, [(false, ac_1100), (false, ac_1332)], [], [1])])
theorem hd_2652 : con_2652.1 = (yX12_numberAt, cX12_numberAt, 3, (some .long)) := rfl
noncomputable def cu_2652 : List CUT2 := []
theorem ch_2652 : staG tb_X12_numberAt 1 bt_RX12 [] ct_2 [] [] cu_2652 11 con_2652 = true := by decide +kernel
theorem vl_2652 (l : Launch) : Vld2 l vwCl gTbl con_2652 := conR_ok3 gT_all (hd_2652) rfl pn_RX12 tk_X12_numberAt bo_RX12 xo_RX12 (cto_2 l) ch_2652 cut_nil
/-- RookHustingModel numberAt -/
noncomputable def ac_1333 : AC := .inr (2, jl_n [js_5 38 9223372036854775807 9223372036854775807, js_4 49 1, js_5 201 9223372036854775807 9223372036854775807])
noncomputable def con_2653 : Con2 := ((yX12_numberAt, cX12_numberAt, 3, (some .long)), (0, 0), ([(6, 0, 0), (0, 0, 0), (0, 38, 0)], gi_1800, [ac_1100, ac_1333], []), [((4, 48, 0), gi_1801, [(false, ac_1100), (false, ac_1333)], [], [1])])
theorem hd_2653 : con_2653.1 = (yX12_numberAt, cX12_numberAt, 3, (some .long)) := rfl
noncomputable def cu_2653 : List CUT2 := []
theorem ch_2653 : staG tb_X12_numberAt 1 bt_RX12 [] ct_2 [] [] cu_2653 11 con_2653 = true := by decide +kernel
theorem vl_2653 (l : Launch) : Vld2 l vwCl gTbl con_2653 := conR_ok3 gT_all (hd_2653) rfl pn_RX12 tk_X12_numberAt bo_RX12 xo_RX12 (cto_2 l) ch_2653 cut_nil
/-- RookHustingModel numberAt -/
noncomputable def ac_1334 : AC := .inr (2, jl_n [js_5 39 9223372036854775807 9223372036854775807, js_4 49 1, js_5 200 9223372036854775807 9223372036854775807])
noncomputable def con_2654 : Con2 := ((yX12_numberAt, cX12_numberAt, 3, (some .long)), (0, 0), ([(6, 0, 0), (0, 0, 0), (0, 39, 0)], gi_1800, [ac_1100, ac_1334], []), [((4, 48, 0), gi_1801, [(false, ac_1100), (false, ac_1334)], [], [1])])
theorem hd_2654 : con_2654.1 = (yX12_numberAt, cX12_numberAt, 3, (some .long)) := rfl
noncomputable def cu_2654 : List CUT2 := []
theorem ch_2654 : staG tb_X12_numberAt 1 bt_RX12 [] ct_2 [] [] cu_2654 11 con_2654 = true := by decide +kernel
theorem vl_2654 (l : Launch) : Vld2 l vwCl gTbl con_2654 := conR_ok3 gT_all (hd_2654) rfl pn_RX12 tk_X12_numberAt bo_RX12 xo_RX12 (cto_2 l) ch_2654 cut_nil
/-- RookHustingModel numberAt -/
noncomputable def ac_1335 : AC := .inr (2, jl_n [js_5 40 9223372036854775807 9223372036854775807, js_4 49 1, js_5 199 9223372036854775807 9223372036854775807])
noncomputable def con_2655 : Con2 := ((yX12_numberAt, cX12_numberAt, 3, (some .long)), (0, 0), ([(6, 0, 0), (0, 0, 0), (0, 40, 0)], gi_1800, [ac_1100, ac_1335], []), [((4, 48, 0), gi_1801, [(false, ac_1100), (false, ac_1335)], [], [1])])
theorem hd_2655 : con_2655.1 = (yX12_numberAt, cX12_numberAt, 3, (some .long)) := rfl
noncomputable def cu_2655 : List CUT2 := []
theorem ch_2655 : staG tb_X12_numberAt 1 bt_RX12 [] ct_2 [] [] cu_2655 11 con_2655 = true := by decide +kernel
theorem vl_2655 (l : Launch) : Vld2 l vwCl gTbl con_2655 := conR_ok3 gT_all (hd_2655) rfl pn_RX12 tk_X12_numberAt bo_RX12 xo_RX12 (cto_2 l) ch_2655 cut_nil
/-- RookHustingModel numberAt -/
noncomputable def ac_1336 : AC := .inr (2, jl_n [js_5 41 9223372036854775807 9223372036854775807, js_4 49 1, js_5 198 9223372036854775807 9223372036854775807])
noncomputable def con_2656 : Con2 := ((yX12_numberAt, cX12_numberAt, 3, (some .long)), (0, 0), ([(6, 0, 0), (0, 0, 0), (0, 41, 0)], gi_1800, [ac_1100, ac_1336], []), [((4, 48, 0), gi_1801, [(false, ac_1100), (false, ac_1336)], [], [1])])
theorem hd_2656 : con_2656.1 = (yX12_numberAt, cX12_numberAt, 3, (some .long)) := rfl
noncomputable def cu_2656 : List CUT2 := []
theorem ch_2656 : staG tb_X12_numberAt 1 bt_RX12 [] ct_2 [] [] cu_2656 11 con_2656 = true := by decide +kernel
theorem vl_2656 (l : Launch) : Vld2 l vwCl gTbl con_2656 := conR_ok3 gT_all (hd_2656) rfl pn_RX12 tk_X12_numberAt bo_RX12 xo_RX12 (cto_2 l) ch_2656 cut_nil
/-- RookHustingModel numberAt -/
noncomputable def ac_1337 : AC := .inr (2, jl_n [js_5 42 9223372036854775807 9223372036854775807, js_4 49 1, js_5 197 9223372036854775807 9223372036854775807])
noncomputable def con_2657 : Con2 := ((yX12_numberAt, cX12_numberAt, 3, (some .long)), (0, 0), ([(6, 0, 0), (0, 0, 0), (0, 42, 0)], gi_1800, [ac_1100, ac_1337], []), [((4, 48, 0), gi_1801, [(false, ac_1100), (false, ac_1337)], [], [1])])
theorem hd_2657 : con_2657.1 = (yX12_numberAt, cX12_numberAt, 3, (some .long)) := rfl
noncomputable def cu_2657 : List CUT2 := []
theorem ch_2657 : staG tb_X12_numberAt 1 bt_RX12 [] ct_2 [] [] cu_2657 11 con_2657 = true := by decide +kernel
theorem vl_2657 (l : Launch) : Vld2 l vwCl gTbl con_2657 := conR_ok3 gT_all (hd_2657) rfl pn_RX12 tk_X12_numberAt bo_RX12 xo_RX12 (cto_2 l) ch_2657 cut_nil
/-- RookHustingModel numberAt -/
noncomputable def ac_1338 : AC := .inr (2, jl_n [js_5 43 9223372036854775807 9223372036854775807, js_4 49 1, js_5 196 9223372036854775807 9223372036854775807])
noncomputable def con_2658 : Con2 := ((yX12_numberAt, cX12_numberAt, 3, (some .long)), (0, 0), ([(6, 0, 0), (0, 0, 0), (0, 43, 0)], gi_1800, [ac_1100, ac_1338], []), [((4, 48, 0), gi_1801, [(false, ac_1100), (false, ac_1338)], [], [1])])
theorem hd_2658 : con_2658.1 = (yX12_numberAt, cX12_numberAt, 3, (some .long)) := rfl
noncomputable def cu_2658 : List CUT2 := []
theorem ch_2658 : staG tb_X12_numberAt 1 bt_RX12 [] ct_2 [] [] cu_2658 11 con_2658 = true := by decide +kernel
theorem vl_2658 (l : Launch) : Vld2 l vwCl gTbl con_2658 := conR_ok3 gT_all (hd_2658) rfl pn_RX12 tk_X12_numberAt bo_RX12 xo_RX12 (cto_2 l) ch_2658 cut_nil
/-- RookHustingModel numberAt -/
noncomputable def ac_1339 : AC := .inr (2, jl_n [js_5 44 9223372036854775807 9223372036854775807, js_4 49 1, js_5 195 9223372036854775807 9223372036854775807])
noncomputable def con_2659 : Con2 := ((yX12_numberAt, cX12_numberAt, 3, (some .long)), (0, 0), ([(6, 0, 0), (0, 0, 0), (0, 44, 0)], gi_1800, [ac_1100, ac_1339], []), [((4, 48, 0), gi_1801, [(false, ac_1100), (false, ac_1339)], [], [1])])
theorem hd_2659 : con_2659.1 = (yX12_numberAt, cX12_numberAt, 3, (some .long)) := rfl
noncomputable def cu_2659 : List CUT2 := []
theorem ch_2659 : staG tb_X12_numberAt 1 bt_RX12 [] ct_2 [] [] cu_2659 11 con_2659 = true := by decide +kernel
theorem vl_2659 (l : Launch) : Vld2 l vwCl gTbl con_2659 := conR_ok3 gT_all (hd_2659) rfl pn_RX12 tk_X12_numberAt bo_RX12 xo_RX12 (cto_2 l) ch_2659 cut_nil
/-- RookHustingModel numberAt -/
noncomputable def ac_1340 : AC := .inr (2, jl_n [js_5 45 9223372036854775807 9223372036854775807, js_4 49 1, js_5 194 9223372036854775807 9223372036854775807])
noncomputable def con_2660 : Con2 := ((yX12_numberAt, cX12_numberAt, 3, (some .long)), (0, 0), ([(6, 0, 0), (0, 0, 0), (0, 45, 0)], gi_1800, [ac_1100, ac_1340], []), [((4, 48, 0), gi_1801, [(false, ac_1100), (false, ac_1340)], [], [1])])
theorem hd_2660 : con_2660.1 = (yX12_numberAt, cX12_numberAt, 3, (some .long)) := rfl
noncomputable def cu_2660 : List CUT2 := []
theorem ch_2660 : staG tb_X12_numberAt 1 bt_RX12 [] ct_2 [] [] cu_2660 11 con_2660 = true := by decide +kernel
theorem vl_2660 (l : Launch) : Vld2 l vwCl gTbl con_2660 := conR_ok3 gT_all (hd_2660) rfl pn_RX12 tk_X12_numberAt bo_RX12 xo_RX12 (cto_2 l) ch_2660 cut_nil
/-- RookHustingModel numberAt -/
noncomputable def ac_1341 : AC := .inr (2, jl_n [js_5 46 9223372036854775807 9223372036854775807, js_4 49 1, js_5 193 9223372036854775807 9223372036854775807])
noncomputable def con_2661 : Con2 := ((yX12_numberAt, cX12_numberAt, 3, (some .long)), (0, 0), ([(6, 0, 0), (0, 0, 0), (0, 46, 0)], gi_1800, [ac_1100, ac_1341], []), [((4, 48, 0), gi_1801, [(false, ac_1100), (false, ac_1341)], [], [1])])
theorem hd_2661 : con_2661.1 = (yX12_numberAt, cX12_numberAt, 3, (some .long)) := rfl
noncomputable def cu_2661 : List CUT2 := []
theorem ch_2661 : staG tb_X12_numberAt 1 bt_RX12 [] ct_2 [] [] cu_2661 11 con_2661 = true := by decide +kernel
theorem vl_2661 (l : Launch) : Vld2 l vwCl gTbl con_2661 := conR_ok3 gT_all (hd_2661) rfl pn_RX12 tk_X12_numberAt bo_RX12 xo_RX12 (cto_2 l) ch_2661 cut_nil
/-- RookHustingModel numberAt -/
noncomputable def ac_1342 : AC := .inr (2, jl_n [js_5 47 9223372036854775807 9223372036854775807, js_4 49 1, js_5 192 9223372036854775807 9223372036854775807])
noncomputable def con_2662 : Con2 := ((yX12_numberAt, cX12_numberAt, 3, (some .long)), (0, 0), ([(6, 0, 0), (0, 0, 0), (0, 47, 0)], gi_1800, [ac_1100, ac_1342], []), [((4, 48, 0), gi_1801, [(false, ac_1100), (false, ac_1342)], [], [1])])
theorem hd_2662 : con_2662.1 = (yX12_numberAt, cX12_numberAt, 3, (some .long)) := rfl
noncomputable def cu_2662 : List CUT2 := []
theorem ch_2662 : staG tb_X12_numberAt 1 bt_RX12 [] ct_2 [] [] cu_2662 11 con_2662 = true := by decide +kernel
theorem vl_2662 (l : Launch) : Vld2 l vwCl gTbl con_2662 := conR_ok3 gT_all (hd_2662) rfl pn_RX12 tk_X12_numberAt bo_RX12 xo_RX12 (cto_2 l) ch_2662 cut_nil
/-- RookHustingModel numberAt -/
noncomputable def ac_1343 : AC := .inr (2, jl_n [js_5 48 9223372036854775807 9223372036854775807, js_4 49 1, js_5 191 9223372036854775807 9223372036854775807])
noncomputable def con_2663 : Con2 := ((yX12_numberAt, cX12_numberAt, 3, (some .long)), (0, 0), ([(6, 0, 0), (0, 0, 0), (0, 48, 0)], gi_1800, [ac_1100, ac_1343], []), [((4, 48, 0), gi_1801, [(false, ac_1100), (false, ac_1343)], [], [1])])
theorem hd_2663 : con_2663.1 = (yX12_numberAt, cX12_numberAt, 3, (some .long)) := rfl
noncomputable def cu_2663 : List CUT2 := []
theorem ch_2663 : staG tb_X12_numberAt 1 bt_RX12 [] ct_2 [] [] cu_2663 11 con_2663 = true := by decide +kernel
theorem vl_2663 (l : Launch) : Vld2 l vwCl gTbl con_2663 := conR_ok3 gT_all (hd_2663) rfl pn_RX12 tk_X12_numberAt bo_RX12 xo_RX12 (cto_2 l) ch_2663 cut_nil
/-- RookHustingModel numberAt -/
noncomputable def ac_1344 : AC := .inr (2, jl_n [js_5 49 9223372036854775807 9223372036854775807, js_4 49 1, js_5 190 9223372036854775807 9223372036854775807])
noncomputable def con_2664 : Con2 := ((yX12_numberAt, cX12_numberAt, 3, (some .long)), (0, 0), ([(6, 0, 0), (0, 0, 0), (0, 49, 0)], gi_1800, [ac_1100, ac_1344], []), [((4, 48, 0), gi_1801, [(false, ac_1100), (false, ac_1344)], [], [1])])
theorem hd_2664 : con_2664.1 = (yX12_numberAt, cX12_numberAt, 3, (some .long)) := rfl
noncomputable def cu_2664 : List CUT2 := []
theorem ch_2664 : staG tb_X12_numberAt 1 bt_RX12 [] ct_2 [] [] cu_2664 11 con_2664 = true := by decide +kernel
theorem vl_2664 (l : Launch) : Vld2 l vwCl gTbl con_2664 := conR_ok3 gT_all (hd_2664) rfl pn_RX12 tk_X12_numberAt bo_RX12 xo_RX12 (cto_2 l) ch_2664 cut_nil
/-- RookHustingModel numberAt -/
noncomputable def ac_1345 : AC := .inr (2, jl_n [js_5 50 9223372036854775807 9223372036854775807, js_4 49 1, js_5 189 9223372036854775807 9223372036854775807])
noncomputable def con_2665 : Con2 := ((yX12_numberAt, cX12_numberAt, 3, (some .long)), (0, 0), ([(6, 0, 0), (0, 0, 0), (0, 50, 0)], gi_1800, [ac_1100, ac_1345], []), [((4, 48, 0), gi_1801, [(false, ac_1100), (false, ac_1345)], [], [1])])
theorem hd_2665 : con_2665.1 = (yX12_numberAt, cX12_numberAt, 3, (some .long)) := rfl
noncomputable def cu_2665 : List CUT2 := []
theorem ch_2665 : staG tb_X12_numberAt 1 bt_RX12 [] ct_2 [] [] cu_2665 11 con_2665 = true := by decide +kernel
theorem vl_2665 (l : Launch) : Vld2 l vwCl gTbl con_2665 := conR_ok3 gT_all (hd_2665) rfl pn_RX12 tk_X12_numberAt bo_RX12 xo_RX12 (cto_2 l) ch_2665 cut_nil
/-- RookHustingModel numberAt -/
noncomputable def ac_1346 : AC := .inr (2, jl_n [js_5 51 9223372036854775807 9223372036854775807, js_4 49 1, js_5 188 9223372036854775807 9223372036854775807])
noncomputable def con_2666 : Con2 := ((yX12_numberAt, cX12_numberAt, 3, (some .long)), (0, 0), ([(6, 0, 0), (0, 0, 0), (0, 51, 0)], gi_1800, [ac_1100, ac_1346], []), [((4, 48, 0), gi_1801, [(false, ac_1100), (false, ac_1346)], [], [1])])
theorem hd_2666 : con_2666.1 = (yX12_numberAt, cX12_numberAt, 3, (some .long)) := rfl
noncomputable def cu_2666 : List CUT2 := []
theorem ch_2666 : staG tb_X12_numberAt 1 bt_RX12 [] ct_2 [] [] cu_2666 11 con_2666 = true := by decide +kernel
theorem vl_2666 (l : Launch) : Vld2 l vwCl gTbl con_2666 := conR_ok3 gT_all (hd_2666) rfl pn_RX12 tk_X12_numberAt bo_RX12 xo_RX12 (cto_2 l) ch_2666 cut_nil
/-- RookHustingModel numberAt -/
noncomputable def ac_1347 : AC := .inr (2, jl_n [js_5 52 9223372036854775807 9223372036854775807, js_4 49 1, js_5 187 9223372036854775807 9223372036854775807])
noncomputable def con_2667 : Con2 := ((yX12_numberAt, cX12_numberAt, 3, (some .long)), (0, 0), ([(6, 0, 0), (0, 0, 0), (0, 52, 0)], gi_1800, [ac_1100, ac_1347], []), [((4, 48, 0), gi_1801, [(false, ac_1100), (false, ac_1347)], [], [1])])
theorem hd_2667 : con_2667.1 = (yX12_numberAt, cX12_numberAt, 3, (some .long)) := rfl
noncomputable def cu_2667 : List CUT2 := []
theorem ch_2667 : staG tb_X12_numberAt 1 bt_RX12 [] ct_2 [] [] cu_2667 11 con_2667 = true := by decide +kernel
theorem vl_2667 (l : Launch) : Vld2 l vwCl gTbl con_2667 := conR_ok3 gT_all (hd_2667) rfl pn_RX12 tk_X12_numberAt bo_RX12 xo_RX12 (cto_2 l) ch_2667 cut_nil
/-- RookHustingModel numberAt -/
noncomputable def ac_1348 : AC := .inr (2, jl_n [js_5 53 9223372036854775807 9223372036854775807, js_4 49 1, js_5 186 9223372036854775807 9223372036854775807])
noncomputable def con_2668 : Con2 := ((yX12_numberAt, cX12_numberAt, 3, (some .long)), (0, 0), ([(6, 0, 0), (0, 0, 0), (0, 53, 0)], gi_1800, [ac_1100, ac_1348], []), [((4, 48, 0), gi_1801, [(false, ac_1100), (false, ac_1348)], [], [1])])
theorem hd_2668 : con_2668.1 = (yX12_numberAt, cX12_numberAt, 3, (some .long)) := rfl
noncomputable def cu_2668 : List CUT2 := []
theorem ch_2668 : staG tb_X12_numberAt 1 bt_RX12 [] ct_2 [] [] cu_2668 11 con_2668 = true := by decide +kernel
theorem vl_2668 (l : Launch) : Vld2 l vwCl gTbl con_2668 := conR_ok3 gT_all (hd_2668) rfl pn_RX12 tk_X12_numberAt bo_RX12 xo_RX12 (cto_2 l) ch_2668 cut_nil
/-- RookHustingModel numberAt -/
noncomputable def ac_1349 : AC := .inr (2, jl_n [js_5 54 9223372036854775807 9223372036854775807, js_4 49 1, js_5 185 9223372036854775807 9223372036854775807])
noncomputable def con_2669 : Con2 := ((yX12_numberAt, cX12_numberAt, 3, (some .long)), (0, 0), ([(6, 0, 0), (0, 0, 0), (0, 54, 0)], gi_1800, [ac_1100, ac_1349], []), [((4, 48, 0), gi_1801, [(false, ac_1100), (false, ac_1349)], [], [1])])
theorem hd_2669 : con_2669.1 = (yX12_numberAt, cX12_numberAt, 3, (some .long)) := rfl
noncomputable def cu_2669 : List CUT2 := []
theorem ch_2669 : staG tb_X12_numberAt 1 bt_RX12 [] ct_2 [] [] cu_2669 11 con_2669 = true := by decide +kernel
theorem vl_2669 (l : Launch) : Vld2 l vwCl gTbl con_2669 := conR_ok3 gT_all (hd_2669) rfl pn_RX12 tk_X12_numberAt bo_RX12 xo_RX12 (cto_2 l) ch_2669 cut_nil
/-- RookHustingModel numberAt -/
noncomputable def ac_1350 : AC := .inr (2, jl_n [js_5 55 9223372036854775807 9223372036854775807, js_4 49 1, js_5 184 9223372036854775807 9223372036854775807])
noncomputable def con_2670 : Con2 := ((yX12_numberAt, cX12_numberAt, 3, (some .long)), (0, 0), ([(6, 0, 0), (0, 0, 0), (0, 55, 0)], gi_1800, [ac_1100, ac_1350], []), [((4, 48, 0), gi_1801, [(false, ac_1100), (false, ac_1350)], [], [1])])
theorem hd_2670 : con_2670.1 = (yX12_numberAt, cX12_numberAt, 3, (some .long)) := rfl
noncomputable def cu_2670 : List CUT2 := []
theorem ch_2670 : staG tb_X12_numberAt 1 bt_RX12 [] ct_2 [] [] cu_2670 11 con_2670 = true := by decide +kernel
theorem vl_2670 (l : Launch) : Vld2 l vwCl gTbl con_2670 := conR_ok3 gT_all (hd_2670) rfl pn_RX12 tk_X12_numberAt bo_RX12 xo_RX12 (cto_2 l) ch_2670 cut_nil
/-- RookHustingModel numberAt -/
noncomputable def ac_1351 : AC := .inr (2, jl_n [js_5 56 9223372036854775807 9223372036854775807, js_4 49 1, js_5 183 9223372036854775807 9223372036854775807])
noncomputable def con_2671 : Con2 := ((yX12_numberAt, cX12_numberAt, 3, (some .long)), (0, 0), ([(6, 0, 0), (0, 0, 0), (0, 56, 0)], gi_1800, [ac_1100, ac_1351], []), [((4, 48, 0), gi_1801, [(false, ac_1100), (false, ac_1351)], [], [1])])
theorem hd_2671 : con_2671.1 = (yX12_numberAt, cX12_numberAt, 3, (some .long)) := rfl
noncomputable def cu_2671 : List CUT2 := []
theorem ch_2671 : staG tb_X12_numberAt 1 bt_RX12 [] ct_2 [] [] cu_2671 11 con_2671 = true := by decide +kernel
theorem vl_2671 (l : Launch) : Vld2 l vwCl gTbl con_2671 := conR_ok3 gT_all (hd_2671) rfl pn_RX12 tk_X12_numberAt bo_RX12 xo_RX12 (cto_2 l) ch_2671 cut_nil
/-- RookHustingModel numberAt -/
noncomputable def ac_1352 : AC := .inr (2, jl_n [js_5 57 9223372036854775807 9223372036854775807, js_4 49 1, js_5 182 9223372036854775807 9223372036854775807])
noncomputable def con_2672 : Con2 := ((yX12_numberAt, cX12_numberAt, 3, (some .long)), (0, 0), ([(6, 0, 0), (0, 0, 0), (0, 57, 0)], gi_1800, [ac_1100, ac_1352], []), [((4, 48, 0), gi_1801, [(false, ac_1100), (false, ac_1352)], [], [1])])
theorem hd_2672 : con_2672.1 = (yX12_numberAt, cX12_numberAt, 3, (some .long)) := rfl
noncomputable def cu_2672 : List CUT2 := []
theorem ch_2672 : staG tb_X12_numberAt 1 bt_RX12 [] ct_2 [] [] cu_2672 11 con_2672 = true := by decide +kernel
theorem vl_2672 (l : Launch) : Vld2 l vwCl gTbl con_2672 := conR_ok3 gT_all (hd_2672) rfl pn_RX12 tk_X12_numberAt bo_RX12 xo_RX12 (cto_2 l) ch_2672 cut_nil
/-- RookHustingModel numberAt -/
noncomputable def ac_1353 : AC := .inr (2, jl_n [js_5 58 9223372036854775807 9223372036854775807, js_4 49 1, js_5 181 9223372036854775807 9223372036854775807])
noncomputable def con_2673 : Con2 := ((yX12_numberAt, cX12_numberAt, 3, (some .long)), (0, 0), ([(6, 0, 0), (0, 0, 0), (0, 58, 0)], gi_1800, [ac_1100, ac_1353], []), [((4, 48, 0), gi_1801, [(false, ac_1100), (false, ac_1353)], [], [1])])
theorem hd_2673 : con_2673.1 = (yX12_numberAt, cX12_numberAt, 3, (some .long)) := rfl
noncomputable def cu_2673 : List CUT2 := []
theorem ch_2673 : staG tb_X12_numberAt 1 bt_RX12 [] ct_2 [] [] cu_2673 11 con_2673 = true := by decide +kernel
theorem vl_2673 (l : Launch) : Vld2 l vwCl gTbl con_2673 := conR_ok3 gT_all (hd_2673) rfl pn_RX12 tk_X12_numberAt bo_RX12 xo_RX12 (cto_2 l) ch_2673 cut_nil
/-- RookHustingModel numberAt -/
noncomputable def ac_1354 : AC := .inr (2, jl_n [js_5 59 9223372036854775807 9223372036854775807, js_4 49 1, js_5 180 9223372036854775807 9223372036854775807])
noncomputable def con_2674 : Con2 := ((yX12_numberAt, cX12_numberAt, 3, (some .long)), (0, 0), ([(6, 0, 0), (0, 0, 0), (0, 59, 0)], gi_1800, [ac_1100, ac_1354], []), [((4, 48, 0), gi_1801, [(false, ac_1100), (false, ac_1354)], [], [1])])
theorem hd_2674 : con_2674.1 = (yX12_numberAt, cX12_numberAt, 3, (some .long)) := rfl
noncomputable def cu_2674 : List CUT2 := []
theorem ch_2674 : staG tb_X12_numberAt 1 bt_RX12 [] ct_2 [] [] cu_2674 11 con_2674 = true := by decide +kernel
theorem vl_2674 (l : Launch) : Vld2 l vwCl gTbl con_2674 := conR_ok3 gT_all (hd_2674) rfl pn_RX12 tk_X12_numberAt bo_RX12 xo_RX12 (cto_2 l) ch_2674 cut_nil
/-- RookHustingModel askSeen -/
noncomputable def ac_1355 : AC := .inr (2, jl_n [js_4 135 60, js_5 180 9223372036854775807 9223372036854775807])
noncomputable def hq_935 : HP := [(false, ac_1097), (false, ac_440), (false, ac_1098), (false, ac_1355)]
noncomputable def gi_2395 : GI := jl_n [gp_729, jl_k 0 0, gp_573]
noncomputable def gi_2396 : GI := jl_n [gp_324, gp_169, gp_573]
noncomputable def gi_2397 : GI := jl_n [gp_732, gp_575, jl_z 1]
noncomputable def gi_2398 : GI := jl_n [gp_732, gp_577, jl_z 1]
noncomputable def gi_2399 : GI := jl_n [gp_732, gp_579, jl_z 1]
noncomputable def gi_2400 : GI := jl_n [gp_732, gp_581, jl_z 1]
noncomputable def gi_2401 : GI := jl_n [gp_732, gp_584, jl_z 1]
noncomputable def gi_2402 : GI := jl_n [gp_732, gp_586, jl_z 1]
noncomputable def gi_2403 : GI := jl_n [gp_732, gp_588, jl_z 1]
noncomputable def gi_2404 : GI := jl_n [gp_732, gp_590, jl_z 1]
noncomputable def gi_2405 : GI := jl_n [gp_732, gp_592, jl_z 1]
noncomputable def gi_2406 : GI := jl_n [gp_732, gp_594, jl_z 1]
noncomputable def gi_2407 : GI := jl_n [gp_732, gp_596, jl_z 1]
noncomputable def gi_2408 : GI := jl_n [gp_732, gp_598, jl_z 1]
noncomputable def gi_2409 : GI := jl_n [gp_732, gp_600, jl_z 1]
noncomputable def gi_2410 : GI := jl_n [gp_732, gp_602, jl_z 1]
noncomputable def gi_2411 : GI := jl_n [gp_732, gp_604, jl_z 1]
noncomputable def gi_2412 : GI := jl_n [gp_732, gp_606, jl_z 1]
noncomputable def gi_2413 : GI := jl_n [gp_732, gp_608, jl_z 1]
noncomputable def gi_2414 : GI := jl_n [gp_732, gp_610, jl_z 1]
noncomputable def gi_2415 : GI := jl_n [gp_732, gp_611, jl_z 1]
noncomputable def gi_2416 : GI := jl_n [gp_732, gp_613, jl_z 1]
noncomputable def con_2675 : Con2 := ((yX12_askSeen, cX12_askSeen, 4, (some .int)), (2, 47), ([(6, 0, 0), (0, 0, 0), (1, 2, 0)], gi_1805, [ac_1097, ac_440, ac_1098, ac_1355], []), [((0, (-2), 0), gi_1806, hq_935, [], [1]), ((0, (-6), 0), gi_2395, hq_935, [], [1]), ((0, 0, 0), gi_2396, hq_935, [], [1]), ((0, 0, 0), gi_2397, hq_935, [], [1]), ((0, 0, 0), gi_2398, hq_935, [], [1]), ((0, 0, 0), gi_2399, hq_935, [], [1]), ((0, 0, 0), gi_2400, hq_935, [], [1]), ((0, 0, 0), gi_2401, hq_935, [], [1]), ((0, 0, 0), gi_2402, hq_935, [], [1]), ((0, 0, 0), gi_2403, hq_935, [], [1]), ((0, 0, 0), gi_2404, hq_935, [], [1]), ((0, 0, 0), gi_2405, hq_935, [], [1]), ((0, 0, 0), gi_2406, hq_935, [], [1]), ((0, 0, 0), gi_2407, hq_935, [], [1]), ((0, 0, 0), gi_2408, hq_935, [], [1]), ((0, 0, 0), gi_2409, hq_935, [], [1]), ((0, 0, 0), gi_2410, hq_935, [], [1]), ((0, 0, 0), gi_2411, hq_935, [], [1]), ((0, 0, 0), gi_2412, hq_935, [], [1]), ((0, 0, 0), gi_2413, hq_935, [], [1]), ((0, 0, 0), gi_2414, hq_935, [], [1]), ((0, 0, 0), gi_2415, hq_935, [], [1]), ((0, 0, 0), gi_2416, hq_935, [], [1])])
theorem hd_2675 : con_2675.1 = (yX12_askSeen, cX12_askSeen, 4, (some .int)) := rfl
theorem ck_RX12_417_2617 : COK2 RX12 vwCl gTbl 417 0 con_2617 := ⟨wd_2061, wd_137, mh_X12_numberAt, .inr (.inr ⟨rfl, wd_2058, wd_2060, wd_114, ⟨_, rfl, pd_X12_numberAt⟩, 12, _, TX12, 45, rfl, rfl⟩)⟩
theorem ck_RX12_417_2620 : COK2 RX12 vwCl gTbl 417 0 con_2620 := ⟨wd_2061, wd_137, mh_X12_numberAt, .inr (.inr ⟨rfl, wd_2058, wd_2060, wd_114, ⟨_, rfl, pd_X12_numberAt⟩, 12, _, TX12, 45, rfl, rfl⟩)⟩
theorem ck_RX12_417_2623 : COK2 RX12 vwCl gTbl 417 0 con_2623 := ⟨wd_2061, wd_137, mh_X12_numberAt, .inr (.inr ⟨rfl, wd_2058, wd_2060, wd_114, ⟨_, rfl, pd_X12_numberAt⟩, 12, _, TX12, 45, rfl, rfl⟩)⟩
theorem ck_RX12_417_2626 : COK2 RX12 vwCl gTbl 417 0 con_2626 := ⟨wd_2061, wd_137, mh_X12_numberAt, .inr (.inr ⟨rfl, wd_2058, wd_2060, wd_114, ⟨_, rfl, pd_X12_numberAt⟩, 12, _, TX12, 45, rfl, rfl⟩)⟩
theorem ck_RX12_417_2629 : COK2 RX12 vwCl gTbl 417 0 con_2629 := ⟨wd_2061, wd_137, mh_X12_numberAt, .inr (.inr ⟨rfl, wd_2058, wd_2060, wd_114, ⟨_, rfl, pd_X12_numberAt⟩, 12, _, TX12, 45, rfl, rfl⟩)⟩
theorem ck_RX12_417_2632 : COK2 RX12 vwCl gTbl 417 0 con_2632 := ⟨wd_2061, wd_137, mh_X12_numberAt, .inr (.inr ⟨rfl, wd_2058, wd_2060, wd_114, ⟨_, rfl, pd_X12_numberAt⟩, 12, _, TX12, 45, rfl, rfl⟩)⟩
theorem ck_RX12_417_2635 : COK2 RX12 vwCl gTbl 417 0 con_2635 := ⟨wd_2061, wd_137, mh_X12_numberAt, .inr (.inr ⟨rfl, wd_2058, wd_2060, wd_114, ⟨_, rfl, pd_X12_numberAt⟩, 12, _, TX12, 45, rfl, rfl⟩)⟩
theorem ck_RX12_417_2638 : COK2 RX12 vwCl gTbl 417 0 con_2638 := ⟨wd_2061, wd_137, mh_X12_numberAt, .inr (.inr ⟨rfl, wd_2058, wd_2060, wd_114, ⟨_, rfl, pd_X12_numberAt⟩, 12, _, TX12, 45, rfl, rfl⟩)⟩
theorem ck_RX12_417_2641 : COK2 RX12 vwCl gTbl 417 0 con_2641 := ⟨wd_2061, wd_137, mh_X12_numberAt, .inr (.inr ⟨rfl, wd_2058, wd_2060, wd_114, ⟨_, rfl, pd_X12_numberAt⟩, 12, _, TX12, 45, rfl, rfl⟩)⟩
theorem ck_RX12_417_2644 : COK2 RX12 vwCl gTbl 417 0 con_2644 := ⟨wd_2061, wd_137, mh_X12_numberAt, .inr (.inr ⟨rfl, wd_2058, wd_2060, wd_114, ⟨_, rfl, pd_X12_numberAt⟩, 12, _, TX12, 45, rfl, rfl⟩)⟩
theorem ck_RX12_417_2647 : COK2 RX12 vwCl gTbl 417 0 con_2647 := ⟨wd_2061, wd_137, mh_X12_numberAt, .inr (.inr ⟨rfl, wd_2058, wd_2060, wd_114, ⟨_, rfl, pd_X12_numberAt⟩, 12, _, TX12, 45, rfl, rfl⟩)⟩
theorem ck_RX12_417_2650 : COK2 RX12 vwCl gTbl 417 0 con_2650 := ⟨wd_2061, wd_137, mh_X12_numberAt, .inr (.inr ⟨rfl, wd_2058, wd_2060, wd_114, ⟨_, rfl, pd_X12_numberAt⟩, 12, _, TX12, 45, rfl, rfl⟩)⟩
theorem ck_RX12_417_2653 : COK2 RX12 vwCl gTbl 417 0 con_2653 := ⟨wd_2061, wd_137, mh_X12_numberAt, .inr (.inr ⟨rfl, wd_2058, wd_2060, wd_114, ⟨_, rfl, pd_X12_numberAt⟩, 12, _, TX12, 45, rfl, rfl⟩)⟩
theorem ck_RX12_417_2656 : COK2 RX12 vwCl gTbl 417 0 con_2656 := ⟨wd_2061, wd_137, mh_X12_numberAt, .inr (.inr ⟨rfl, wd_2058, wd_2060, wd_114, ⟨_, rfl, pd_X12_numberAt⟩, 12, _, TX12, 45, rfl, rfl⟩)⟩
theorem ck_RX12_417_2659 : COK2 RX12 vwCl gTbl 417 0 con_2659 := ⟨wd_2061, wd_137, mh_X12_numberAt, .inr (.inr ⟨rfl, wd_2058, wd_2060, wd_114, ⟨_, rfl, pd_X12_numberAt⟩, 12, _, TX12, 45, rfl, rfl⟩)⟩
theorem ck_RX12_417_2662 : COK2 RX12 vwCl gTbl 417 0 con_2662 := ⟨wd_2061, wd_137, mh_X12_numberAt, .inr (.inr ⟨rfl, wd_2058, wd_2060, wd_114, ⟨_, rfl, pd_X12_numberAt⟩, 12, _, TX12, 45, rfl, rfl⟩)⟩
theorem ck_RX12_417_2665 : COK2 RX12 vwCl gTbl 417 0 con_2665 := ⟨wd_2061, wd_137, mh_X12_numberAt, .inr (.inr ⟨rfl, wd_2058, wd_2060, wd_114, ⟨_, rfl, pd_X12_numberAt⟩, 12, _, TX12, 45, rfl, rfl⟩)⟩
theorem ck_RX12_417_2668 : COK2 RX12 vwCl gTbl 417 0 con_2668 := ⟨wd_2061, wd_137, mh_X12_numberAt, .inr (.inr ⟨rfl, wd_2058, wd_2060, wd_114, ⟨_, rfl, pd_X12_numberAt⟩, 12, _, TX12, 45, rfl, rfl⟩)⟩
theorem ck_RX12_417_2671 : COK2 RX12 vwCl gTbl 417 0 con_2671 := ⟨wd_2061, wd_137, mh_X12_numberAt, .inr (.inr ⟨rfl, wd_2058, wd_2060, wd_114, ⟨_, rfl, pd_X12_numberAt⟩, 12, _, TX12, 45, rfl, rfl⟩)⟩
theorem ck_RX12_417_2674 : COK2 RX12 vwCl gTbl 417 0 con_2674 := ⟨wd_2061, wd_137, mh_X12_numberAt, .inr (.inr ⟨rfl, wd_2058, wd_2060, wd_114, ⟨_, rfl, pd_X12_numberAt⟩, 12, _, TX12, 45, rfl, rfl⟩)⟩
theorem ck_RX12_417_2616 : COK2 RX12 vwCl gTbl 417 0 con_2616 := ⟨wd_2061, wd_137, mh_X12_numberAt, .inr (.inr ⟨rfl, wd_2058, wd_2060, wd_114, ⟨_, rfl, pd_X12_numberAt⟩, 12, _, TX12, 45, rfl, rfl⟩)⟩
theorem ck_RX12_417_2619 : COK2 RX12 vwCl gTbl 417 0 con_2619 := ⟨wd_2061, wd_137, mh_X12_numberAt, .inr (.inr ⟨rfl, wd_2058, wd_2060, wd_114, ⟨_, rfl, pd_X12_numberAt⟩, 12, _, TX12, 45, rfl, rfl⟩)⟩
theorem ck_RX12_417_2622 : COK2 RX12 vwCl gTbl 417 0 con_2622 := ⟨wd_2061, wd_137, mh_X12_numberAt, .inr (.inr ⟨rfl, wd_2058, wd_2060, wd_114, ⟨_, rfl, pd_X12_numberAt⟩, 12, _, TX12, 45, rfl, rfl⟩)⟩
theorem ck_RX12_417_2625 : COK2 RX12 vwCl gTbl 417 0 con_2625 := ⟨wd_2061, wd_137, mh_X12_numberAt, .inr (.inr ⟨rfl, wd_2058, wd_2060, wd_114, ⟨_, rfl, pd_X12_numberAt⟩, 12, _, TX12, 45, rfl, rfl⟩)⟩
theorem ck_RX12_417_2628 : COK2 RX12 vwCl gTbl 417 0 con_2628 := ⟨wd_2061, wd_137, mh_X12_numberAt, .inr (.inr ⟨rfl, wd_2058, wd_2060, wd_114, ⟨_, rfl, pd_X12_numberAt⟩, 12, _, TX12, 45, rfl, rfl⟩)⟩
theorem ck_RX12_417_2631 : COK2 RX12 vwCl gTbl 417 0 con_2631 := ⟨wd_2061, wd_137, mh_X12_numberAt, .inr (.inr ⟨rfl, wd_2058, wd_2060, wd_114, ⟨_, rfl, pd_X12_numberAt⟩, 12, _, TX12, 45, rfl, rfl⟩)⟩
theorem ck_RX12_417_2634 : COK2 RX12 vwCl gTbl 417 0 con_2634 := ⟨wd_2061, wd_137, mh_X12_numberAt, .inr (.inr ⟨rfl, wd_2058, wd_2060, wd_114, ⟨_, rfl, pd_X12_numberAt⟩, 12, _, TX12, 45, rfl, rfl⟩)⟩
theorem ck_RX12_417_2637 : COK2 RX12 vwCl gTbl 417 0 con_2637 := ⟨wd_2061, wd_137, mh_X12_numberAt, .inr (.inr ⟨rfl, wd_2058, wd_2060, wd_114, ⟨_, rfl, pd_X12_numberAt⟩, 12, _, TX12, 45, rfl, rfl⟩)⟩
theorem ck_RX12_417_2640 : COK2 RX12 vwCl gTbl 417 0 con_2640 := ⟨wd_2061, wd_137, mh_X12_numberAt, .inr (.inr ⟨rfl, wd_2058, wd_2060, wd_114, ⟨_, rfl, pd_X12_numberAt⟩, 12, _, TX12, 45, rfl, rfl⟩)⟩
theorem ck_RX12_417_2643 : COK2 RX12 vwCl gTbl 417 0 con_2643 := ⟨wd_2061, wd_137, mh_X12_numberAt, .inr (.inr ⟨rfl, wd_2058, wd_2060, wd_114, ⟨_, rfl, pd_X12_numberAt⟩, 12, _, TX12, 45, rfl, rfl⟩)⟩
theorem ck_RX12_417_2646 : COK2 RX12 vwCl gTbl 417 0 con_2646 := ⟨wd_2061, wd_137, mh_X12_numberAt, .inr (.inr ⟨rfl, wd_2058, wd_2060, wd_114, ⟨_, rfl, pd_X12_numberAt⟩, 12, _, TX12, 45, rfl, rfl⟩)⟩
theorem ck_RX12_417_2649 : COK2 RX12 vwCl gTbl 417 0 con_2649 := ⟨wd_2061, wd_137, mh_X12_numberAt, .inr (.inr ⟨rfl, wd_2058, wd_2060, wd_114, ⟨_, rfl, pd_X12_numberAt⟩, 12, _, TX12, 45, rfl, rfl⟩)⟩
theorem ck_RX12_417_2652 : COK2 RX12 vwCl gTbl 417 0 con_2652 := ⟨wd_2061, wd_137, mh_X12_numberAt, .inr (.inr ⟨rfl, wd_2058, wd_2060, wd_114, ⟨_, rfl, pd_X12_numberAt⟩, 12, _, TX12, 45, rfl, rfl⟩)⟩
theorem ck_RX12_417_2655 : COK2 RX12 vwCl gTbl 417 0 con_2655 := ⟨wd_2061, wd_137, mh_X12_numberAt, .inr (.inr ⟨rfl, wd_2058, wd_2060, wd_114, ⟨_, rfl, pd_X12_numberAt⟩, 12, _, TX12, 45, rfl, rfl⟩)⟩
theorem ck_RX12_417_2658 : COK2 RX12 vwCl gTbl 417 0 con_2658 := ⟨wd_2061, wd_137, mh_X12_numberAt, .inr (.inr ⟨rfl, wd_2058, wd_2060, wd_114, ⟨_, rfl, pd_X12_numberAt⟩, 12, _, TX12, 45, rfl, rfl⟩)⟩
theorem ck_RX12_417_2661 : COK2 RX12 vwCl gTbl 417 0 con_2661 := ⟨wd_2061, wd_137, mh_X12_numberAt, .inr (.inr ⟨rfl, wd_2058, wd_2060, wd_114, ⟨_, rfl, pd_X12_numberAt⟩, 12, _, TX12, 45, rfl, rfl⟩)⟩
theorem ck_RX12_417_2664 : COK2 RX12 vwCl gTbl 417 0 con_2664 := ⟨wd_2061, wd_137, mh_X12_numberAt, .inr (.inr ⟨rfl, wd_2058, wd_2060, wd_114, ⟨_, rfl, pd_X12_numberAt⟩, 12, _, TX12, 45, rfl, rfl⟩)⟩
theorem ck_RX12_417_2667 : COK2 RX12 vwCl gTbl 417 0 con_2667 := ⟨wd_2061, wd_137, mh_X12_numberAt, .inr (.inr ⟨rfl, wd_2058, wd_2060, wd_114, ⟨_, rfl, pd_X12_numberAt⟩, 12, _, TX12, 45, rfl, rfl⟩)⟩
theorem ck_RX12_417_2670 : COK2 RX12 vwCl gTbl 417 0 con_2670 := ⟨wd_2061, wd_137, mh_X12_numberAt, .inr (.inr ⟨rfl, wd_2058, wd_2060, wd_114, ⟨_, rfl, pd_X12_numberAt⟩, 12, _, TX12, 45, rfl, rfl⟩)⟩
theorem ck_RX12_417_2673 : COK2 RX12 vwCl gTbl 417 0 con_2673 := ⟨wd_2061, wd_137, mh_X12_numberAt, .inr (.inr ⟨rfl, wd_2058, wd_2060, wd_114, ⟨_, rfl, pd_X12_numberAt⟩, 12, _, TX12, 45, rfl, rfl⟩)⟩
theorem ck_RX12_417_2615 : COK2 RX12 vwCl gTbl 417 0 con_2615 := ⟨wd_2061, wd_137, mh_X12_numberAt, .inr (.inr ⟨rfl, wd_2058, wd_2060, wd_114, ⟨_, rfl, pd_X12_numberAt⟩, 12, _, TX12, 45, rfl, rfl⟩)⟩
theorem ck_RX12_417_2618 : COK2 RX12 vwCl gTbl 417 0 con_2618 := ⟨wd_2061, wd_137, mh_X12_numberAt, .inr (.inr ⟨rfl, wd_2058, wd_2060, wd_114, ⟨_, rfl, pd_X12_numberAt⟩, 12, _, TX12, 45, rfl, rfl⟩)⟩
theorem ck_RX12_417_2621 : COK2 RX12 vwCl gTbl 417 0 con_2621 := ⟨wd_2061, wd_137, mh_X12_numberAt, .inr (.inr ⟨rfl, wd_2058, wd_2060, wd_114, ⟨_, rfl, pd_X12_numberAt⟩, 12, _, TX12, 45, rfl, rfl⟩)⟩
theorem ck_RX12_417_2624 : COK2 RX12 vwCl gTbl 417 0 con_2624 := ⟨wd_2061, wd_137, mh_X12_numberAt, .inr (.inr ⟨rfl, wd_2058, wd_2060, wd_114, ⟨_, rfl, pd_X12_numberAt⟩, 12, _, TX12, 45, rfl, rfl⟩)⟩
theorem ck_RX12_417_2627 : COK2 RX12 vwCl gTbl 417 0 con_2627 := ⟨wd_2061, wd_137, mh_X12_numberAt, .inr (.inr ⟨rfl, wd_2058, wd_2060, wd_114, ⟨_, rfl, pd_X12_numberAt⟩, 12, _, TX12, 45, rfl, rfl⟩)⟩
theorem ck_RX12_417_2630 : COK2 RX12 vwCl gTbl 417 0 con_2630 := ⟨wd_2061, wd_137, mh_X12_numberAt, .inr (.inr ⟨rfl, wd_2058, wd_2060, wd_114, ⟨_, rfl, pd_X12_numberAt⟩, 12, _, TX12, 45, rfl, rfl⟩)⟩
theorem ck_RX12_417_2633 : COK2 RX12 vwCl gTbl 417 0 con_2633 := ⟨wd_2061, wd_137, mh_X12_numberAt, .inr (.inr ⟨rfl, wd_2058, wd_2060, wd_114, ⟨_, rfl, pd_X12_numberAt⟩, 12, _, TX12, 45, rfl, rfl⟩)⟩
theorem ck_RX12_417_2636 : COK2 RX12 vwCl gTbl 417 0 con_2636 := ⟨wd_2061, wd_137, mh_X12_numberAt, .inr (.inr ⟨rfl, wd_2058, wd_2060, wd_114, ⟨_, rfl, pd_X12_numberAt⟩, 12, _, TX12, 45, rfl, rfl⟩)⟩
theorem ck_RX12_417_2639 : COK2 RX12 vwCl gTbl 417 0 con_2639 := ⟨wd_2061, wd_137, mh_X12_numberAt, .inr (.inr ⟨rfl, wd_2058, wd_2060, wd_114, ⟨_, rfl, pd_X12_numberAt⟩, 12, _, TX12, 45, rfl, rfl⟩)⟩
theorem ck_RX12_417_2642 : COK2 RX12 vwCl gTbl 417 0 con_2642 := ⟨wd_2061, wd_137, mh_X12_numberAt, .inr (.inr ⟨rfl, wd_2058, wd_2060, wd_114, ⟨_, rfl, pd_X12_numberAt⟩, 12, _, TX12, 45, rfl, rfl⟩)⟩
theorem ck_RX12_417_2645 : COK2 RX12 vwCl gTbl 417 0 con_2645 := ⟨wd_2061, wd_137, mh_X12_numberAt, .inr (.inr ⟨rfl, wd_2058, wd_2060, wd_114, ⟨_, rfl, pd_X12_numberAt⟩, 12, _, TX12, 45, rfl, rfl⟩)⟩
theorem ck_RX12_417_2648 : COK2 RX12 vwCl gTbl 417 0 con_2648 := ⟨wd_2061, wd_137, mh_X12_numberAt, .inr (.inr ⟨rfl, wd_2058, wd_2060, wd_114, ⟨_, rfl, pd_X12_numberAt⟩, 12, _, TX12, 45, rfl, rfl⟩)⟩
theorem ck_RX12_417_2651 : COK2 RX12 vwCl gTbl 417 0 con_2651 := ⟨wd_2061, wd_137, mh_X12_numberAt, .inr (.inr ⟨rfl, wd_2058, wd_2060, wd_114, ⟨_, rfl, pd_X12_numberAt⟩, 12, _, TX12, 45, rfl, rfl⟩)⟩
theorem ck_RX12_417_2654 : COK2 RX12 vwCl gTbl 417 0 con_2654 := ⟨wd_2061, wd_137, mh_X12_numberAt, .inr (.inr ⟨rfl, wd_2058, wd_2060, wd_114, ⟨_, rfl, pd_X12_numberAt⟩, 12, _, TX12, 45, rfl, rfl⟩)⟩
theorem ck_RX12_417_2657 : COK2 RX12 vwCl gTbl 417 0 con_2657 := ⟨wd_2061, wd_137, mh_X12_numberAt, .inr (.inr ⟨rfl, wd_2058, wd_2060, wd_114, ⟨_, rfl, pd_X12_numberAt⟩, 12, _, TX12, 45, rfl, rfl⟩)⟩
theorem ck_RX12_417_2660 : COK2 RX12 vwCl gTbl 417 0 con_2660 := ⟨wd_2061, wd_137, mh_X12_numberAt, .inr (.inr ⟨rfl, wd_2058, wd_2060, wd_114, ⟨_, rfl, pd_X12_numberAt⟩, 12, _, TX12, 45, rfl, rfl⟩)⟩
theorem ck_RX12_417_2663 : COK2 RX12 vwCl gTbl 417 0 con_2663 := ⟨wd_2061, wd_137, mh_X12_numberAt, .inr (.inr ⟨rfl, wd_2058, wd_2060, wd_114, ⟨_, rfl, pd_X12_numberAt⟩, 12, _, TX12, 45, rfl, rfl⟩)⟩
theorem ck_RX12_417_2666 : COK2 RX12 vwCl gTbl 417 0 con_2666 := ⟨wd_2061, wd_137, mh_X12_numberAt, .inr (.inr ⟨rfl, wd_2058, wd_2060, wd_114, ⟨_, rfl, pd_X12_numberAt⟩, 12, _, TX12, 45, rfl, rfl⟩)⟩
theorem ck_RX12_417_2669 : COK2 RX12 vwCl gTbl 417 0 con_2669 := ⟨wd_2061, wd_137, mh_X12_numberAt, .inr (.inr ⟨rfl, wd_2058, wd_2060, wd_114, ⟨_, rfl, pd_X12_numberAt⟩, 12, _, TX12, 45, rfl, rfl⟩)⟩
theorem ck_RX12_417_2672 : COK2 RX12 vwCl gTbl 417 0 con_2672 := ⟨wd_2061, wd_137, mh_X12_numberAt, .inr (.inr ⟨rfl, wd_2058, wd_2060, wd_114, ⟨_, rfl, pd_X12_numberAt⟩, 12, _, TX12, 45, rfl, rfl⟩)⟩
theorem ck_RX12_414_2614 : COK2 RX12 vwCl gTbl 414 1 con_2614 := ⟨wd_2057, wd_137, mh_X12_isSlot, .inl ⟨rfl, wd_2055, wd_2056, pd_X12_isSlot⟩⟩
noncomputable def ct_2675 : CTB2 := [(1, 414, 1, con_2614, []), (10, 109, 0, con_651, [0, 1]), (62, 417, 0, con_2672, [0, 3]), (62, 417, 0, con_2669, [0, 3]), (62, 417, 0, con_2666, [0, 3]), (62, 417, 0, con_2663, [0, 3]), (62, 417, 0, con_2660, [0, 3]), (62, 417, 0, con_2657, [0, 3]), (62, 417, 0, con_2654, [0, 3]), (62, 417, 0, con_2651, [0, 3]), (62, 417, 0, con_2648, [0, 3]), (62, 417, 0, con_2645, [0, 3]), (62, 417, 0, con_2642, [0, 3]), (62, 417, 0, con_2639, [0, 3]), (62, 417, 0, con_2636, [0, 3]), (62, 417, 0, con_2633, [0, 3]), (62, 417, 0, con_2630, [0, 3]), (62, 417, 0, con_2627, [0, 3]), (62, 417, 0, con_2624, [0, 3]), (62, 417, 0, con_2621, [0, 3]), (62, 417, 0, con_2618, [0, 3]), (62, 417, 0, con_2615, [0, 3]), (65, 109, 0, con_2176, [0, 1]), (77, 417, 0, con_2673, [0, 3]), (77, 417, 0, con_2670, [0, 3]), (77, 417, 0, con_2667, [0, 3]), (77, 417, 0, con_2664, [0, 3]), (77, 417, 0, con_2661, [0, 3]), (77, 417, 0, con_2658, [0, 3]), (77, 417, 0, con_2655, [0, 3]), (77, 417, 0, con_2652, [0, 3]), (77, 417, 0, con_2649, [0, 3]), (77, 417, 0, con_2646, [0, 3]), (77, 417, 0, con_2643, [0, 3]), (77, 417, 0, con_2640, [0, 3]), (77, 417, 0, con_2637, [0, 3]), (77, 417, 0, con_2634, [0, 3]), (77, 417, 0, con_2631, [0, 3]), (77, 417, 0, con_2628, [0, 3]), (77, 417, 0, con_2625, [0, 3]), (77, 417, 0, con_2622, [0, 3]), (77, 417, 0, con_2619, [0, 3]), (77, 417, 0, con_2616, [0, 3]), (80, 369, 0, con_2178, [0, 1]), (91, 417, 0, con_2674, [0, 3]), (91, 417, 0, con_2671, [0, 3]), (91, 417, 0, con_2668, [0, 3]), (91, 417, 0, con_2665, [0, 3]), (91, 417, 0, con_2662, [0, 3]), (91, 417, 0, con_2659, [0, 3]), (91, 417, 0, con_2656, [0, 3]), (91, 417, 0, con_2653, [0, 3]), (91, 417, 0, con_2650, [0, 3]), (91, 417, 0, con_2647, [0, 3]), (91, 417, 0, con_2644, [0, 3]), (91, 417, 0, con_2641, [0, 3]), (91, 417, 0, con_2638, [0, 3]), (91, 417, 0, con_2635, [0, 3]), (91, 417, 0, con_2632, [0, 3]), (91, 417, 0, con_2629, [0, 3]), (91, 417, 0, con_2626, [0, 3]), (91, 417, 0, con_2623, [0, 3]), (91, 417, 0, con_2620, [0, 3]), (91, 417, 0, con_2617, [0, 3]), (98, 91, 1, con_2180, [])]
noncomputable def gi_2417 : GI := jl_n [gp_729, jl_i 0 60, gp_572, jl_z 4]
noncomputable def gi_2418 : GI := jl_n [gp_732, jl_i 1 60, jl_r 3 (jl_m 0 60), gp_446, jl_z 4]
noncomputable def gi_2419 : GI := jl_n [gp_732, jl_i 4 60, jl_r 3 (jl_m 0 60), gp_478, jl_z 4]
noncomputable def gi_2420 : GI := jl_n [gp_732, jl_i 7 60, jl_r 3 (jl_m 0 60), gp_482, jl_z 4]
noncomputable def gi_2421 : GI := jl_n [gp_732, jl_i 10 60, jl_r 3 (jl_m 0 60), gp_429, jl_z 4]
noncomputable def gi_2422 : GI := jl_n [gp_732, jl_i 13 60, jl_r 3 (jl_m 0 60), gp_432, jl_z 4]
noncomputable def gi_2423 : GI := jl_n [gp_732, jl_i 16 60, jl_r 3 (jl_m 0 60), gp_435, jl_z 4]
noncomputable def gi_2424 : GI := jl_n [gp_732, jl_i 19 60, jl_r 3 (jl_m 0 60), gp_438, jl_z 4]
noncomputable def gi_2425 : GI := jl_n [gp_732, jl_i 22 60, gp_582, jl_r 36 (jl_u), jl_z 4]
noncomputable def gi_2426 : GI := jl_n [gp_732, jl_i 25 60, gp_582, gp_443, jl_z 4]
noncomputable def gi_2427 : GI := jl_n [gp_732, jl_i 28 60, gp_582, gp_448, jl_z 4]
noncomputable def gi_2428 : GI := jl_n [gp_732, jl_i 31 60, gp_582, gp_451, jl_z 4]
noncomputable def gi_2429 : GI := jl_n [gp_732, jl_i 34 60, jl_r 3 (jl_m 0 60), gp_455, jl_z 4]
noncomputable def gi_2430 : GI := jl_n [gp_732, jl_i 37 60, jl_r 3 (jl_m 0 60), gp_458, jl_z 4]
noncomputable def gi_2431 : GI := jl_n [gp_732, jl_i 40 60, jl_r 3 (jl_m 0 60), gp_461, jl_z 4]
noncomputable def gi_2432 : GI := jl_n [gp_732, jl_i 43 60, jl_r 3 (jl_m 0 60), gp_464, jl_z 4]
noncomputable def gi_2433 : GI := jl_n [gp_732, jl_i 46 60, jl_r 3 (jl_m 0 60), gp_467, jl_z 4]
noncomputable def gi_2434 : GI := jl_n [gp_732, jl_i 49 60, jl_r 3 (jl_m 0 60), gp_470, jl_z 4]
noncomputable def gi_2435 : GI := jl_n [gp_732, jl_i 52 60, jl_r 3 (jl_m 0 60), gp_473, jl_z 4]
noncomputable def gi_2436 : GI := jl_n [gp_732, jl_i 55 60, jl_r 3 (jl_m 0 60), gp_735]
noncomputable def gi_2437 : GI := jl_n [gp_732, gp_611, jl_z 4]
noncomputable def cu_2675_0 : List CUT2 := [((48, [lq 0 6 0, lq 1 0 0, lq 2 1 2, lq 3 0 0], [], gi_2417, hq_935), [], ([], 60)), ((48, [lq 0 6 0, lq 1 0 0, lq 2 1 2, lq 3 0 3], [], gi_2418, hq_935), [], ([], 57)), ((48, [lq 0 6 0, lq 1 0 0, lq 2 1 2, lq 3 0 6], [], gi_2419, hq_935), [], ([], 54)), ((48, [lq 0 6 0, lq 1 0 0, lq 2 1 2, lq 3 0 9], [], gi_2420, hq_935), [], ([], 51)), ((48, [lq 0 6 0, lq 1 0 0, lq 2 1 2, lq 3 0 12], [], gi_2421, hq_935), [], ([], 48)), ((48, [lq 0 6 0, lq 1 0 0, lq 2 1 2, lq 3 0 15], [], gi_2422, hq_935), [], ([], 45)), ((48, [lq 0 6 0, lq 1 0 0, lq 2 1 2, lq 3 0 18], [], gi_2423, hq_935), [], ([], 42)), ((48, [lq 0 6 0, lq 1 0 0, lq 2 1 2, lq 3 0 21], [], gi_2424, hq_935), [], ([], 39)), ((48, [lq 0 6 0, lq 1 0 0, lq 2 1 2, lq 3 0 24], [], gi_2425, hq_935), [], ([], 36)), ((48, [lq 0 6 0, lq 1 0 0, lq 2 1 2, lq 3 0 27], [], gi_2426, hq_935), [], ([], 33)), ((48, [lq 0 6 0, lq 1 0 0, lq 2 1 2, lq 3 0 30], [], gi_2427, hq_935), [], ([], 30)), ((48, [lq 0 6 0, lq 1 0 0, lq 2 1 2, lq 3 0 33], [], gi_2428, hq_935), [], ([], 27)), ((48, [lq 0 6 0, lq 1 0 0, lq 2 1 2, lq 3 0 36], [], gi_2429, hq_935), [], ([], 24))]
noncomputable def cu_2675_1 : List CUT2 := [((48, [lq 0 6 0, lq 1 0 0, lq 2 1 2, lq 3 0 39], [], gi_2430, hq_935), [], ([], 21)), ((48, [lq 0 6 0, lq 1 0 0, lq 2 1 2, lq 3 0 42], [], gi_2431, hq_935), [], ([], 18)), ((48, [lq 0 6 0, lq 1 0 0, lq 2 1 2, lq 3 0 45], [], gi_2432, hq_935), [], ([], 15)), ((48, [lq 0 6 0, lq 1 0 0, lq 2 1 2, lq 3 0 48], [], gi_2433, hq_935), [], ([], 12)), ((48, [lq 0 6 0, lq 1 0 0, lq 2 1 2, lq 3 0 51], [], gi_2434, hq_935), [], ([], 9)), ((48, [lq 0 6 0, lq 1 0 0, lq 2 1 2, lq 3 0 54], [], gi_2435, hq_935), [], ([], 6)), ((48, [lq 0 6 0, lq 1 0 0, lq 2 1 2, lq 3 0 57], [], gi_2436, hq_935), [], ([], 3)), ((48, [lq 0 6 0, lq 1 0 0, lq 2 1 2, lq 3 0 60], [], gi_2437, hq_935), [], ([], 0))]
noncomputable def cu_2675 : List CUT2 := cu_2675_0 ++ (cu_2675_1)
theorem ch_2675 : staG tb_X12_askSeen 1 bt_RX12 [] ct_2675 [] [] cu_2675 37 con_2675 = true := by decide +kernel
theorem cc_2675_0 : cu_2675_0.all (cutG tb_X12_askSeen 1 bt_RX12 [] ct_2675 [] [] cu_2675 37 con_2675) = true := by decide +kernel
theorem cc_2675_1 : cu_2675_1.all (cutG tb_X12_askSeen 1 bt_RX12 [] ct_2675 [] [] cu_2675 37 con_2675) = true := by decide +kernel
theorem cto_2675 (l : Launch) : CTOK2 l RX12 vwCl gTbl ct_2675 := ct2_cons (vl_2614 l) ck_RX12_414_2614 (ct2_cons (vl_651 l) ck_RX12_109_651 (ct2_cons (vl_2672 l) ck_RX12_417_2672 (ct2_cons (vl_2669 l) ck_RX12_417_2669 (ct2_cons (vl_2666 l) ck_RX12_417_2666 (ct2_cons (vl_2663 l) ck_RX12_417_2663 (ct2_cons (vl_2660 l) ck_RX12_417_2660 (ct2_cons (vl_2657 l) ck_RX12_417_2657 (ct2_cons (vl_2654 l) ck_RX12_417_2654 (ct2_cons (vl_2651 l) ck_RX12_417_2651 (ct2_cons (vl_2648 l) ck_RX12_417_2648 (ct2_cons (vl_2645 l) ck_RX12_417_2645 (ct2_cons (vl_2642 l) ck_RX12_417_2642 (ct2_cons (vl_2639 l) ck_RX12_417_2639 (ct2_cons (vl_2636 l) ck_RX12_417_2636 (ct2_cons (vl_2633 l) ck_RX12_417_2633 (ct2_cons (vl_2630 l) ck_RX12_417_2630 (ct2_cons (vl_2627 l) ck_RX12_417_2627 (ct2_cons (vl_2624 l) ck_RX12_417_2624 (ct2_cons (vl_2621 l) ck_RX12_417_2621 (ct2_cons (vl_2618 l) ck_RX12_417_2618 (ct2_cons (vl_2615 l) ck_RX12_417_2615 (ct2_cons (vl_2176 l) ck_RX12_109_2176 (ct2_cons (vl_2673 l) ck_RX12_417_2673 (ct2_cons (vl_2670 l) ck_RX12_417_2670 (ct2_cons (vl_2667 l) ck_RX12_417_2667 (ct2_cons (vl_2664 l) ck_RX12_417_2664 (ct2_cons (vl_2661 l) ck_RX12_417_2661 (ct2_cons (vl_2658 l) ck_RX12_417_2658 (ct2_cons (vl_2655 l) ck_RX12_417_2655 (ct2_cons (vl_2652 l) ck_RX12_417_2652 (ct2_cons (vl_2649 l) ck_RX12_417_2649 (ct2_cons (vl_2646 l) ck_RX12_417_2646 (ct2_cons (vl_2643 l) ck_RX12_417_2643 (ct2_cons (vl_2640 l) ck_RX12_417_2640 (ct2_cons (vl_2637 l) ck_RX12_417_2637 (ct2_cons (vl_2634 l) ck_RX12_417_2634 (ct2_cons (vl_2631 l) ck_RX12_417_2631 (ct2_cons (vl_2628 l) ck_RX12_417_2628 (ct2_cons (vl_2625 l) ck_RX12_417_2625 (ct2_cons (vl_2622 l) ck_RX12_417_2622 (ct2_cons (vl_2619 l) ck_RX12_417_2619 (ct2_cons (vl_2616 l) ck_RX12_417_2616 (ct2_cons (vl_2178 l) ck_RX12_369_2178 (ct2_cons (vl_2674 l) ck_RX12_417_2674 (ct2_cons (vl_2671 l) ck_RX12_417_2671 (ct2_cons (vl_2668 l) ck_RX12_417_2668 (ct2_cons (vl_2665 l) ck_RX12_417_2665 (ct2_cons (vl_2662 l) ck_RX12_417_2662 (ct2_cons (vl_2659 l) ck_RX12_417_2659 (ct2_cons (vl_2656 l) ck_RX12_417_2656 (ct2_cons (vl_2653 l) ck_RX12_417_2653 (ct2_cons (vl_2650 l) ck_RX12_417_2650 (ct2_cons (vl_2647 l) ck_RX12_417_2647 (ct2_cons (vl_2644 l) ck_RX12_417_2644 (ct2_cons (vl_2641 l) ck_RX12_417_2641 (ct2_cons (vl_2638 l) ck_RX12_417_2638 (ct2_cons (vl_2635 l) ck_RX12_417_2635 (ct2_cons (vl_2632 l) ck_RX12_417_2632 (ct2_cons (vl_2629 l) ck_RX12_417_2629 (ct2_cons (vl_2626 l) ck_RX12_417_2626 (ct2_cons (vl_2623 l) ck_RX12_417_2623 (ct2_cons (vl_2620 l) ck_RX12_417_2620 (ct2_cons (vl_2617 l) ck_RX12_417_2617 (ct2_cons (vl_2180 l) ck_RX12_91_2180 (ct2_nil)))))))))))))))))))))))))))))))))))))))))))))))))))))))))))))))))
theorem vl_2675 (l : Launch) : Vld2 l vwCl gTbl con_2675 := conR_ok3 gT_all (hd_2675) rfl pn_RX12 tk_X12_askSeen bo_RX12 xo_RX12 (cto_2675 l) ch_2675 (cut_app (cut_all cc_2675_0) (cut_all cc_2675_1))
/-- RookHustingModel numberAt -/
noncomputable def gi_2438 : GI := jl_n [jl_z 49, jl_i 0 16]
noncomputable def gi_2439 : GI := jl_n [jl_z 49, gp_359]
noncomputable def con_2676 : Con2 := ((yX12_numberAt, cX12_numberAt, 3, (some .long)), (0, 0), ([(6, 0, 0), (0, 0, 0), (0, 1, 0)], gi_2438, [ac_1100, ac_1296], []), [((4, 49, 0), gi_2439, [(false, ac_1100), (false, ac_1296)], [], [1])])
theorem hd_2676 : con_2676.1 = (yX12_numberAt, cX12_numberAt, 3, (some .long)) := rfl
noncomputable def cu_2676 : List CUT2 := []
theorem ch_2676 : staG tb_X12_numberAt 1 bt_RX12 [] ct_2 [] [] cu_2676 11 con_2676 = true := by decide +kernel
theorem vl_2676 (l : Launch) : Vld2 l vwCl gTbl con_2676 := conR_ok3 gT_all (hd_2676) rfl pn_RX12 tk_X12_numberAt bo_RX12 xo_RX12 (cto_2 l) ch_2676 cut_nil
/-- RookHustingModel numberAt -/
noncomputable def con_2677 : Con2 := ((yX12_numberAt, cX12_numberAt, 3, (some .long)), (0, 0), ([(6, 0, 0), (0, 0, 0), (0, 0, 0)], gi_1852, [ac_1100, ac_1295], []), [((4, 48, 0), gi_1853, [(false, ac_1100), (false, ac_1295)], [], [1])])
theorem hd_2677 : con_2677.1 = (yX12_numberAt, cX12_numberAt, 3, (some .long)) := rfl
noncomputable def cu_2677 : List CUT2 := []
theorem ch_2677 : staG tb_X12_numberAt 1 bt_RX12 [] ct_2 [] [] cu_2677 11 con_2677 = true := by decide +kernel
theorem vl_2677 (l : Launch) : Vld2 l vwCl gTbl con_2677 := conR_ok3 gT_all (hd_2677) rfl pn_RX12 tk_X12_numberAt bo_RX12 xo_RX12 (cto_2 l) ch_2677 cut_nil
/-- RookHustingModel numberAt -/
noncomputable def con_2678 : Con2 := ((yX12_numberAt, cX12_numberAt, 3, (some .long)), (0, 0), ([(6, 0, 0), (0, 0, 0), (0, 2, 0)], gi_1854, [ac_1100, ac_1297], []), [((4, 48, 0), gi_1855, [(false, ac_1100), (false, ac_1297)], [], [1])])
theorem hd_2678 : con_2678.1 = (yX12_numberAt, cX12_numberAt, 3, (some .long)) := rfl
noncomputable def cu_2678 : List CUT2 := []
theorem ch_2678 : staG tb_X12_numberAt 1 bt_RX12 [] ct_2 [] [] cu_2678 11 con_2678 = true := by decide +kernel
theorem vl_2678 (l : Launch) : Vld2 l vwCl gTbl con_2678 := conR_ok3 gT_all (hd_2678) rfl pn_RX12 tk_X12_numberAt bo_RX12 xo_RX12 (cto_2 l) ch_2678 cut_nil
/-- RookHustingModel numberAt -/
noncomputable def con_2679 : Con2 := ((yX12_numberAt, cX12_numberAt, 3, (some .long)), (0, 0), ([(6, 0, 0), (0, 0, 0), (0, 4, 0)], gi_1850, [ac_1100, ac_1299], []), [((4, 48, 0), gi_1851, [(false, ac_1100), (false, ac_1299)], [], [1])])
theorem hd_2679 : con_2679.1 = (yX12_numberAt, cX12_numberAt, 3, (some .long)) := rfl
noncomputable def cu_2679 : List CUT2 := []
theorem ch_2679 : staG tb_X12_numberAt 1 bt_RX12 [] ct_2 [] [] cu_2679 11 con_2679 = true := by decide +kernel
theorem vl_2679 (l : Launch) : Vld2 l vwCl gTbl con_2679 := conR_ok3 gT_all (hd_2679) rfl pn_RX12 tk_X12_numberAt bo_RX12 xo_RX12 (cto_2 l) ch_2679 cut_nil
/-- RookHustingModel numberAt -/
noncomputable def con_2680 : Con2 := ((yX12_numberAt, cX12_numberAt, 3, (some .long)), (0, 0), ([(6, 0, 0), (0, 0, 0), (0, 3, 0)], gi_1852, [ac_1100, ac_1298], []), [((4, 48, 0), gi_1853, [(false, ac_1100), (false, ac_1298)], [], [1])])
theorem hd_2680 : con_2680.1 = (yX12_numberAt, cX12_numberAt, 3, (some .long)) := rfl
noncomputable def cu_2680 : List CUT2 := []
theorem ch_2680 : staG tb_X12_numberAt 1 bt_RX12 [] ct_2 [] [] cu_2680 11 con_2680 = true := by decide +kernel
theorem vl_2680 (l : Launch) : Vld2 l vwCl gTbl con_2680 := conR_ok3 gT_all (hd_2680) rfl pn_RX12 tk_X12_numberAt bo_RX12 xo_RX12 (cto_2 l) ch_2680 cut_nil
/-- RookHustingModel numberAt -/
noncomputable def con_2681 : Con2 := ((yX12_numberAt, cX12_numberAt, 3, (some .long)), (0, 0), ([(6, 0, 0), (0, 0, 0), (0, 5, 0)], gi_1854, [ac_1100, ac_1300], []), [((4, 48, 0), gi_1855, [(false, ac_1100), (false, ac_1300)], [], [1])])
theorem hd_2681 : con_2681.1 = (yX12_numberAt, cX12_numberAt, 3, (some .long)) := rfl
noncomputable def cu_2681 : List CUT2 := []
theorem ch_2681 : staG tb_X12_numberAt 1 bt_RX12 [] ct_2 [] [] cu_2681 11 con_2681 = true := by decide +kernel
theorem vl_2681 (l : Launch) : Vld2 l vwCl gTbl con_2681 := conR_ok3 gT_all (hd_2681) rfl pn_RX12 tk_X12_numberAt bo_RX12 xo_RX12 (cto_2 l) ch_2681 cut_nil
/-- RookHustingModel numberAt -/
noncomputable def con_2682 : Con2 := ((yX12_numberAt, cX12_numberAt, 3, (some .long)), (0, 0), ([(6, 0, 0), (0, 0, 0), (0, 7, 0)], gi_1850, [ac_1100, ac_1302], []), [((4, 48, 0), gi_1851, [(false, ac_1100), (false, ac_1302)], [], [1])])
theorem hd_2682 : con_2682.1 = (yX12_numberAt, cX12_numberAt, 3, (some .long)) := rfl
noncomputable def cu_2682 : List CUT2 := []
theorem ch_2682 : staG tb_X12_numberAt 1 bt_RX12 [] ct_2 [] [] cu_2682 11 con_2682 = true := by decide +kernel
theorem vl_2682 (l : Launch) : Vld2 l vwCl gTbl con_2682 := conR_ok3 gT_all (hd_2682) rfl pn_RX12 tk_X12_numberAt bo_RX12 xo_RX12 (cto_2 l) ch_2682 cut_nil
/-- RookHustingModel numberAt -/
noncomputable def con_2683 : Con2 := ((yX12_numberAt, cX12_numberAt, 3, (some .long)), (0, 0), ([(6, 0, 0), (0, 0, 0), (0, 6, 0)], gi_1852, [ac_1100, ac_1301], []), [((4, 48, 0), gi_1853, [(false, ac_1100), (false, ac_1301)], [], [1])])
theorem hd_2683 : con_2683.1 = (yX12_numberAt, cX12_numberAt, 3, (some .long)) := rfl
noncomputable def cu_2683 : List CUT2 := []
theorem ch_2683 : staG tb_X12_numberAt 1 bt_RX12 [] ct_2 [] [] cu_2683 11 con_2683 = true := by decide +kernel
theorem vl_2683 (l : Launch) : Vld2 l vwCl gTbl con_2683 := conR_ok3 gT_all (hd_2683) rfl pn_RX12 tk_X12_numberAt bo_RX12 xo_RX12 (cto_2 l) ch_2683 cut_nil
/-- RookHustingModel numberAt -/
noncomputable def con_2684 : Con2 := ((yX12_numberAt, cX12_numberAt, 3, (some .long)), (0, 0), ([(6, 0, 0), (0, 0, 0), (0, 8, 0)], gi_1854, [ac_1100, ac_1303], []), [((4, 48, 0), gi_1855, [(false, ac_1100), (false, ac_1303)], [], [1])])
theorem hd_2684 : con_2684.1 = (yX12_numberAt, cX12_numberAt, 3, (some .long)) := rfl
noncomputable def cu_2684 : List CUT2 := []
theorem ch_2684 : staG tb_X12_numberAt 1 bt_RX12 [] ct_2 [] [] cu_2684 11 con_2684 = true := by decide +kernel
theorem vl_2684 (l : Launch) : Vld2 l vwCl gTbl con_2684 := conR_ok3 gT_all (hd_2684) rfl pn_RX12 tk_X12_numberAt bo_RX12 xo_RX12 (cto_2 l) ch_2684 cut_nil
/-- RookHustingModel isSeen -/
noncomputable def gi_2440 : GI := jl_n [jl_z 47, gp_613]
noncomputable def ac_1356 : AC := .inr (2, jl_n [js_4 111 60, js_5 180 9223372036854775807 9223372036854775807])
noncomputable def hc_224 : List AC := [ac_1162, ac_1163, ac_1356, am_0]
noncomputable def gi_2441 : GI := jl_n [jl_z 47, gp_613, jl_z 1]
noncomputable def hq_936 : HP := [(false, ac_1162), (false, ac_1163), (false, ac_1356), (false, am_0)]
noncomputable def con_2685 : Con2 := ((yX12_isSeen, cX12_isSeen, 3, (some .boolean)), (1, 22), ([(6, 0, 0), (0, 0, 0)], gi_2440, hc_224, []), [((0, 0, 0), gi_2441, hq_936, [], [1]), ((0, 1, 0), gi_2441, hq_936, [], [1])])
theorem hd_2685 : con_2685.1 = (yX12_isSeen, cX12_isSeen, 3, (some .boolean)) := rfl
theorem ck_RX12_417_2678 : COK2 RX12 vwCl gTbl 417 0 con_2678 := ⟨wd_2061, wd_137, mh_X12_numberAt, .inr (.inr ⟨rfl, wd_2058, wd_2060, wd_114, ⟨_, rfl, pd_X12_numberAt⟩, 12, _, TX12, 45, rfl, rfl⟩)⟩
theorem ck_RX12_417_2681 : COK2 RX12 vwCl gTbl 417 0 con_2681 := ⟨wd_2061, wd_137, mh_X12_numberAt, .inr (.inr ⟨rfl, wd_2058, wd_2060, wd_114, ⟨_, rfl, pd_X12_numberAt⟩, 12, _, TX12, 45, rfl, rfl⟩)⟩
theorem ck_RX12_417_2684 : COK2 RX12 vwCl gTbl 417 0 con_2684 := ⟨wd_2061, wd_137, mh_X12_numberAt, .inr (.inr ⟨rfl, wd_2058, wd_2060, wd_114, ⟨_, rfl, pd_X12_numberAt⟩, 12, _, TX12, 45, rfl, rfl⟩)⟩
theorem ck_RX12_417_2677 : COK2 RX12 vwCl gTbl 417 0 con_2677 := ⟨wd_2061, wd_137, mh_X12_numberAt, .inr (.inr ⟨rfl, wd_2058, wd_2060, wd_114, ⟨_, rfl, pd_X12_numberAt⟩, 12, _, TX12, 45, rfl, rfl⟩)⟩
theorem ck_RX12_417_2680 : COK2 RX12 vwCl gTbl 417 0 con_2680 := ⟨wd_2061, wd_137, mh_X12_numberAt, .inr (.inr ⟨rfl, wd_2058, wd_2060, wd_114, ⟨_, rfl, pd_X12_numberAt⟩, 12, _, TX12, 45, rfl, rfl⟩)⟩
theorem ck_RX12_417_2683 : COK2 RX12 vwCl gTbl 417 0 con_2683 := ⟨wd_2061, wd_137, mh_X12_numberAt, .inr (.inr ⟨rfl, wd_2058, wd_2060, wd_114, ⟨_, rfl, pd_X12_numberAt⟩, 12, _, TX12, 45, rfl, rfl⟩)⟩
theorem ck_RX12_417_2676 : COK2 RX12 vwCl gTbl 417 0 con_2676 := ⟨wd_2061, wd_137, mh_X12_numberAt, .inr (.inr ⟨rfl, wd_2058, wd_2060, wd_114, ⟨_, rfl, pd_X12_numberAt⟩, 12, _, TX12, 45, rfl, rfl⟩)⟩
theorem ck_RX12_417_2679 : COK2 RX12 vwCl gTbl 417 0 con_2679 := ⟨wd_2061, wd_137, mh_X12_numberAt, .inr (.inr ⟨rfl, wd_2058, wd_2060, wd_114, ⟨_, rfl, pd_X12_numberAt⟩, 12, _, TX12, 45, rfl, rfl⟩)⟩
theorem ck_RX12_417_2682 : COK2 RX12 vwCl gTbl 417 0 con_2682 := ⟨wd_2061, wd_137, mh_X12_numberAt, .inr (.inr ⟨rfl, wd_2058, wd_2060, wd_114, ⟨_, rfl, pd_X12_numberAt⟩, 12, _, TX12, 45, rfl, rfl⟩)⟩
noncomputable def ct_2685 : CTB2 := [(22, 417, 0, con_2682, [0, 2]), (22, 417, 0, con_2679, [0, 2]), (22, 417, 0, con_2676, [0, 2]), (30, 417, 0, con_2683, [0, 2]), (30, 417, 0, con_2680, [0, 2]), (30, 417, 0, con_2677, [0, 2]), (42, 417, 0, con_2684, [0, 2]), (42, 417, 0, con_2681, [0, 2]), (42, 417, 0, con_2678, [0, 2])]
noncomputable def gi_2442 : GI := jl_n [jl_z 47, gp_613, jl_z 3]
noncomputable def cu_2685 : List CUT2 := [((2, [lq 0 6 0, lq 1 0 0, lq 2 0 0], [], gi_2442, hq_936), [], ([], 9)), ((2, [lq 0 6 0, lq 1 0 0, lq 2 0 3], [], gi_2442, hq_936), [], ([], 6)), ((2, [lq 0 6 0, lq 1 0 0, lq 2 0 6], [], gi_2442, hq_936), [], ([], 3)), ((2, [lq 0 6 0, lq 1 0 0, lq 2 0 9], [], gi_2442, hq_936), [], ([], 0))]
theorem ch_2685 : staG tb_X12_isSeen 1 bt_RX12 [] ct_2685 [] [] cu_2685 37 con_2685 = true := by decide +kernel
theorem cc_2685 : cu_2685.all (cutG tb_X12_isSeen 1 bt_RX12 [] ct_2685 [] [] cu_2685 37 con_2685) = true := by decide +kernel
theorem cto_2685 (l : Launch) : CTOK2 l RX12 vwCl gTbl ct_2685 := ct2_cons (vl_2682 l) ck_RX12_417_2682 (ct2_cons (vl_2679 l) ck_RX12_417_2679 (ct2_cons (vl_2676 l) ck_RX12_417_2676 (ct2_cons (vl_2683 l) ck_RX12_417_2683 (ct2_cons (vl_2680 l) ck_RX12_417_2680 (ct2_cons (vl_2677 l) ck_RX12_417_2677 (ct2_cons (vl_2684 l) ck_RX12_417_2684 (ct2_cons (vl_2681 l) ck_RX12_417_2681 (ct2_cons (vl_2678 l) ck_RX12_417_2678 (ct2_nil)))))))))
theorem vl_2685 (l : Launch) : Vld2 l vwCl gTbl con_2685 := conR_ok3 gT_all (hd_2685) rfl pn_RX12 tk_X12_isSeen bo_RX12 xo_RX12 (cto_2685 l) ch_2685 (cut_all cc_2685)
/-- RookHustingModel numberAt -/
noncomputable def con_2686 : Con2 := ((yX12_numberAt, cX12_numberAt, 3, (some .long)), (0, 0), ([(6, 0, 0), (0, 0, 0), (0, 10, 0)], gi_1850, [ac_1100, ac_1305], []), [((4, 48, 0), gi_1851, [(false, ac_1100), (false, ac_1305)], [], [1])])
theorem hd_2686 : con_2686.1 = (yX12_numberAt, cX12_numberAt, 3, (some .long)) := rfl
noncomputable def cu_2686 : List CUT2 := []
theorem ch_2686 : staG tb_X12_numberAt 1 bt_RX12 [] ct_2 [] [] cu_2686 11 con_2686 = true := by decide +kernel
theorem vl_2686 (l : Launch) : Vld2 l vwCl gTbl con_2686 := conR_ok3 gT_all (hd_2686) rfl pn_RX12 tk_X12_numberAt bo_RX12 xo_RX12 (cto_2 l) ch_2686 cut_nil
/-- RookHustingModel numberAt -/
noncomputable def con_2687 : Con2 := ((yX12_numberAt, cX12_numberAt, 3, (some .long)), (0, 0), ([(6, 0, 0), (0, 0, 0), (0, 9, 0)], gi_1852, [ac_1100, ac_1304], []), [((4, 48, 0), gi_1853, [(false, ac_1100), (false, ac_1304)], [], [1])])
theorem hd_2687 : con_2687.1 = (yX12_numberAt, cX12_numberAt, 3, (some .long)) := rfl
noncomputable def cu_2687 : List CUT2 := []
theorem ch_2687 : staG tb_X12_numberAt 1 bt_RX12 [] ct_2 [] [] cu_2687 11 con_2687 = true := by decide +kernel
theorem vl_2687 (l : Launch) : Vld2 l vwCl gTbl con_2687 := conR_ok3 gT_all (hd_2687) rfl pn_RX12 tk_X12_numberAt bo_RX12 xo_RX12 (cto_2 l) ch_2687 cut_nil
/-- RookHustingModel numberAt -/
noncomputable def con_2688 : Con2 := ((yX12_numberAt, cX12_numberAt, 3, (some .long)), (0, 0), ([(6, 0, 0), (0, 0, 0), (0, 11, 0)], gi_1854, [ac_1100, ac_1306], []), [((4, 48, 0), gi_1855, [(false, ac_1100), (false, ac_1306)], [], [1])])
theorem hd_2688 : con_2688.1 = (yX12_numberAt, cX12_numberAt, 3, (some .long)) := rfl
noncomputable def cu_2688 : List CUT2 := []
theorem ch_2688 : staG tb_X12_numberAt 1 bt_RX12 [] ct_2 [] [] cu_2688 11 con_2688 = true := by decide +kernel
theorem vl_2688 (l : Launch) : Vld2 l vwCl gTbl con_2688 := conR_ok3 gT_all (hd_2688) rfl pn_RX12 tk_X12_numberAt bo_RX12 xo_RX12 (cto_2 l) ch_2688 cut_nil
/-- RookHustingModel numberAt -/
noncomputable def con_2689 : Con2 := ((yX12_numberAt, cX12_numberAt, 3, (some .long)), (0, 0), ([(6, 0, 0), (0, 0, 0), (0, 13, 0)], gi_1850, [ac_1100, ac_1308], []), [((4, 48, 0), gi_1851, [(false, ac_1100), (false, ac_1308)], [], [1])])
theorem hd_2689 : con_2689.1 = (yX12_numberAt, cX12_numberAt, 3, (some .long)) := rfl
noncomputable def cu_2689 : List CUT2 := []
theorem ch_2689 : staG tb_X12_numberAt 1 bt_RX12 [] ct_2 [] [] cu_2689 11 con_2689 = true := by decide +kernel
theorem vl_2689 (l : Launch) : Vld2 l vwCl gTbl con_2689 := conR_ok3 gT_all (hd_2689) rfl pn_RX12 tk_X12_numberAt bo_RX12 xo_RX12 (cto_2 l) ch_2689 cut_nil
/-- RookHustingModel numberAt -/
noncomputable def con_2690 : Con2 := ((yX12_numberAt, cX12_numberAt, 3, (some .long)), (0, 0), ([(6, 0, 0), (0, 0, 0), (0, 12, 0)], gi_1852, [ac_1100, ac_1307], []), [((4, 48, 0), gi_1853, [(false, ac_1100), (false, ac_1307)], [], [1])])
theorem hd_2690 : con_2690.1 = (yX12_numberAt, cX12_numberAt, 3, (some .long)) := rfl
noncomputable def cu_2690 : List CUT2 := []
theorem ch_2690 : staG tb_X12_numberAt 1 bt_RX12 [] ct_2 [] [] cu_2690 11 con_2690 = true := by decide +kernel
theorem vl_2690 (l : Launch) : Vld2 l vwCl gTbl con_2690 := conR_ok3 gT_all (hd_2690) rfl pn_RX12 tk_X12_numberAt bo_RX12 xo_RX12 (cto_2 l) ch_2690 cut_nil
/-- RookHustingModel numberAt -/
noncomputable def con_2691 : Con2 := ((yX12_numberAt, cX12_numberAt, 3, (some .long)), (0, 0), ([(6, 0, 0), (0, 0, 0), (0, 14, 0)], gi_1854, [ac_1100, ac_1309], []), [((4, 48, 0), gi_1855, [(false, ac_1100), (false, ac_1309)], [], [1])])
theorem hd_2691 : con_2691.1 = (yX12_numberAt, cX12_numberAt, 3, (some .long)) := rfl
noncomputable def cu_2691 : List CUT2 := []
theorem ch_2691 : staG tb_X12_numberAt 1 bt_RX12 [] ct_2 [] [] cu_2691 11 con_2691 = true := by decide +kernel
theorem vl_2691 (l : Launch) : Vld2 l vwCl gTbl con_2691 := conR_ok3 gT_all (hd_2691) rfl pn_RX12 tk_X12_numberAt bo_RX12 xo_RX12 (cto_2 l) ch_2691 cut_nil
/-- RookHustingModel numberAt -/
noncomputable def con_2692 : Con2 := ((yX12_numberAt, cX12_numberAt, 3, (some .long)), (0, 0), ([(6, 0, 0), (0, 0, 0), (0, 16, 0)], gi_1850, [ac_1100, ac_1311], []), [((4, 48, 0), gi_1851, [(false, ac_1100), (false, ac_1311)], [], [1])])
theorem hd_2692 : con_2692.1 = (yX12_numberAt, cX12_numberAt, 3, (some .long)) := rfl
noncomputable def cu_2692 : List CUT2 := []
theorem ch_2692 : staG tb_X12_numberAt 1 bt_RX12 [] ct_2 [] [] cu_2692 11 con_2692 = true := by decide +kernel
theorem vl_2692 (l : Launch) : Vld2 l vwCl gTbl con_2692 := conR_ok3 gT_all (hd_2692) rfl pn_RX12 tk_X12_numberAt bo_RX12 xo_RX12 (cto_2 l) ch_2692 cut_nil
/-- RookHustingModel numberAt -/
noncomputable def con_2693 : Con2 := ((yX12_numberAt, cX12_numberAt, 3, (some .long)), (0, 0), ([(6, 0, 0), (0, 0, 0), (0, 15, 0)], gi_1852, [ac_1100, ac_1310], []), [((4, 48, 0), gi_1853, [(false, ac_1100), (false, ac_1310)], [], [1])])
theorem hd_2693 : con_2693.1 = (yX12_numberAt, cX12_numberAt, 3, (some .long)) := rfl
noncomputable def cu_2693 : List CUT2 := []
theorem ch_2693 : staG tb_X12_numberAt 1 bt_RX12 [] ct_2 [] [] cu_2693 11 con_2693 = true := by decide +kernel
theorem vl_2693 (l : Launch) : Vld2 l vwCl gTbl con_2693 := conR_ok3 gT_all (hd_2693) rfl pn_RX12 tk_X12_numberAt bo_RX12 xo_RX12 (cto_2 l) ch_2693 cut_nil
/-- RookHustingModel numberAt -/
noncomputable def con_2694 : Con2 := ((yX12_numberAt, cX12_numberAt, 3, (some .long)), (0, 0), ([(6, 0, 0), (0, 0, 0), (0, 17, 0)], gi_1854, [ac_1100, ac_1312], []), [((4, 48, 0), gi_1855, [(false, ac_1100), (false, ac_1312)], [], [1])])
theorem hd_2694 : con_2694.1 = (yX12_numberAt, cX12_numberAt, 3, (some .long)) := rfl
noncomputable def cu_2694 : List CUT2 := []
theorem ch_2694 : staG tb_X12_numberAt 1 bt_RX12 [] ct_2 [] [] cu_2694 11 con_2694 = true := by decide +kernel
theorem vl_2694 (l : Launch) : Vld2 l vwCl gTbl con_2694 := conR_ok3 gT_all (hd_2694) rfl pn_RX12 tk_X12_numberAt bo_RX12 xo_RX12 (cto_2 l) ch_2694 cut_nil
/-- RookHustingModel numberAt -/
noncomputable def con_2695 : Con2 := ((yX12_numberAt, cX12_numberAt, 3, (some .long)), (0, 0), ([(6, 0, 0), (0, 0, 0), (0, 19, 0)], gi_1850, [ac_1100, ac_1314], []), [((4, 48, 0), gi_1851, [(false, ac_1100), (false, ac_1314)], [], [1])])
theorem hd_2695 : con_2695.1 = (yX12_numberAt, cX12_numberAt, 3, (some .long)) := rfl
noncomputable def cu_2695 : List CUT2 := []
theorem ch_2695 : staG tb_X12_numberAt 1 bt_RX12 [] ct_2 [] [] cu_2695 11 con_2695 = true := by decide +kernel
theorem vl_2695 (l : Launch) : Vld2 l vwCl gTbl con_2695 := conR_ok3 gT_all (hd_2695) rfl pn_RX12 tk_X12_numberAt bo_RX12 xo_RX12 (cto_2 l) ch_2695 cut_nil
/-- RookHustingModel numberAt -/
noncomputable def con_2696 : Con2 := ((yX12_numberAt, cX12_numberAt, 3, (some .long)), (0, 0), ([(6, 0, 0), (0, 0, 0), (0, 18, 0)], gi_1852, [ac_1100, ac_1313], []), [((4, 48, 0), gi_1853, [(false, ac_1100), (false, ac_1313)], [], [1])])
theorem hd_2696 : con_2696.1 = (yX12_numberAt, cX12_numberAt, 3, (some .long)) := rfl
noncomputable def cu_2696 : List CUT2 := []
theorem ch_2696 : staG tb_X12_numberAt 1 bt_RX12 [] ct_2 [] [] cu_2696 11 con_2696 = true := by decide +kernel
theorem vl_2696 (l : Launch) : Vld2 l vwCl gTbl con_2696 := conR_ok3 gT_all (hd_2696) rfl pn_RX12 tk_X12_numberAt bo_RX12 xo_RX12 (cto_2 l) ch_2696 cut_nil
/-- RookHustingModel numberAt -/
noncomputable def con_2697 : Con2 := ((yX12_numberAt, cX12_numberAt, 3, (some .long)), (0, 0), ([(6, 0, 0), (0, 0, 0), (0, 20, 0)], gi_1854, [ac_1100, ac_1315], []), [((4, 48, 0), gi_1855, [(false, ac_1100), (false, ac_1315)], [], [1])])
theorem hd_2697 : con_2697.1 = (yX12_numberAt, cX12_numberAt, 3, (some .long)) := rfl
noncomputable def cu_2697 : List CUT2 := []
theorem ch_2697 : staG tb_X12_numberAt 1 bt_RX12 [] ct_2 [] [] cu_2697 11 con_2697 = true := by decide +kernel
theorem vl_2697 (l : Launch) : Vld2 l vwCl gTbl con_2697 := conR_ok3 gT_all (hd_2697) rfl pn_RX12 tk_X12_numberAt bo_RX12 xo_RX12 (cto_2 l) ch_2697 cut_nil
/-- RookHustingModel numberAt -/
noncomputable def con_2698 : Con2 := ((yX12_numberAt, cX12_numberAt, 3, (some .long)), (0, 0), ([(6, 0, 0), (0, 0, 0), (0, 22, 0)], gi_1850, [ac_1100, ac_1317], []), [((4, 48, 0), gi_1851, [(false, ac_1100), (false, ac_1317)], [], [1])])
theorem hd_2698 : con_2698.1 = (yX12_numberAt, cX12_numberAt, 3, (some .long)) := rfl
noncomputable def cu_2698 : List CUT2 := []
theorem ch_2698 : staG tb_X12_numberAt 1 bt_RX12 [] ct_2 [] [] cu_2698 11 con_2698 = true := by decide +kernel
theorem vl_2698 (l : Launch) : Vld2 l vwCl gTbl con_2698 := conR_ok3 gT_all (hd_2698) rfl pn_RX12 tk_X12_numberAt bo_RX12 xo_RX12 (cto_2 l) ch_2698 cut_nil
/-- RookHustingModel numberAt -/
noncomputable def con_2699 : Con2 := ((yX12_numberAt, cX12_numberAt, 3, (some .long)), (0, 0), ([(6, 0, 0), (0, 0, 0), (0, 21, 0)], gi_1852, [ac_1100, ac_1316], []), [((4, 48, 0), gi_1853, [(false, ac_1100), (false, ac_1316)], [], [1])])
theorem hd_2699 : con_2699.1 = (yX12_numberAt, cX12_numberAt, 3, (some .long)) := rfl
noncomputable def cu_2699 : List CUT2 := []
theorem ch_2699 : staG tb_X12_numberAt 1 bt_RX12 [] ct_2 [] [] cu_2699 11 con_2699 = true := by decide +kernel
theorem vl_2699 (l : Launch) : Vld2 l vwCl gTbl con_2699 := conR_ok3 gT_all (hd_2699) rfl pn_RX12 tk_X12_numberAt bo_RX12 xo_RX12 (cto_2 l) ch_2699 cut_nil
/-- RookHustingModel numberAt -/
noncomputable def con_2700 : Con2 := ((yX12_numberAt, cX12_numberAt, 3, (some .long)), (0, 0), ([(6, 0, 0), (0, 0, 0), (0, 23, 0)], gi_1854, [ac_1100, ac_1318], []), [((4, 48, 0), gi_1855, [(false, ac_1100), (false, ac_1318)], [], [1])])
theorem hd_2700 : con_2700.1 = (yX12_numberAt, cX12_numberAt, 3, (some .long)) := rfl
noncomputable def cu_2700 : List CUT2 := []
theorem ch_2700 : staG tb_X12_numberAt 1 bt_RX12 [] ct_2 [] [] cu_2700 11 con_2700 = true := by decide +kernel
theorem vl_2700 (l : Launch) : Vld2 l vwCl gTbl con_2700 := conR_ok3 gT_all (hd_2700) rfl pn_RX12 tk_X12_numberAt bo_RX12 xo_RX12 (cto_2 l) ch_2700 cut_nil
/-- RookHustingModel numberAt -/
noncomputable def con_2701 : Con2 := ((yX12_numberAt, cX12_numberAt, 3, (some .long)), (0, 0), ([(6, 0, 0), (0, 0, 0), (0, 25, 0)], gi_1850, [ac_1100, ac_1320], []), [((4, 48, 0), gi_1851, [(false, ac_1100), (false, ac_1320)], [], [1])])
theorem hd_2701 : con_2701.1 = (yX12_numberAt, cX12_numberAt, 3, (some .long)) := rfl
noncomputable def cu_2701 : List CUT2 := []
theorem ch_2701 : staG tb_X12_numberAt 1 bt_RX12 [] ct_2 [] [] cu_2701 11 con_2701 = true := by decide +kernel
theorem vl_2701 (l : Launch) : Vld2 l vwCl gTbl con_2701 := conR_ok3 gT_all (hd_2701) rfl pn_RX12 tk_X12_numberAt bo_RX12 xo_RX12 (cto_2 l) ch_2701 cut_nil
/-- RookHustingModel numberAt -/
noncomputable def con_2702 : Con2 := ((yX12_numberAt, cX12_numberAt, 3, (some .long)), (0, 0), ([(6, 0, 0), (0, 0, 0), (0, 24, 0)], gi_1852, [ac_1100, ac_1319], []), [((4, 48, 0), gi_1853, [(false, ac_1100), (false, ac_1319)], [], [1])])
theorem hd_2702 : con_2702.1 = (yX12_numberAt, cX12_numberAt, 3, (some .long)) := rfl
noncomputable def cu_2702 : List CUT2 := []
theorem ch_2702 : staG tb_X12_numberAt 1 bt_RX12 [] ct_2 [] [] cu_2702 11 con_2702 = true := by decide +kernel
theorem vl_2702 (l : Launch) : Vld2 l vwCl gTbl con_2702 := conR_ok3 gT_all (hd_2702) rfl pn_RX12 tk_X12_numberAt bo_RX12 xo_RX12 (cto_2 l) ch_2702 cut_nil
/-- RookHustingModel numberAt -/
noncomputable def con_2703 : Con2 := ((yX12_numberAt, cX12_numberAt, 3, (some .long)), (0, 0), ([(6, 0, 0), (0, 0, 0), (0, 26, 0)], gi_1854, [ac_1100, ac_1321], []), [((4, 48, 0), gi_1855, [(false, ac_1100), (false, ac_1321)], [], [1])])
theorem hd_2703 : con_2703.1 = (yX12_numberAt, cX12_numberAt, 3, (some .long)) := rfl
noncomputable def cu_2703 : List CUT2 := []
theorem ch_2703 : staG tb_X12_numberAt 1 bt_RX12 [] ct_2 [] [] cu_2703 11 con_2703 = true := by decide +kernel
theorem vl_2703 (l : Launch) : Vld2 l vwCl gTbl con_2703 := conR_ok3 gT_all (hd_2703) rfl pn_RX12 tk_X12_numberAt bo_RX12 xo_RX12 (cto_2 l) ch_2703 cut_nil
/-- RookHustingModel numberAt -/
noncomputable def con_2704 : Con2 := ((yX12_numberAt, cX12_numberAt, 3, (some .long)), (0, 0), ([(6, 0, 0), (0, 0, 0), (0, 28, 0)], gi_1850, [ac_1100, ac_1323], []), [((4, 48, 0), gi_1851, [(false, ac_1100), (false, ac_1323)], [], [1])])
theorem hd_2704 : con_2704.1 = (yX12_numberAt, cX12_numberAt, 3, (some .long)) := rfl
noncomputable def cu_2704 : List CUT2 := []
theorem ch_2704 : staG tb_X12_numberAt 1 bt_RX12 [] ct_2 [] [] cu_2704 11 con_2704 = true := by decide +kernel
theorem vl_2704 (l : Launch) : Vld2 l vwCl gTbl con_2704 := conR_ok3 gT_all (hd_2704) rfl pn_RX12 tk_X12_numberAt bo_RX12 xo_RX12 (cto_2 l) ch_2704 cut_nil
/-- RookHustingModel numberAt -/
noncomputable def con_2705 : Con2 := ((yX12_numberAt, cX12_numberAt, 3, (some .long)), (0, 0), ([(6, 0, 0), (0, 0, 0), (0, 27, 0)], gi_1852, [ac_1100, ac_1322], []), [((4, 48, 0), gi_1853, [(false, ac_1100), (false, ac_1322)], [], [1])])
theorem hd_2705 : con_2705.1 = (yX12_numberAt, cX12_numberAt, 3, (some .long)) := rfl
noncomputable def cu_2705 : List CUT2 := []
theorem ch_2705 : staG tb_X12_numberAt 1 bt_RX12 [] ct_2 [] [] cu_2705 11 con_2705 = true := by decide +kernel
theorem vl_2705 (l : Launch) : Vld2 l vwCl gTbl con_2705 := conR_ok3 gT_all (hd_2705) rfl pn_RX12 tk_X12_numberAt bo_RX12 xo_RX12 (cto_2 l) ch_2705 cut_nil
/-- RookHustingModel numberAt -/
noncomputable def con_2706 : Con2 := ((yX12_numberAt, cX12_numberAt, 3, (some .long)), (0, 0), ([(6, 0, 0), (0, 0, 0), (0, 29, 0)], gi_1854, [ac_1100, ac_1324], []), [((4, 48, 0), gi_1855, [(false, ac_1100), (false, ac_1324)], [], [1])])
theorem hd_2706 : con_2706.1 = (yX12_numberAt, cX12_numberAt, 3, (some .long)) := rfl
noncomputable def cu_2706 : List CUT2 := []
theorem ch_2706 : staG tb_X12_numberAt 1 bt_RX12 [] ct_2 [] [] cu_2706 11 con_2706 = true := by decide +kernel
theorem vl_2706 (l : Launch) : Vld2 l vwCl gTbl con_2706 := conR_ok3 gT_all (hd_2706) rfl pn_RX12 tk_X12_numberAt bo_RX12 xo_RX12 (cto_2 l) ch_2706 cut_nil
/-- RookHustingModel numberAt -/
noncomputable def con_2707 : Con2 := ((yX12_numberAt, cX12_numberAt, 3, (some .long)), (0, 0), ([(6, 0, 0), (0, 0, 0), (0, 31, 0)], gi_1850, [ac_1100, ac_1326], []), [((4, 48, 0), gi_1851, [(false, ac_1100), (false, ac_1326)], [], [1])])
theorem hd_2707 : con_2707.1 = (yX12_numberAt, cX12_numberAt, 3, (some .long)) := rfl
noncomputable def cu_2707 : List CUT2 := []
theorem ch_2707 : staG tb_X12_numberAt 1 bt_RX12 [] ct_2 [] [] cu_2707 11 con_2707 = true := by decide +kernel
theorem vl_2707 (l : Launch) : Vld2 l vwCl gTbl con_2707 := conR_ok3 gT_all (hd_2707) rfl pn_RX12 tk_X12_numberAt bo_RX12 xo_RX12 (cto_2 l) ch_2707 cut_nil
/-- RookHustingModel numberAt -/
noncomputable def con_2708 : Con2 := ((yX12_numberAt, cX12_numberAt, 3, (some .long)), (0, 0), ([(6, 0, 0), (0, 0, 0), (0, 30, 0)], gi_1852, [ac_1100, ac_1325], []), [((4, 48, 0), gi_1853, [(false, ac_1100), (false, ac_1325)], [], [1])])
theorem hd_2708 : con_2708.1 = (yX12_numberAt, cX12_numberAt, 3, (some .long)) := rfl
noncomputable def cu_2708 : List CUT2 := []
theorem ch_2708 : staG tb_X12_numberAt 1 bt_RX12 [] ct_2 [] [] cu_2708 11 con_2708 = true := by decide +kernel
theorem vl_2708 (l : Launch) : Vld2 l vwCl gTbl con_2708 := conR_ok3 gT_all (hd_2708) rfl pn_RX12 tk_X12_numberAt bo_RX12 xo_RX12 (cto_2 l) ch_2708 cut_nil
/-- RookHustingModel numberAt -/
noncomputable def con_2709 : Con2 := ((yX12_numberAt, cX12_numberAt, 3, (some .long)), (0, 0), ([(6, 0, 0), (0, 0, 0), (0, 32, 0)], gi_1854, [ac_1100, ac_1327], []), [((4, 48, 0), gi_1855, [(false, ac_1100), (false, ac_1327)], [], [1])])
theorem hd_2709 : con_2709.1 = (yX12_numberAt, cX12_numberAt, 3, (some .long)) := rfl
noncomputable def cu_2709 : List CUT2 := []
theorem ch_2709 : staG tb_X12_numberAt 1 bt_RX12 [] ct_2 [] [] cu_2709 11 con_2709 = true := by decide +kernel
theorem vl_2709 (l : Launch) : Vld2 l vwCl gTbl con_2709 := conR_ok3 gT_all (hd_2709) rfl pn_RX12 tk_X12_numberAt bo_RX12 xo_RX12 (cto_2 l) ch_2709 cut_nil
/-- RookHustingModel numberAt -/
noncomputable def con_2710 : Con2 := ((yX12_numberAt, cX12_numberAt, 3, (some .long)), (0, 0), ([(6, 0, 0), (0, 0, 0), (0, 34, 0)], gi_1850, [ac_1100, ac_1329], []), [((4, 48, 0), gi_1851, [(false, ac_1100), (false, ac_1329)], [], [1])])
theorem hd_2710 : con_2710.1 = (yX12_numberAt, cX12_numberAt, 3, (some .long)) := rfl
noncomputable def cu_2710 : List CUT2 := []
theorem ch_2710 : staG tb_X12_numberAt 1 bt_RX12 [] ct_2 [] [] cu_2710 11 con_2710 = true := by decide +kernel
theorem vl_2710 (l : Launch) : Vld2 l vwCl gTbl con_2710 := conR_ok3 gT_all (hd_2710) rfl pn_RX12 tk_X12_numberAt bo_RX12 xo_RX12 (cto_2 l) ch_2710 cut_nil
/-- RookHustingModel numberAt -/
noncomputable def con_2711 : Con2 := ((yX12_numberAt, cX12_numberAt, 3, (some .long)), (0, 0), ([(6, 0, 0), (0, 0, 0), (0, 33, 0)], gi_1852, [ac_1100, ac_1328], []), [((4, 48, 0), gi_1853, [(false, ac_1100), (false, ac_1328)], [], [1])])
theorem hd_2711 : con_2711.1 = (yX12_numberAt, cX12_numberAt, 3, (some .long)) := rfl
noncomputable def cu_2711 : List CUT2 := []
theorem ch_2711 : staG tb_X12_numberAt 1 bt_RX12 [] ct_2 [] [] cu_2711 11 con_2711 = true := by decide +kernel
theorem vl_2711 (l : Launch) : Vld2 l vwCl gTbl con_2711 := conR_ok3 gT_all (hd_2711) rfl pn_RX12 tk_X12_numberAt bo_RX12 xo_RX12 (cto_2 l) ch_2711 cut_nil
/-- RookHustingModel numberAt -/
noncomputable def con_2712 : Con2 := ((yX12_numberAt, cX12_numberAt, 3, (some .long)), (0, 0), ([(6, 0, 0), (0, 0, 0), (0, 35, 0)], gi_1854, [ac_1100, ac_1330], []), [((4, 48, 0), gi_1855, [(false, ac_1100), (false, ac_1330)], [], [1])])
theorem hd_2712 : con_2712.1 = (yX12_numberAt, cX12_numberAt, 3, (some .long)) := rfl
noncomputable def cu_2712 : List CUT2 := []
theorem ch_2712 : staG tb_X12_numberAt 1 bt_RX12 [] ct_2 [] [] cu_2712 11 con_2712 = true := by decide +kernel
theorem vl_2712 (l : Launch) : Vld2 l vwCl gTbl con_2712 := conR_ok3 gT_all (hd_2712) rfl pn_RX12 tk_X12_numberAt bo_RX12 xo_RX12 (cto_2 l) ch_2712 cut_nil
/-- RookHustingModel numberAt -/
noncomputable def con_2713 : Con2 := ((yX12_numberAt, cX12_numberAt, 3, (some .long)), (0, 0), ([(6, 0, 0), (0, 0, 0), (0, 37, 0)], gi_1850, [ac_1100, ac_1332], []), [((4, 48, 0), gi_1851, [(false, ac_1100), (false, ac_1332)], [], [1])])
theorem hd_2713 : con_2713.1 = (yX12_numberAt, cX12_numberAt, 3, (some .long)) := rfl
noncomputable def cu_2713 : List CUT2 := []
theorem ch_2713 : staG tb_X12_numberAt 1 bt_RX12 [] ct_2 [] [] cu_2713 11 con_2713 = true := by decide +kernel
theorem vl_2713 (l : Launch) : Vld2 l vwCl gTbl con_2713 := conR_ok3 gT_all (hd_2713) rfl pn_RX12 tk_X12_numberAt bo_RX12 xo_RX12 (cto_2 l) ch_2713 cut_nil
/-- RookHustingModel numberAt -/
noncomputable def con_2714 : Con2 := ((yX12_numberAt, cX12_numberAt, 3, (some .long)), (0, 0), ([(6, 0, 0), (0, 0, 0), (0, 36, 0)], gi_1852, [ac_1100, ac_1331], []), [((4, 48, 0), gi_1853, [(false, ac_1100), (false, ac_1331)], [], [1])])
theorem hd_2714 : con_2714.1 = (yX12_numberAt, cX12_numberAt, 3, (some .long)) := rfl
noncomputable def cu_2714 : List CUT2 := []
theorem ch_2714 : staG tb_X12_numberAt 1 bt_RX12 [] ct_2 [] [] cu_2714 11 con_2714 = true := by decide +kernel
theorem vl_2714 (l : Launch) : Vld2 l vwCl gTbl con_2714 := conR_ok3 gT_all (hd_2714) rfl pn_RX12 tk_X12_numberAt bo_RX12 xo_RX12 (cto_2 l) ch_2714 cut_nil
/-- RookHustingModel numberAt -/
noncomputable def con_2715 : Con2 := ((yX12_numberAt, cX12_numberAt, 3, (some .long)), (0, 0), ([(6, 0, 0), (0, 0, 0), (0, 38, 0)], gi_1854, [ac_1100, ac_1333], []), [((4, 48, 0), gi_1855, [(false, ac_1100), (false, ac_1333)], [], [1])])
theorem hd_2715 : con_2715.1 = (yX12_numberAt, cX12_numberAt, 3, (some .long)) := rfl
noncomputable def cu_2715 : List CUT2 := []
theorem ch_2715 : staG tb_X12_numberAt 1 bt_RX12 [] ct_2 [] [] cu_2715 11 con_2715 = true := by decide +kernel
theorem vl_2715 (l : Launch) : Vld2 l vwCl gTbl con_2715 := conR_ok3 gT_all (hd_2715) rfl pn_RX12 tk_X12_numberAt bo_RX12 xo_RX12 (cto_2 l) ch_2715 cut_nil
/-- RookHustingModel numberAt -/
noncomputable def con_2716 : Con2 := ((yX12_numberAt, cX12_numberAt, 3, (some .long)), (0, 0), ([(6, 0, 0), (0, 0, 0), (0, 40, 0)], gi_1850, [ac_1100, ac_1335], []), [((4, 48, 0), gi_1851, [(false, ac_1100), (false, ac_1335)], [], [1])])
theorem hd_2716 : con_2716.1 = (yX12_numberAt, cX12_numberAt, 3, (some .long)) := rfl
noncomputable def cu_2716 : List CUT2 := []
theorem ch_2716 : staG tb_X12_numberAt 1 bt_RX12 [] ct_2 [] [] cu_2716 11 con_2716 = true := by decide +kernel
theorem vl_2716 (l : Launch) : Vld2 l vwCl gTbl con_2716 := conR_ok3 gT_all (hd_2716) rfl pn_RX12 tk_X12_numberAt bo_RX12 xo_RX12 (cto_2 l) ch_2716 cut_nil
/-- RookHustingModel numberAt -/
noncomputable def con_2717 : Con2 := ((yX12_numberAt, cX12_numberAt, 3, (some .long)), (0, 0), ([(6, 0, 0), (0, 0, 0), (0, 39, 0)], gi_1852, [ac_1100, ac_1334], []), [((4, 48, 0), gi_1853, [(false, ac_1100), (false, ac_1334)], [], [1])])
theorem hd_2717 : con_2717.1 = (yX12_numberAt, cX12_numberAt, 3, (some .long)) := rfl
noncomputable def cu_2717 : List CUT2 := []
theorem ch_2717 : staG tb_X12_numberAt 1 bt_RX12 [] ct_2 [] [] cu_2717 11 con_2717 = true := by decide +kernel
theorem vl_2717 (l : Launch) : Vld2 l vwCl gTbl con_2717 := conR_ok3 gT_all (hd_2717) rfl pn_RX12 tk_X12_numberAt bo_RX12 xo_RX12 (cto_2 l) ch_2717 cut_nil
/-- RookHustingModel numberAt -/
noncomputable def con_2718 : Con2 := ((yX12_numberAt, cX12_numberAt, 3, (some .long)), (0, 0), ([(6, 0, 0), (0, 0, 0), (0, 41, 0)], gi_1854, [ac_1100, ac_1336], []), [((4, 48, 0), gi_1855, [(false, ac_1100), (false, ac_1336)], [], [1])])
theorem hd_2718 : con_2718.1 = (yX12_numberAt, cX12_numberAt, 3, (some .long)) := rfl
noncomputable def cu_2718 : List CUT2 := []
theorem ch_2718 : staG tb_X12_numberAt 1 bt_RX12 [] ct_2 [] [] cu_2718 11 con_2718 = true := by decide +kernel
theorem vl_2718 (l : Launch) : Vld2 l vwCl gTbl con_2718 := conR_ok3 gT_all (hd_2718) rfl pn_RX12 tk_X12_numberAt bo_RX12 xo_RX12 (cto_2 l) ch_2718 cut_nil
/-- RookHustingModel numberAt -/
noncomputable def con_2719 : Con2 := ((yX12_numberAt, cX12_numberAt, 3, (some .long)), (0, 0), ([(6, 0, 0), (0, 0, 0), (0, 43, 0)], gi_1850, [ac_1100, ac_1338], []), [((4, 48, 0), gi_1851, [(false, ac_1100), (false, ac_1338)], [], [1])])
theorem hd_2719 : con_2719.1 = (yX12_numberAt, cX12_numberAt, 3, (some .long)) := rfl
noncomputable def cu_2719 : List CUT2 := []
theorem ch_2719 : staG tb_X12_numberAt 1 bt_RX12 [] ct_2 [] [] cu_2719 11 con_2719 = true := by decide +kernel
theorem vl_2719 (l : Launch) : Vld2 l vwCl gTbl con_2719 := conR_ok3 gT_all (hd_2719) rfl pn_RX12 tk_X12_numberAt bo_RX12 xo_RX12 (cto_2 l) ch_2719 cut_nil
/-- RookHustingModel numberAt -/
noncomputable def con_2720 : Con2 := ((yX12_numberAt, cX12_numberAt, 3, (some .long)), (0, 0), ([(6, 0, 0), (0, 0, 0), (0, 42, 0)], gi_1852, [ac_1100, ac_1337], []), [((4, 48, 0), gi_1853, [(false, ac_1100), (false, ac_1337)], [], [1])])
theorem hd_2720 : con_2720.1 = (yX12_numberAt, cX12_numberAt, 3, (some .long)) := rfl
noncomputable def cu_2720 : List CUT2 := []
theorem ch_2720 : staG tb_X12_numberAt 1 bt_RX12 [] ct_2 [] [] cu_2720 11 con_2720 = true := by decide +kernel
theorem vl_2720 (l : Launch) : Vld2 l vwCl gTbl con_2720 := conR_ok3 gT_all (hd_2720) rfl pn_RX12 tk_X12_numberAt bo_RX12 xo_RX12 (cto_2 l) ch_2720 cut_nil
/-- RookHustingModel numberAt -/
noncomputable def con_2721 : Con2 := ((yX12_numberAt, cX12_numberAt, 3, (some .long)), (0, 0), ([(6, 0, 0), (0, 0, 0), (0, 44, 0)], gi_1854, [ac_1100, ac_1339], []), [((4, 48, 0), gi_1855, [(false, ac_1100), (false, ac_1339)], [], [1])])
theorem hd_2721 : con_2721.1 = (yX12_numberAt, cX12_numberAt, 3, (some .long)) := rfl
noncomputable def cu_2721 : List CUT2 := []
theorem ch_2721 : staG tb_X12_numberAt 1 bt_RX12 [] ct_2 [] [] cu_2721 11 con_2721 = true := by decide +kernel
theorem vl_2721 (l : Launch) : Vld2 l vwCl gTbl con_2721 := conR_ok3 gT_all (hd_2721) rfl pn_RX12 tk_X12_numberAt bo_RX12 xo_RX12 (cto_2 l) ch_2721 cut_nil
/-- RookHustingModel numberAt -/
noncomputable def con_2722 : Con2 := ((yX12_numberAt, cX12_numberAt, 3, (some .long)), (0, 0), ([(6, 0, 0), (0, 0, 0), (0, 46, 0)], gi_1850, [ac_1100, ac_1341], []), [((4, 48, 0), gi_1851, [(false, ac_1100), (false, ac_1341)], [], [1])])
theorem hd_2722 : con_2722.1 = (yX12_numberAt, cX12_numberAt, 3, (some .long)) := rfl
noncomputable def cu_2722 : List CUT2 := []
theorem ch_2722 : staG tb_X12_numberAt 1 bt_RX12 [] ct_2 [] [] cu_2722 11 con_2722 = true := by decide +kernel
theorem vl_2722 (l : Launch) : Vld2 l vwCl gTbl con_2722 := conR_ok3 gT_all (hd_2722) rfl pn_RX12 tk_X12_numberAt bo_RX12 xo_RX12 (cto_2 l) ch_2722 cut_nil
/-- RookHustingModel numberAt -/
noncomputable def con_2723 : Con2 := ((yX12_numberAt, cX12_numberAt, 3, (some .long)), (0, 0), ([(6, 0, 0), (0, 0, 0), (0, 45, 0)], gi_1852, [ac_1100, ac_1340], []), [((4, 48, 0), gi_1853, [(false, ac_1100), (false, ac_1340)], [], [1])])
theorem hd_2723 : con_2723.1 = (yX12_numberAt, cX12_numberAt, 3, (some .long)) := rfl
noncomputable def cu_2723 : List CUT2 := []
theorem ch_2723 : staG tb_X12_numberAt 1 bt_RX12 [] ct_2 [] [] cu_2723 11 con_2723 = true := by decide +kernel
theorem vl_2723 (l : Launch) : Vld2 l vwCl gTbl con_2723 := conR_ok3 gT_all (hd_2723) rfl pn_RX12 tk_X12_numberAt bo_RX12 xo_RX12 (cto_2 l) ch_2723 cut_nil
/-- RookHustingModel numberAt -/
noncomputable def con_2724 : Con2 := ((yX12_numberAt, cX12_numberAt, 3, (some .long)), (0, 0), ([(6, 0, 0), (0, 0, 0), (0, 47, 0)], gi_1854, [ac_1100, ac_1342], []), [((4, 48, 0), gi_1855, [(false, ac_1100), (false, ac_1342)], [], [1])])
theorem hd_2724 : con_2724.1 = (yX12_numberAt, cX12_numberAt, 3, (some .long)) := rfl
noncomputable def cu_2724 : List CUT2 := []
theorem ch_2724 : staG tb_X12_numberAt 1 bt_RX12 [] ct_2 [] [] cu_2724 11 con_2724 = true := by decide +kernel
theorem vl_2724 (l : Launch) : Vld2 l vwCl gTbl con_2724 := conR_ok3 gT_all (hd_2724) rfl pn_RX12 tk_X12_numberAt bo_RX12 xo_RX12 (cto_2 l) ch_2724 cut_nil
/-- RookHustingModel numberAt -/
noncomputable def con_2725 : Con2 := ((yX12_numberAt, cX12_numberAt, 3, (some .long)), (0, 0), ([(6, 0, 0), (0, 0, 0), (0, 49, 0)], gi_1850, [ac_1100, ac_1344], []), [((4, 48, 0), gi_1851, [(false, ac_1100), (false, ac_1344)], [], [1])])
theorem hd_2725 : con_2725.1 = (yX12_numberAt, cX12_numberAt, 3, (some .long)) := rfl
noncomputable def cu_2725 : List CUT2 := []
theorem ch_2725 : staG tb_X12_numberAt 1 bt_RX12 [] ct_2 [] [] cu_2725 11 con_2725 = true := by decide +kernel
theorem vl_2725 (l : Launch) : Vld2 l vwCl gTbl con_2725 := conR_ok3 gT_all (hd_2725) rfl pn_RX12 tk_X12_numberAt bo_RX12 xo_RX12 (cto_2 l) ch_2725 cut_nil
/-- RookHustingModel numberAt -/
noncomputable def con_2726 : Con2 := ((yX12_numberAt, cX12_numberAt, 3, (some .long)), (0, 0), ([(6, 0, 0), (0, 0, 0), (0, 48, 0)], gi_1852, [ac_1100, ac_1343], []), [((4, 48, 0), gi_1853, [(false, ac_1100), (false, ac_1343)], [], [1])])
theorem hd_2726 : con_2726.1 = (yX12_numberAt, cX12_numberAt, 3, (some .long)) := rfl
noncomputable def cu_2726 : List CUT2 := []
theorem ch_2726 : staG tb_X12_numberAt 1 bt_RX12 [] ct_2 [] [] cu_2726 11 con_2726 = true := by decide +kernel
theorem vl_2726 (l : Launch) : Vld2 l vwCl gTbl con_2726 := conR_ok3 gT_all (hd_2726) rfl pn_RX12 tk_X12_numberAt bo_RX12 xo_RX12 (cto_2 l) ch_2726 cut_nil
/-- RookHustingModel numberAt -/
noncomputable def con_2727 : Con2 := ((yX12_numberAt, cX12_numberAt, 3, (some .long)), (0, 0), ([(6, 0, 0), (0, 0, 0), (0, 50, 0)], gi_1854, [ac_1100, ac_1345], []), [((4, 48, 0), gi_1855, [(false, ac_1100), (false, ac_1345)], [], [1])])
theorem hd_2727 : con_2727.1 = (yX12_numberAt, cX12_numberAt, 3, (some .long)) := rfl
noncomputable def cu_2727 : List CUT2 := []
theorem ch_2727 : staG tb_X12_numberAt 1 bt_RX12 [] ct_2 [] [] cu_2727 11 con_2727 = true := by decide +kernel
theorem vl_2727 (l : Launch) : Vld2 l vwCl gTbl con_2727 := conR_ok3 gT_all (hd_2727) rfl pn_RX12 tk_X12_numberAt bo_RX12 xo_RX12 (cto_2 l) ch_2727 cut_nil
/-- RookHustingModel numberAt -/
noncomputable def con_2728 : Con2 := ((yX12_numberAt, cX12_numberAt, 3, (some .long)), (0, 0), ([(6, 0, 0), (0, 0, 0), (0, 52, 0)], gi_1850, [ac_1100, ac_1347], []), [((4, 48, 0), gi_1851, [(false, ac_1100), (false, ac_1347)], [], [1])])
theorem hd_2728 : con_2728.1 = (yX12_numberAt, cX12_numberAt, 3, (some .long)) := rfl
noncomputable def cu_2728 : List CUT2 := []
theorem ch_2728 : staG tb_X12_numberAt 1 bt_RX12 [] ct_2 [] [] cu_2728 11 con_2728 = true := by decide +kernel
theorem vl_2728 (l : Launch) : Vld2 l vwCl gTbl con_2728 := conR_ok3 gT_all (hd_2728) rfl pn_RX12 tk_X12_numberAt bo_RX12 xo_RX12 (cto_2 l) ch_2728 cut_nil
/-- RookHustingModel numberAt -/
noncomputable def con_2729 : Con2 := ((yX12_numberAt, cX12_numberAt, 3, (some .long)), (0, 0), ([(6, 0, 0), (0, 0, 0), (0, 51, 0)], gi_1852, [ac_1100, ac_1346], []), [((4, 48, 0), gi_1853, [(false, ac_1100), (false, ac_1346)], [], [1])])
theorem hd_2729 : con_2729.1 = (yX12_numberAt, cX12_numberAt, 3, (some .long)) := rfl
noncomputable def cu_2729 : List CUT2 := []
theorem ch_2729 : staG tb_X12_numberAt 1 bt_RX12 [] ct_2 [] [] cu_2729 11 con_2729 = true := by decide +kernel
theorem vl_2729 (l : Launch) : Vld2 l vwCl gTbl con_2729 := conR_ok3 gT_all (hd_2729) rfl pn_RX12 tk_X12_numberAt bo_RX12 xo_RX12 (cto_2 l) ch_2729 cut_nil
/-- RookHustingModel numberAt -/
noncomputable def con_2730 : Con2 := ((yX12_numberAt, cX12_numberAt, 3, (some .long)), (0, 0), ([(6, 0, 0), (0, 0, 0), (0, 53, 0)], gi_1854, [ac_1100, ac_1348], []), [((4, 48, 0), gi_1855, [(false, ac_1100), (false, ac_1348)], [], [1])])
theorem hd_2730 : con_2730.1 = (yX12_numberAt, cX12_numberAt, 3, (some .long)) := rfl
noncomputable def cu_2730 : List CUT2 := []
theorem ch_2730 : staG tb_X12_numberAt 1 bt_RX12 [] ct_2 [] [] cu_2730 11 con_2730 = true := by decide +kernel
theorem vl_2730 (l : Launch) : Vld2 l vwCl gTbl con_2730 := conR_ok3 gT_all (hd_2730) rfl pn_RX12 tk_X12_numberAt bo_RX12 xo_RX12 (cto_2 l) ch_2730 cut_nil
/-- RookHustingModel numberAt -/
noncomputable def con_2731 : Con2 := ((yX12_numberAt, cX12_numberAt, 3, (some .long)), (0, 0), ([(6, 0, 0), (0, 0, 0), (0, 55, 0)], gi_1850, [ac_1100, ac_1350], []), [((4, 48, 0), gi_1851, [(false, ac_1100), (false, ac_1350)], [], [1])])
theorem hd_2731 : con_2731.1 = (yX12_numberAt, cX12_numberAt, 3, (some .long)) := rfl
noncomputable def cu_2731 : List CUT2 := []
theorem ch_2731 : staG tb_X12_numberAt 1 bt_RX12 [] ct_2 [] [] cu_2731 11 con_2731 = true := by decide +kernel
theorem vl_2731 (l : Launch) : Vld2 l vwCl gTbl con_2731 := conR_ok3 gT_all (hd_2731) rfl pn_RX12 tk_X12_numberAt bo_RX12 xo_RX12 (cto_2 l) ch_2731 cut_nil
/-- RookHustingModel numberAt -/
noncomputable def con_2732 : Con2 := ((yX12_numberAt, cX12_numberAt, 3, (some .long)), (0, 0), ([(6, 0, 0), (0, 0, 0), (0, 54, 0)], gi_1852, [ac_1100, ac_1349], []), [((4, 48, 0), gi_1853, [(false, ac_1100), (false, ac_1349)], [], [1])])
theorem hd_2732 : con_2732.1 = (yX12_numberAt, cX12_numberAt, 3, (some .long)) := rfl
noncomputable def cu_2732 : List CUT2 := []
theorem ch_2732 : staG tb_X12_numberAt 1 bt_RX12 [] ct_2 [] [] cu_2732 11 con_2732 = true := by decide +kernel
theorem vl_2732 (l : Launch) : Vld2 l vwCl gTbl con_2732 := conR_ok3 gT_all (hd_2732) rfl pn_RX12 tk_X12_numberAt bo_RX12 xo_RX12 (cto_2 l) ch_2732 cut_nil
/-- RookHustingModel numberAt -/
noncomputable def con_2733 : Con2 := ((yX12_numberAt, cX12_numberAt, 3, (some .long)), (0, 0), ([(6, 0, 0), (0, 0, 0), (0, 56, 0)], gi_1854, [ac_1100, ac_1351], []), [((4, 48, 0), gi_1855, [(false, ac_1100), (false, ac_1351)], [], [1])])
theorem hd_2733 : con_2733.1 = (yX12_numberAt, cX12_numberAt, 3, (some .long)) := rfl
noncomputable def cu_2733 : List CUT2 := []
theorem ch_2733 : staG tb_X12_numberAt 1 bt_RX12 [] ct_2 [] [] cu_2733 11 con_2733 = true := by decide +kernel
theorem vl_2733 (l : Launch) : Vld2 l vwCl gTbl con_2733 := conR_ok3 gT_all (hd_2733) rfl pn_RX12 tk_X12_numberAt bo_RX12 xo_RX12 (cto_2 l) ch_2733 cut_nil
/-- RookHustingModel numberAt -/
noncomputable def con_2734 : Con2 := ((yX12_numberAt, cX12_numberAt, 3, (some .long)), (0, 0), ([(6, 0, 0), (0, 0, 0), (0, 58, 0)], gi_1850, [ac_1100, ac_1353], []), [((4, 48, 0), gi_1851, [(false, ac_1100), (false, ac_1353)], [], [1])])
theorem hd_2734 : con_2734.1 = (yX12_numberAt, cX12_numberAt, 3, (some .long)) := rfl
noncomputable def cu_2734 : List CUT2 := []
theorem ch_2734 : staG tb_X12_numberAt 1 bt_RX12 [] ct_2 [] [] cu_2734 11 con_2734 = true := by decide +kernel
theorem vl_2734 (l : Launch) : Vld2 l vwCl gTbl con_2734 := conR_ok3 gT_all (hd_2734) rfl pn_RX12 tk_X12_numberAt bo_RX12 xo_RX12 (cto_2 l) ch_2734 cut_nil
/-- RookHustingModel numberAt -/
noncomputable def con_2735 : Con2 := ((yX12_numberAt, cX12_numberAt, 3, (some .long)), (0, 0), ([(6, 0, 0), (0, 0, 0), (0, 57, 0)], gi_1852, [ac_1100, ac_1352], []), [((4, 48, 0), gi_1853, [(false, ac_1100), (false, ac_1352)], [], [1])])
theorem hd_2735 : con_2735.1 = (yX12_numberAt, cX12_numberAt, 3, (some .long)) := rfl
noncomputable def cu_2735 : List CUT2 := []
theorem ch_2735 : staG tb_X12_numberAt 1 bt_RX12 [] ct_2 [] [] cu_2735 11 con_2735 = true := by decide +kernel
theorem vl_2735 (l : Launch) : Vld2 l vwCl gTbl con_2735 := conR_ok3 gT_all (hd_2735) rfl pn_RX12 tk_X12_numberAt bo_RX12 xo_RX12 (cto_2 l) ch_2735 cut_nil
/-- RookHustingModel numberAt -/
noncomputable def con_2736 : Con2 := ((yX12_numberAt, cX12_numberAt, 3, (some .long)), (0, 0), ([(6, 0, 0), (0, 0, 0), (0, 59, 0)], gi_1854, [ac_1100, ac_1354], []), [((4, 48, 0), gi_1855, [(false, ac_1100), (false, ac_1354)], [], [1])])
theorem hd_2736 : con_2736.1 = (yX12_numberAt, cX12_numberAt, 3, (some .long)) := rfl
noncomputable def cu_2736 : List CUT2 := []
theorem ch_2736 : staG tb_X12_numberAt 1 bt_RX12 [] ct_2 [] [] cu_2736 11 con_2736 = true := by decide +kernel
theorem vl_2736 (l : Launch) : Vld2 l vwCl gTbl con_2736 := conR_ok3 gT_all (hd_2736) rfl pn_RX12 tk_X12_numberAt bo_RX12 xo_RX12 (cto_2 l) ch_2736 cut_nil
/-- RookHustingModel isSeen -/
noncomputable def gi_2443 : GI := jl_n [jl_z 47, gp_611]
noncomputable def gi_2444 : GI := jl_n [jl_z 47, gp_611, jl_z 1]
noncomputable def con_2737 : Con2 := ((yX12_isSeen, cX12_isSeen, 3, (some .boolean)), (1, 22), ([(6, 0, 0), (0, 0, 0)], gi_2443, hc_224, []), [((0, 0, 0), gi_2444, hq_936, [], [1]), ((0, 1, 0), gi_2444, hq_936, [], [1])])
theorem hd_2737 : con_2737.1 = (yX12_isSeen, cX12_isSeen, 3, (some .boolean)) := rfl
theorem ck_RX12_417_2688 : COK2 RX12 vwCl gTbl 417 0 con_2688 := ⟨wd_2061, wd_137, mh_X12_numberAt, .inr (.inr ⟨rfl, wd_2058, wd_2060, wd_114, ⟨_, rfl, pd_X12_numberAt⟩, 12, _, TX12, 45, rfl, rfl⟩)⟩
theorem ck_RX12_417_2691 : COK2 RX12 vwCl gTbl 417 0 con_2691 := ⟨wd_2061, wd_137, mh_X12_numberAt, .inr (.inr ⟨rfl, wd_2058, wd_2060, wd_114, ⟨_, rfl, pd_X12_numberAt⟩, 12, _, TX12, 45, rfl, rfl⟩)⟩
theorem ck_RX12_417_2694 : COK2 RX12 vwCl gTbl 417 0 con_2694 := ⟨wd_2061, wd_137, mh_X12_numberAt, .inr (.inr ⟨rfl, wd_2058, wd_2060, wd_114, ⟨_, rfl, pd_X12_numberAt⟩, 12, _, TX12, 45, rfl, rfl⟩)⟩
theorem ck_RX12_417_2697 : COK2 RX12 vwCl gTbl 417 0 con_2697 := ⟨wd_2061, wd_137, mh_X12_numberAt, .inr (.inr ⟨rfl, wd_2058, wd_2060, wd_114, ⟨_, rfl, pd_X12_numberAt⟩, 12, _, TX12, 45, rfl, rfl⟩)⟩
theorem ck_RX12_417_2700 : COK2 RX12 vwCl gTbl 417 0 con_2700 := ⟨wd_2061, wd_137, mh_X12_numberAt, .inr (.inr ⟨rfl, wd_2058, wd_2060, wd_114, ⟨_, rfl, pd_X12_numberAt⟩, 12, _, TX12, 45, rfl, rfl⟩)⟩
theorem ck_RX12_417_2703 : COK2 RX12 vwCl gTbl 417 0 con_2703 := ⟨wd_2061, wd_137, mh_X12_numberAt, .inr (.inr ⟨rfl, wd_2058, wd_2060, wd_114, ⟨_, rfl, pd_X12_numberAt⟩, 12, _, TX12, 45, rfl, rfl⟩)⟩
theorem ck_RX12_417_2706 : COK2 RX12 vwCl gTbl 417 0 con_2706 := ⟨wd_2061, wd_137, mh_X12_numberAt, .inr (.inr ⟨rfl, wd_2058, wd_2060, wd_114, ⟨_, rfl, pd_X12_numberAt⟩, 12, _, TX12, 45, rfl, rfl⟩)⟩
theorem ck_RX12_417_2709 : COK2 RX12 vwCl gTbl 417 0 con_2709 := ⟨wd_2061, wd_137, mh_X12_numberAt, .inr (.inr ⟨rfl, wd_2058, wd_2060, wd_114, ⟨_, rfl, pd_X12_numberAt⟩, 12, _, TX12, 45, rfl, rfl⟩)⟩
theorem ck_RX12_417_2712 : COK2 RX12 vwCl gTbl 417 0 con_2712 := ⟨wd_2061, wd_137, mh_X12_numberAt, .inr (.inr ⟨rfl, wd_2058, wd_2060, wd_114, ⟨_, rfl, pd_X12_numberAt⟩, 12, _, TX12, 45, rfl, rfl⟩)⟩
theorem ck_RX12_417_2715 : COK2 RX12 vwCl gTbl 417 0 con_2715 := ⟨wd_2061, wd_137, mh_X12_numberAt, .inr (.inr ⟨rfl, wd_2058, wd_2060, wd_114, ⟨_, rfl, pd_X12_numberAt⟩, 12, _, TX12, 45, rfl, rfl⟩)⟩
theorem ck_RX12_417_2718 : COK2 RX12 vwCl gTbl 417 0 con_2718 := ⟨wd_2061, wd_137, mh_X12_numberAt, .inr (.inr ⟨rfl, wd_2058, wd_2060, wd_114, ⟨_, rfl, pd_X12_numberAt⟩, 12, _, TX12, 45, rfl, rfl⟩)⟩
theorem ck_RX12_417_2721 : COK2 RX12 vwCl gTbl 417 0 con_2721 := ⟨wd_2061, wd_137, mh_X12_numberAt, .inr (.inr ⟨rfl, wd_2058, wd_2060, wd_114, ⟨_, rfl, pd_X12_numberAt⟩, 12, _, TX12, 45, rfl, rfl⟩)⟩
theorem ck_RX12_417_2724 : COK2 RX12 vwCl gTbl 417 0 con_2724 := ⟨wd_2061, wd_137, mh_X12_numberAt, .inr (.inr ⟨rfl, wd_2058, wd_2060, wd_114, ⟨_, rfl, pd_X12_numberAt⟩, 12, _, TX12, 45, rfl, rfl⟩)⟩
theorem ck_RX12_417_2727 : COK2 RX12 vwCl gTbl 417 0 con_2727 := ⟨wd_2061, wd_137, mh_X12_numberAt, .inr (.inr ⟨rfl, wd_2058, wd_2060, wd_114, ⟨_, rfl, pd_X12_numberAt⟩, 12, _, TX12, 45, rfl, rfl⟩)⟩
theorem ck_RX12_417_2730 : COK2 RX12 vwCl gTbl 417 0 con_2730 := ⟨wd_2061, wd_137, mh_X12_numberAt, .inr (.inr ⟨rfl, wd_2058, wd_2060, wd_114, ⟨_, rfl, pd_X12_numberAt⟩, 12, _, TX12, 45, rfl, rfl⟩)⟩
theorem ck_RX12_417_2733 : COK2 RX12 vwCl gTbl 417 0 con_2733 := ⟨wd_2061, wd_137, mh_X12_numberAt, .inr (.inr ⟨rfl, wd_2058, wd_2060, wd_114, ⟨_, rfl, pd_X12_numberAt⟩, 12, _, TX12, 45, rfl, rfl⟩)⟩
theorem ck_RX12_417_2736 : COK2 RX12 vwCl gTbl 417 0 con_2736 := ⟨wd_2061, wd_137, mh_X12_numberAt, .inr (.inr ⟨rfl, wd_2058, wd_2060, wd_114, ⟨_, rfl, pd_X12_numberAt⟩, 12, _, TX12, 45, rfl, rfl⟩)⟩
theorem ck_RX12_417_2687 : COK2 RX12 vwCl gTbl 417 0 con_2687 := ⟨wd_2061, wd_137, mh_X12_numberAt, .inr (.inr ⟨rfl, wd_2058, wd_2060, wd_114, ⟨_, rfl, pd_X12_numberAt⟩, 12, _, TX12, 45, rfl, rfl⟩)⟩
theorem ck_RX12_417_2690 : COK2 RX12 vwCl gTbl 417 0 con_2690 := ⟨wd_2061, wd_137, mh_X12_numberAt, .inr (.inr ⟨rfl, wd_2058, wd_2060, wd_114, ⟨_, rfl, pd_X12_numberAt⟩, 12, _, TX12, 45, rfl, rfl⟩)⟩
theorem ck_RX12_417_2693 : COK2 RX12 vwCl gTbl 417 0 con_2693 := ⟨wd_2061, wd_137, mh_X12_numberAt, .inr (.inr ⟨rfl, wd_2058, wd_2060, wd_114, ⟨_, rfl, pd_X12_numberAt⟩, 12, _, TX12, 45, rfl, rfl⟩)⟩
theorem ck_RX12_417_2696 : COK2 RX12 vwCl gTbl 417 0 con_2696 := ⟨wd_2061, wd_137, mh_X12_numberAt, .inr (.inr ⟨rfl, wd_2058, wd_2060, wd_114, ⟨_, rfl, pd_X12_numberAt⟩, 12, _, TX12, 45, rfl, rfl⟩)⟩
theorem ck_RX12_417_2699 : COK2 RX12 vwCl gTbl 417 0 con_2699 := ⟨wd_2061, wd_137, mh_X12_numberAt, .inr (.inr ⟨rfl, wd_2058, wd_2060, wd_114, ⟨_, rfl, pd_X12_numberAt⟩, 12, _, TX12, 45, rfl, rfl⟩)⟩
theorem ck_RX12_417_2702 : COK2 RX12 vwCl gTbl 417 0 con_2702 := ⟨wd_2061, wd_137, mh_X12_numberAt, .inr (.inr ⟨rfl, wd_2058, wd_2060, wd_114, ⟨_, rfl, pd_X12_numberAt⟩, 12, _, TX12, 45, rfl, rfl⟩)⟩
theorem ck_RX12_417_2705 : COK2 RX12 vwCl gTbl 417 0 con_2705 := ⟨wd_2061, wd_137, mh_X12_numberAt, .inr (.inr ⟨rfl, wd_2058, wd_2060, wd_114, ⟨_, rfl, pd_X12_numberAt⟩, 12, _, TX12, 45, rfl, rfl⟩)⟩
theorem ck_RX12_417_2708 : COK2 RX12 vwCl gTbl 417 0 con_2708 := ⟨wd_2061, wd_137, mh_X12_numberAt, .inr (.inr ⟨rfl, wd_2058, wd_2060, wd_114, ⟨_, rfl, pd_X12_numberAt⟩, 12, _, TX12, 45, rfl, rfl⟩)⟩
theorem ck_RX12_417_2711 : COK2 RX12 vwCl gTbl 417 0 con_2711 := ⟨wd_2061, wd_137, mh_X12_numberAt, .inr (.inr ⟨rfl, wd_2058, wd_2060, wd_114, ⟨_, rfl, pd_X12_numberAt⟩, 12, _, TX12, 45, rfl, rfl⟩)⟩
theorem ck_RX12_417_2714 : COK2 RX12 vwCl gTbl 417 0 con_2714 := ⟨wd_2061, wd_137, mh_X12_numberAt, .inr (.inr ⟨rfl, wd_2058, wd_2060, wd_114, ⟨_, rfl, pd_X12_numberAt⟩, 12, _, TX12, 45, rfl, rfl⟩)⟩
theorem ck_RX12_417_2717 : COK2 RX12 vwCl gTbl 417 0 con_2717 := ⟨wd_2061, wd_137, mh_X12_numberAt, .inr (.inr ⟨rfl, wd_2058, wd_2060, wd_114, ⟨_, rfl, pd_X12_numberAt⟩, 12, _, TX12, 45, rfl, rfl⟩)⟩
theorem ck_RX12_417_2720 : COK2 RX12 vwCl gTbl 417 0 con_2720 := ⟨wd_2061, wd_137, mh_X12_numberAt, .inr (.inr ⟨rfl, wd_2058, wd_2060, wd_114, ⟨_, rfl, pd_X12_numberAt⟩, 12, _, TX12, 45, rfl, rfl⟩)⟩
theorem ck_RX12_417_2723 : COK2 RX12 vwCl gTbl 417 0 con_2723 := ⟨wd_2061, wd_137, mh_X12_numberAt, .inr (.inr ⟨rfl, wd_2058, wd_2060, wd_114, ⟨_, rfl, pd_X12_numberAt⟩, 12, _, TX12, 45, rfl, rfl⟩)⟩
theorem ck_RX12_417_2726 : COK2 RX12 vwCl gTbl 417 0 con_2726 := ⟨wd_2061, wd_137, mh_X12_numberAt, .inr (.inr ⟨rfl, wd_2058, wd_2060, wd_114, ⟨_, rfl, pd_X12_numberAt⟩, 12, _, TX12, 45, rfl, rfl⟩)⟩
theorem ck_RX12_417_2729 : COK2 RX12 vwCl gTbl 417 0 con_2729 := ⟨wd_2061, wd_137, mh_X12_numberAt, .inr (.inr ⟨rfl, wd_2058, wd_2060, wd_114, ⟨_, rfl, pd_X12_numberAt⟩, 12, _, TX12, 45, rfl, rfl⟩)⟩
theorem ck_RX12_417_2732 : COK2 RX12 vwCl gTbl 417 0 con_2732 := ⟨wd_2061, wd_137, mh_X12_numberAt, .inr (.inr ⟨rfl, wd_2058, wd_2060, wd_114, ⟨_, rfl, pd_X12_numberAt⟩, 12, _, TX12, 45, rfl, rfl⟩)⟩
theorem ck_RX12_417_2735 : COK2 RX12 vwCl gTbl 417 0 con_2735 := ⟨wd_2061, wd_137, mh_X12_numberAt, .inr (.inr ⟨rfl, wd_2058, wd_2060, wd_114, ⟨_, rfl, pd_X12_numberAt⟩, 12, _, TX12, 45, rfl, rfl⟩)⟩
theorem ck_RX12_417_2686 : COK2 RX12 vwCl gTbl 417 0 con_2686 := ⟨wd_2061, wd_137, mh_X12_numberAt, .inr (.inr ⟨rfl, wd_2058, wd_2060, wd_114, ⟨_, rfl, pd_X12_numberAt⟩, 12, _, TX12, 45, rfl, rfl⟩)⟩
theorem ck_RX12_417_2689 : COK2 RX12 vwCl gTbl 417 0 con_2689 := ⟨wd_2061, wd_137, mh_X12_numberAt, .inr (.inr ⟨rfl, wd_2058, wd_2060, wd_114, ⟨_, rfl, pd_X12_numberAt⟩, 12, _, TX12, 45, rfl, rfl⟩)⟩
theorem ck_RX12_417_2692 : COK2 RX12 vwCl gTbl 417 0 con_2692 := ⟨wd_2061, wd_137, mh_X12_numberAt, .inr (.inr ⟨rfl, wd_2058, wd_2060, wd_114, ⟨_, rfl, pd_X12_numberAt⟩, 12, _, TX12, 45, rfl, rfl⟩)⟩
theorem ck_RX12_417_2695 : COK2 RX12 vwCl gTbl 417 0 con_2695 := ⟨wd_2061, wd_137, mh_X12_numberAt, .inr (.inr ⟨rfl, wd_2058, wd_2060, wd_114, ⟨_, rfl, pd_X12_numberAt⟩, 12, _, TX12, 45, rfl, rfl⟩)⟩
theorem ck_RX12_417_2698 : COK2 RX12 vwCl gTbl 417 0 con_2698 := ⟨wd_2061, wd_137, mh_X12_numberAt, .inr (.inr ⟨rfl, wd_2058, wd_2060, wd_114, ⟨_, rfl, pd_X12_numberAt⟩, 12, _, TX12, 45, rfl, rfl⟩)⟩
theorem ck_RX12_417_2701 : COK2 RX12 vwCl gTbl 417 0 con_2701 := ⟨wd_2061, wd_137, mh_X12_numberAt, .inr (.inr ⟨rfl, wd_2058, wd_2060, wd_114, ⟨_, rfl, pd_X12_numberAt⟩, 12, _, TX12, 45, rfl, rfl⟩)⟩
theorem ck_RX12_417_2704 : COK2 RX12 vwCl gTbl 417 0 con_2704 := ⟨wd_2061, wd_137, mh_X12_numberAt, .inr (.inr ⟨rfl, wd_2058, wd_2060, wd_114, ⟨_, rfl, pd_X12_numberAt⟩, 12, _, TX12, 45, rfl, rfl⟩)⟩
theorem ck_RX12_417_2707 : COK2 RX12 vwCl gTbl 417 0 con_2707 := ⟨wd_2061, wd_137, mh_X12_numberAt, .inr (.inr ⟨rfl, wd_2058, wd_2060, wd_114, ⟨_, rfl, pd_X12_numberAt⟩, 12, _, TX12, 45, rfl, rfl⟩)⟩
theorem ck_RX12_417_2710 : COK2 RX12 vwCl gTbl 417 0 con_2710 := ⟨wd_2061, wd_137, mh_X12_numberAt, .inr (.inr ⟨rfl, wd_2058, wd_2060, wd_114, ⟨_, rfl, pd_X12_numberAt⟩, 12, _, TX12, 45, rfl, rfl⟩)⟩
theorem ck_RX12_417_2713 : COK2 RX12 vwCl gTbl 417 0 con_2713 := ⟨wd_2061, wd_137, mh_X12_numberAt, .inr (.inr ⟨rfl, wd_2058, wd_2060, wd_114, ⟨_, rfl, pd_X12_numberAt⟩, 12, _, TX12, 45, rfl, rfl⟩)⟩
theorem ck_RX12_417_2716 : COK2 RX12 vwCl gTbl 417 0 con_2716 := ⟨wd_2061, wd_137, mh_X12_numberAt, .inr (.inr ⟨rfl, wd_2058, wd_2060, wd_114, ⟨_, rfl, pd_X12_numberAt⟩, 12, _, TX12, 45, rfl, rfl⟩)⟩
theorem ck_RX12_417_2719 : COK2 RX12 vwCl gTbl 417 0 con_2719 := ⟨wd_2061, wd_137, mh_X12_numberAt, .inr (.inr ⟨rfl, wd_2058, wd_2060, wd_114, ⟨_, rfl, pd_X12_numberAt⟩, 12, _, TX12, 45, rfl, rfl⟩)⟩
theorem ck_RX12_417_2722 : COK2 RX12 vwCl gTbl 417 0 con_2722 := ⟨wd_2061, wd_137, mh_X12_numberAt, .inr (.inr ⟨rfl, wd_2058, wd_2060, wd_114, ⟨_, rfl, pd_X12_numberAt⟩, 12, _, TX12, 45, rfl, rfl⟩)⟩
theorem ck_RX12_417_2725 : COK2 RX12 vwCl gTbl 417 0 con_2725 := ⟨wd_2061, wd_137, mh_X12_numberAt, .inr (.inr ⟨rfl, wd_2058, wd_2060, wd_114, ⟨_, rfl, pd_X12_numberAt⟩, 12, _, TX12, 45, rfl, rfl⟩)⟩
theorem ck_RX12_417_2728 : COK2 RX12 vwCl gTbl 417 0 con_2728 := ⟨wd_2061, wd_137, mh_X12_numberAt, .inr (.inr ⟨rfl, wd_2058, wd_2060, wd_114, ⟨_, rfl, pd_X12_numberAt⟩, 12, _, TX12, 45, rfl, rfl⟩)⟩
theorem ck_RX12_417_2731 : COK2 RX12 vwCl gTbl 417 0 con_2731 := ⟨wd_2061, wd_137, mh_X12_numberAt, .inr (.inr ⟨rfl, wd_2058, wd_2060, wd_114, ⟨_, rfl, pd_X12_numberAt⟩, 12, _, TX12, 45, rfl, rfl⟩)⟩
theorem ck_RX12_417_2734 : COK2 RX12 vwCl gTbl 417 0 con_2734 := ⟨wd_2061, wd_137, mh_X12_numberAt, .inr (.inr ⟨rfl, wd_2058, wd_2060, wd_114, ⟨_, rfl, pd_X12_numberAt⟩, 12, _, TX12, 45, rfl, rfl⟩)⟩
noncomputable def ct_2737 : CTB2 := [(22, 417, 0, con_2734, [0, 2]), (22, 417, 0, con_2731, [0, 2]), (22, 417, 0, con_2728, [0, 2]), (22, 417, 0, con_2725, [0, 2]), (22, 417, 0, con_2722, [0, 2]), (22, 417, 0, con_2719, [0, 2]), (22, 417, 0, con_2716, [0, 2]), (22, 417, 0, con_2713, [0, 2]), (22, 417, 0, con_2710, [0, 2]), (22, 417, 0, con_2707, [0, 2]), (22, 417, 0, con_2704, [0, 2]), (22, 417, 0, con_2701, [0, 2]), (22, 417, 0, con_2698, [0, 2]), (22, 417, 0, con_2695, [0, 2]), (22, 417, 0, con_2692, [0, 2]), (22, 417, 0, con_2689, [0, 2]), (22, 417, 0, con_2686, [0, 2]), (22, 417, 0, con_2682, [0, 2]), (22, 417, 0, con_2679, [0, 2]), (22, 417, 0, con_2676, [0, 2]), (30, 417, 0, con_2735, [0, 2]), (30, 417, 0, con_2732, [0, 2]), (30, 417, 0, con_2729, [0, 2]), (30, 417, 0, con_2726, [0, 2]), (30, 417, 0, con_2723, [0, 2]), (30, 417, 0, con_2720, [0, 2]), (30, 417, 0, con_2717, [0, 2]), (30, 417, 0, con_2714, [0, 2]), (30, 417, 0, con_2711, [0, 2]), (30, 417, 0, con_2708, [0, 2]), (30, 417, 0, con_2705, [0, 2]), (30, 417, 0, con_2702, [0, 2]), (30, 417, 0, con_2699, [0, 2]), (30, 417, 0, con_2696, [0, 2]), (30, 417, 0, con_2693, [0, 2]), (30, 417, 0, con_2690, [0, 2]), (30, 417, 0, con_2687, [0, 2]), (30, 417, 0, con_2683, [0, 2]), (30, 417, 0, con_2680, [0, 2]), (30, 417, 0, con_2677, [0, 2]), (42, 417, 0, con_2736, [0, 2]), (42, 417, 0, con_2733, [0, 2]), (42, 417, 0, con_2730, [0, 2]), (42, 417, 0, con_2727, [0, 2]), (42, 417, 0, con_2724, [0, 2]), (42, 417, 0, con_2721, [0, 2]), (42, 417, 0, con_2718, [0, 2]), (42, 417, 0, con_2715, [0, 2]), (42, 417, 0, con_2712, [0, 2]), (42, 417, 0, con_2709, [0, 2]), (42, 417, 0, con_2706, [0, 2]), (42, 417, 0, con_2703, [0, 2]), (42, 417, 0, con_2700, [0, 2]), (42, 417, 0, con_2697, [0, 2]), (42, 417, 0, con_2694, [0, 2]), (42, 417, 0, con_2691, [0, 2]), (42, 417, 0, con_2688, [0, 2]), (42, 417, 0, con_2684, [0, 2]), (42, 417, 0, con_2681, [0, 2]), (42, 417, 0, con_2678, [0, 2])]
noncomputable def gi_2445 : GI := jl_n [jl_z 47, gp_611, jl_z 3]
noncomputable def cu_2737_0 : List CUT2 := [((2, [lq 0 6 0, lq 1 0 0, lq 2 0 0], [], gi_2445, hq_936), [], ([], 60)), ((2, [lq 0 6 0, lq 1 0 0, lq 2 0 3], [], gi_2445, hq_936), [], ([], 57)), ((2, [lq 0 6 0, lq 1 0 0, lq 2 0 6], [], gi_2445, hq_936), [], ([], 54)), ((2, [lq 0 6 0, lq 1 0 0, lq 2 0 9], [], gi_2445, hq_936), [], ([], 51)), ((2, [lq 0 6 0, lq 1 0 0, lq 2 0 12], [], gi_2445, hq_936), [], ([], 48)), ((2, [lq 0 6 0, lq 1 0 0, lq 2 0 15], [], gi_2445, hq_936), [], ([], 45)), ((2, [lq 0 6 0, lq 1 0 0, lq 2 0 18], [], gi_2445, hq_936), [], ([], 42)), ((2, [lq 0 6 0, lq 1 0 0, lq 2 0 21], [], gi_2445, hq_936), [], ([], 39)), ((2, [lq 0 6 0, lq 1 0 0, lq 2 0 24], [], gi_2445, hq_936), [], ([], 36)), ((2, [lq 0 6 0, lq 1 0 0, lq 2 0 27], [], gi_2445, hq_936), [], ([], 33)), ((2, [lq 0 6 0, lq 1 0 0, lq 2 0 30], [], gi_2445, hq_936), [], ([], 30)), ((2, [lq 0 6 0, lq 1 0 0, lq 2 0 33], [], gi_2445, hq_936), [], ([], 27)), ((2, [lq 0 6 0, lq 1 0 0, lq 2 0 36], [], gi_2445, hq_936), [], ([], 24)), ((2, [lq 0 6 0, lq 1 0 0, lq 2 0 39], [], gi_2445, hq_936), [], ([], 21)), ((2, [lq 0 6 0, lq 1 0 0, lq 2 0 42], [], gi_2445, hq_936), [], ([], 18)), ((2, [lq 0 6 0, lq 1 0 0, lq 2 0 45], [], gi_2445, hq_936), [], ([], 15)), ((2, [lq 0 6 0, lq 1 0 0, lq 2 0 48], [], gi_2445, hq_936), [], ([], 12)), ((2, [lq 0 6 0, lq 1 0 0, lq 2 0 51], [], gi_2445, hq_936), [], ([], 9))]
noncomputable def cu_2737_1 : List CUT2 := [((2, [lq 0 6 0, lq 1 0 0, lq 2 0 54], [], gi_2445, hq_936), [], ([], 6)), ((2, [lq 0 6 0, lq 1 0 0, lq 2 0 57], [], gi_2445, hq_936), [], ([], 3)), ((2, [lq 0 6 0, lq 1 0 0, lq 2 0 60], [], gi_2445, hq_936), [], ([], 0))]
noncomputable def cu_2737 : List CUT2 := cu_2737_0 ++ (cu_2737_1)
theorem ch_2737 : staG tb_X12_isSeen 1 bt_RX12 [] ct_2737 [] [] cu_2737 37 con_2737 = true := by decide +kernel
theorem cc_2737_0 : cu_2737_0.all (cutG tb_X12_isSeen 1 bt_RX12 [] ct_2737 [] [] cu_2737 37 con_2737) = true := by decide +kernel
theorem cc_2737_1 : cu_2737_1.all (cutG tb_X12_isSeen 1 bt_RX12 [] ct_2737 [] [] cu_2737 37 con_2737) = true := by decide +kernel
theorem cto_2737 (l : Launch) : CTOK2 l RX12 vwCl gTbl ct_2737 := ct2_cons (vl_2734 l) ck_RX12_417_2734 (ct2_cons (vl_2731 l) ck_RX12_417_2731 (ct2_cons (vl_2728 l) ck_RX12_417_2728 (ct2_cons (vl_2725 l) ck_RX12_417_2725 (ct2_cons (vl_2722 l) ck_RX12_417_2722 (ct2_cons (vl_2719 l) ck_RX12_417_2719 (ct2_cons (vl_2716 l) ck_RX12_417_2716 (ct2_cons (vl_2713 l) ck_RX12_417_2713 (ct2_cons (vl_2710 l) ck_RX12_417_2710 (ct2_cons (vl_2707 l) ck_RX12_417_2707 (ct2_cons (vl_2704 l) ck_RX12_417_2704 (ct2_cons (vl_2701 l) ck_RX12_417_2701 (ct2_cons (vl_2698 l) ck_RX12_417_2698 (ct2_cons (vl_2695 l) ck_RX12_417_2695 (ct2_cons (vl_2692 l) ck_RX12_417_2692 (ct2_cons (vl_2689 l) ck_RX12_417_2689 (ct2_cons (vl_2686 l) ck_RX12_417_2686 (ct2_cons (vl_2682 l) ck_RX12_417_2682 (ct2_cons (vl_2679 l) ck_RX12_417_2679 (ct2_cons (vl_2676 l) ck_RX12_417_2676 (ct2_cons (vl_2735 l) ck_RX12_417_2735 (ct2_cons (vl_2732 l) ck_RX12_417_2732 (ct2_cons (vl_2729 l) ck_RX12_417_2729 (ct2_cons (vl_2726 l) ck_RX12_417_2726 (ct2_cons (vl_2723 l) ck_RX12_417_2723 (ct2_cons (vl_2720 l) ck_RX12_417_2720 (ct2_cons (vl_2717 l) ck_RX12_417_2717 (ct2_cons (vl_2714 l) ck_RX12_417_2714 (ct2_cons (vl_2711 l) ck_RX12_417_2711 (ct2_cons (vl_2708 l) ck_RX12_417_2708 (ct2_cons (vl_2705 l) ck_RX12_417_2705 (ct2_cons (vl_2702 l) ck_RX12_417_2702 (ct2_cons (vl_2699 l) ck_RX12_417_2699 (ct2_cons (vl_2696 l) ck_RX12_417_2696 (ct2_cons (vl_2693 l) ck_RX12_417_2693 (ct2_cons (vl_2690 l) ck_RX12_417_2690 (ct2_cons (vl_2687 l) ck_RX12_417_2687 (ct2_cons (vl_2683 l) ck_RX12_417_2683 (ct2_cons (vl_2680 l) ck_RX12_417_2680 (ct2_cons (vl_2677 l) ck_RX12_417_2677 (ct2_cons (vl_2736 l) ck_RX12_417_2736 (ct2_cons (vl_2733 l) ck_RX12_417_2733 (ct2_cons (vl_2730 l) ck_RX12_417_2730 (ct2_cons (vl_2727 l) ck_RX12_417_2727 (ct2_cons (vl_2724 l) ck_RX12_417_2724 (ct2_cons (vl_2721 l) ck_RX12_417_2721 (ct2_cons (vl_2718 l) ck_RX12_417_2718 (ct2_cons (vl_2715 l) ck_RX12_417_2715 (ct2_cons (vl_2712 l) ck_RX12_417_2712 (ct2_cons (vl_2709 l) ck_RX12_417_2709 (ct2_cons (vl_2706 l) ck_RX12_417_2706 (ct2_cons (vl_2703 l) ck_RX12_417_2703 (ct2_cons (vl_2700 l) ck_RX12_417_2700 (ct2_cons (vl_2697 l) ck_RX12_417_2697 (ct2_cons (vl_2694 l) ck_RX12_417_2694 (ct2_cons (vl_2691 l) ck_RX12_417_2691 (ct2_cons (vl_2688 l) ck_RX12_417_2688 (ct2_cons (vl_2684 l) ck_RX12_417_2684 (ct2_cons (vl_2681 l) ck_RX12_417_2681 (ct2_cons (vl_2678 l) ck_RX12_417_2678 (ct2_nil))))))))))))))))))))))))))))))))))))))))))))))))))))))))))))
theorem vl_2737 (l : Launch) : Vld2 l vwCl gTbl con_2737 := conR_ok3 gT_all (hd_2737) rfl pn_RX12 tk_X12_isSeen bo_RX12 xo_RX12 (cto_2737 l) ch_2737 (cut_app (cut_all cc_2737_0) (cut_all cc_2737_1))
/-- RookHustingModel isSeen -/
noncomputable def gi_2446 : GI := jl_n [jl_z 47, gp_610]
noncomputable def gi_2447 : GI := jl_n [jl_z 47, gp_610, jl_z 1]
noncomputable def con_2738 : Con2 := ((yX12_isSeen, cX12_isSeen, 3, (some .boolean)), (1, 22), ([(6, 0, 0), (0, 0, 0)], gi_2446, hc_224, []), [((0, 0, 0), gi_2447, hq_936, [], [1]), ((0, 1, 0), gi_2447, hq_936, [], [1])])
theorem hd_2738 : con_2738.1 = (yX12_isSeen, cX12_isSeen, 3, (some .boolean)) := rfl
noncomputable def ct_2738 : CTB2 := [(22, 417, 0, con_2679, [0, 2]), (22, 417, 0, con_2676, [0, 2]), (30, 417, 0, con_2680, [0, 2]), (30, 417, 0, con_2677, [0, 2]), (42, 417, 0, con_2681, [0, 2]), (42, 417, 0, con_2678, [0, 2])]
noncomputable def gi_2448 : GI := jl_n [jl_z 47, gp_610, jl_z 3]
noncomputable def cu_2738 : List CUT2 := [((2, [lq 0 6 0, lq 1 0 0, lq 2 0 0], [], gi_2448, hq_936), [], ([], 6)), ((2, [lq 0 6 0, lq 1 0 0, lq 2 0 3], [], gi_2448, hq_936), [], ([], 3)), ((2, [lq 0 6 0, lq 1 0 0, lq 2 0 6], [], gi_2448, hq_936), [], ([], 0))]
theorem ch_2738 : staG tb_X12_isSeen 1 bt_RX12 [] ct_2738 [] [] cu_2738 37 con_2738 = true := by decide +kernel
theorem cc_2738 : cu_2738.all (cutG tb_X12_isSeen 1 bt_RX12 [] ct_2738 [] [] cu_2738 37 con_2738) = true := by decide +kernel
theorem cto_2738 (l : Launch) : CTOK2 l RX12 vwCl gTbl ct_2738 := ct2_cons (vl_2679 l) ck_RX12_417_2679 (ct2_cons (vl_2676 l) ck_RX12_417_2676 (ct2_cons (vl_2680 l) ck_RX12_417_2680 (ct2_cons (vl_2677 l) ck_RX12_417_2677 (ct2_cons (vl_2681 l) ck_RX12_417_2681 (ct2_cons (vl_2678 l) ck_RX12_417_2678 (ct2_nil))))))
theorem vl_2738 (l : Launch) : Vld2 l vwCl gTbl con_2738 := conR_ok3 gT_all (hd_2738) rfl pn_RX12 tk_X12_isSeen bo_RX12 xo_RX12 (cto_2738 l) ch_2738 (cut_all cc_2738)
/-- RookHustingModel isSeen -/
noncomputable def gi_2449 : GI := jl_n [jl_z 47, gp_608]
noncomputable def gi_2450 : GI := jl_n [jl_z 47, gp_608, jl_z 1]
noncomputable def con_2739 : Con2 := ((yX12_isSeen, cX12_isSeen, 3, (some .boolean)), (1, 22), ([(6, 0, 0), (0, 0, 0)], gi_2449, hc_224, []), [((0, 0, 0), gi_2450, hq_936, [], [1]), ((0, 1, 0), gi_2450, hq_936, [], [1])])
theorem hd_2739 : con_2739.1 = (yX12_isSeen, cX12_isSeen, 3, (some .boolean)) := rfl
noncomputable def ct_2739 : CTB2 := [(22, 417, 0, con_2731, [0, 2]), (22, 417, 0, con_2728, [0, 2]), (22, 417, 0, con_2725, [0, 2]), (22, 417, 0, con_2722, [0, 2]), (22, 417, 0, con_2719, [0, 2]), (22, 417, 0, con_2716, [0, 2]), (22, 417, 0, con_2713, [0, 2]), (22, 417, 0, con_2710, [0, 2]), (22, 417, 0, con_2707, [0, 2]), (22, 417, 0, con_2704, [0, 2]), (22, 417, 0, con_2701, [0, 2]), (22, 417, 0, con_2698, [0, 2]), (22, 417, 0, con_2695, [0, 2]), (22, 417, 0, con_2692, [0, 2]), (22, 417, 0, con_2689, [0, 2]), (22, 417, 0, con_2686, [0, 2]), (22, 417, 0, con_2682, [0, 2]), (22, 417, 0, con_2679, [0, 2]), (22, 417, 0, con_2676, [0, 2]), (30, 417, 0, con_2732, [0, 2]), (30, 417, 0, con_2729, [0, 2]), (30, 417, 0, con_2726, [0, 2]), (30, 417, 0, con_2723, [0, 2]), (30, 417, 0, con_2720, [0, 2]), (30, 417, 0, con_2717, [0, 2]), (30, 417, 0, con_2714, [0, 2]), (30, 417, 0, con_2711, [0, 2]), (30, 417, 0, con_2708, [0, 2]), (30, 417, 0, con_2705, [0, 2]), (30, 417, 0, con_2702, [0, 2]), (30, 417, 0, con_2699, [0, 2]), (30, 417, 0, con_2696, [0, 2]), (30, 417, 0, con_2693, [0, 2]), (30, 417, 0, con_2690, [0, 2]), (30, 417, 0, con_2687, [0, 2]), (30, 417, 0, con_2683, [0, 2]), (30, 417, 0, con_2680, [0, 2]), (30, 417, 0, con_2677, [0, 2]), (42, 417, 0, con_2733, [0, 2]), (42, 417, 0, con_2730, [0, 2]), (42, 417, 0, con_2727, [0, 2]), (42, 417, 0, con_2724, [0, 2]), (42, 417, 0, con_2721, [0, 2]), (42, 417, 0, con_2718, [0, 2]), (42, 417, 0, con_2715, [0, 2]), (42, 417, 0, con_2712, [0, 2]), (42, 417, 0, con_2709, [0, 2]), (42, 417, 0, con_2706, [0, 2]), (42, 417, 0, con_2703, [0, 2]), (42, 417, 0, con_2700, [0, 2]), (42, 417, 0, con_2697, [0, 2]), (42, 417, 0, con_2694, [0, 2]), (42, 417, 0, con_2691, [0, 2]), (42, 417, 0, con_2688, [0, 2]), (42, 417, 0, con_2684, [0, 2]), (42, 417, 0, con_2681, [0, 2]), (42, 417, 0, con_2678, [0, 2])]
noncomputable def gi_2451 : GI := jl_n [jl_z 47, gp_608, jl_z 3]
noncomputable def cu_2739_0 : List CUT2 := [((2, [lq 0 6 0, lq 1 0 0, lq 2 0 0], [], gi_2451, hq_936), [], ([], 57)), ((2, [lq 0 6 0, lq 1 0 0, lq 2 0 3], [], gi_2451, hq_936), [], ([], 54)), ((2, [lq 0 6 0, lq 1 0 0, lq 2 0 6], [], gi_2451, hq_936), [], ([], 51)), ((2, [lq 0 6 0, lq 1 0 0, lq 2 0 9], [], gi_2451, hq_936), [], ([], 48)), ((2, [lq 0 6 0, lq 1 0 0, lq 2 0 12], [], gi_2451, hq_936), [], ([], 45)), ((2, [lq 0 6 0, lq 1 0 0, lq 2 0 15], [], gi_2451, hq_936), [], ([], 42)), ((2, [lq 0 6 0, lq 1 0 0, lq 2 0 18], [], gi_2451, hq_936), [], ([], 39)), ((2, [lq 0 6 0, lq 1 0 0, lq 2 0 21], [], gi_2451, hq_936), [], ([], 36)), ((2, [lq 0 6 0, lq 1 0 0, lq 2 0 24], [], gi_2451, hq_936), [], ([], 33)), ((2, [lq 0 6 0, lq 1 0 0, lq 2 0 27], [], gi_2451, hq_936), [], ([], 30)), ((2, [lq 0 6 0, lq 1 0 0, lq 2 0 30], [], gi_2451, hq_936), [], ([], 27)), ((2, [lq 0 6 0, lq 1 0 0, lq 2 0 33], [], gi_2451, hq_936), [], ([], 24)), ((2, [lq 0 6 0, lq 1 0 0, lq 2 0 36], [], gi_2451, hq_936), [], ([], 21)), ((2, [lq 0 6 0, lq 1 0 0, lq 2 0 39], [], gi_2451, hq_936), [], ([], 18)), ((2, [lq 0 6 0, lq 1 0 0, lq 2 0 42], [], gi_2451, hq_936), [], ([], 15)), ((2, [lq 0 6 0, lq 1 0 0, lq 2 0 45], [], gi_2451, hq_936), [], ([], 12)), ((2, [lq 0 6 0, lq 1 0 0, lq 2 0 48], [], gi_2451, hq_936), [], ([], 9)), ((2, [lq 0 6 0, lq 1 0 0, lq 2 0 51], [], gi_2451, hq_936), [], ([], 6))]
noncomputable def cu_2739_1 : List CUT2 := [((2, [lq 0 6 0, lq 1 0 0, lq 2 0 54], [], gi_2451, hq_936), [], ([], 3)), ((2, [lq 0 6 0, lq 1 0 0, lq 2 0 57], [], gi_2451, hq_936), [], ([], 0))]
noncomputable def cu_2739 : List CUT2 := cu_2739_0 ++ (cu_2739_1)
theorem ch_2739 : staG tb_X12_isSeen 1 bt_RX12 [] ct_2739 [] [] cu_2739 37 con_2739 = true := by decide +kernel
theorem cc_2739_0 : cu_2739_0.all (cutG tb_X12_isSeen 1 bt_RX12 [] ct_2739 [] [] cu_2739 37 con_2739) = true := by decide +kernel
theorem cc_2739_1 : cu_2739_1.all (cutG tb_X12_isSeen 1 bt_RX12 [] ct_2739 [] [] cu_2739 37 con_2739) = true := by decide +kernel
theorem cto_2739 (l : Launch) : CTOK2 l RX12 vwCl gTbl ct_2739 := ct2_cons (vl_2731 l) ck_RX12_417_2731 (ct2_cons (vl_2728 l) ck_RX12_417_2728 (ct2_cons (vl_2725 l) ck_RX12_417_2725 (ct2_cons (vl_2722 l) ck_RX12_417_2722 (ct2_cons (vl_2719 l) ck_RX12_417_2719 (ct2_cons (vl_2716 l) ck_RX12_417_2716 (ct2_cons (vl_2713 l) ck_RX12_417_2713 (ct2_cons (vl_2710 l) ck_RX12_417_2710 (ct2_cons (vl_2707 l) ck_RX12_417_2707 (ct2_cons (vl_2704 l) ck_RX12_417_2704 (ct2_cons (vl_2701 l) ck_RX12_417_2701 (ct2_cons (vl_2698 l) ck_RX12_417_2698 (ct2_cons (vl_2695 l) ck_RX12_417_2695 (ct2_cons (vl_2692 l) ck_RX12_417_2692 (ct2_cons (vl_2689 l) ck_RX12_417_2689 (ct2_cons (vl_2686 l) ck_RX12_417_2686 (ct2_cons (vl_2682 l) ck_RX12_417_2682 (ct2_cons (vl_2679 l) ck_RX12_417_2679 (ct2_cons (vl_2676 l) ck_RX12_417_2676 (ct2_cons (vl_2732 l) ck_RX12_417_2732 (ct2_cons (vl_2729 l) ck_RX12_417_2729 (ct2_cons (vl_2726 l) ck_RX12_417_2726 (ct2_cons (vl_2723 l) ck_RX12_417_2723 (ct2_cons (vl_2720 l) ck_RX12_417_2720 (ct2_cons (vl_2717 l) ck_RX12_417_2717 (ct2_cons (vl_2714 l) ck_RX12_417_2714 (ct2_cons (vl_2711 l) ck_RX12_417_2711 (ct2_cons (vl_2708 l) ck_RX12_417_2708 (ct2_cons (vl_2705 l) ck_RX12_417_2705 (ct2_cons (vl_2702 l) ck_RX12_417_2702 (ct2_cons (vl_2699 l) ck_RX12_417_2699 (ct2_cons (vl_2696 l) ck_RX12_417_2696 (ct2_cons (vl_2693 l) ck_RX12_417_2693 (ct2_cons (vl_2690 l) ck_RX12_417_2690 (ct2_cons (vl_2687 l) ck_RX12_417_2687 (ct2_cons (vl_2683 l) ck_RX12_417_2683 (ct2_cons (vl_2680 l) ck_RX12_417_2680 (ct2_cons (vl_2677 l) ck_RX12_417_2677 (ct2_cons (vl_2733 l) ck_RX12_417_2733 (ct2_cons (vl_2730 l) ck_RX12_417_2730 (ct2_cons (vl_2727 l) ck_RX12_417_2727 (ct2_cons (vl_2724 l) ck_RX12_417_2724 (ct2_cons (vl_2721 l) ck_RX12_417_2721 (ct2_cons (vl_2718 l) ck_RX12_417_2718 (ct2_cons (vl_2715 l) ck_RX12_417_2715 (ct2_cons (vl_2712 l) ck_RX12_417_2712 (ct2_cons (vl_2709 l) ck_RX12_417_2709 (ct2_cons (vl_2706 l) ck_RX12_417_2706 (ct2_cons (vl_2703 l) ck_RX12_417_2703 (ct2_cons (vl_2700 l) ck_RX12_417_2700 (ct2_cons (vl_2697 l) ck_RX12_417_2697 (ct2_cons (vl_2694 l) ck_RX12_417_2694 (ct2_cons (vl_2691 l) ck_RX12_417_2691 (ct2_cons (vl_2688 l) ck_RX12_417_2688 (ct2_cons (vl_2684 l) ck_RX12_417_2684 (ct2_cons (vl_2681 l) ck_RX12_417_2681 (ct2_cons (vl_2678 l) ck_RX12_417_2678 (ct2_nil)))))))))))))))))))))))))))))))))))))))))))))))))))))))))
theorem vl_2739 (l : Launch) : Vld2 l vwCl gTbl con_2739 := conR_ok3 gT_all (hd_2739) rfl pn_RX12 tk_X12_isSeen bo_RX12 xo_RX12 (cto_2739 l) ch_2739 (cut_app (cut_all cc_2739_0) (cut_all cc_2739_1))
/-- RookHustingModel isSeen -/
noncomputable def gi_2452 : GI := jl_n [jl_z 47, gp_606]
noncomputable def gi_2453 : GI := jl_n [jl_z 47, gp_606, jl_z 1]
noncomputable def con_2740 : Con2 := ((yX12_isSeen, cX12_isSeen, 3, (some .boolean)), (1, 22), ([(6, 0, 0), (0, 0, 0)], gi_2452, hc_224, []), [((0, 0, 0), gi_2453, hq_936, [], [1]), ((0, 1, 0), gi_2453, hq_936, [], [1])])
theorem hd_2740 : con_2740.1 = (yX12_isSeen, cX12_isSeen, 3, (some .boolean)) := rfl
noncomputable def ct_2740 : CTB2 := [(22, 417, 0, con_2728, [0, 2]), (22, 417, 0, con_2725, [0, 2]), (22, 417, 0, con_2722, [0, 2]), (22, 417, 0, con_2719, [0, 2]), (22, 417, 0, con_2716, [0, 2]), (22, 417, 0, con_2713, [0, 2]), (22, 417, 0, con_2710, [0, 2]), (22, 417, 0, con_2707, [0, 2]), (22, 417, 0, con_2704, [0, 2]), (22, 417, 0, con_2701, [0, 2]), (22, 417, 0, con_2698, [0, 2]), (22, 417, 0, con_2695, [0, 2]), (22, 417, 0, con_2692, [0, 2]), (22, 417, 0, con_2689, [0, 2]), (22, 417, 0, con_2686, [0, 2]), (22, 417, 0, con_2682, [0, 2]), (22, 417, 0, con_2679, [0, 2]), (22, 417, 0, con_2676, [0, 2]), (30, 417, 0, con_2729, [0, 2]), (30, 417, 0, con_2726, [0, 2]), (30, 417, 0, con_2723, [0, 2]), (30, 417, 0, con_2720, [0, 2]), (30, 417, 0, con_2717, [0, 2]), (30, 417, 0, con_2714, [0, 2]), (30, 417, 0, con_2711, [0, 2]), (30, 417, 0, con_2708, [0, 2]), (30, 417, 0, con_2705, [0, 2]), (30, 417, 0, con_2702, [0, 2]), (30, 417, 0, con_2699, [0, 2]), (30, 417, 0, con_2696, [0, 2]), (30, 417, 0, con_2693, [0, 2]), (30, 417, 0, con_2690, [0, 2]), (30, 417, 0, con_2687, [0, 2]), (30, 417, 0, con_2683, [0, 2]), (30, 417, 0, con_2680, [0, 2]), (30, 417, 0, con_2677, [0, 2]), (42, 417, 0, con_2730, [0, 2]), (42, 417, 0, con_2727, [0, 2]), (42, 417, 0, con_2724, [0, 2]), (42, 417, 0, con_2721, [0, 2]), (42, 417, 0, con_2718, [0, 2]), (42, 417, 0, con_2715, [0, 2]), (42, 417, 0, con_2712, [0, 2]), (42, 417, 0, con_2709, [0, 2]), (42, 417, 0, con_2706, [0, 2]), (42, 417, 0, con_2703, [0, 2]), (42, 417, 0, con_2700, [0, 2]), (42, 417, 0, con_2697, [0, 2]), (42, 417, 0, con_2694, [0, 2]), (42, 417, 0, con_2691, [0, 2]), (42, 417, 0, con_2688, [0, 2]), (42, 417, 0, con_2684, [0, 2]), (42, 417, 0, con_2681, [0, 2]), (42, 417, 0, con_2678, [0, 2])]
noncomputable def gi_2454 : GI := jl_n [jl_z 47, gp_606, jl_z 3]
noncomputable def cu_2740 : List CUT2 := [((2, [lq 0 6 0, lq 1 0 0, lq 2 0 0], [], gi_2454, hq_936), [], ([], 54)), ((2, [lq 0 6 0, lq 1 0 0, lq 2 0 3], [], gi_2454, hq_936), [], ([], 51)), ((2, [lq 0 6 0, lq 1 0 0, lq 2 0 6], [], gi_2454, hq_936), [], ([], 48)), ((2, [lq 0 6 0, lq 1 0 0, lq 2 0 9], [], gi_2454, hq_936), [], ([], 45)), ((2, [lq 0 6 0, lq 1 0 0, lq 2 0 12], [], gi_2454, hq_936), [], ([], 42)), ((2, [lq 0 6 0, lq 1 0 0, lq 2 0 15], [], gi_2454, hq_936), [], ([], 39)), ((2, [lq 0 6 0, lq 1 0 0, lq 2 0 18], [], gi_2454, hq_936), [], ([], 36)), ((2, [lq 0 6 0, lq 1 0 0, lq 2 0 21], [], gi_2454, hq_936), [], ([], 33)), ((2, [lq 0 6 0, lq 1 0 0, lq 2 0 24], [], gi_2454, hq_936), [], ([], 30)), ((2, [lq 0 6 0, lq 1 0 0, lq 2 0 27], [], gi_2454, hq_936), [], ([], 27)), ((2, [lq 0 6 0, lq 1 0 0, lq 2 0 30], [], gi_2454, hq_936), [], ([], 24)), ((2, [lq 0 6 0, lq 1 0 0, lq 2 0 33], [], gi_2454, hq_936), [], ([], 21)), ((2, [lq 0 6 0, lq 1 0 0, lq 2 0 36], [], gi_2454, hq_936), [], ([], 18)), ((2, [lq 0 6 0, lq 1 0 0, lq 2 0 39], [], gi_2454, hq_936), [], ([], 15)), ((2, [lq 0 6 0, lq 1 0 0, lq 2 0 42], [], gi_2454, hq_936), [], ([], 12)), ((2, [lq 0 6 0, lq 1 0 0, lq 2 0 45], [], gi_2454, hq_936), [], ([], 9)), ((2, [lq 0 6 0, lq 1 0 0, lq 2 0 48], [], gi_2454, hq_936), [], ([], 6)), ((2, [lq 0 6 0, lq 1 0 0, lq 2 0 51], [], gi_2454, hq_936), [], ([], 3)), ((2, [lq 0 6 0, lq 1 0 0, lq 2 0 54], [], gi_2454, hq_936), [], ([], 0))]
theorem ch_2740 : staG tb_X12_isSeen 1 bt_RX12 [] ct_2740 [] [] cu_2740 37 con_2740 = true := by decide +kernel
theorem cc_2740 : cu_2740.all (cutG tb_X12_isSeen 1 bt_RX12 [] ct_2740 [] [] cu_2740 37 con_2740) = true := by decide +kernel
theorem cto_2740 (l : Launch) : CTOK2 l RX12 vwCl gTbl ct_2740 := ct2_cons (vl_2728 l) ck_RX12_417_2728 (ct2_cons (vl_2725 l) ck_RX12_417_2725 (ct2_cons (vl_2722 l) ck_RX12_417_2722 (ct2_cons (vl_2719 l) ck_RX12_417_2719 (ct2_cons (vl_2716 l) ck_RX12_417_2716 (ct2_cons (vl_2713 l) ck_RX12_417_2713 (ct2_cons (vl_2710 l) ck_RX12_417_2710 (ct2_cons (vl_2707 l) ck_RX12_417_2707 (ct2_cons (vl_2704 l) ck_RX12_417_2704 (ct2_cons (vl_2701 l) ck_RX12_417_2701 (ct2_cons (vl_2698 l) ck_RX12_417_2698 (ct2_cons (vl_2695 l) ck_RX12_417_2695 (ct2_cons (vl_2692 l) ck_RX12_417_2692 (ct2_cons (vl_2689 l) ck_RX12_417_2689 (ct2_cons (vl_2686 l) ck_RX12_417_2686 (ct2_cons (vl_2682 l) ck_RX12_417_2682 (ct2_cons (vl_2679 l) ck_RX12_417_2679 (ct2_cons (vl_2676 l) ck_RX12_417_2676 (ct2_cons (vl_2729 l) ck_RX12_417_2729 (ct2_cons (vl_2726 l) ck_RX12_417_2726 (ct2_cons (vl_2723 l) ck_RX12_417_2723 (ct2_cons (vl_2720 l) ck_RX12_417_2720 (ct2_cons (vl_2717 l) ck_RX12_417_2717 (ct2_cons (vl_2714 l) ck_RX12_417_2714 (ct2_cons (vl_2711 l) ck_RX12_417_2711 (ct2_cons (vl_2708 l) ck_RX12_417_2708 (ct2_cons (vl_2705 l) ck_RX12_417_2705 (ct2_cons (vl_2702 l) ck_RX12_417_2702 (ct2_cons (vl_2699 l) ck_RX12_417_2699 (ct2_cons (vl_2696 l) ck_RX12_417_2696 (ct2_cons (vl_2693 l) ck_RX12_417_2693 (ct2_cons (vl_2690 l) ck_RX12_417_2690 (ct2_cons (vl_2687 l) ck_RX12_417_2687 (ct2_cons (vl_2683 l) ck_RX12_417_2683 (ct2_cons (vl_2680 l) ck_RX12_417_2680 (ct2_cons (vl_2677 l) ck_RX12_417_2677 (ct2_cons (vl_2730 l) ck_RX12_417_2730 (ct2_cons (vl_2727 l) ck_RX12_417_2727 (ct2_cons (vl_2724 l) ck_RX12_417_2724 (ct2_cons (vl_2721 l) ck_RX12_417_2721 (ct2_cons (vl_2718 l) ck_RX12_417_2718 (ct2_cons (vl_2715 l) ck_RX12_417_2715 (ct2_cons (vl_2712 l) ck_RX12_417_2712 (ct2_cons (vl_2709 l) ck_RX12_417_2709 (ct2_cons (vl_2706 l) ck_RX12_417_2706 (ct2_cons (vl_2703 l) ck_RX12_417_2703 (ct2_cons (vl_2700 l) ck_RX12_417_2700 (ct2_cons (vl_2697 l) ck_RX12_417_2697 (ct2_cons (vl_2694 l) ck_RX12_417_2694 (ct2_cons (vl_2691 l) ck_RX12_417_2691 (ct2_cons (vl_2688 l) ck_RX12_417_2688 (ct2_cons (vl_2684 l) ck_RX12_417_2684 (ct2_cons (vl_2681 l) ck_RX12_417_2681 (ct2_cons (vl_2678 l) ck_RX12_417_2678 (ct2_nil))))))))))))))))))))))))))))))))))))))))))))))))))))))
theorem vl_2740 (l : Launch) : Vld2 l vwCl gTbl con_2740 := conR_ok3 gT_all (hd_2740) rfl pn_RX12 tk_X12_isSeen bo_RX12 xo_RX12 (cto_2740 l) ch_2740 (cut_all cc_2740)
