/-! ===== contracts, 46 ===== -/
/-- RookHustingModel isSlot -/
noncomputable def con_2326 : Con2 := ((yX12_isSlot, cX12_isSlot, 1, (some .boolean)), (1, 25), ([(0, 2, 0)], [(0, 0)], [], []), [((0, 0, 0), [(0, 0), (0, 0)], [], [], [1]), ((0, 1, 0), [(0, 0), (0, 0)], [], [], [1])])
theorem hd_2326 : con_2326.1 = (yX12_isSlot, cX12_isSlot, 1, (some .boolean)) := rfl
noncomputable def cu_2326 : List CUT2 := []
theorem ch_2326 : staG tb_X12_isSlot 1 bt_RX12 [] ct_2171 [] [] cu_2326 8 con_2326 = true := by decide +kernel
theorem vl_2326 (l : Launch) : Vld2 l vwCl gTbl con_2326 := conR_ok3 gT_all (hd_2326) rfl pn_RX12 tk_X12_isSlot bo_RX12 xo_RX12 (cto_2171 l) ch_2326 cut_nil
/-- RookHustingModel numberAt -/
noncomputable def ac_1169 : AC := .inr (2, jl_n [js_5 120 9223372036854775807 9223372036854775807, js_4 49 1, js_5 119 9223372036854775807 9223372036854775807])
noncomputable def con_2327 : Con2 := ((yX12_numberAt, cX12_numberAt, 3, (some .long)), (0, 0), ([(6, 0, 0), (0, 2, 0), (0, 0, 0)], gi_1800, [ac_1100, ac_1169], []), [((4, 48, 0), gi_1801, [(false, ac_1100), (false, ac_1169)], [], [1])])
theorem hd_2327 : con_2327.1 = (yX12_numberAt, cX12_numberAt, 3, (some .long)) := rfl
noncomputable def cu_2327 : List CUT2 := []
theorem ch_2327 : staG tb_X12_numberAt 1 bt_RX12 [] ct_2 [] [] cu_2327 11 con_2327 = true := by decide +kernel
theorem vl_2327 (l : Launch) : Vld2 l vwCl gTbl con_2327 := conR_ok3 gT_all (hd_2327) rfl pn_RX12 tk_X12_numberAt bo_RX12 xo_RX12 (cto_2 l) ch_2327 cut_nil
/-- RookHustingModel numberAt -/
noncomputable def ac_1170 : AC := .inr (2, jl_n [js_5 121 9223372036854775807 9223372036854775807, js_4 49 1, js_5 118 9223372036854775807 9223372036854775807])
noncomputable def con_2328 : Con2 := ((yX12_numberAt, cX12_numberAt, 3, (some .long)), (0, 0), ([(6, 0, 0), (0, 2, 0), (0, 1, 0)], gi_1800, [ac_1100, ac_1170], []), [((4, 48, 0), gi_1801, [(false, ac_1100), (false, ac_1170)], [], [1])])
theorem hd_2328 : con_2328.1 = (yX12_numberAt, cX12_numberAt, 3, (some .long)) := rfl
noncomputable def cu_2328 : List CUT2 := []
theorem ch_2328 : staG tb_X12_numberAt 1 bt_RX12 [] ct_2 [] [] cu_2328 11 con_2328 = true := by decide +kernel
theorem vl_2328 (l : Launch) : Vld2 l vwCl gTbl con_2328 := conR_ok3 gT_all (hd_2328) rfl pn_RX12 tk_X12_numberAt bo_RX12 xo_RX12 (cto_2 l) ch_2328 cut_nil
/-- RookHustingModel numberAt -/
noncomputable def ac_1171 : AC := .inr (2, jl_n [js_5 122 9223372036854775807 9223372036854775807, js_4 49 1, js_5 117 9223372036854775807 9223372036854775807])
noncomputable def con_2329 : Con2 := ((yX12_numberAt, cX12_numberAt, 3, (some .long)), (0, 0), ([(6, 0, 0), (0, 2, 0), (0, 2, 0)], gi_1800, [ac_1100, ac_1171], []), [((4, 48, 0), gi_1801, [(false, ac_1100), (false, ac_1171)], [], [1])])
theorem hd_2329 : con_2329.1 = (yX12_numberAt, cX12_numberAt, 3, (some .long)) := rfl
noncomputable def cu_2329 : List CUT2 := []
theorem ch_2329 : staG tb_X12_numberAt 1 bt_RX12 [] ct_2 [] [] cu_2329 11 con_2329 = true := by decide +kernel
theorem vl_2329 (l : Launch) : Vld2 l vwCl gTbl con_2329 := conR_ok3 gT_all (hd_2329) rfl pn_RX12 tk_X12_numberAt bo_RX12 xo_RX12 (cto_2 l) ch_2329 cut_nil
/-- RookHustingModel numberAt -/
noncomputable def ac_1172 : AC := .inr (2, jl_n [js_5 123 9223372036854775807 9223372036854775807, js_4 49 1, js_5 116 9223372036854775807 9223372036854775807])
noncomputable def con_2330 : Con2 := ((yX12_numberAt, cX12_numberAt, 3, (some .long)), (0, 0), ([(6, 0, 0), (0, 2, 0), (0, 3, 0)], gi_1800, [ac_1100, ac_1172], []), [((4, 48, 0), gi_1801, [(false, ac_1100), (false, ac_1172)], [], [1])])
theorem hd_2330 : con_2330.1 = (yX12_numberAt, cX12_numberAt, 3, (some .long)) := rfl
noncomputable def cu_2330 : List CUT2 := []
theorem ch_2330 : staG tb_X12_numberAt 1 bt_RX12 [] ct_2 [] [] cu_2330 11 con_2330 = true := by decide +kernel
theorem vl_2330 (l : Launch) : Vld2 l vwCl gTbl con_2330 := conR_ok3 gT_all (hd_2330) rfl pn_RX12 tk_X12_numberAt bo_RX12 xo_RX12 (cto_2 l) ch_2330 cut_nil
/-- RookHustingModel numberAt -/
noncomputable def ac_1173 : AC := .inr (2, jl_n [js_5 124 9223372036854775807 9223372036854775807, js_4 49 1, js_5 115 9223372036854775807 9223372036854775807])
noncomputable def con_2331 : Con2 := ((yX12_numberAt, cX12_numberAt, 3, (some .long)), (0, 0), ([(6, 0, 0), (0, 2, 0), (0, 4, 0)], gi_1800, [ac_1100, ac_1173], []), [((4, 48, 0), gi_1801, [(false, ac_1100), (false, ac_1173)], [], [1])])
theorem hd_2331 : con_2331.1 = (yX12_numberAt, cX12_numberAt, 3, (some .long)) := rfl
noncomputable def cu_2331 : List CUT2 := []
theorem ch_2331 : staG tb_X12_numberAt 1 bt_RX12 [] ct_2 [] [] cu_2331 11 con_2331 = true := by decide +kernel
theorem vl_2331 (l : Launch) : Vld2 l vwCl gTbl con_2331 := conR_ok3 gT_all (hd_2331) rfl pn_RX12 tk_X12_numberAt bo_RX12 xo_RX12 (cto_2 l) ch_2331 cut_nil
/-- RookHustingModel numberAt -/
noncomputable def ac_1174 : AC := .inr (2, jl_n [js_5 125 9223372036854775807 9223372036854775807, js_4 49 1, js_5 114 9223372036854775807 9223372036854775807])
noncomputable def con_2332 : Con2 := ((yX12_numberAt, cX12_numberAt, 3, (some .long)), (0, 0), ([(6, 0, 0), (0, 2, 0), (0, 5, 0)], gi_1800, [ac_1100, ac_1174], []), [((4, 48, 0), gi_1801, [(false, ac_1100), (false, ac_1174)], [], [1])])
theorem hd_2332 : con_2332.1 = (yX12_numberAt, cX12_numberAt, 3, (some .long)) := rfl
noncomputable def cu_2332 : List CUT2 := []
theorem ch_2332 : staG tb_X12_numberAt 1 bt_RX12 [] ct_2 [] [] cu_2332 11 con_2332 = true := by decide +kernel
theorem vl_2332 (l : Launch) : Vld2 l vwCl gTbl con_2332 := conR_ok3 gT_all (hd_2332) rfl pn_RX12 tk_X12_numberAt bo_RX12 xo_RX12 (cto_2 l) ch_2332 cut_nil
/-- RookHustingModel numberAt -/
noncomputable def ac_1175 : AC := .inr (2, jl_n [js_5 126 9223372036854775807 9223372036854775807, js_4 49 1, js_5 113 9223372036854775807 9223372036854775807])
noncomputable def con_2333 : Con2 := ((yX12_numberAt, cX12_numberAt, 3, (some .long)), (0, 0), ([(6, 0, 0), (0, 2, 0), (0, 6, 0)], gi_1800, [ac_1100, ac_1175], []), [((4, 48, 0), gi_1801, [(false, ac_1100), (false, ac_1175)], [], [1])])
theorem hd_2333 : con_2333.1 = (yX12_numberAt, cX12_numberAt, 3, (some .long)) := rfl
noncomputable def cu_2333 : List CUT2 := []
theorem ch_2333 : staG tb_X12_numberAt 1 bt_RX12 [] ct_2 [] [] cu_2333 11 con_2333 = true := by decide +kernel
theorem vl_2333 (l : Launch) : Vld2 l vwCl gTbl con_2333 := conR_ok3 gT_all (hd_2333) rfl pn_RX12 tk_X12_numberAt bo_RX12 xo_RX12 (cto_2 l) ch_2333 cut_nil
/-- RookHustingModel numberAt -/
noncomputable def ac_1176 : AC := .inr (2, jl_n [js_5 127 9223372036854775807 9223372036854775807, js_4 49 1, js_5 112 9223372036854775807 9223372036854775807])
noncomputable def con_2334 : Con2 := ((yX12_numberAt, cX12_numberAt, 3, (some .long)), (0, 0), ([(6, 0, 0), (0, 2, 0), (0, 7, 0)], gi_1800, [ac_1100, ac_1176], []), [((4, 48, 0), gi_1801, [(false, ac_1100), (false, ac_1176)], [], [1])])
theorem hd_2334 : con_2334.1 = (yX12_numberAt, cX12_numberAt, 3, (some .long)) := rfl
noncomputable def cu_2334 : List CUT2 := []
theorem ch_2334 : staG tb_X12_numberAt 1 bt_RX12 [] ct_2 [] [] cu_2334 11 con_2334 = true := by decide +kernel
theorem vl_2334 (l : Launch) : Vld2 l vwCl gTbl con_2334 := conR_ok3 gT_all (hd_2334) rfl pn_RX12 tk_X12_numberAt bo_RX12 xo_RX12 (cto_2 l) ch_2334 cut_nil
/-- RookHustingModel numberAt -/
noncomputable def ac_1177 : AC := .inr (2, jl_n [js_5 128 9223372036854775807 9223372036854775807, js_4 49 1, js_5 111 9223372036854775807 9223372036854775807])
noncomputable def con_2335 : Con2 := ((yX12_numberAt, cX12_numberAt, 3, (some .long)), (0, 0), ([(6, 0, 0), (0, 2, 0), (0, 8, 0)], gi_1800, [ac_1100, ac_1177], []), [((4, 48, 0), gi_1801, [(false, ac_1100), (false, ac_1177)], [], [1])])
theorem hd_2335 : con_2335.1 = (yX12_numberAt, cX12_numberAt, 3, (some .long)) := rfl
noncomputable def cu_2335 : List CUT2 := []
theorem ch_2335 : staG tb_X12_numberAt 1 bt_RX12 [] ct_2 [] [] cu_2335 11 con_2335 = true := by decide +kernel
theorem vl_2335 (l : Launch) : Vld2 l vwCl gTbl con_2335 := conR_ok3 gT_all (hd_2335) rfl pn_RX12 tk_X12_numberAt bo_RX12 xo_RX12 (cto_2 l) ch_2335 cut_nil
/-- RookHustingModel numberAt -/
noncomputable def ac_1178 : AC := .inr (2, jl_n [js_5 129 9223372036854775807 9223372036854775807, js_4 49 1, js_5 110 9223372036854775807 9223372036854775807])
noncomputable def con_2336 : Con2 := ((yX12_numberAt, cX12_numberAt, 3, (some .long)), (0, 0), ([(6, 0, 0), (0, 2, 0), (0, 9, 0)], gi_1800, [ac_1100, ac_1178], []), [((4, 48, 0), gi_1801, [(false, ac_1100), (false, ac_1178)], [], [1])])
theorem hd_2336 : con_2336.1 = (yX12_numberAt, cX12_numberAt, 3, (some .long)) := rfl
noncomputable def cu_2336 : List CUT2 := []
theorem ch_2336 : staG tb_X12_numberAt 1 bt_RX12 [] ct_2 [] [] cu_2336 11 con_2336 = true := by decide +kernel
theorem vl_2336 (l : Launch) : Vld2 l vwCl gTbl con_2336 := conR_ok3 gT_all (hd_2336) rfl pn_RX12 tk_X12_numberAt bo_RX12 xo_RX12 (cto_2 l) ch_2336 cut_nil
/-- RookHustingModel numberAt -/
noncomputable def ac_1179 : AC := .inr (2, jl_n [js_5 130 9223372036854775807 9223372036854775807, js_4 49 1, js_5 109 9223372036854775807 9223372036854775807])
noncomputable def con_2337 : Con2 := ((yX12_numberAt, cX12_numberAt, 3, (some .long)), (0, 0), ([(6, 0, 0), (0, 2, 0), (0, 10, 0)], gi_1800, [ac_1100, ac_1179], []), [((4, 48, 0), gi_1801, [(false, ac_1100), (false, ac_1179)], [], [1])])
theorem hd_2337 : con_2337.1 = (yX12_numberAt, cX12_numberAt, 3, (some .long)) := rfl
noncomputable def cu_2337 : List CUT2 := []
theorem ch_2337 : staG tb_X12_numberAt 1 bt_RX12 [] ct_2 [] [] cu_2337 11 con_2337 = true := by decide +kernel
theorem vl_2337 (l : Launch) : Vld2 l vwCl gTbl con_2337 := conR_ok3 gT_all (hd_2337) rfl pn_RX12 tk_X12_numberAt bo_RX12 xo_RX12 (cto_2 l) ch_2337 cut_nil
/-- RookHustingModel numberAt -/
noncomputable def ac_1180 : AC := .inr (2, jl_n [js_5 131 9223372036854775807 9223372036854775807, js_4 49 1, js_5 108 9223372036854775807 9223372036854775807])
noncomputable def con_2338 : Con2 := ((yX12_numberAt, cX12_numberAt, 3, (some .long)), (0, 0), ([(6, 0, 0), (0, 2, 0), (0, 11, 0)], gi_1800, [ac_1100, ac_1180], []), [((4, 48, 0), gi_1801, [(false, ac_1100), (false, ac_1180)], [], [1])])
theorem hd_2338 : con_2338.1 = (yX12_numberAt, cX12_numberAt, 3, (some .long)) := rfl
noncomputable def cu_2338 : List CUT2 := []
theorem ch_2338 : staG tb_X12_numberAt 1 bt_RX12 [] ct_2 [] [] cu_2338 11 con_2338 = true := by decide +kernel
theorem vl_2338 (l : Launch) : Vld2 l vwCl gTbl con_2338 := conR_ok3 gT_all (hd_2338) rfl pn_RX12 tk_X12_numberAt bo_RX12 xo_RX12 (cto_2 l) ch_2338 cut_nil
/-- RookHustingModel numberAt -/
noncomputable def ac_1181 : AC := .inr (2, jl_n [js_5 132 9223372036854775807 9223372036854775807, js_4 49 1, js_5 107 9223372036854775807 9223372036854775807])
noncomputable def con_2339 : Con2 := ((yX12_numberAt, cX12_numberAt, 3, (some .long)), (0, 0), ([(6, 0, 0), (0, 2, 0), (0, 12, 0)], gi_1800, [ac_1100, ac_1181], []), [((4, 48, 0), gi_1801, [(false, ac_1100), (false, ac_1181)], [], [1])])
theorem hd_2339 : con_2339.1 = (yX12_numberAt, cX12_numberAt, 3, (some .long)) := rfl
noncomputable def cu_2339 : List CUT2 := []
theorem ch_2339 : staG tb_X12_numberAt 1 bt_RX12 [] ct_2 [] [] cu_2339 11 con_2339 = true := by decide +kernel
theorem vl_2339 (l : Launch) : Vld2 l vwCl gTbl con_2339 := conR_ok3 gT_all (hd_2339) rfl pn_RX12 tk_X12_numberAt bo_RX12 xo_RX12 (cto_2 l) ch_2339 cut_nil
/-- RookHustingModel numberAt -/
noncomputable def ac_1182 : AC := .inr (2, jl_n [js_5 133 9223372036854775807 9223372036854775807, js_4 49 1, js_5 106 9223372036854775807 9223372036854775807])
noncomputable def con_2340 : Con2 := ((yX12_numberAt, cX12_numberAt, 3, (some .long)), (0, 0), ([(6, 0, 0), (0, 2, 0), (0, 13, 0)], gi_1800, [ac_1100, ac_1182], []), [((4, 48, 0), gi_1801, [(false, ac_1100), (false, ac_1182)], [], [1])])
theorem hd_2340 : con_2340.1 = (yX12_numberAt, cX12_numberAt, 3, (some .long)) := rfl
noncomputable def cu_2340 : List CUT2 := []
theorem ch_2340 : staG tb_X12_numberAt 1 bt_RX12 [] ct_2 [] [] cu_2340 11 con_2340 = true := by decide +kernel
theorem vl_2340 (l : Launch) : Vld2 l vwCl gTbl con_2340 := conR_ok3 gT_all (hd_2340) rfl pn_RX12 tk_X12_numberAt bo_RX12 xo_RX12 (cto_2 l) ch_2340 cut_nil
/-- RookHustingModel numberAt -/
noncomputable def ac_1183 : AC := .inr (2, jl_n [js_5 134 9223372036854775807 9223372036854775807, js_4 49 1, js_5 105 9223372036854775807 9223372036854775807])
noncomputable def con_2341 : Con2 := ((yX12_numberAt, cX12_numberAt, 3, (some .long)), (0, 0), ([(6, 0, 0), (0, 2, 0), (0, 14, 0)], gi_1800, [ac_1100, ac_1183], []), [((4, 48, 0), gi_1801, [(false, ac_1100), (false, ac_1183)], [], [1])])
theorem hd_2341 : con_2341.1 = (yX12_numberAt, cX12_numberAt, 3, (some .long)) := rfl
noncomputable def cu_2341 : List CUT2 := []
theorem ch_2341 : staG tb_X12_numberAt 1 bt_RX12 [] ct_2 [] [] cu_2341 11 con_2341 = true := by decide +kernel
theorem vl_2341 (l : Launch) : Vld2 l vwCl gTbl con_2341 := conR_ok3 gT_all (hd_2341) rfl pn_RX12 tk_X12_numberAt bo_RX12 xo_RX12 (cto_2 l) ch_2341 cut_nil
/-- RookHustingModel numberAt -/
noncomputable def ac_1184 : AC := .inr (2, jl_n [js_5 135 9223372036854775807 9223372036854775807, js_4 49 1, js_5 104 9223372036854775807 9223372036854775807])
noncomputable def con_2342 : Con2 := ((yX12_numberAt, cX12_numberAt, 3, (some .long)), (0, 0), ([(6, 0, 0), (0, 2, 0), (0, 15, 0)], gi_1800, [ac_1100, ac_1184], []), [((4, 48, 0), gi_1801, [(false, ac_1100), (false, ac_1184)], [], [1])])
theorem hd_2342 : con_2342.1 = (yX12_numberAt, cX12_numberAt, 3, (some .long)) := rfl
noncomputable def cu_2342 : List CUT2 := []
theorem ch_2342 : staG tb_X12_numberAt 1 bt_RX12 [] ct_2 [] [] cu_2342 11 con_2342 = true := by decide +kernel
theorem vl_2342 (l : Launch) : Vld2 l vwCl gTbl con_2342 := conR_ok3 gT_all (hd_2342) rfl pn_RX12 tk_X12_numberAt bo_RX12 xo_RX12 (cto_2 l) ch_2342 cut_nil
/-- RookHustingModel numberAt -/
noncomputable def ac_1185 : AC := .inr (2, jl_n [js_5 136 9223372036854775807 9223372036854775807, js_4 49 1, js_5 103 9223372036854775807 9223372036854775807])
noncomputable def con_2343 : Con2 := ((yX12_numberAt, cX12_numberAt, 3, (some .long)), (0, 0), ([(6, 0, 0), (0, 2, 0), (0, 16, 0)], gi_1800, [ac_1100, ac_1185], []), [((4, 48, 0), gi_1801, [(false, ac_1100), (false, ac_1185)], [], [1])])
theorem hd_2343 : con_2343.1 = (yX12_numberAt, cX12_numberAt, 3, (some .long)) := rfl
noncomputable def cu_2343 : List CUT2 := []
theorem ch_2343 : staG tb_X12_numberAt 1 bt_RX12 [] ct_2 [] [] cu_2343 11 con_2343 = true := by decide +kernel
theorem vl_2343 (l : Launch) : Vld2 l vwCl gTbl con_2343 := conR_ok3 gT_all (hd_2343) rfl pn_RX12 tk_X12_numberAt bo_RX12 xo_RX12 (cto_2 l) ch_2343 cut_nil
/-- RookHustingModel numberAt -/
noncomputable def ac_1186 : AC := .inr (2, jl_n [js_5 137 9223372036854775807 9223372036854775807, js_4 49 1, js_5 102 9223372036854775807 9223372036854775807])
noncomputable def con_2344 : Con2 := ((yX12_numberAt, cX12_numberAt, 3, (some .long)), (0, 0), ([(6, 0, 0), (0, 2, 0), (0, 17, 0)], gi_1800, [ac_1100, ac_1186], []), [((4, 48, 0), gi_1801, [(false, ac_1100), (false, ac_1186)], [], [1])])
theorem hd_2344 : con_2344.1 = (yX12_numberAt, cX12_numberAt, 3, (some .long)) := rfl
noncomputable def cu_2344 : List CUT2 := []
theorem ch_2344 : staG tb_X12_numberAt 1 bt_RX12 [] ct_2 [] [] cu_2344 11 con_2344 = true := by decide +kernel
theorem vl_2344 (l : Launch) : Vld2 l vwCl gTbl con_2344 := conR_ok3 gT_all (hd_2344) rfl pn_RX12 tk_X12_numberAt bo_RX12 xo_RX12 (cto_2 l) ch_2344 cut_nil
/-- RookHustingModel numberAt -/
noncomputable def ac_1187 : AC := .inr (2, jl_n [js_5 138 9223372036854775807 9223372036854775807, js_4 49 1, js_5 101 9223372036854775807 9223372036854775807])
noncomputable def con_2345 : Con2 := ((yX12_numberAt, cX12_numberAt, 3, (some .long)), (0, 0), ([(6, 0, 0), (0, 2, 0), (0, 18, 0)], gi_1800, [ac_1100, ac_1187], []), [((4, 48, 0), gi_1801, [(false, ac_1100), (false, ac_1187)], [], [1])])
theorem hd_2345 : con_2345.1 = (yX12_numberAt, cX12_numberAt, 3, (some .long)) := rfl
noncomputable def cu_2345 : List CUT2 := []
theorem ch_2345 : staG tb_X12_numberAt 1 bt_RX12 [] ct_2 [] [] cu_2345 11 con_2345 = true := by decide +kernel
theorem vl_2345 (l : Launch) : Vld2 l vwCl gTbl con_2345 := conR_ok3 gT_all (hd_2345) rfl pn_RX12 tk_X12_numberAt bo_RX12 xo_RX12 (cto_2 l) ch_2345 cut_nil
/-- RookHustingModel numberAt -/
noncomputable def ac_1188 : AC := .inr (2, jl_n [js_5 139 9223372036854775807 9223372036854775807, js_4 49 1, js_5 100 9223372036854775807 9223372036854775807])
noncomputable def con_2346 : Con2 := ((yX12_numberAt, cX12_numberAt, 3, (some .long)), (0, 0), ([(6, 0, 0), (0, 2, 0), (0, 19, 0)], gi_1800, [ac_1100, ac_1188], []), [((4, 48, 0), gi_1801, [(false, ac_1100), (false, ac_1188)], [], [1])])
theorem hd_2346 : con_2346.1 = (yX12_numberAt, cX12_numberAt, 3, (some .long)) := rfl
noncomputable def cu_2346 : List CUT2 := []
theorem ch_2346 : staG tb_X12_numberAt 1 bt_RX12 [] ct_2 [] [] cu_2346 11 con_2346 = true := by decide +kernel
theorem vl_2346 (l : Launch) : Vld2 l vwCl gTbl con_2346 := conR_ok3 gT_all (hd_2346) rfl pn_RX12 tk_X12_numberAt bo_RX12 xo_RX12 (cto_2 l) ch_2346 cut_nil
/-- RookHustingModel numberAt -/
noncomputable def ac_1189 : AC := .inr (2, jl_n [js_5 140 9223372036854775807 9223372036854775807, js_4 49 1, js_5 99 9223372036854775807 9223372036854775807])
noncomputable def con_2347 : Con2 := ((yX12_numberAt, cX12_numberAt, 3, (some .long)), (0, 0), ([(6, 0, 0), (0, 2, 0), (0, 20, 0)], gi_1800, [ac_1100, ac_1189], []), [((4, 48, 0), gi_1801, [(false, ac_1100), (false, ac_1189)], [], [1])])
theorem hd_2347 : con_2347.1 = (yX12_numberAt, cX12_numberAt, 3, (some .long)) := rfl
noncomputable def cu_2347 : List CUT2 := []
theorem ch_2347 : staG tb_X12_numberAt 1 bt_RX12 [] ct_2 [] [] cu_2347 11 con_2347 = true := by decide +kernel
theorem vl_2347 (l : Launch) : Vld2 l vwCl gTbl con_2347 := conR_ok3 gT_all (hd_2347) rfl pn_RX12 tk_X12_numberAt bo_RX12 xo_RX12 (cto_2 l) ch_2347 cut_nil
/-- RookHustingModel numberAt -/
noncomputable def ac_1190 : AC := .inr (2, jl_n [js_5 141 9223372036854775807 9223372036854775807, js_4 49 1, js_5 98 9223372036854775807 9223372036854775807])
noncomputable def con_2348 : Con2 := ((yX12_numberAt, cX12_numberAt, 3, (some .long)), (0, 0), ([(6, 0, 0), (0, 2, 0), (0, 21, 0)], gi_1800, [ac_1100, ac_1190], []), [((4, 48, 0), gi_1801, [(false, ac_1100), (false, ac_1190)], [], [1])])
theorem hd_2348 : con_2348.1 = (yX12_numberAt, cX12_numberAt, 3, (some .long)) := rfl
noncomputable def cu_2348 : List CUT2 := []
theorem ch_2348 : staG tb_X12_numberAt 1 bt_RX12 [] ct_2 [] [] cu_2348 11 con_2348 = true := by decide +kernel
theorem vl_2348 (l : Launch) : Vld2 l vwCl gTbl con_2348 := conR_ok3 gT_all (hd_2348) rfl pn_RX12 tk_X12_numberAt bo_RX12 xo_RX12 (cto_2 l) ch_2348 cut_nil
/-- RookHustingModel numberAt -/
noncomputable def ac_1191 : AC := .inr (2, jl_n [js_5 142 9223372036854775807 9223372036854775807, js_4 49 1, js_5 97 9223372036854775807 9223372036854775807])
noncomputable def con_2349 : Con2 := ((yX12_numberAt, cX12_numberAt, 3, (some .long)), (0, 0), ([(6, 0, 0), (0, 2, 0), (0, 22, 0)], gi_1800, [ac_1100, ac_1191], []), [((4, 48, 0), gi_1801, [(false, ac_1100), (false, ac_1191)], [], [1])])
theorem hd_2349 : con_2349.1 = (yX12_numberAt, cX12_numberAt, 3, (some .long)) := rfl
noncomputable def cu_2349 : List CUT2 := []
theorem ch_2349 : staG tb_X12_numberAt 1 bt_RX12 [] ct_2 [] [] cu_2349 11 con_2349 = true := by decide +kernel
theorem vl_2349 (l : Launch) : Vld2 l vwCl gTbl con_2349 := conR_ok3 gT_all (hd_2349) rfl pn_RX12 tk_X12_numberAt bo_RX12 xo_RX12 (cto_2 l) ch_2349 cut_nil
/-- RookHustingModel numberAt -/
noncomputable def ac_1192 : AC := .inr (2, jl_n [js_5 143 9223372036854775807 9223372036854775807, js_4 49 1, js_5 96 9223372036854775807 9223372036854775807])
noncomputable def con_2350 : Con2 := ((yX12_numberAt, cX12_numberAt, 3, (some .long)), (0, 0), ([(6, 0, 0), (0, 2, 0), (0, 23, 0)], gi_1800, [ac_1100, ac_1192], []), [((4, 48, 0), gi_1801, [(false, ac_1100), (false, ac_1192)], [], [1])])
theorem hd_2350 : con_2350.1 = (yX12_numberAt, cX12_numberAt, 3, (some .long)) := rfl
noncomputable def cu_2350 : List CUT2 := []
theorem ch_2350 : staG tb_X12_numberAt 1 bt_RX12 [] ct_2 [] [] cu_2350 11 con_2350 = true := by decide +kernel
theorem vl_2350 (l : Launch) : Vld2 l vwCl gTbl con_2350 := conR_ok3 gT_all (hd_2350) rfl pn_RX12 tk_X12_numberAt bo_RX12 xo_RX12 (cto_2 l) ch_2350 cut_nil
/-- RookHustingModel numberAt -/
noncomputable def ac_1193 : AC := .inr (2, jl_n [js_5 144 9223372036854775807 9223372036854775807, js_4 49 1, js_5 95 9223372036854775807 9223372036854775807])
noncomputable def con_2351 : Con2 := ((yX12_numberAt, cX12_numberAt, 3, (some .long)), (0, 0), ([(6, 0, 0), (0, 2, 0), (0, 24, 0)], gi_1800, [ac_1100, ac_1193], []), [((4, 48, 0), gi_1801, [(false, ac_1100), (false, ac_1193)], [], [1])])
theorem hd_2351 : con_2351.1 = (yX12_numberAt, cX12_numberAt, 3, (some .long)) := rfl
noncomputable def cu_2351 : List CUT2 := []
theorem ch_2351 : staG tb_X12_numberAt 1 bt_RX12 [] ct_2 [] [] cu_2351 11 con_2351 = true := by decide +kernel
theorem vl_2351 (l : Launch) : Vld2 l vwCl gTbl con_2351 := conR_ok3 gT_all (hd_2351) rfl pn_RX12 tk_X12_numberAt bo_RX12 xo_RX12 (cto_2 l) ch_2351 cut_nil
/-- RookHustingModel numberAt -/
noncomputable def ac_1194 : AC := .inr (2, jl_n [js_5 145 9223372036854775807 9223372036854775807, js_4 49 1, js_5 94 9223372036854775807 9223372036854775807])
noncomputable def con_2352 : Con2 := ((yX12_numberAt, cX12_numberAt, 3, (some .long)), (0, 0), ([(6, 0, 0), (0, 2, 0), (0, 25, 0)], gi_1800, [ac_1100, ac_1194], []), [((4, 48, 0), gi_1801, [(false, ac_1100), (false, ac_1194)], [], [1])])
theorem hd_2352 : con_2352.1 = (yX12_numberAt, cX12_numberAt, 3, (some .long)) := rfl
noncomputable def cu_2352 : List CUT2 := []
theorem ch_2352 : staG tb_X12_numberAt 1 bt_RX12 [] ct_2 [] [] cu_2352 11 con_2352 = true := by decide +kernel
theorem vl_2352 (l : Launch) : Vld2 l vwCl gTbl con_2352 := conR_ok3 gT_all (hd_2352) rfl pn_RX12 tk_X12_numberAt bo_RX12 xo_RX12 (cto_2 l) ch_2352 cut_nil
/-- RookHustingModel numberAt -/
noncomputable def ac_1195 : AC := .inr (2, jl_n [js_5 146 9223372036854775807 9223372036854775807, js_4 49 1, js_5 93 9223372036854775807 9223372036854775807])
noncomputable def con_2353 : Con2 := ((yX12_numberAt, cX12_numberAt, 3, (some .long)), (0, 0), ([(6, 0, 0), (0, 2, 0), (0, 26, 0)], gi_1800, [ac_1100, ac_1195], []), [((4, 48, 0), gi_1801, [(false, ac_1100), (false, ac_1195)], [], [1])])
theorem hd_2353 : con_2353.1 = (yX12_numberAt, cX12_numberAt, 3, (some .long)) := rfl
noncomputable def cu_2353 : List CUT2 := []
theorem ch_2353 : staG tb_X12_numberAt 1 bt_RX12 [] ct_2 [] [] cu_2353 11 con_2353 = true := by decide +kernel
theorem vl_2353 (l : Launch) : Vld2 l vwCl gTbl con_2353 := conR_ok3 gT_all (hd_2353) rfl pn_RX12 tk_X12_numberAt bo_RX12 xo_RX12 (cto_2 l) ch_2353 cut_nil
/-- RookHustingModel numberAt -/
noncomputable def ac_1196 : AC := .inr (2, jl_n [js_5 147 9223372036854775807 9223372036854775807, js_4 49 1, js_5 92 9223372036854775807 9223372036854775807])
noncomputable def con_2354 : Con2 := ((yX12_numberAt, cX12_numberAt, 3, (some .long)), (0, 0), ([(6, 0, 0), (0, 2, 0), (0, 27, 0)], gi_1800, [ac_1100, ac_1196], []), [((4, 48, 0), gi_1801, [(false, ac_1100), (false, ac_1196)], [], [1])])
theorem hd_2354 : con_2354.1 = (yX12_numberAt, cX12_numberAt, 3, (some .long)) := rfl
noncomputable def cu_2354 : List CUT2 := []
theorem ch_2354 : staG tb_X12_numberAt 1 bt_RX12 [] ct_2 [] [] cu_2354 11 con_2354 = true := by decide +kernel
theorem vl_2354 (l : Launch) : Vld2 l vwCl gTbl con_2354 := conR_ok3 gT_all (hd_2354) rfl pn_RX12 tk_X12_numberAt bo_RX12 xo_RX12 (cto_2 l) ch_2354 cut_nil
/-- RookHustingModel numberAt -/
noncomputable def ac_1197 : AC := .inr (2, jl_n [js_5 148 9223372036854775807 9223372036854775807, js_4 49 1, js_5 91 9223372036854775807 9223372036854775807])
noncomputable def con_2355 : Con2 := ((yX12_numberAt, cX12_numberAt, 3, (some .long)), (0, 0), ([(6, 0, 0), (0, 2, 0), (0, 28, 0)], gi_1800, [ac_1100, ac_1197], []), [((4, 48, 0), gi_1801, [(false, ac_1100), (false, ac_1197)], [], [1])])
theorem hd_2355 : con_2355.1 = (yX12_numberAt, cX12_numberAt, 3, (some .long)) := rfl
noncomputable def cu_2355 : List CUT2 := []
theorem ch_2355 : staG tb_X12_numberAt 1 bt_RX12 [] ct_2 [] [] cu_2355 11 con_2355 = true := by decide +kernel
theorem vl_2355 (l : Launch) : Vld2 l vwCl gTbl con_2355 := conR_ok3 gT_all (hd_2355) rfl pn_RX12 tk_X12_numberAt bo_RX12 xo_RX12 (cto_2 l) ch_2355 cut_nil
/-- RookHustingModel numberAt -/
noncomputable def ac_1198 : AC := .inr (2, jl_n [js_5 149 9223372036854775807 9223372036854775807, js_4 49 1, js_5 90 9223372036854775807 9223372036854775807])
noncomputable def con_2356 : Con2 := ((yX12_numberAt, cX12_numberAt, 3, (some .long)), (0, 0), ([(6, 0, 0), (0, 2, 0), (0, 29, 0)], gi_1800, [ac_1100, ac_1198], []), [((4, 48, 0), gi_1801, [(false, ac_1100), (false, ac_1198)], [], [1])])
theorem hd_2356 : con_2356.1 = (yX12_numberAt, cX12_numberAt, 3, (some .long)) := rfl
noncomputable def cu_2356 : List CUT2 := []
theorem ch_2356 : staG tb_X12_numberAt 1 bt_RX12 [] ct_2 [] [] cu_2356 11 con_2356 = true := by decide +kernel
theorem vl_2356 (l : Launch) : Vld2 l vwCl gTbl con_2356 := conR_ok3 gT_all (hd_2356) rfl pn_RX12 tk_X12_numberAt bo_RX12 xo_RX12 (cto_2 l) ch_2356 cut_nil
/-- RookHustingModel numberAt -/
noncomputable def ac_1199 : AC := .inr (2, jl_n [js_5 150 9223372036854775807 9223372036854775807, js_4 49 1, js_5 89 9223372036854775807 9223372036854775807])
noncomputable def con_2357 : Con2 := ((yX12_numberAt, cX12_numberAt, 3, (some .long)), (0, 0), ([(6, 0, 0), (0, 2, 0), (0, 30, 0)], gi_1800, [ac_1100, ac_1199], []), [((4, 48, 0), gi_1801, [(false, ac_1100), (false, ac_1199)], [], [1])])
theorem hd_2357 : con_2357.1 = (yX12_numberAt, cX12_numberAt, 3, (some .long)) := rfl
noncomputable def cu_2357 : List CUT2 := []
theorem ch_2357 : staG tb_X12_numberAt 1 bt_RX12 [] ct_2 [] [] cu_2357 11 con_2357 = true := by decide +kernel
theorem vl_2357 (l : Launch) : Vld2 l vwCl gTbl con_2357 := conR_ok3 gT_all (hd_2357) rfl pn_RX12 tk_X12_numberAt bo_RX12 xo_RX12 (cto_2 l) ch_2357 cut_nil
/-- RookHustingModel numberAt -/
noncomputable def ac_1200 : AC := .inr (2, jl_n [js_5 151 9223372036854775807 9223372036854775807, js_4 49 1, js_5 88 9223372036854775807 9223372036854775807])
noncomputable def con_2358 : Con2 := ((yX12_numberAt, cX12_numberAt, 3, (some .long)), (0, 0), ([(6, 0, 0), (0, 2, 0), (0, 31, 0)], gi_1800, [ac_1100, ac_1200], []), [((4, 48, 0), gi_1801, [(false, ac_1100), (false, ac_1200)], [], [1])])
theorem hd_2358 : con_2358.1 = (yX12_numberAt, cX12_numberAt, 3, (some .long)) := rfl
noncomputable def cu_2358 : List CUT2 := []
theorem ch_2358 : staG tb_X12_numberAt 1 bt_RX12 [] ct_2 [] [] cu_2358 11 con_2358 = true := by decide +kernel
theorem vl_2358 (l : Launch) : Vld2 l vwCl gTbl con_2358 := conR_ok3 gT_all (hd_2358) rfl pn_RX12 tk_X12_numberAt bo_RX12 xo_RX12 (cto_2 l) ch_2358 cut_nil
/-- RookHustingModel numberAt -/
noncomputable def ac_1201 : AC := .inr (2, jl_n [js_5 152 9223372036854775807 9223372036854775807, js_4 49 1, js_5 87 9223372036854775807 9223372036854775807])
noncomputable def con_2359 : Con2 := ((yX12_numberAt, cX12_numberAt, 3, (some .long)), (0, 0), ([(6, 0, 0), (0, 2, 0), (0, 32, 0)], gi_1800, [ac_1100, ac_1201], []), [((4, 48, 0), gi_1801, [(false, ac_1100), (false, ac_1201)], [], [1])])
theorem hd_2359 : con_2359.1 = (yX12_numberAt, cX12_numberAt, 3, (some .long)) := rfl
noncomputable def cu_2359 : List CUT2 := []
theorem ch_2359 : staG tb_X12_numberAt 1 bt_RX12 [] ct_2 [] [] cu_2359 11 con_2359 = true := by decide +kernel
theorem vl_2359 (l : Launch) : Vld2 l vwCl gTbl con_2359 := conR_ok3 gT_all (hd_2359) rfl pn_RX12 tk_X12_numberAt bo_RX12 xo_RX12 (cto_2 l) ch_2359 cut_nil
/-- RookHustingModel numberAt -/
noncomputable def ac_1202 : AC := .inr (2, jl_n [js_5 153 9223372036854775807 9223372036854775807, js_4 49 1, js_5 86 9223372036854775807 9223372036854775807])
noncomputable def con_2360 : Con2 := ((yX12_numberAt, cX12_numberAt, 3, (some .long)), (0, 0), ([(6, 0, 0), (0, 2, 0), (0, 33, 0)], gi_1800, [ac_1100, ac_1202], []), [((4, 48, 0), gi_1801, [(false, ac_1100), (false, ac_1202)], [], [1])])
theorem hd_2360 : con_2360.1 = (yX12_numberAt, cX12_numberAt, 3, (some .long)) := rfl
noncomputable def cu_2360 : List CUT2 := []
theorem ch_2360 : staG tb_X12_numberAt 1 bt_RX12 [] ct_2 [] [] cu_2360 11 con_2360 = true := by decide +kernel
theorem vl_2360 (l : Launch) : Vld2 l vwCl gTbl con_2360 := conR_ok3 gT_all (hd_2360) rfl pn_RX12 tk_X12_numberAt bo_RX12 xo_RX12 (cto_2 l) ch_2360 cut_nil
/-- RookHustingModel numberAt -/
noncomputable def ac_1203 : AC := .inr (2, jl_n [js_5 154 9223372036854775807 9223372036854775807, js_4 49 1, js_5 85 9223372036854775807 9223372036854775807])
noncomputable def con_2361 : Con2 := ((yX12_numberAt, cX12_numberAt, 3, (some .long)), (0, 0), ([(6, 0, 0), (0, 2, 0), (0, 34, 0)], gi_1800, [ac_1100, ac_1203], []), [((4, 48, 0), gi_1801, [(false, ac_1100), (false, ac_1203)], [], [1])])
theorem hd_2361 : con_2361.1 = (yX12_numberAt, cX12_numberAt, 3, (some .long)) := rfl
noncomputable def cu_2361 : List CUT2 := []
theorem ch_2361 : staG tb_X12_numberAt 1 bt_RX12 [] ct_2 [] [] cu_2361 11 con_2361 = true := by decide +kernel
theorem vl_2361 (l : Launch) : Vld2 l vwCl gTbl con_2361 := conR_ok3 gT_all (hd_2361) rfl pn_RX12 tk_X12_numberAt bo_RX12 xo_RX12 (cto_2 l) ch_2361 cut_nil
/-- RookHustingModel numberAt -/
noncomputable def ac_1204 : AC := .inr (2, jl_n [js_5 155 9223372036854775807 9223372036854775807, js_4 49 1, js_5 84 9223372036854775807 9223372036854775807])
noncomputable def con_2362 : Con2 := ((yX12_numberAt, cX12_numberAt, 3, (some .long)), (0, 0), ([(6, 0, 0), (0, 2, 0), (0, 35, 0)], gi_1800, [ac_1100, ac_1204], []), [((4, 48, 0), gi_1801, [(false, ac_1100), (false, ac_1204)], [], [1])])
theorem hd_2362 : con_2362.1 = (yX12_numberAt, cX12_numberAt, 3, (some .long)) := rfl
noncomputable def cu_2362 : List CUT2 := []
theorem ch_2362 : staG tb_X12_numberAt 1 bt_RX12 [] ct_2 [] [] cu_2362 11 con_2362 = true := by decide +kernel
theorem vl_2362 (l : Launch) : Vld2 l vwCl gTbl con_2362 := conR_ok3 gT_all (hd_2362) rfl pn_RX12 tk_X12_numberAt bo_RX12 xo_RX12 (cto_2 l) ch_2362 cut_nil
/-- RookHustingModel numberAt -/
noncomputable def ac_1205 : AC := .inr (2, jl_n [js_5 156 9223372036854775807 9223372036854775807, js_4 49 1, js_5 83 9223372036854775807 9223372036854775807])
noncomputable def con_2363 : Con2 := ((yX12_numberAt, cX12_numberAt, 3, (some .long)), (0, 0), ([(6, 0, 0), (0, 2, 0), (0, 36, 0)], gi_1800, [ac_1100, ac_1205], []), [((4, 48, 0), gi_1801, [(false, ac_1100), (false, ac_1205)], [], [1])])
theorem hd_2363 : con_2363.1 = (yX12_numberAt, cX12_numberAt, 3, (some .long)) := rfl
noncomputable def cu_2363 : List CUT2 := []
theorem ch_2363 : staG tb_X12_numberAt 1 bt_RX12 [] ct_2 [] [] cu_2363 11 con_2363 = true := by decide +kernel
theorem vl_2363 (l : Launch) : Vld2 l vwCl gTbl con_2363 := conR_ok3 gT_all (hd_2363) rfl pn_RX12 tk_X12_numberAt bo_RX12 xo_RX12 (cto_2 l) ch_2363 cut_nil
/-- RookHustingModel numberAt -/
noncomputable def ac_1206 : AC := .inr (2, jl_n [js_5 157 9223372036854775807 9223372036854775807, js_4 49 1, js_5 82 9223372036854775807 9223372036854775807])
noncomputable def con_2364 : Con2 := ((yX12_numberAt, cX12_numberAt, 3, (some .long)), (0, 0), ([(6, 0, 0), (0, 2, 0), (0, 37, 0)], gi_1800, [ac_1100, ac_1206], []), [((4, 48, 0), gi_1801, [(false, ac_1100), (false, ac_1206)], [], [1])])
theorem hd_2364 : con_2364.1 = (yX12_numberAt, cX12_numberAt, 3, (some .long)) := rfl
noncomputable def cu_2364 : List CUT2 := []
theorem ch_2364 : staG tb_X12_numberAt 1 bt_RX12 [] ct_2 [] [] cu_2364 11 con_2364 = true := by decide +kernel
theorem vl_2364 (l : Launch) : Vld2 l vwCl gTbl con_2364 := conR_ok3 gT_all (hd_2364) rfl pn_RX12 tk_X12_numberAt bo_RX12 xo_RX12 (cto_2 l) ch_2364 cut_nil
/-- RookHustingModel numberAt -/
noncomputable def ac_1207 : AC := .inr (2, jl_n [js_5 158 9223372036854775807 9223372036854775807, js_4 49 1, js_5 81 9223372036854775807 9223372036854775807])
noncomputable def con_2365 : Con2 := ((yX12_numberAt, cX12_numberAt, 3, (some .long)), (0, 0), ([(6, 0, 0), (0, 2, 0), (0, 38, 0)], gi_1800, [ac_1100, ac_1207], []), [((4, 48, 0), gi_1801, [(false, ac_1100), (false, ac_1207)], [], [1])])
theorem hd_2365 : con_2365.1 = (yX12_numberAt, cX12_numberAt, 3, (some .long)) := rfl
noncomputable def cu_2365 : List CUT2 := []
theorem ch_2365 : staG tb_X12_numberAt 1 bt_RX12 [] ct_2 [] [] cu_2365 11 con_2365 = true := by decide +kernel
theorem vl_2365 (l : Launch) : Vld2 l vwCl gTbl con_2365 := conR_ok3 gT_all (hd_2365) rfl pn_RX12 tk_X12_numberAt bo_RX12 xo_RX12 (cto_2 l) ch_2365 cut_nil
/-- RookHustingModel numberAt -/
noncomputable def ac_1208 : AC := .inr (2, jl_n [js_5 159 9223372036854775807 9223372036854775807, js_4 49 1, js_5 80 9223372036854775807 9223372036854775807])
noncomputable def con_2366 : Con2 := ((yX12_numberAt, cX12_numberAt, 3, (some .long)), (0, 0), ([(6, 0, 0), (0, 2, 0), (0, 39, 0)], gi_1800, [ac_1100, ac_1208], []), [((4, 48, 0), gi_1801, [(false, ac_1100), (false, ac_1208)], [], [1])])
theorem hd_2366 : con_2366.1 = (yX12_numberAt, cX12_numberAt, 3, (some .long)) := rfl
noncomputable def cu_2366 : List CUT2 := []
theorem ch_2366 : staG tb_X12_numberAt 1 bt_RX12 [] ct_2 [] [] cu_2366 11 con_2366 = true := by decide +kernel
theorem vl_2366 (l : Launch) : Vld2 l vwCl gTbl con_2366 := conR_ok3 gT_all (hd_2366) rfl pn_RX12 tk_X12_numberAt bo_RX12 xo_RX12 (cto_2 l) ch_2366 cut_nil
/-- RookHustingModel numberAt -/
noncomputable def ac_1209 : AC := .inr (2, jl_n [js_5 160 9223372036854775807 9223372036854775807, js_4 49 1, js_5 79 9223372036854775807 9223372036854775807])
noncomputable def con_2367 : Con2 := ((yX12_numberAt, cX12_numberAt, 3, (some .long)), (0, 0), ([(6, 0, 0), (0, 2, 0), (0, 40, 0)], gi_1800, [ac_1100, ac_1209], []), [((4, 48, 0), gi_1801, [(false, ac_1100), (false, ac_1209)], [], [1])])
theorem hd_2367 : con_2367.1 = (yX12_numberAt, cX12_numberAt, 3, (some .long)) := rfl
noncomputable def cu_2367 : List CUT2 := []
theorem ch_2367 : staG tb_X12_numberAt 1 bt_RX12 [] ct_2 [] [] cu_2367 11 con_2367 = true := by decide +kernel
theorem vl_2367 (l : Launch) : Vld2 l vwCl gTbl con_2367 := conR_ok3 gT_all (hd_2367) rfl pn_RX12 tk_X12_numberAt bo_RX12 xo_RX12 (cto_2 l) ch_2367 cut_nil
/-- RookHustingModel numberAt -/
noncomputable def ac_1210 : AC := .inr (2, jl_n [js_5 161 9223372036854775807 9223372036854775807, js_4 49 1, js_5 78 9223372036854775807 9223372036854775807])
noncomputable def con_2368 : Con2 := ((yX12_numberAt, cX12_numberAt, 3, (some .long)), (0, 0), ([(6, 0, 0), (0, 2, 0), (0, 41, 0)], gi_1800, [ac_1100, ac_1210], []), [((4, 48, 0), gi_1801, [(false, ac_1100), (false, ac_1210)], [], [1])])
theorem hd_2368 : con_2368.1 = (yX12_numberAt, cX12_numberAt, 3, (some .long)) := rfl
noncomputable def cu_2368 : List CUT2 := []
theorem ch_2368 : staG tb_X12_numberAt 1 bt_RX12 [] ct_2 [] [] cu_2368 11 con_2368 = true := by decide +kernel
theorem vl_2368 (l : Launch) : Vld2 l vwCl gTbl con_2368 := conR_ok3 gT_all (hd_2368) rfl pn_RX12 tk_X12_numberAt bo_RX12 xo_RX12 (cto_2 l) ch_2368 cut_nil
/-- RookHustingModel numberAt -/
noncomputable def ac_1211 : AC := .inr (2, jl_n [js_5 162 9223372036854775807 9223372036854775807, js_4 49 1, js_5 77 9223372036854775807 9223372036854775807])
noncomputable def con_2369 : Con2 := ((yX12_numberAt, cX12_numberAt, 3, (some .long)), (0, 0), ([(6, 0, 0), (0, 2, 0), (0, 42, 0)], gi_1800, [ac_1100, ac_1211], []), [((4, 48, 0), gi_1801, [(false, ac_1100), (false, ac_1211)], [], [1])])
theorem hd_2369 : con_2369.1 = (yX12_numberAt, cX12_numberAt, 3, (some .long)) := rfl
noncomputable def cu_2369 : List CUT2 := []
theorem ch_2369 : staG tb_X12_numberAt 1 bt_RX12 [] ct_2 [] [] cu_2369 11 con_2369 = true := by decide +kernel
theorem vl_2369 (l : Launch) : Vld2 l vwCl gTbl con_2369 := conR_ok3 gT_all (hd_2369) rfl pn_RX12 tk_X12_numberAt bo_RX12 xo_RX12 (cto_2 l) ch_2369 cut_nil
/-- RookHustingModel numberAt -/
noncomputable def ac_1212 : AC := .inr (2, jl_n [js_5 163 9223372036854775807 9223372036854775807, js_4 49 1, js_5 76 9223372036854775807 9223372036854775807])
noncomputable def con_2370 : Con2 := ((yX12_numberAt, cX12_numberAt, 3, (some .long)), (0, 0), ([(6, 0, 0), (0, 2, 0), (0, 43, 0)], gi_1800, [ac_1100, ac_1212], []), [((4, 48, 0), gi_1801, [(false, ac_1100), (false, ac_1212)], [], [1])])
theorem hd_2370 : con_2370.1 = (yX12_numberAt, cX12_numberAt, 3, (some .long)) := rfl
noncomputable def cu_2370 : List CUT2 := []
theorem ch_2370 : staG tb_X12_numberAt 1 bt_RX12 [] ct_2 [] [] cu_2370 11 con_2370 = true := by decide +kernel
theorem vl_2370 (l : Launch) : Vld2 l vwCl gTbl con_2370 := conR_ok3 gT_all (hd_2370) rfl pn_RX12 tk_X12_numberAt bo_RX12 xo_RX12 (cto_2 l) ch_2370 cut_nil
/-- RookHustingModel numberAt -/
noncomputable def ac_1213 : AC := .inr (2, jl_n [js_5 164 9223372036854775807 9223372036854775807, js_4 49 1, js_5 75 9223372036854775807 9223372036854775807])
noncomputable def con_2371 : Con2 := ((yX12_numberAt, cX12_numberAt, 3, (some .long)), (0, 0), ([(6, 0, 0), (0, 2, 0), (0, 44, 0)], gi_1800, [ac_1100, ac_1213], []), [((4, 48, 0), gi_1801, [(false, ac_1100), (false, ac_1213)], [], [1])])
theorem hd_2371 : con_2371.1 = (yX12_numberAt, cX12_numberAt, 3, (some .long)) := rfl
noncomputable def cu_2371 : List CUT2 := []
theorem ch_2371 : staG tb_X12_numberAt 1 bt_RX12 [] ct_2 [] [] cu_2371 11 con_2371 = true := by decide +kernel
theorem vl_2371 (l : Launch) : Vld2 l vwCl gTbl con_2371 := conR_ok3 gT_all (hd_2371) rfl pn_RX12 tk_X12_numberAt bo_RX12 xo_RX12 (cto_2 l) ch_2371 cut_nil
/-- RookHustingModel numberAt -/
noncomputable def ac_1214 : AC := .inr (2, jl_n [js_5 165 9223372036854775807 9223372036854775807, js_4 49 1, js_5 74 9223372036854775807 9223372036854775807])
noncomputable def con_2372 : Con2 := ((yX12_numberAt, cX12_numberAt, 3, (some .long)), (0, 0), ([(6, 0, 0), (0, 2, 0), (0, 45, 0)], gi_1800, [ac_1100, ac_1214], []), [((4, 48, 0), gi_1801, [(false, ac_1100), (false, ac_1214)], [], [1])])
theorem hd_2372 : con_2372.1 = (yX12_numberAt, cX12_numberAt, 3, (some .long)) := rfl
noncomputable def cu_2372 : List CUT2 := []
theorem ch_2372 : staG tb_X12_numberAt 1 bt_RX12 [] ct_2 [] [] cu_2372 11 con_2372 = true := by decide +kernel
theorem vl_2372 (l : Launch) : Vld2 l vwCl gTbl con_2372 := conR_ok3 gT_all (hd_2372) rfl pn_RX12 tk_X12_numberAt bo_RX12 xo_RX12 (cto_2 l) ch_2372 cut_nil
/-- RookHustingModel numberAt -/
noncomputable def ac_1215 : AC := .inr (2, jl_n [js_5 166 9223372036854775807 9223372036854775807, js_4 49 1, js_5 73 9223372036854775807 9223372036854775807])
noncomputable def con_2373 : Con2 := ((yX12_numberAt, cX12_numberAt, 3, (some .long)), (0, 0), ([(6, 0, 0), (0, 2, 0), (0, 46, 0)], gi_1800, [ac_1100, ac_1215], []), [((4, 48, 0), gi_1801, [(false, ac_1100), (false, ac_1215)], [], [1])])
theorem hd_2373 : con_2373.1 = (yX12_numberAt, cX12_numberAt, 3, (some .long)) := rfl
noncomputable def cu_2373 : List CUT2 := []
theorem ch_2373 : staG tb_X12_numberAt 1 bt_RX12 [] ct_2 [] [] cu_2373 11 con_2373 = true := by decide +kernel
theorem vl_2373 (l : Launch) : Vld2 l vwCl gTbl con_2373 := conR_ok3 gT_all (hd_2373) rfl pn_RX12 tk_X12_numberAt bo_RX12 xo_RX12 (cto_2 l) ch_2373 cut_nil
/-- RookHustingModel numberAt -/
noncomputable def ac_1216 : AC := .inr (2, jl_n [js_5 167 9223372036854775807 9223372036854775807, js_4 49 1, js_5 72 9223372036854775807 9223372036854775807])
noncomputable def con_2374 : Con2 := ((yX12_numberAt, cX12_numberAt, 3, (some .long)), (0, 0), ([(6, 0, 0), (0, 2, 0), (0, 47, 0)], gi_1800, [ac_1100, ac_1216], []), [((4, 48, 0), gi_1801, [(false, ac_1100), (false, ac_1216)], [], [1])])
theorem hd_2374 : con_2374.1 = (yX12_numberAt, cX12_numberAt, 3, (some .long)) := rfl
noncomputable def cu_2374 : List CUT2 := []
theorem ch_2374 : staG tb_X12_numberAt 1 bt_RX12 [] ct_2 [] [] cu_2374 11 con_2374 = true := by decide +kernel
theorem vl_2374 (l : Launch) : Vld2 l vwCl gTbl con_2374 := conR_ok3 gT_all (hd_2374) rfl pn_RX12 tk_X12_numberAt bo_RX12 xo_RX12 (cto_2 l) ch_2374 cut_nil
/-- RookHustingModel numberAt -/
noncomputable def ac_1217 : AC := .inr (2, jl_n [js_5 168 9223372036854775807 9223372036854775807, js_4 49 1, js_5 71 9223372036854775807 9223372036854775807])
noncomputable def con_2375 : Con2 := ((yX12_numberAt, cX12_numberAt, 3, (some .long)), (0, 0), ([(6, 0, 0), (0, 2, 0), (0, 48, 0)], gi_1800, [ac_1100, ac_1217], []), [((4, 48, 0), gi_1801, [(false, ac_1100), (false, ac_1217)], [], [1])])
theorem hd_2375 : con_2375.1 = (yX12_numberAt, cX12_numberAt, 3, (some .long)) := rfl
noncomputable def cu_2375 : List CUT2 := []
theorem ch_2375 : staG tb_X12_numberAt 1 bt_RX12 [] ct_2 [] [] cu_2375 11 con_2375 = true := by decide +kernel
theorem vl_2375 (l : Launch) : Vld2 l vwCl gTbl con_2375 := conR_ok3 gT_all (hd_2375) rfl pn_RX12 tk_X12_numberAt bo_RX12 xo_RX12 (cto_2 l) ch_2375 cut_nil
/-- RookHustingModel numberAt -/
noncomputable def ac_1218 : AC := .inr (2, jl_n [js_5 169 9223372036854775807 9223372036854775807, js_4 49 1, js_5 70 9223372036854775807 9223372036854775807])
noncomputable def con_2376 : Con2 := ((yX12_numberAt, cX12_numberAt, 3, (some .long)), (0, 0), ([(6, 0, 0), (0, 2, 0), (0, 49, 0)], gi_1800, [ac_1100, ac_1218], []), [((4, 48, 0), gi_1801, [(false, ac_1100), (false, ac_1218)], [], [1])])
theorem hd_2376 : con_2376.1 = (yX12_numberAt, cX12_numberAt, 3, (some .long)) := rfl
noncomputable def cu_2376 : List CUT2 := []
theorem ch_2376 : staG tb_X12_numberAt 1 bt_RX12 [] ct_2 [] [] cu_2376 11 con_2376 = true := by decide +kernel
theorem vl_2376 (l : Launch) : Vld2 l vwCl gTbl con_2376 := conR_ok3 gT_all (hd_2376) rfl pn_RX12 tk_X12_numberAt bo_RX12 xo_RX12 (cto_2 l) ch_2376 cut_nil
/-- RookHustingModel numberAt -/
noncomputable def ac_1219 : AC := .inr (2, jl_n [js_5 170 9223372036854775807 9223372036854775807, js_4 49 1, js_5 69 9223372036854775807 9223372036854775807])
noncomputable def con_2377 : Con2 := ((yX12_numberAt, cX12_numberAt, 3, (some .long)), (0, 0), ([(6, 0, 0), (0, 2, 0), (0, 50, 0)], gi_1800, [ac_1100, ac_1219], []), [((4, 48, 0), gi_1801, [(false, ac_1100), (false, ac_1219)], [], [1])])
theorem hd_2377 : con_2377.1 = (yX12_numberAt, cX12_numberAt, 3, (some .long)) := rfl
noncomputable def cu_2377 : List CUT2 := []
theorem ch_2377 : staG tb_X12_numberAt 1 bt_RX12 [] ct_2 [] [] cu_2377 11 con_2377 = true := by decide +kernel
theorem vl_2377 (l : Launch) : Vld2 l vwCl gTbl con_2377 := conR_ok3 gT_all (hd_2377) rfl pn_RX12 tk_X12_numberAt bo_RX12 xo_RX12 (cto_2 l) ch_2377 cut_nil
/-- RookHustingModel numberAt -/
noncomputable def ac_1220 : AC := .inr (2, jl_n [js_5 171 9223372036854775807 9223372036854775807, js_4 49 1, js_5 68 9223372036854775807 9223372036854775807])
noncomputable def con_2378 : Con2 := ((yX12_numberAt, cX12_numberAt, 3, (some .long)), (0, 0), ([(6, 0, 0), (0, 2, 0), (0, 51, 0)], gi_1800, [ac_1100, ac_1220], []), [((4, 48, 0), gi_1801, [(false, ac_1100), (false, ac_1220)], [], [1])])
theorem hd_2378 : con_2378.1 = (yX12_numberAt, cX12_numberAt, 3, (some .long)) := rfl
noncomputable def cu_2378 : List CUT2 := []
theorem ch_2378 : staG tb_X12_numberAt 1 bt_RX12 [] ct_2 [] [] cu_2378 11 con_2378 = true := by decide +kernel
theorem vl_2378 (l : Launch) : Vld2 l vwCl gTbl con_2378 := conR_ok3 gT_all (hd_2378) rfl pn_RX12 tk_X12_numberAt bo_RX12 xo_RX12 (cto_2 l) ch_2378 cut_nil
/-- RookHustingModel numberAt -/
noncomputable def ac_1221 : AC := .inr (2, jl_n [js_5 172 9223372036854775807 9223372036854775807, js_4 49 1, js_5 67 9223372036854775807 9223372036854775807])
noncomputable def con_2379 : Con2 := ((yX12_numberAt, cX12_numberAt, 3, (some .long)), (0, 0), ([(6, 0, 0), (0, 2, 0), (0, 52, 0)], gi_1800, [ac_1100, ac_1221], []), [((4, 48, 0), gi_1801, [(false, ac_1100), (false, ac_1221)], [], [1])])
theorem hd_2379 : con_2379.1 = (yX12_numberAt, cX12_numberAt, 3, (some .long)) := rfl
noncomputable def cu_2379 : List CUT2 := []
theorem ch_2379 : staG tb_X12_numberAt 1 bt_RX12 [] ct_2 [] [] cu_2379 11 con_2379 = true := by decide +kernel
theorem vl_2379 (l : Launch) : Vld2 l vwCl gTbl con_2379 := conR_ok3 gT_all (hd_2379) rfl pn_RX12 tk_X12_numberAt bo_RX12 xo_RX12 (cto_2 l) ch_2379 cut_nil
/-- RookHustingModel numberAt -/
noncomputable def ac_1222 : AC := .inr (2, jl_n [js_5 173 9223372036854775807 9223372036854775807, js_4 49 1, js_5 66 9223372036854775807 9223372036854775807])
noncomputable def con_2380 : Con2 := ((yX12_numberAt, cX12_numberAt, 3, (some .long)), (0, 0), ([(6, 0, 0), (0, 2, 0), (0, 53, 0)], gi_1800, [ac_1100, ac_1222], []), [((4, 48, 0), gi_1801, [(false, ac_1100), (false, ac_1222)], [], [1])])
theorem hd_2380 : con_2380.1 = (yX12_numberAt, cX12_numberAt, 3, (some .long)) := rfl
noncomputable def cu_2380 : List CUT2 := []
theorem ch_2380 : staG tb_X12_numberAt 1 bt_RX12 [] ct_2 [] [] cu_2380 11 con_2380 = true := by decide +kernel
theorem vl_2380 (l : Launch) : Vld2 l vwCl gTbl con_2380 := conR_ok3 gT_all (hd_2380) rfl pn_RX12 tk_X12_numberAt bo_RX12 xo_RX12 (cto_2 l) ch_2380 cut_nil
/-- RookHustingModel numberAt -/
noncomputable def ac_1223 : AC := .inr (2, jl_n [js_5 174 9223372036854775807 9223372036854775807, js_4 49 1, js_5 65 9223372036854775807 9223372036854775807])
noncomputable def con_2381 : Con2 := ((yX12_numberAt, cX12_numberAt, 3, (some .long)), (0, 0), ([(6, 0, 0), (0, 2, 0), (0, 54, 0)], gi_1800, [ac_1100, ac_1223], []), [((4, 48, 0), gi_1801, [(false, ac_1100), (false, ac_1223)], [], [1])])
theorem hd_2381 : con_2381.1 = (yX12_numberAt, cX12_numberAt, 3, (some .long)) := rfl
noncomputable def cu_2381 : List CUT2 := []
theorem ch_2381 : staG tb_X12_numberAt 1 bt_RX12 [] ct_2 [] [] cu_2381 11 con_2381 = true := by decide +kernel
theorem vl_2381 (l : Launch) : Vld2 l vwCl gTbl con_2381 := conR_ok3 gT_all (hd_2381) rfl pn_RX12 tk_X12_numberAt bo_RX12 xo_RX12 (cto_2 l) ch_2381 cut_nil
/-- RookHustingModel numberAt -/
noncomputable def ac_1224 : AC := .inr (2, jl_n [js_5 175 9223372036854775807 9223372036854775807, js_4 49 1, js_5 64 9223372036854775807 9223372036854775807])
noncomputable def con_2382 : Con2 := ((yX12_numberAt, cX12_numberAt, 3, (some .long)), (0, 0), ([(6, 0, 0), (0, 2, 0), (0, 55, 0)], gi_1800, [ac_1100, ac_1224], []), [((4, 48, 0), gi_1801, [(false, ac_1100), (false, ac_1224)], [], [1])])
theorem hd_2382 : con_2382.1 = (yX12_numberAt, cX12_numberAt, 3, (some .long)) := rfl
noncomputable def cu_2382 : List CUT2 := []
theorem ch_2382 : staG tb_X12_numberAt 1 bt_RX12 [] ct_2 [] [] cu_2382 11 con_2382 = true := by decide +kernel
theorem vl_2382 (l : Launch) : Vld2 l vwCl gTbl con_2382 := conR_ok3 gT_all (hd_2382) rfl pn_RX12 tk_X12_numberAt bo_RX12 xo_RX12 (cto_2 l) ch_2382 cut_nil
/-- RookHustingModel numberAt -/
noncomputable def ac_1225 : AC := .inr (2, jl_n [js_5 176 9223372036854775807 9223372036854775807, js_4 49 1, js_5 63 9223372036854775807 9223372036854775807])
noncomputable def con_2383 : Con2 := ((yX12_numberAt, cX12_numberAt, 3, (some .long)), (0, 0), ([(6, 0, 0), (0, 2, 0), (0, 56, 0)], gi_1800, [ac_1100, ac_1225], []), [((4, 48, 0), gi_1801, [(false, ac_1100), (false, ac_1225)], [], [1])])
theorem hd_2383 : con_2383.1 = (yX12_numberAt, cX12_numberAt, 3, (some .long)) := rfl
noncomputable def cu_2383 : List CUT2 := []
theorem ch_2383 : staG tb_X12_numberAt 1 bt_RX12 [] ct_2 [] [] cu_2383 11 con_2383 = true := by decide +kernel
theorem vl_2383 (l : Launch) : Vld2 l vwCl gTbl con_2383 := conR_ok3 gT_all (hd_2383) rfl pn_RX12 tk_X12_numberAt bo_RX12 xo_RX12 (cto_2 l) ch_2383 cut_nil
/-- RookHustingModel numberAt -/
noncomputable def ac_1226 : AC := .inr (2, jl_n [js_5 177 9223372036854775807 9223372036854775807, js_4 49 1, js_5 62 9223372036854775807 9223372036854775807])
noncomputable def con_2384 : Con2 := ((yX12_numberAt, cX12_numberAt, 3, (some .long)), (0, 0), ([(6, 0, 0), (0, 2, 0), (0, 57, 0)], gi_1800, [ac_1100, ac_1226], []), [((4, 48, 0), gi_1801, [(false, ac_1100), (false, ac_1226)], [], [1])])
theorem hd_2384 : con_2384.1 = (yX12_numberAt, cX12_numberAt, 3, (some .long)) := rfl
noncomputable def cu_2384 : List CUT2 := []
theorem ch_2384 : staG tb_X12_numberAt 1 bt_RX12 [] ct_2 [] [] cu_2384 11 con_2384 = true := by decide +kernel
theorem vl_2384 (l : Launch) : Vld2 l vwCl gTbl con_2384 := conR_ok3 gT_all (hd_2384) rfl pn_RX12 tk_X12_numberAt bo_RX12 xo_RX12 (cto_2 l) ch_2384 cut_nil
/-- RookHustingModel numberAt -/
noncomputable def ac_1227 : AC := .inr (2, jl_n [js_5 178 9223372036854775807 9223372036854775807, js_4 49 1, js_5 61 9223372036854775807 9223372036854775807])
noncomputable def con_2385 : Con2 := ((yX12_numberAt, cX12_numberAt, 3, (some .long)), (0, 0), ([(6, 0, 0), (0, 2, 0), (0, 58, 0)], gi_1800, [ac_1100, ac_1227], []), [((4, 48, 0), gi_1801, [(false, ac_1100), (false, ac_1227)], [], [1])])
theorem hd_2385 : con_2385.1 = (yX12_numberAt, cX12_numberAt, 3, (some .long)) := rfl
noncomputable def cu_2385 : List CUT2 := []
theorem ch_2385 : staG tb_X12_numberAt 1 bt_RX12 [] ct_2 [] [] cu_2385 11 con_2385 = true := by decide +kernel
theorem vl_2385 (l : Launch) : Vld2 l vwCl gTbl con_2385 := conR_ok3 gT_all (hd_2385) rfl pn_RX12 tk_X12_numberAt bo_RX12 xo_RX12 (cto_2 l) ch_2385 cut_nil
/-- RookHustingModel numberAt -/
noncomputable def ac_1228 : AC := .inr (2, jl_n [js_5 179 9223372036854775807 9223372036854775807, js_4 49 1, js_5 60 9223372036854775807 9223372036854775807])
noncomputable def con_2386 : Con2 := ((yX12_numberAt, cX12_numberAt, 3, (some .long)), (0, 0), ([(6, 0, 0), (0, 2, 0), (0, 59, 0)], gi_1800, [ac_1100, ac_1228], []), [((4, 48, 0), gi_1801, [(false, ac_1100), (false, ac_1228)], [], [1])])
theorem hd_2386 : con_2386.1 = (yX12_numberAt, cX12_numberAt, 3, (some .long)) := rfl
noncomputable def cu_2386 : List CUT2 := []
theorem ch_2386 : staG tb_X12_numberAt 1 bt_RX12 [] ct_2 [] [] cu_2386 11 con_2386 = true := by decide +kernel
theorem vl_2386 (l : Launch) : Vld2 l vwCl gTbl con_2386 := conR_ok3 gT_all (hd_2386) rfl pn_RX12 tk_X12_numberAt bo_RX12 xo_RX12 (cto_2 l) ch_2386 cut_nil
/-- RookHustingModel askSeen -/
noncomputable def ac_1229 : AC := .inr (2, jl_n [js_5 120 9223372036854775807 9223372036854775807, js_4 135 60, js_5 60 9223372036854775807 9223372036854775807])
noncomputable def hq_921 : HP := [(false, ac_1097), (false, ac_440), (false, ac_1098), (false, ac_1229)]
noncomputable def gi_2009 : GI := jl_n [gp_729, jl_r 2 (jl_m 0 60), jl_k 0 0, gp_486, jl_z 1]
noncomputable def gi_2010 : GI := jl_n [gp_729, gp_757, jl_z 1]
noncomputable def gi_2011 : GI := jl_n [gp_758, gp_489, jl_z 1]
noncomputable def gi_2012 : GI := jl_n [gp_758, gp_491, jl_z 1]
noncomputable def gi_2013 : GI := jl_n [gp_758, gp_493, jl_z 1]
noncomputable def gi_2014 : GI := jl_n [gp_758, gp_495, jl_z 1]
noncomputable def gi_2015 : GI := jl_n [gp_758, gp_498, jl_z 1]
noncomputable def gi_2016 : GI := jl_n [gp_758, gp_500, jl_z 1]
noncomputable def gi_2017 : GI := jl_n [gp_758, gp_502, jl_z 1]
noncomputable def gi_2018 : GI := jl_n [gp_758, gp_504, jl_z 1]
noncomputable def gi_2019 : GI := jl_n [gp_758, gp_506, jl_z 1]
noncomputable def gi_2020 : GI := jl_n [gp_758, gp_508, jl_z 1]
noncomputable def gi_2021 : GI := jl_n [gp_758, gp_510, jl_z 1]
noncomputable def gi_2022 : GI := jl_n [gp_758, gp_512, jl_z 1]
noncomputable def gi_2023 : GI := jl_n [gp_758, gp_514, jl_z 1]
noncomputable def gi_2024 : GI := jl_n [gp_758, gp_516, jl_z 1]
noncomputable def gi_2025 : GI := jl_n [gp_758, gp_518, jl_z 1]
noncomputable def gi_2026 : GI := jl_n [gp_758, gp_520, jl_z 1]
noncomputable def gi_2027 : GI := jl_n [gp_758, gp_522, jl_z 1]
noncomputable def gi_2028 : GI := jl_n [gp_758, gp_524, jl_z 1]
noncomputable def gi_2029 : GI := jl_n [gp_758, gp_525, jl_z 1]
noncomputable def gi_2030 : GI := jl_n [gp_758, gp_527, jl_z 1]
noncomputable def con_2387 : Con2 := ((yX12_askSeen, cX12_askSeen, 4, (some .int)), (2, 47), ([(6, 0, 0), (0, 2, 0), (1, 2, 0)], gi_1805, [ac_1097, ac_440, ac_1098, ac_1229], []), [((0, (-2), 0), gi_1806, hq_921, [], [1]), ((0, (-6), 0), gi_2009, hq_921, [], [1]), ((0, 0, 0), gi_2010, hq_921, [], [1]), ((0, 0, 0), gi_2011, hq_921, [], [1]), ((0, 0, 0), gi_2012, hq_921, [], [1]), ((0, 0, 0), gi_2013, hq_921, [], [1]), ((0, 0, 0), gi_2014, hq_921, [], [1]), ((0, 0, 0), gi_2015, hq_921, [], [1]), ((0, 0, 0), gi_2016, hq_921, [], [1]), ((0, 0, 0), gi_2017, hq_921, [], [1]), ((0, 0, 0), gi_2018, hq_921, [], [1]), ((0, 0, 0), gi_2019, hq_921, [], [1]), ((0, 0, 0), gi_2020, hq_921, [], [1]), ((0, 0, 0), gi_2021, hq_921, [], [1]), ((0, 0, 0), gi_2022, hq_921, [], [1]), ((0, 0, 0), gi_2023, hq_921, [], [1]), ((0, 0, 0), gi_2024, hq_921, [], [1]), ((0, 0, 0), gi_2025, hq_921, [], [1]), ((0, 0, 0), gi_2026, hq_921, [], [1]), ((0, 0, 0), gi_2027, hq_921, [], [1]), ((0, 0, 0), gi_2028, hq_921, [], [1]), ((0, 0, 0), gi_2029, hq_921, [], [1]), ((0, 0, 0), gi_2030, hq_921, [], [1])])
theorem hd_2387 : con_2387.1 = (yX12_askSeen, cX12_askSeen, 4, (some .int)) := rfl
theorem ck_RX12_417_2329 : COK2 RX12 vwCl gTbl 417 0 con_2329 := ⟨wd_2061, wd_137, mh_X12_numberAt, .inr (.inr ⟨rfl, wd_2058, wd_2060, wd_114, ⟨_, rfl, pd_X12_numberAt⟩, 12, _, TX12, 45, rfl, rfl⟩)⟩
theorem ck_RX12_417_2332 : COK2 RX12 vwCl gTbl 417 0 con_2332 := ⟨wd_2061, wd_137, mh_X12_numberAt, .inr (.inr ⟨rfl, wd_2058, wd_2060, wd_114, ⟨_, rfl, pd_X12_numberAt⟩, 12, _, TX12, 45, rfl, rfl⟩)⟩
theorem ck_RX12_417_2335 : COK2 RX12 vwCl gTbl 417 0 con_2335 := ⟨wd_2061, wd_137, mh_X12_numberAt, .inr (.inr ⟨rfl, wd_2058, wd_2060, wd_114, ⟨_, rfl, pd_X12_numberAt⟩, 12, _, TX12, 45, rfl, rfl⟩)⟩
theorem ck_RX12_417_2338 : COK2 RX12 vwCl gTbl 417 0 con_2338 := ⟨wd_2061, wd_137, mh_X12_numberAt, .inr (.inr ⟨rfl, wd_2058, wd_2060, wd_114, ⟨_, rfl, pd_X12_numberAt⟩, 12, _, TX12, 45, rfl, rfl⟩)⟩
theorem ck_RX12_417_2341 : COK2 RX12 vwCl gTbl 417 0 con_2341 := ⟨wd_2061, wd_137, mh_X12_numberAt, .inr (.inr ⟨rfl, wd_2058, wd_2060, wd_114, ⟨_, rfl, pd_X12_numberAt⟩, 12, _, TX12, 45, rfl, rfl⟩)⟩
theorem ck_RX12_417_2344 : COK2 RX12 vwCl gTbl 417 0 con_2344 := ⟨wd_2061, wd_137, mh_X12_numberAt, .inr (.inr ⟨rfl, wd_2058, wd_2060, wd_114, ⟨_, rfl, pd_X12_numberAt⟩, 12, _, TX12, 45, rfl, rfl⟩)⟩
theorem ck_RX12_417_2347 : COK2 RX12 vwCl gTbl 417 0 con_2347 := ⟨wd_2061, wd_137, mh_X12_numberAt, .inr (.inr ⟨rfl, wd_2058, wd_2060, wd_114, ⟨_, rfl, pd_X12_numberAt⟩, 12, _, TX12, 45, rfl, rfl⟩)⟩
theorem ck_RX12_417_2350 : COK2 RX12 vwCl gTbl 417 0 con_2350 := ⟨wd_2061, wd_137, mh_X12_numberAt, .inr (.inr ⟨rfl, wd_2058, wd_2060, wd_114, ⟨_, rfl, pd_X12_numberAt⟩, 12, _, TX12, 45, rfl, rfl⟩)⟩
theorem ck_RX12_417_2353 : COK2 RX12 vwCl gTbl 417 0 con_2353 := ⟨wd_2061, wd_137, mh_X12_numberAt, .inr (.inr ⟨rfl, wd_2058, wd_2060, wd_114, ⟨_, rfl, pd_X12_numberAt⟩, 12, _, TX12, 45, rfl, rfl⟩)⟩
theorem ck_RX12_417_2356 : COK2 RX12 vwCl gTbl 417 0 con_2356 := ⟨wd_2061, wd_137, mh_X12_numberAt, .inr (.inr ⟨rfl, wd_2058, wd_2060, wd_114, ⟨_, rfl, pd_X12_numberAt⟩, 12, _, TX12, 45, rfl, rfl⟩)⟩
theorem ck_RX12_417_2359 : COK2 RX12 vwCl gTbl 417 0 con_2359 := ⟨wd_2061, wd_137, mh_X12_numberAt, .inr (.inr ⟨rfl, wd_2058, wd_2060, wd_114, ⟨_, rfl, pd_X12_numberAt⟩, 12, _, TX12, 45, rfl, rfl⟩)⟩
theorem ck_RX12_417_2362 : COK2 RX12 vwCl gTbl 417 0 con_2362 := ⟨wd_2061, wd_137, mh_X12_numberAt, .inr (.inr ⟨rfl, wd_2058, wd_2060, wd_114, ⟨_, rfl, pd_X12_numberAt⟩, 12, _, TX12, 45, rfl, rfl⟩)⟩
theorem ck_RX12_417_2365 : COK2 RX12 vwCl gTbl 417 0 con_2365 := ⟨wd_2061, wd_137, mh_X12_numberAt, .inr (.inr ⟨rfl, wd_2058, wd_2060, wd_114, ⟨_, rfl, pd_X12_numberAt⟩, 12, _, TX12, 45, rfl, rfl⟩)⟩
theorem ck_RX12_417_2368 : COK2 RX12 vwCl gTbl 417 0 con_2368 := ⟨wd_2061, wd_137, mh_X12_numberAt, .inr (.inr ⟨rfl, wd_2058, wd_2060, wd_114, ⟨_, rfl, pd_X12_numberAt⟩, 12, _, TX12, 45, rfl, rfl⟩)⟩
theorem ck_RX12_417_2371 : COK2 RX12 vwCl gTbl 417 0 con_2371 := ⟨wd_2061, wd_137, mh_X12_numberAt, .inr (.inr ⟨rfl, wd_2058, wd_2060, wd_114, ⟨_, rfl, pd_X12_numberAt⟩, 12, _, TX12, 45, rfl, rfl⟩)⟩
theorem ck_RX12_417_2374 : COK2 RX12 vwCl gTbl 417 0 con_2374 := ⟨wd_2061, wd_137, mh_X12_numberAt, .inr (.inr ⟨rfl, wd_2058, wd_2060, wd_114, ⟨_, rfl, pd_X12_numberAt⟩, 12, _, TX12, 45, rfl, rfl⟩)⟩
theorem ck_RX12_417_2377 : COK2 RX12 vwCl gTbl 417 0 con_2377 := ⟨wd_2061, wd_137, mh_X12_numberAt, .inr (.inr ⟨rfl, wd_2058, wd_2060, wd_114, ⟨_, rfl, pd_X12_numberAt⟩, 12, _, TX12, 45, rfl, rfl⟩)⟩
theorem ck_RX12_417_2380 : COK2 RX12 vwCl gTbl 417 0 con_2380 := ⟨wd_2061, wd_137, mh_X12_numberAt, .inr (.inr ⟨rfl, wd_2058, wd_2060, wd_114, ⟨_, rfl, pd_X12_numberAt⟩, 12, _, TX12, 45, rfl, rfl⟩)⟩
theorem ck_RX12_417_2383 : COK2 RX12 vwCl gTbl 417 0 con_2383 := ⟨wd_2061, wd_137, mh_X12_numberAt, .inr (.inr ⟨rfl, wd_2058, wd_2060, wd_114, ⟨_, rfl, pd_X12_numberAt⟩, 12, _, TX12, 45, rfl, rfl⟩)⟩
theorem ck_RX12_417_2386 : COK2 RX12 vwCl gTbl 417 0 con_2386 := ⟨wd_2061, wd_137, mh_X12_numberAt, .inr (.inr ⟨rfl, wd_2058, wd_2060, wd_114, ⟨_, rfl, pd_X12_numberAt⟩, 12, _, TX12, 45, rfl, rfl⟩)⟩
theorem ck_RX12_417_2328 : COK2 RX12 vwCl gTbl 417 0 con_2328 := ⟨wd_2061, wd_137, mh_X12_numberAt, .inr (.inr ⟨rfl, wd_2058, wd_2060, wd_114, ⟨_, rfl, pd_X12_numberAt⟩, 12, _, TX12, 45, rfl, rfl⟩)⟩
theorem ck_RX12_417_2331 : COK2 RX12 vwCl gTbl 417 0 con_2331 := ⟨wd_2061, wd_137, mh_X12_numberAt, .inr (.inr ⟨rfl, wd_2058, wd_2060, wd_114, ⟨_, rfl, pd_X12_numberAt⟩, 12, _, TX12, 45, rfl, rfl⟩)⟩
theorem ck_RX12_417_2334 : COK2 RX12 vwCl gTbl 417 0 con_2334 := ⟨wd_2061, wd_137, mh_X12_numberAt, .inr (.inr ⟨rfl, wd_2058, wd_2060, wd_114, ⟨_, rfl, pd_X12_numberAt⟩, 12, _, TX12, 45, rfl, rfl⟩)⟩
theorem ck_RX12_417_2337 : COK2 RX12 vwCl gTbl 417 0 con_2337 := ⟨wd_2061, wd_137, mh_X12_numberAt, .inr (.inr ⟨rfl, wd_2058, wd_2060, wd_114, ⟨_, rfl, pd_X12_numberAt⟩, 12, _, TX12, 45, rfl, rfl⟩)⟩
theorem ck_RX12_417_2340 : COK2 RX12 vwCl gTbl 417 0 con_2340 := ⟨wd_2061, wd_137, mh_X12_numberAt, .inr (.inr ⟨rfl, wd_2058, wd_2060, wd_114, ⟨_, rfl, pd_X12_numberAt⟩, 12, _, TX12, 45, rfl, rfl⟩)⟩
theorem ck_RX12_417_2343 : COK2 RX12 vwCl gTbl 417 0 con_2343 := ⟨wd_2061, wd_137, mh_X12_numberAt, .inr (.inr ⟨rfl, wd_2058, wd_2060, wd_114, ⟨_, rfl, pd_X12_numberAt⟩, 12, _, TX12, 45, rfl, rfl⟩)⟩
theorem ck_RX12_417_2346 : COK2 RX12 vwCl gTbl 417 0 con_2346 := ⟨wd_2061, wd_137, mh_X12_numberAt, .inr (.inr ⟨rfl, wd_2058, wd_2060, wd_114, ⟨_, rfl, pd_X12_numberAt⟩, 12, _, TX12, 45, rfl, rfl⟩)⟩
theorem ck_RX12_417_2349 : COK2 RX12 vwCl gTbl 417 0 con_2349 := ⟨wd_2061, wd_137, mh_X12_numberAt, .inr (.inr ⟨rfl, wd_2058, wd_2060, wd_114, ⟨_, rfl, pd_X12_numberAt⟩, 12, _, TX12, 45, rfl, rfl⟩)⟩
theorem ck_RX12_417_2352 : COK2 RX12 vwCl gTbl 417 0 con_2352 := ⟨wd_2061, wd_137, mh_X12_numberAt, .inr (.inr ⟨rfl, wd_2058, wd_2060, wd_114, ⟨_, rfl, pd_X12_numberAt⟩, 12, _, TX12, 45, rfl, rfl⟩)⟩
theorem ck_RX12_417_2355 : COK2 RX12 vwCl gTbl 417 0 con_2355 := ⟨wd_2061, wd_137, mh_X12_numberAt, .inr (.inr ⟨rfl, wd_2058, wd_2060, wd_114, ⟨_, rfl, pd_X12_numberAt⟩, 12, _, TX12, 45, rfl, rfl⟩)⟩
theorem ck_RX12_417_2358 : COK2 RX12 vwCl gTbl 417 0 con_2358 := ⟨wd_2061, wd_137, mh_X12_numberAt, .inr (.inr ⟨rfl, wd_2058, wd_2060, wd_114, ⟨_, rfl, pd_X12_numberAt⟩, 12, _, TX12, 45, rfl, rfl⟩)⟩
theorem ck_RX12_417_2361 : COK2 RX12 vwCl gTbl 417 0 con_2361 := ⟨wd_2061, wd_137, mh_X12_numberAt, .inr (.inr ⟨rfl, wd_2058, wd_2060, wd_114, ⟨_, rfl, pd_X12_numberAt⟩, 12, _, TX12, 45, rfl, rfl⟩)⟩
theorem ck_RX12_417_2364 : COK2 RX12 vwCl gTbl 417 0 con_2364 := ⟨wd_2061, wd_137, mh_X12_numberAt, .inr (.inr ⟨rfl, wd_2058, wd_2060, wd_114, ⟨_, rfl, pd_X12_numberAt⟩, 12, _, TX12, 45, rfl, rfl⟩)⟩
theorem ck_RX12_417_2367 : COK2 RX12 vwCl gTbl 417 0 con_2367 := ⟨wd_2061, wd_137, mh_X12_numberAt, .inr (.inr ⟨rfl, wd_2058, wd_2060, wd_114, ⟨_, rfl, pd_X12_numberAt⟩, 12, _, TX12, 45, rfl, rfl⟩)⟩
theorem ck_RX12_417_2370 : COK2 RX12 vwCl gTbl 417 0 con_2370 := ⟨wd_2061, wd_137, mh_X12_numberAt, .inr (.inr ⟨rfl, wd_2058, wd_2060, wd_114, ⟨_, rfl, pd_X12_numberAt⟩, 12, _, TX12, 45, rfl, rfl⟩)⟩
theorem ck_RX12_417_2373 : COK2 RX12 vwCl gTbl 417 0 con_2373 := ⟨wd_2061, wd_137, mh_X12_numberAt, .inr (.inr ⟨rfl, wd_2058, wd_2060, wd_114, ⟨_, rfl, pd_X12_numberAt⟩, 12, _, TX12, 45, rfl, rfl⟩)⟩
theorem ck_RX12_417_2376 : COK2 RX12 vwCl gTbl 417 0 con_2376 := ⟨wd_2061, wd_137, mh_X12_numberAt, .inr (.inr ⟨rfl, wd_2058, wd_2060, wd_114, ⟨_, rfl, pd_X12_numberAt⟩, 12, _, TX12, 45, rfl, rfl⟩)⟩
theorem ck_RX12_417_2379 : COK2 RX12 vwCl gTbl 417 0 con_2379 := ⟨wd_2061, wd_137, mh_X12_numberAt, .inr (.inr ⟨rfl, wd_2058, wd_2060, wd_114, ⟨_, rfl, pd_X12_numberAt⟩, 12, _, TX12, 45, rfl, rfl⟩)⟩
theorem ck_RX12_417_2382 : COK2 RX12 vwCl gTbl 417 0 con_2382 := ⟨wd_2061, wd_137, mh_X12_numberAt, .inr (.inr ⟨rfl, wd_2058, wd_2060, wd_114, ⟨_, rfl, pd_X12_numberAt⟩, 12, _, TX12, 45, rfl, rfl⟩)⟩
theorem ck_RX12_417_2385 : COK2 RX12 vwCl gTbl 417 0 con_2385 := ⟨wd_2061, wd_137, mh_X12_numberAt, .inr (.inr ⟨rfl, wd_2058, wd_2060, wd_114, ⟨_, rfl, pd_X12_numberAt⟩, 12, _, TX12, 45, rfl, rfl⟩)⟩
theorem ck_RX12_417_2327 : COK2 RX12 vwCl gTbl 417 0 con_2327 := ⟨wd_2061, wd_137, mh_X12_numberAt, .inr (.inr ⟨rfl, wd_2058, wd_2060, wd_114, ⟨_, rfl, pd_X12_numberAt⟩, 12, _, TX12, 45, rfl, rfl⟩)⟩
theorem ck_RX12_417_2330 : COK2 RX12 vwCl gTbl 417 0 con_2330 := ⟨wd_2061, wd_137, mh_X12_numberAt, .inr (.inr ⟨rfl, wd_2058, wd_2060, wd_114, ⟨_, rfl, pd_X12_numberAt⟩, 12, _, TX12, 45, rfl, rfl⟩)⟩
theorem ck_RX12_417_2333 : COK2 RX12 vwCl gTbl 417 0 con_2333 := ⟨wd_2061, wd_137, mh_X12_numberAt, .inr (.inr ⟨rfl, wd_2058, wd_2060, wd_114, ⟨_, rfl, pd_X12_numberAt⟩, 12, _, TX12, 45, rfl, rfl⟩)⟩
theorem ck_RX12_417_2336 : COK2 RX12 vwCl gTbl 417 0 con_2336 := ⟨wd_2061, wd_137, mh_X12_numberAt, .inr (.inr ⟨rfl, wd_2058, wd_2060, wd_114, ⟨_, rfl, pd_X12_numberAt⟩, 12, _, TX12, 45, rfl, rfl⟩)⟩
theorem ck_RX12_417_2339 : COK2 RX12 vwCl gTbl 417 0 con_2339 := ⟨wd_2061, wd_137, mh_X12_numberAt, .inr (.inr ⟨rfl, wd_2058, wd_2060, wd_114, ⟨_, rfl, pd_X12_numberAt⟩, 12, _, TX12, 45, rfl, rfl⟩)⟩
theorem ck_RX12_417_2342 : COK2 RX12 vwCl gTbl 417 0 con_2342 := ⟨wd_2061, wd_137, mh_X12_numberAt, .inr (.inr ⟨rfl, wd_2058, wd_2060, wd_114, ⟨_, rfl, pd_X12_numberAt⟩, 12, _, TX12, 45, rfl, rfl⟩)⟩
theorem ck_RX12_417_2345 : COK2 RX12 vwCl gTbl 417 0 con_2345 := ⟨wd_2061, wd_137, mh_X12_numberAt, .inr (.inr ⟨rfl, wd_2058, wd_2060, wd_114, ⟨_, rfl, pd_X12_numberAt⟩, 12, _, TX12, 45, rfl, rfl⟩)⟩
theorem ck_RX12_417_2348 : COK2 RX12 vwCl gTbl 417 0 con_2348 := ⟨wd_2061, wd_137, mh_X12_numberAt, .inr (.inr ⟨rfl, wd_2058, wd_2060, wd_114, ⟨_, rfl, pd_X12_numberAt⟩, 12, _, TX12, 45, rfl, rfl⟩)⟩
theorem ck_RX12_417_2351 : COK2 RX12 vwCl gTbl 417 0 con_2351 := ⟨wd_2061, wd_137, mh_X12_numberAt, .inr (.inr ⟨rfl, wd_2058, wd_2060, wd_114, ⟨_, rfl, pd_X12_numberAt⟩, 12, _, TX12, 45, rfl, rfl⟩)⟩
theorem ck_RX12_417_2354 : COK2 RX12 vwCl gTbl 417 0 con_2354 := ⟨wd_2061, wd_137, mh_X12_numberAt, .inr (.inr ⟨rfl, wd_2058, wd_2060, wd_114, ⟨_, rfl, pd_X12_numberAt⟩, 12, _, TX12, 45, rfl, rfl⟩)⟩
theorem ck_RX12_417_2357 : COK2 RX12 vwCl gTbl 417 0 con_2357 := ⟨wd_2061, wd_137, mh_X12_numberAt, .inr (.inr ⟨rfl, wd_2058, wd_2060, wd_114, ⟨_, rfl, pd_X12_numberAt⟩, 12, _, TX12, 45, rfl, rfl⟩)⟩
theorem ck_RX12_417_2360 : COK2 RX12 vwCl gTbl 417 0 con_2360 := ⟨wd_2061, wd_137, mh_X12_numberAt, .inr (.inr ⟨rfl, wd_2058, wd_2060, wd_114, ⟨_, rfl, pd_X12_numberAt⟩, 12, _, TX12, 45, rfl, rfl⟩)⟩
theorem ck_RX12_417_2363 : COK2 RX12 vwCl gTbl 417 0 con_2363 := ⟨wd_2061, wd_137, mh_X12_numberAt, .inr (.inr ⟨rfl, wd_2058, wd_2060, wd_114, ⟨_, rfl, pd_X12_numberAt⟩, 12, _, TX12, 45, rfl, rfl⟩)⟩
theorem ck_RX12_417_2366 : COK2 RX12 vwCl gTbl 417 0 con_2366 := ⟨wd_2061, wd_137, mh_X12_numberAt, .inr (.inr ⟨rfl, wd_2058, wd_2060, wd_114, ⟨_, rfl, pd_X12_numberAt⟩, 12, _, TX12, 45, rfl, rfl⟩)⟩
theorem ck_RX12_417_2369 : COK2 RX12 vwCl gTbl 417 0 con_2369 := ⟨wd_2061, wd_137, mh_X12_numberAt, .inr (.inr ⟨rfl, wd_2058, wd_2060, wd_114, ⟨_, rfl, pd_X12_numberAt⟩, 12, _, TX12, 45, rfl, rfl⟩)⟩
theorem ck_RX12_417_2372 : COK2 RX12 vwCl gTbl 417 0 con_2372 := ⟨wd_2061, wd_137, mh_X12_numberAt, .inr (.inr ⟨rfl, wd_2058, wd_2060, wd_114, ⟨_, rfl, pd_X12_numberAt⟩, 12, _, TX12, 45, rfl, rfl⟩)⟩
theorem ck_RX12_417_2375 : COK2 RX12 vwCl gTbl 417 0 con_2375 := ⟨wd_2061, wd_137, mh_X12_numberAt, .inr (.inr ⟨rfl, wd_2058, wd_2060, wd_114, ⟨_, rfl, pd_X12_numberAt⟩, 12, _, TX12, 45, rfl, rfl⟩)⟩
theorem ck_RX12_417_2378 : COK2 RX12 vwCl gTbl 417 0 con_2378 := ⟨wd_2061, wd_137, mh_X12_numberAt, .inr (.inr ⟨rfl, wd_2058, wd_2060, wd_114, ⟨_, rfl, pd_X12_numberAt⟩, 12, _, TX12, 45, rfl, rfl⟩)⟩
theorem ck_RX12_417_2381 : COK2 RX12 vwCl gTbl 417 0 con_2381 := ⟨wd_2061, wd_137, mh_X12_numberAt, .inr (.inr ⟨rfl, wd_2058, wd_2060, wd_114, ⟨_, rfl, pd_X12_numberAt⟩, 12, _, TX12, 45, rfl, rfl⟩)⟩
theorem ck_RX12_417_2384 : COK2 RX12 vwCl gTbl 417 0 con_2384 := ⟨wd_2061, wd_137, mh_X12_numberAt, .inr (.inr ⟨rfl, wd_2058, wd_2060, wd_114, ⟨_, rfl, pd_X12_numberAt⟩, 12, _, TX12, 45, rfl, rfl⟩)⟩
theorem ck_RX12_414_2326 : COK2 RX12 vwCl gTbl 414 1 con_2326 := ⟨wd_2057, wd_137, mh_X12_isSlot, .inl ⟨rfl, wd_2055, wd_2056, pd_X12_isSlot⟩⟩
noncomputable def ct_2387 : CTB2 := [(1, 414, 1, con_2326, []), (10, 109, 0, con_651, [0, 1]), (62, 417, 0, con_2384, [0, 3]), (62, 417, 0, con_2381, [0, 3]), (62, 417, 0, con_2378, [0, 3]), (62, 417, 0, con_2375, [0, 3]), (62, 417, 0, con_2372, [0, 3]), (62, 417, 0, con_2369, [0, 3]), (62, 417, 0, con_2366, [0, 3]), (62, 417, 0, con_2363, [0, 3]), (62, 417, 0, con_2360, [0, 3]), (62, 417, 0, con_2357, [0, 3]), (62, 417, 0, con_2354, [0, 3]), (62, 417, 0, con_2351, [0, 3]), (62, 417, 0, con_2348, [0, 3]), (62, 417, 0, con_2345, [0, 3]), (62, 417, 0, con_2342, [0, 3]), (62, 417, 0, con_2339, [0, 3]), (62, 417, 0, con_2336, [0, 3]), (62, 417, 0, con_2333, [0, 3]), (62, 417, 0, con_2330, [0, 3]), (62, 417, 0, con_2327, [0, 3]), (65, 109, 0, con_2176, [0, 1]), (77, 417, 0, con_2385, [0, 3]), (77, 417, 0, con_2382, [0, 3]), (77, 417, 0, con_2379, [0, 3]), (77, 417, 0, con_2376, [0, 3]), (77, 417, 0, con_2373, [0, 3]), (77, 417, 0, con_2370, [0, 3]), (77, 417, 0, con_2367, [0, 3]), (77, 417, 0, con_2364, [0, 3]), (77, 417, 0, con_2361, [0, 3]), (77, 417, 0, con_2358, [0, 3]), (77, 417, 0, con_2355, [0, 3]), (77, 417, 0, con_2352, [0, 3]), (77, 417, 0, con_2349, [0, 3]), (77, 417, 0, con_2346, [0, 3]), (77, 417, 0, con_2343, [0, 3]), (77, 417, 0, con_2340, [0, 3]), (77, 417, 0, con_2337, [0, 3]), (77, 417, 0, con_2334, [0, 3]), (77, 417, 0, con_2331, [0, 3]), (77, 417, 0, con_2328, [0, 3]), (80, 369, 0, con_2178, [0, 1]), (91, 417, 0, con_2386, [0, 3]), (91, 417, 0, con_2383, [0, 3]), (91, 417, 0, con_2380, [0, 3]), (91, 417, 0, con_2377, [0, 3]), (91, 417, 0, con_2374, [0, 3]), (91, 417, 0, con_2371, [0, 3]), (91, 417, 0, con_2368, [0, 3]), (91, 417, 0, con_2365, [0, 3]), (91, 417, 0, con_2362, [0, 3]), (91, 417, 0, con_2359, [0, 3]), (91, 417, 0, con_2356, [0, 3]), (91, 417, 0, con_2353, [0, 3]), (91, 417, 0, con_2350, [0, 3]), (91, 417, 0, con_2347, [0, 3]), (91, 417, 0, con_2344, [0, 3]), (91, 417, 0, con_2341, [0, 3]), (91, 417, 0, con_2338, [0, 3]), (91, 417, 0, con_2335, [0, 3]), (91, 417, 0, con_2332, [0, 3]), (91, 417, 0, con_2329, [0, 3]), (98, 91, 1, con_2180, [])]
noncomputable def gi_2031 : GI := jl_n [gp_729, gp_484, gp_486, jl_z 4]
noncomputable def gi_2032 : GI := jl_n [gp_758, jl_i 1 60, gp_501, jl_z 4]
noncomputable def gi_2033 : GI := jl_n [gp_758, jl_i 4 60, gp_523, jl_z 4]
noncomputable def gi_2034 : GI := jl_n [gp_758, jl_i 7 60, gp_526, jl_z 4]
noncomputable def gi_2035 : GI := jl_n [gp_758, jl_i 10 60, gp_488, jl_z 4]
noncomputable def gi_2036 : GI := jl_n [gp_758, jl_i 13 60, gp_490, jl_z 4]
noncomputable def gi_2037 : GI := jl_n [gp_758, jl_i 16 60, gp_492, jl_z 4]
noncomputable def gi_2038 : GI := jl_n [gp_758, jl_i 19 60, gp_494, jl_z 4]
noncomputable def gi_2039 : GI := jl_n [gp_758, jl_i 22 60, gp_497, jl_z 4]
noncomputable def gi_2040 : GI := jl_n [gp_758, jl_i 25 60, gp_499, jl_z 4]
noncomputable def gi_2041 : GI := jl_n [gp_758, jl_i 28 60, gp_503, jl_z 4]
noncomputable def gi_2042 : GI := jl_n [gp_758, jl_i 31 60, gp_505, jl_z 4]
noncomputable def gi_2043 : GI := jl_n [gp_758, jl_i 34 60, gp_507, jl_z 4]
noncomputable def gi_2044 : GI := jl_n [gp_758, jl_i 37 60, gp_509, jl_z 4]
noncomputable def gi_2045 : GI := jl_n [gp_758, jl_i 40 60, gp_511, jl_z 4]
noncomputable def gi_2046 : GI := jl_n [gp_758, jl_i 43 60, gp_513, jl_z 4]
noncomputable def gi_2047 : GI := jl_n [gp_758, jl_i 46 60, gp_515, jl_z 4]
noncomputable def gi_2048 : GI := jl_n [gp_758, jl_i 49 60, gp_517, jl_z 4]
noncomputable def gi_2049 : GI := jl_n [gp_758, jl_i 52 60, gp_519, jl_z 4]
noncomputable def gi_2050 : GI := jl_n [gp_758, jl_i 55 60, jl_m 0 60, gp_735]
noncomputable def gi_2051 : GI := jl_n [gp_758, gp_525, jl_z 4]
noncomputable def cu_2387_0 : List CUT2 := [((48, [lq 0 6 0, lq 1 0 2, lq 2 1 2, lq 3 0 0], [], gi_2031, hq_921), [], ([], 60)), ((48, [lq 0 6 0, lq 1 0 2, lq 2 1 2, lq 3 0 3], [], gi_2032, hq_921), [], ([], 57)), ((48, [lq 0 6 0, lq 1 0 2, lq 2 1 2, lq 3 0 6], [], gi_2033, hq_921), [], ([], 54)), ((48, [lq 0 6 0, lq 1 0 2, lq 2 1 2, lq 3 0 9], [], gi_2034, hq_921), [], ([], 51)), ((48, [lq 0 6 0, lq 1 0 2, lq 2 1 2, lq 3 0 12], [], gi_2035, hq_921), [], ([], 48)), ((48, [lq 0 6 0, lq 1 0 2, lq 2 1 2, lq 3 0 15], [], gi_2036, hq_921), [], ([], 45)), ((48, [lq 0 6 0, lq 1 0 2, lq 2 1 2, lq 3 0 18], [], gi_2037, hq_921), [], ([], 42)), ((48, [lq 0 6 0, lq 1 0 2, lq 2 1 2, lq 3 0 21], [], gi_2038, hq_921), [], ([], 39)), ((48, [lq 0 6 0, lq 1 0 2, lq 2 1 2, lq 3 0 24], [], gi_2039, hq_921), [], ([], 36)), ((48, [lq 0 6 0, lq 1 0 2, lq 2 1 2, lq 3 0 27], [], gi_2040, hq_921), [], ([], 33)), ((48, [lq 0 6 0, lq 1 0 2, lq 2 1 2, lq 3 0 30], [], gi_2041, hq_921), [], ([], 30)), ((48, [lq 0 6 0, lq 1 0 2, lq 2 1 2, lq 3 0 33], [], gi_2042, hq_921), [], ([], 27)), ((48, [lq 0 6 0, lq 1 0 2, lq 2 1 2, lq 3 0 36], [], gi_2043, hq_921), [], ([], 24))]
noncomputable def cu_2387_1 : List CUT2 := [((48, [lq 0 6 0, lq 1 0 2, lq 2 1 2, lq 3 0 39], [], gi_2044, hq_921), [], ([], 21)), ((48, [lq 0 6 0, lq 1 0 2, lq 2 1 2, lq 3 0 42], [], gi_2045, hq_921), [], ([], 18)), ((48, [lq 0 6 0, lq 1 0 2, lq 2 1 2, lq 3 0 45], [], gi_2046, hq_921), [], ([], 15)), ((48, [lq 0 6 0, lq 1 0 2, lq 2 1 2, lq 3 0 48], [], gi_2047, hq_921), [], ([], 12)), ((48, [lq 0 6 0, lq 1 0 2, lq 2 1 2, lq 3 0 51], [], gi_2048, hq_921), [], ([], 9)), ((48, [lq 0 6 0, lq 1 0 2, lq 2 1 2, lq 3 0 54], [], gi_2049, hq_921), [], ([], 6)), ((48, [lq 0 6 0, lq 1 0 2, lq 2 1 2, lq 3 0 57], [], gi_2050, hq_921), [], ([], 3)), ((48, [lq 0 6 0, lq 1 0 2, lq 2 1 2, lq 3 0 60], [], gi_2051, hq_921), [], ([], 0))]
noncomputable def cu_2387 : List CUT2 := cu_2387_0 ++ (cu_2387_1)
theorem ch_2387 : staG tb_X12_askSeen 1 bt_RX12 [] ct_2387 [] [] cu_2387 37 con_2387 = true := by decide +kernel
theorem cc_2387_0 : cu_2387_0.all (cutG tb_X12_askSeen 1 bt_RX12 [] ct_2387 [] [] cu_2387 37 con_2387) = true := by decide +kernel
theorem cc_2387_1 : cu_2387_1.all (cutG tb_X12_askSeen 1 bt_RX12 [] ct_2387 [] [] cu_2387 37 con_2387) = true := by decide +kernel
theorem cto_2387 (l : Launch) : CTOK2 l RX12 vwCl gTbl ct_2387 := ct2_cons (vl_2326 l) ck_RX12_414_2326 (ct2_cons (vl_651 l) ck_RX12_109_651 (ct2_cons (vl_2384 l) ck_RX12_417_2384 (ct2_cons (vl_2381 l) ck_RX12_417_2381 (ct2_cons (vl_2378 l) ck_RX12_417_2378 (ct2_cons (vl_2375 l) ck_RX12_417_2375 (ct2_cons (vl_2372 l) ck_RX12_417_2372 (ct2_cons (vl_2369 l) ck_RX12_417_2369 (ct2_cons (vl_2366 l) ck_RX12_417_2366 (ct2_cons (vl_2363 l) ck_RX12_417_2363 (ct2_cons (vl_2360 l) ck_RX12_417_2360 (ct2_cons (vl_2357 l) ck_RX12_417_2357 (ct2_cons (vl_2354 l) ck_RX12_417_2354 (ct2_cons (vl_2351 l) ck_RX12_417_2351 (ct2_cons (vl_2348 l) ck_RX12_417_2348 (ct2_cons (vl_2345 l) ck_RX12_417_2345 (ct2_cons (vl_2342 l) ck_RX12_417_2342 (ct2_cons (vl_2339 l) ck_RX12_417_2339 (ct2_cons (vl_2336 l) ck_RX12_417_2336 (ct2_cons (vl_2333 l) ck_RX12_417_2333 (ct2_cons (vl_2330 l) ck_RX12_417_2330 (ct2_cons (vl_2327 l) ck_RX12_417_2327 (ct2_cons (vl_2176 l) ck_RX12_109_2176 (ct2_cons (vl_2385 l) ck_RX12_417_2385 (ct2_cons (vl_2382 l) ck_RX12_417_2382 (ct2_cons (vl_2379 l) ck_RX12_417_2379 (ct2_cons (vl_2376 l) ck_RX12_417_2376 (ct2_cons (vl_2373 l) ck_RX12_417_2373 (ct2_cons (vl_2370 l) ck_RX12_417_2370 (ct2_cons (vl_2367 l) ck_RX12_417_2367 (ct2_cons (vl_2364 l) ck_RX12_417_2364 (ct2_cons (vl_2361 l) ck_RX12_417_2361 (ct2_cons (vl_2358 l) ck_RX12_417_2358 (ct2_cons (vl_2355 l) ck_RX12_417_2355 (ct2_cons (vl_2352 l) ck_RX12_417_2352 (ct2_cons (vl_2349 l) ck_RX12_417_2349 (ct2_cons (vl_2346 l) ck_RX12_417_2346 (ct2_cons (vl_2343 l) ck_RX12_417_2343 (ct2_cons (vl_2340 l) ck_RX12_417_2340 (ct2_cons (vl_2337 l) ck_RX12_417_2337 (ct2_cons (vl_2334 l) ck_RX12_417_2334 (ct2_cons (vl_2331 l) ck_RX12_417_2331 (ct2_cons (vl_2328 l) ck_RX12_417_2328 (ct2_cons (vl_2178 l) ck_RX12_369_2178 (ct2_cons (vl_2386 l) ck_RX12_417_2386 (ct2_cons (vl_2383 l) ck_RX12_417_2383 (ct2_cons (vl_2380 l) ck_RX12_417_2380 (ct2_cons (vl_2377 l) ck_RX12_417_2377 (ct2_cons (vl_2374 l) ck_RX12_417_2374 (ct2_cons (vl_2371 l) ck_RX12_417_2371 (ct2_cons (vl_2368 l) ck_RX12_417_2368 (ct2_cons (vl_2365 l) ck_RX12_417_2365 (ct2_cons (vl_2362 l) ck_RX12_417_2362 (ct2_cons (vl_2359 l) ck_RX12_417_2359 (ct2_cons (vl_2356 l) ck_RX12_417_2356 (ct2_cons (vl_2353 l) ck_RX12_417_2353 (ct2_cons (vl_2350 l) ck_RX12_417_2350 (ct2_cons (vl_2347 l) ck_RX12_417_2347 (ct2_cons (vl_2344 l) ck_RX12_417_2344 (ct2_cons (vl_2341 l) ck_RX12_417_2341 (ct2_cons (vl_2338 l) ck_RX12_417_2338 (ct2_cons (vl_2335 l) ck_RX12_417_2335 (ct2_cons (vl_2332 l) ck_RX12_417_2332 (ct2_cons (vl_2329 l) ck_RX12_417_2329 (ct2_cons (vl_2180 l) ck_RX12_91_2180 (ct2_nil)))))))))))))))))))))))))))))))))))))))))))))))))))))))))))))))))
theorem vl_2387 (l : Launch) : Vld2 l vwCl gTbl con_2387 := conR_ok3 gT_all (hd_2387) rfl pn_RX12 tk_X12_askSeen bo_RX12 xo_RX12 (cto_2387 l) ch_2387 (cut_app (cut_all cc_2387_0) (cut_all cc_2387_1))
/-- RookHustingModel numberAt -/
noncomputable def con_2388 : Con2 := ((yX12_numberAt, cX12_numberAt, 3, (some .long)), (0, 0), ([(6, 0, 0), (0, 2, 0), (0, 1, 0)], gi_1850, [ac_1100, ac_1170], []), [((4, 48, 0), gi_1851, [(false, ac_1100), (false, ac_1170)], [], [1])])
theorem hd_2388 : con_2388.1 = (yX12_numberAt, cX12_numberAt, 3, (some .long)) := rfl
noncomputable def cu_2388 : List CUT2 := []
theorem ch_2388 : staG tb_X12_numberAt 1 bt_RX12 [] ct_2 [] [] cu_2388 11 con_2388 = true := by decide +kernel
theorem vl_2388 (l : Launch) : Vld2 l vwCl gTbl con_2388 := conR_ok3 gT_all (hd_2388) rfl pn_RX12 tk_X12_numberAt bo_RX12 xo_RX12 (cto_2 l) ch_2388 cut_nil
/-- RookHustingModel numberAt -/
noncomputable def con_2389 : Con2 := ((yX12_numberAt, cX12_numberAt, 3, (some .long)), (0, 0), ([(6, 0, 0), (0, 2, 0), (0, 0, 0)], gi_1852, [ac_1100, ac_1169], []), [((4, 48, 0), gi_1853, [(false, ac_1100), (false, ac_1169)], [], [1])])
theorem hd_2389 : con_2389.1 = (yX12_numberAt, cX12_numberAt, 3, (some .long)) := rfl
noncomputable def cu_2389 : List CUT2 := []
theorem ch_2389 : staG tb_X12_numberAt 1 bt_RX12 [] ct_2 [] [] cu_2389 11 con_2389 = true := by decide +kernel
theorem vl_2389 (l : Launch) : Vld2 l vwCl gTbl con_2389 := conR_ok3 gT_all (hd_2389) rfl pn_RX12 tk_X12_numberAt bo_RX12 xo_RX12 (cto_2 l) ch_2389 cut_nil
/-- RookHustingModel numberAt -/
noncomputable def con_2390 : Con2 := ((yX12_numberAt, cX12_numberAt, 3, (some .long)), (0, 0), ([(6, 0, 0), (0, 2, 0), (0, 2, 0)], gi_1854, [ac_1100, ac_1171], []), [((4, 48, 0), gi_1855, [(false, ac_1100), (false, ac_1171)], [], [1])])
theorem hd_2390 : con_2390.1 = (yX12_numberAt, cX12_numberAt, 3, (some .long)) := rfl
noncomputable def cu_2390 : List CUT2 := []
theorem ch_2390 : staG tb_X12_numberAt 1 bt_RX12 [] ct_2 [] [] cu_2390 11 con_2390 = true := by decide +kernel
theorem vl_2390 (l : Launch) : Vld2 l vwCl gTbl con_2390 := conR_ok3 gT_all (hd_2390) rfl pn_RX12 tk_X12_numberAt bo_RX12 xo_RX12 (cto_2 l) ch_2390 cut_nil
/-- RookHustingModel numberAt -/
noncomputable def con_2391 : Con2 := ((yX12_numberAt, cX12_numberAt, 3, (some .long)), (0, 0), ([(6, 0, 0), (0, 2, 0), (0, 4, 0)], gi_1850, [ac_1100, ac_1173], []), [((4, 48, 0), gi_1851, [(false, ac_1100), (false, ac_1173)], [], [1])])
theorem hd_2391 : con_2391.1 = (yX12_numberAt, cX12_numberAt, 3, (some .long)) := rfl
noncomputable def cu_2391 : List CUT2 := []
theorem ch_2391 : staG tb_X12_numberAt 1 bt_RX12 [] ct_2 [] [] cu_2391 11 con_2391 = true := by decide +kernel
theorem vl_2391 (l : Launch) : Vld2 l vwCl gTbl con_2391 := conR_ok3 gT_all (hd_2391) rfl pn_RX12 tk_X12_numberAt bo_RX12 xo_RX12 (cto_2 l) ch_2391 cut_nil
/-- RookHustingModel numberAt -/
noncomputable def con_2392 : Con2 := ((yX12_numberAt, cX12_numberAt, 3, (some .long)), (0, 0), ([(6, 0, 0), (0, 2, 0), (0, 3, 0)], gi_1852, [ac_1100, ac_1172], []), [((4, 48, 0), gi_1853, [(false, ac_1100), (false, ac_1172)], [], [1])])
theorem hd_2392 : con_2392.1 = (yX12_numberAt, cX12_numberAt, 3, (some .long)) := rfl
noncomputable def cu_2392 : List CUT2 := []
theorem ch_2392 : staG tb_X12_numberAt 1 bt_RX12 [] ct_2 [] [] cu_2392 11 con_2392 = true := by decide +kernel
theorem vl_2392 (l : Launch) : Vld2 l vwCl gTbl con_2392 := conR_ok3 gT_all (hd_2392) rfl pn_RX12 tk_X12_numberAt bo_RX12 xo_RX12 (cto_2 l) ch_2392 cut_nil
/-- RookHustingModel numberAt -/
noncomputable def con_2393 : Con2 := ((yX12_numberAt, cX12_numberAt, 3, (some .long)), (0, 0), ([(6, 0, 0), (0, 2, 0), (0, 5, 0)], gi_1854, [ac_1100, ac_1174], []), [((4, 48, 0), gi_1855, [(false, ac_1100), (false, ac_1174)], [], [1])])
theorem hd_2393 : con_2393.1 = (yX12_numberAt, cX12_numberAt, 3, (some .long)) := rfl
noncomputable def cu_2393 : List CUT2 := []
theorem ch_2393 : staG tb_X12_numberAt 1 bt_RX12 [] ct_2 [] [] cu_2393 11 con_2393 = true := by decide +kernel
theorem vl_2393 (l : Launch) : Vld2 l vwCl gTbl con_2393 := conR_ok3 gT_all (hd_2393) rfl pn_RX12 tk_X12_numberAt bo_RX12 xo_RX12 (cto_2 l) ch_2393 cut_nil
/-- RookHustingModel numberAt -/
noncomputable def con_2394 : Con2 := ((yX12_numberAt, cX12_numberAt, 3, (some .long)), (0, 0), ([(6, 0, 0), (0, 2, 0), (0, 7, 0)], gi_1850, [ac_1100, ac_1176], []), [((4, 48, 0), gi_1851, [(false, ac_1100), (false, ac_1176)], [], [1])])
theorem hd_2394 : con_2394.1 = (yX12_numberAt, cX12_numberAt, 3, (some .long)) := rfl
noncomputable def cu_2394 : List CUT2 := []
theorem ch_2394 : staG tb_X12_numberAt 1 bt_RX12 [] ct_2 [] [] cu_2394 11 con_2394 = true := by decide +kernel
theorem vl_2394 (l : Launch) : Vld2 l vwCl gTbl con_2394 := conR_ok3 gT_all (hd_2394) rfl pn_RX12 tk_X12_numberAt bo_RX12 xo_RX12 (cto_2 l) ch_2394 cut_nil
/-- RookHustingModel numberAt -/
noncomputable def con_2395 : Con2 := ((yX12_numberAt, cX12_numberAt, 3, (some .long)), (0, 0), ([(6, 0, 0), (0, 2, 0), (0, 6, 0)], gi_1852, [ac_1100, ac_1175], []), [((4, 48, 0), gi_1853, [(false, ac_1100), (false, ac_1175)], [], [1])])
theorem hd_2395 : con_2395.1 = (yX12_numberAt, cX12_numberAt, 3, (some .long)) := rfl
noncomputable def cu_2395 : List CUT2 := []
theorem ch_2395 : staG tb_X12_numberAt 1 bt_RX12 [] ct_2 [] [] cu_2395 11 con_2395 = true := by decide +kernel
theorem vl_2395 (l : Launch) : Vld2 l vwCl gTbl con_2395 := conR_ok3 gT_all (hd_2395) rfl pn_RX12 tk_X12_numberAt bo_RX12 xo_RX12 (cto_2 l) ch_2395 cut_nil
/-- RookHustingModel numberAt -/
noncomputable def con_2396 : Con2 := ((yX12_numberAt, cX12_numberAt, 3, (some .long)), (0, 0), ([(6, 0, 0), (0, 2, 0), (0, 8, 0)], gi_1854, [ac_1100, ac_1177], []), [((4, 48, 0), gi_1855, [(false, ac_1100), (false, ac_1177)], [], [1])])
theorem hd_2396 : con_2396.1 = (yX12_numberAt, cX12_numberAt, 3, (some .long)) := rfl
noncomputable def cu_2396 : List CUT2 := []
theorem ch_2396 : staG tb_X12_numberAt 1 bt_RX12 [] ct_2 [] [] cu_2396 11 con_2396 = true := by decide +kernel
theorem vl_2396 (l : Launch) : Vld2 l vwCl gTbl con_2396 := conR_ok3 gT_all (hd_2396) rfl pn_RX12 tk_X12_numberAt bo_RX12 xo_RX12 (cto_2 l) ch_2396 cut_nil
/-- RookHustingModel isSeen -/
noncomputable def gi_2052 : GI := jl_n [gp_759, gp_527]
noncomputable def ac_1230 : AC := .inr (2, jl_n [js_5 120 9223372036854775807 9223372036854775807, js_4 111 60, js_5 60 9223372036854775807 9223372036854775807])
noncomputable def hc_218 : List AC := [ac_1162, ac_1163, ac_1230, am_0]
noncomputable def gi_2053 : GI := jl_n [gp_759, gp_527, jl_z 1]
noncomputable def hq_922 : HP := [(false, ac_1162), (false, ac_1163), (false, ac_1230), (false, am_0)]
noncomputable def con_2397 : Con2 := ((yX12_isSeen, cX12_isSeen, 3, (some .boolean)), (1, 22), ([(6, 0, 0), (0, 2, 0)], gi_2052, hc_218, []), [((0, 0, 0), gi_2053, hq_922, [], [1]), ((0, 1, 0), gi_2053, hq_922, [], [1])])
theorem hd_2397 : con_2397.1 = (yX12_isSeen, cX12_isSeen, 3, (some .boolean)) := rfl
theorem ck_RX12_417_2390 : COK2 RX12 vwCl gTbl 417 0 con_2390 := ⟨wd_2061, wd_137, mh_X12_numberAt, .inr (.inr ⟨rfl, wd_2058, wd_2060, wd_114, ⟨_, rfl, pd_X12_numberAt⟩, 12, _, TX12, 45, rfl, rfl⟩)⟩
theorem ck_RX12_417_2393 : COK2 RX12 vwCl gTbl 417 0 con_2393 := ⟨wd_2061, wd_137, mh_X12_numberAt, .inr (.inr ⟨rfl, wd_2058, wd_2060, wd_114, ⟨_, rfl, pd_X12_numberAt⟩, 12, _, TX12, 45, rfl, rfl⟩)⟩
theorem ck_RX12_417_2396 : COK2 RX12 vwCl gTbl 417 0 con_2396 := ⟨wd_2061, wd_137, mh_X12_numberAt, .inr (.inr ⟨rfl, wd_2058, wd_2060, wd_114, ⟨_, rfl, pd_X12_numberAt⟩, 12, _, TX12, 45, rfl, rfl⟩)⟩
theorem ck_RX12_417_2389 : COK2 RX12 vwCl gTbl 417 0 con_2389 := ⟨wd_2061, wd_137, mh_X12_numberAt, .inr (.inr ⟨rfl, wd_2058, wd_2060, wd_114, ⟨_, rfl, pd_X12_numberAt⟩, 12, _, TX12, 45, rfl, rfl⟩)⟩
theorem ck_RX12_417_2392 : COK2 RX12 vwCl gTbl 417 0 con_2392 := ⟨wd_2061, wd_137, mh_X12_numberAt, .inr (.inr ⟨rfl, wd_2058, wd_2060, wd_114, ⟨_, rfl, pd_X12_numberAt⟩, 12, _, TX12, 45, rfl, rfl⟩)⟩
theorem ck_RX12_417_2395 : COK2 RX12 vwCl gTbl 417 0 con_2395 := ⟨wd_2061, wd_137, mh_X12_numberAt, .inr (.inr ⟨rfl, wd_2058, wd_2060, wd_114, ⟨_, rfl, pd_X12_numberAt⟩, 12, _, TX12, 45, rfl, rfl⟩)⟩
theorem ck_RX12_417_2388 : COK2 RX12 vwCl gTbl 417 0 con_2388 := ⟨wd_2061, wd_137, mh_X12_numberAt, .inr (.inr ⟨rfl, wd_2058, wd_2060, wd_114, ⟨_, rfl, pd_X12_numberAt⟩, 12, _, TX12, 45, rfl, rfl⟩)⟩
theorem ck_RX12_417_2391 : COK2 RX12 vwCl gTbl 417 0 con_2391 := ⟨wd_2061, wd_137, mh_X12_numberAt, .inr (.inr ⟨rfl, wd_2058, wd_2060, wd_114, ⟨_, rfl, pd_X12_numberAt⟩, 12, _, TX12, 45, rfl, rfl⟩)⟩
theorem ck_RX12_417_2394 : COK2 RX12 vwCl gTbl 417 0 con_2394 := ⟨wd_2061, wd_137, mh_X12_numberAt, .inr (.inr ⟨rfl, wd_2058, wd_2060, wd_114, ⟨_, rfl, pd_X12_numberAt⟩, 12, _, TX12, 45, rfl, rfl⟩)⟩
noncomputable def ct_2397 : CTB2 := [(22, 417, 0, con_2394, [0, 2]), (22, 417, 0, con_2391, [0, 2]), (22, 417, 0, con_2388, [0, 2]), (30, 417, 0, con_2395, [0, 2]), (30, 417, 0, con_2392, [0, 2]), (30, 417, 0, con_2389, [0, 2]), (42, 417, 0, con_2396, [0, 2]), (42, 417, 0, con_2393, [0, 2]), (42, 417, 0, con_2390, [0, 2])]
noncomputable def gi_2054 : GI := jl_n [gp_759, gp_527, jl_z 3]
noncomputable def cu_2397 : List CUT2 := [((2, [lq 0 6 0, lq 1 0 2, lq 2 0 0], [], gi_2054, hq_922), [], ([], 9)), ((2, [lq 0 6 0, lq 1 0 2, lq 2 0 3], [], gi_2054, hq_922), [], ([], 6)), ((2, [lq 0 6 0, lq 1 0 2, lq 2 0 6], [], gi_2054, hq_922), [], ([], 3)), ((2, [lq 0 6 0, lq 1 0 2, lq 2 0 9], [], gi_2054, hq_922), [], ([], 0))]
theorem ch_2397 : staG tb_X12_isSeen 1 bt_RX12 [] ct_2397 [] [] cu_2397 37 con_2397 = true := by decide +kernel
theorem cc_2397 : cu_2397.all (cutG tb_X12_isSeen 1 bt_RX12 [] ct_2397 [] [] cu_2397 37 con_2397) = true := by decide +kernel
theorem cto_2397 (l : Launch) : CTOK2 l RX12 vwCl gTbl ct_2397 := ct2_cons (vl_2394 l) ck_RX12_417_2394 (ct2_cons (vl_2391 l) ck_RX12_417_2391 (ct2_cons (vl_2388 l) ck_RX12_417_2388 (ct2_cons (vl_2395 l) ck_RX12_417_2395 (ct2_cons (vl_2392 l) ck_RX12_417_2392 (ct2_cons (vl_2389 l) ck_RX12_417_2389 (ct2_cons (vl_2396 l) ck_RX12_417_2396 (ct2_cons (vl_2393 l) ck_RX12_417_2393 (ct2_cons (vl_2390 l) ck_RX12_417_2390 (ct2_nil)))))))))
theorem vl_2397 (l : Launch) : Vld2 l vwCl gTbl con_2397 := conR_ok3 gT_all (hd_2397) rfl pn_RX12 tk_X12_isSeen bo_RX12 xo_RX12 (cto_2397 l) ch_2397 (cut_all cc_2397)
/-- RookHustingModel numberAt -/
noncomputable def con_2398 : Con2 := ((yX12_numberAt, cX12_numberAt, 3, (some .long)), (0, 0), ([(6, 0, 0), (0, 2, 0), (0, 10, 0)], gi_1850, [ac_1100, ac_1179], []), [((4, 48, 0), gi_1851, [(false, ac_1100), (false, ac_1179)], [], [1])])
theorem hd_2398 : con_2398.1 = (yX12_numberAt, cX12_numberAt, 3, (some .long)) := rfl
noncomputable def cu_2398 : List CUT2 := []
theorem ch_2398 : staG tb_X12_numberAt 1 bt_RX12 [] ct_2 [] [] cu_2398 11 con_2398 = true := by decide +kernel
theorem vl_2398 (l : Launch) : Vld2 l vwCl gTbl con_2398 := conR_ok3 gT_all (hd_2398) rfl pn_RX12 tk_X12_numberAt bo_RX12 xo_RX12 (cto_2 l) ch_2398 cut_nil
/-- RookHustingModel numberAt -/
noncomputable def con_2399 : Con2 := ((yX12_numberAt, cX12_numberAt, 3, (some .long)), (0, 0), ([(6, 0, 0), (0, 2, 0), (0, 9, 0)], gi_1852, [ac_1100, ac_1178], []), [((4, 48, 0), gi_1853, [(false, ac_1100), (false, ac_1178)], [], [1])])
theorem hd_2399 : con_2399.1 = (yX12_numberAt, cX12_numberAt, 3, (some .long)) := rfl
noncomputable def cu_2399 : List CUT2 := []
theorem ch_2399 : staG tb_X12_numberAt 1 bt_RX12 [] ct_2 [] [] cu_2399 11 con_2399 = true := by decide +kernel
theorem vl_2399 (l : Launch) : Vld2 l vwCl gTbl con_2399 := conR_ok3 gT_all (hd_2399) rfl pn_RX12 tk_X12_numberAt bo_RX12 xo_RX12 (cto_2 l) ch_2399 cut_nil
/-- RookHustingModel numberAt -/
noncomputable def con_2400 : Con2 := ((yX12_numberAt, cX12_numberAt, 3, (some .long)), (0, 0), ([(6, 0, 0), (0, 2, 0), (0, 11, 0)], gi_1854, [ac_1100, ac_1180], []), [((4, 48, 0), gi_1855, [(false, ac_1100), (false, ac_1180)], [], [1])])
theorem hd_2400 : con_2400.1 = (yX12_numberAt, cX12_numberAt, 3, (some .long)) := rfl
noncomputable def cu_2400 : List CUT2 := []
theorem ch_2400 : staG tb_X12_numberAt 1 bt_RX12 [] ct_2 [] [] cu_2400 11 con_2400 = true := by decide +kernel
theorem vl_2400 (l : Launch) : Vld2 l vwCl gTbl con_2400 := conR_ok3 gT_all (hd_2400) rfl pn_RX12 tk_X12_numberAt bo_RX12 xo_RX12 (cto_2 l) ch_2400 cut_nil
/-- RookHustingModel numberAt -/
noncomputable def con_2401 : Con2 := ((yX12_numberAt, cX12_numberAt, 3, (some .long)), (0, 0), ([(6, 0, 0), (0, 2, 0), (0, 13, 0)], gi_1850, [ac_1100, ac_1182], []), [((4, 48, 0), gi_1851, [(false, ac_1100), (false, ac_1182)], [], [1])])
theorem hd_2401 : con_2401.1 = (yX12_numberAt, cX12_numberAt, 3, (some .long)) := rfl
noncomputable def cu_2401 : List CUT2 := []
theorem ch_2401 : staG tb_X12_numberAt 1 bt_RX12 [] ct_2 [] [] cu_2401 11 con_2401 = true := by decide +kernel
theorem vl_2401 (l : Launch) : Vld2 l vwCl gTbl con_2401 := conR_ok3 gT_all (hd_2401) rfl pn_RX12 tk_X12_numberAt bo_RX12 xo_RX12 (cto_2 l) ch_2401 cut_nil
/-- RookHustingModel numberAt -/
noncomputable def con_2402 : Con2 := ((yX12_numberAt, cX12_numberAt, 3, (some .long)), (0, 0), ([(6, 0, 0), (0, 2, 0), (0, 12, 0)], gi_1852, [ac_1100, ac_1181], []), [((4, 48, 0), gi_1853, [(false, ac_1100), (false, ac_1181)], [], [1])])
theorem hd_2402 : con_2402.1 = (yX12_numberAt, cX12_numberAt, 3, (some .long)) := rfl
noncomputable def cu_2402 : List CUT2 := []
theorem ch_2402 : staG tb_X12_numberAt 1 bt_RX12 [] ct_2 [] [] cu_2402 11 con_2402 = true := by decide +kernel
theorem vl_2402 (l : Launch) : Vld2 l vwCl gTbl con_2402 := conR_ok3 gT_all (hd_2402) rfl pn_RX12 tk_X12_numberAt bo_RX12 xo_RX12 (cto_2 l) ch_2402 cut_nil
/-- RookHustingModel numberAt -/
noncomputable def con_2403 : Con2 := ((yX12_numberAt, cX12_numberAt, 3, (some .long)), (0, 0), ([(6, 0, 0), (0, 2, 0), (0, 14, 0)], gi_1854, [ac_1100, ac_1183], []), [((4, 48, 0), gi_1855, [(false, ac_1100), (false, ac_1183)], [], [1])])
theorem hd_2403 : con_2403.1 = (yX12_numberAt, cX12_numberAt, 3, (some .long)) := rfl
noncomputable def cu_2403 : List CUT2 := []
theorem ch_2403 : staG tb_X12_numberAt 1 bt_RX12 [] ct_2 [] [] cu_2403 11 con_2403 = true := by decide +kernel
theorem vl_2403 (l : Launch) : Vld2 l vwCl gTbl con_2403 := conR_ok3 gT_all (hd_2403) rfl pn_RX12 tk_X12_numberAt bo_RX12 xo_RX12 (cto_2 l) ch_2403 cut_nil
/-- RookHustingModel numberAt -/
noncomputable def con_2404 : Con2 := ((yX12_numberAt, cX12_numberAt, 3, (some .long)), (0, 0), ([(6, 0, 0), (0, 2, 0), (0, 16, 0)], gi_1850, [ac_1100, ac_1185], []), [((4, 48, 0), gi_1851, [(false, ac_1100), (false, ac_1185)], [], [1])])
theorem hd_2404 : con_2404.1 = (yX12_numberAt, cX12_numberAt, 3, (some .long)) := rfl
noncomputable def cu_2404 : List CUT2 := []
theorem ch_2404 : staG tb_X12_numberAt 1 bt_RX12 [] ct_2 [] [] cu_2404 11 con_2404 = true := by decide +kernel
theorem vl_2404 (l : Launch) : Vld2 l vwCl gTbl con_2404 := conR_ok3 gT_all (hd_2404) rfl pn_RX12 tk_X12_numberAt bo_RX12 xo_RX12 (cto_2 l) ch_2404 cut_nil
/-- RookHustingModel numberAt -/
noncomputable def con_2405 : Con2 := ((yX12_numberAt, cX12_numberAt, 3, (some .long)), (0, 0), ([(6, 0, 0), (0, 2, 0), (0, 15, 0)], gi_1852, [ac_1100, ac_1184], []), [((4, 48, 0), gi_1853, [(false, ac_1100), (false, ac_1184)], [], [1])])
theorem hd_2405 : con_2405.1 = (yX12_numberAt, cX12_numberAt, 3, (some .long)) := rfl
noncomputable def cu_2405 : List CUT2 := []
theorem ch_2405 : staG tb_X12_numberAt 1 bt_RX12 [] ct_2 [] [] cu_2405 11 con_2405 = true := by decide +kernel
theorem vl_2405 (l : Launch) : Vld2 l vwCl gTbl con_2405 := conR_ok3 gT_all (hd_2405) rfl pn_RX12 tk_X12_numberAt bo_RX12 xo_RX12 (cto_2 l) ch_2405 cut_nil
/-- RookHustingModel numberAt -/
noncomputable def con_2406 : Con2 := ((yX12_numberAt, cX12_numberAt, 3, (some .long)), (0, 0), ([(6, 0, 0), (0, 2, 0), (0, 17, 0)], gi_1854, [ac_1100, ac_1186], []), [((4, 48, 0), gi_1855, [(false, ac_1100), (false, ac_1186)], [], [1])])
theorem hd_2406 : con_2406.1 = (yX12_numberAt, cX12_numberAt, 3, (some .long)) := rfl
noncomputable def cu_2406 : List CUT2 := []
theorem ch_2406 : staG tb_X12_numberAt 1 bt_RX12 [] ct_2 [] [] cu_2406 11 con_2406 = true := by decide +kernel
theorem vl_2406 (l : Launch) : Vld2 l vwCl gTbl con_2406 := conR_ok3 gT_all (hd_2406) rfl pn_RX12 tk_X12_numberAt bo_RX12 xo_RX12 (cto_2 l) ch_2406 cut_nil
/-- RookHustingModel numberAt -/
noncomputable def con_2407 : Con2 := ((yX12_numberAt, cX12_numberAt, 3, (some .long)), (0, 0), ([(6, 0, 0), (0, 2, 0), (0, 19, 0)], gi_1850, [ac_1100, ac_1188], []), [((4, 48, 0), gi_1851, [(false, ac_1100), (false, ac_1188)], [], [1])])
theorem hd_2407 : con_2407.1 = (yX12_numberAt, cX12_numberAt, 3, (some .long)) := rfl
noncomputable def cu_2407 : List CUT2 := []
theorem ch_2407 : staG tb_X12_numberAt 1 bt_RX12 [] ct_2 [] [] cu_2407 11 con_2407 = true := by decide +kernel
theorem vl_2407 (l : Launch) : Vld2 l vwCl gTbl con_2407 := conR_ok3 gT_all (hd_2407) rfl pn_RX12 tk_X12_numberAt bo_RX12 xo_RX12 (cto_2 l) ch_2407 cut_nil
/-- RookHustingModel numberAt -/
noncomputable def con_2408 : Con2 := ((yX12_numberAt, cX12_numberAt, 3, (some .long)), (0, 0), ([(6, 0, 0), (0, 2, 0), (0, 18, 0)], gi_1852, [ac_1100, ac_1187], []), [((4, 48, 0), gi_1853, [(false, ac_1100), (false, ac_1187)], [], [1])])
theorem hd_2408 : con_2408.1 = (yX12_numberAt, cX12_numberAt, 3, (some .long)) := rfl
noncomputable def cu_2408 : List CUT2 := []
theorem ch_2408 : staG tb_X12_numberAt 1 bt_RX12 [] ct_2 [] [] cu_2408 11 con_2408 = true := by decide +kernel
theorem vl_2408 (l : Launch) : Vld2 l vwCl gTbl con_2408 := conR_ok3 gT_all (hd_2408) rfl pn_RX12 tk_X12_numberAt bo_RX12 xo_RX12 (cto_2 l) ch_2408 cut_nil
/-- RookHustingModel numberAt -/
noncomputable def con_2409 : Con2 := ((yX12_numberAt, cX12_numberAt, 3, (some .long)), (0, 0), ([(6, 0, 0), (0, 2, 0), (0, 20, 0)], gi_1854, [ac_1100, ac_1189], []), [((4, 48, 0), gi_1855, [(false, ac_1100), (false, ac_1189)], [], [1])])
theorem hd_2409 : con_2409.1 = (yX12_numberAt, cX12_numberAt, 3, (some .long)) := rfl
noncomputable def cu_2409 : List CUT2 := []
theorem ch_2409 : staG tb_X12_numberAt 1 bt_RX12 [] ct_2 [] [] cu_2409 11 con_2409 = true := by decide +kernel
theorem vl_2409 (l : Launch) : Vld2 l vwCl gTbl con_2409 := conR_ok3 gT_all (hd_2409) rfl pn_RX12 tk_X12_numberAt bo_RX12 xo_RX12 (cto_2 l) ch_2409 cut_nil
/-- RookHustingModel numberAt -/
noncomputable def con_2410 : Con2 := ((yX12_numberAt, cX12_numberAt, 3, (some .long)), (0, 0), ([(6, 0, 0), (0, 2, 0), (0, 22, 0)], gi_1850, [ac_1100, ac_1191], []), [((4, 48, 0), gi_1851, [(false, ac_1100), (false, ac_1191)], [], [1])])
theorem hd_2410 : con_2410.1 = (yX12_numberAt, cX12_numberAt, 3, (some .long)) := rfl
noncomputable def cu_2410 : List CUT2 := []
theorem ch_2410 : staG tb_X12_numberAt 1 bt_RX12 [] ct_2 [] [] cu_2410 11 con_2410 = true := by decide +kernel
theorem vl_2410 (l : Launch) : Vld2 l vwCl gTbl con_2410 := conR_ok3 gT_all (hd_2410) rfl pn_RX12 tk_X12_numberAt bo_RX12 xo_RX12 (cto_2 l) ch_2410 cut_nil
/-- RookHustingModel numberAt -/
noncomputable def con_2411 : Con2 := ((yX12_numberAt, cX12_numberAt, 3, (some .long)), (0, 0), ([(6, 0, 0), (0, 2, 0), (0, 21, 0)], gi_1852, [ac_1100, ac_1190], []), [((4, 48, 0), gi_1853, [(false, ac_1100), (false, ac_1190)], [], [1])])
theorem hd_2411 : con_2411.1 = (yX12_numberAt, cX12_numberAt, 3, (some .long)) := rfl
noncomputable def cu_2411 : List CUT2 := []
theorem ch_2411 : staG tb_X12_numberAt 1 bt_RX12 [] ct_2 [] [] cu_2411 11 con_2411 = true := by decide +kernel
theorem vl_2411 (l : Launch) : Vld2 l vwCl gTbl con_2411 := conR_ok3 gT_all (hd_2411) rfl pn_RX12 tk_X12_numberAt bo_RX12 xo_RX12 (cto_2 l) ch_2411 cut_nil
/-- RookHustingModel numberAt -/
noncomputable def con_2412 : Con2 := ((yX12_numberAt, cX12_numberAt, 3, (some .long)), (0, 0), ([(6, 0, 0), (0, 2, 0), (0, 23, 0)], gi_1854, [ac_1100, ac_1192], []), [((4, 48, 0), gi_1855, [(false, ac_1100), (false, ac_1192)], [], [1])])
theorem hd_2412 : con_2412.1 = (yX12_numberAt, cX12_numberAt, 3, (some .long)) := rfl
noncomputable def cu_2412 : List CUT2 := []
theorem ch_2412 : staG tb_X12_numberAt 1 bt_RX12 [] ct_2 [] [] cu_2412 11 con_2412 = true := by decide +kernel
theorem vl_2412 (l : Launch) : Vld2 l vwCl gTbl con_2412 := conR_ok3 gT_all (hd_2412) rfl pn_RX12 tk_X12_numberAt bo_RX12 xo_RX12 (cto_2 l) ch_2412 cut_nil
/-- RookHustingModel numberAt -/
noncomputable def con_2413 : Con2 := ((yX12_numberAt, cX12_numberAt, 3, (some .long)), (0, 0), ([(6, 0, 0), (0, 2, 0), (0, 25, 0)], gi_1850, [ac_1100, ac_1194], []), [((4, 48, 0), gi_1851, [(false, ac_1100), (false, ac_1194)], [], [1])])
theorem hd_2413 : con_2413.1 = (yX12_numberAt, cX12_numberAt, 3, (some .long)) := rfl
noncomputable def cu_2413 : List CUT2 := []
theorem ch_2413 : staG tb_X12_numberAt 1 bt_RX12 [] ct_2 [] [] cu_2413 11 con_2413 = true := by decide +kernel
theorem vl_2413 (l : Launch) : Vld2 l vwCl gTbl con_2413 := conR_ok3 gT_all (hd_2413) rfl pn_RX12 tk_X12_numberAt bo_RX12 xo_RX12 (cto_2 l) ch_2413 cut_nil
/-- RookHustingModel numberAt -/
noncomputable def con_2414 : Con2 := ((yX12_numberAt, cX12_numberAt, 3, (some .long)), (0, 0), ([(6, 0, 0), (0, 2, 0), (0, 24, 0)], gi_1852, [ac_1100, ac_1193], []), [((4, 48, 0), gi_1853, [(false, ac_1100), (false, ac_1193)], [], [1])])
theorem hd_2414 : con_2414.1 = (yX12_numberAt, cX12_numberAt, 3, (some .long)) := rfl
noncomputable def cu_2414 : List CUT2 := []
theorem ch_2414 : staG tb_X12_numberAt 1 bt_RX12 [] ct_2 [] [] cu_2414 11 con_2414 = true := by decide +kernel
theorem vl_2414 (l : Launch) : Vld2 l vwCl gTbl con_2414 := conR_ok3 gT_all (hd_2414) rfl pn_RX12 tk_X12_numberAt bo_RX12 xo_RX12 (cto_2 l) ch_2414 cut_nil
/-- RookHustingModel numberAt -/
noncomputable def con_2415 : Con2 := ((yX12_numberAt, cX12_numberAt, 3, (some .long)), (0, 0), ([(6, 0, 0), (0, 2, 0), (0, 26, 0)], gi_1854, [ac_1100, ac_1195], []), [((4, 48, 0), gi_1855, [(false, ac_1100), (false, ac_1195)], [], [1])])
theorem hd_2415 : con_2415.1 = (yX12_numberAt, cX12_numberAt, 3, (some .long)) := rfl
noncomputable def cu_2415 : List CUT2 := []
theorem ch_2415 : staG tb_X12_numberAt 1 bt_RX12 [] ct_2 [] [] cu_2415 11 con_2415 = true := by decide +kernel
theorem vl_2415 (l : Launch) : Vld2 l vwCl gTbl con_2415 := conR_ok3 gT_all (hd_2415) rfl pn_RX12 tk_X12_numberAt bo_RX12 xo_RX12 (cto_2 l) ch_2415 cut_nil
/-- RookHustingModel numberAt -/
noncomputable def con_2416 : Con2 := ((yX12_numberAt, cX12_numberAt, 3, (some .long)), (0, 0), ([(6, 0, 0), (0, 2, 0), (0, 28, 0)], gi_1850, [ac_1100, ac_1197], []), [((4, 48, 0), gi_1851, [(false, ac_1100), (false, ac_1197)], [], [1])])
theorem hd_2416 : con_2416.1 = (yX12_numberAt, cX12_numberAt, 3, (some .long)) := rfl
noncomputable def cu_2416 : List CUT2 := []
theorem ch_2416 : staG tb_X12_numberAt 1 bt_RX12 [] ct_2 [] [] cu_2416 11 con_2416 = true := by decide +kernel
theorem vl_2416 (l : Launch) : Vld2 l vwCl gTbl con_2416 := conR_ok3 gT_all (hd_2416) rfl pn_RX12 tk_X12_numberAt bo_RX12 xo_RX12 (cto_2 l) ch_2416 cut_nil
/-- RookHustingModel numberAt -/
noncomputable def con_2417 : Con2 := ((yX12_numberAt, cX12_numberAt, 3, (some .long)), (0, 0), ([(6, 0, 0), (0, 2, 0), (0, 27, 0)], gi_1852, [ac_1100, ac_1196], []), [((4, 48, 0), gi_1853, [(false, ac_1100), (false, ac_1196)], [], [1])])
theorem hd_2417 : con_2417.1 = (yX12_numberAt, cX12_numberAt, 3, (some .long)) := rfl
noncomputable def cu_2417 : List CUT2 := []
theorem ch_2417 : staG tb_X12_numberAt 1 bt_RX12 [] ct_2 [] [] cu_2417 11 con_2417 = true := by decide +kernel
theorem vl_2417 (l : Launch) : Vld2 l vwCl gTbl con_2417 := conR_ok3 gT_all (hd_2417) rfl pn_RX12 tk_X12_numberAt bo_RX12 xo_RX12 (cto_2 l) ch_2417 cut_nil
/-- RookHustingModel numberAt -/
noncomputable def con_2418 : Con2 := ((yX12_numberAt, cX12_numberAt, 3, (some .long)), (0, 0), ([(6, 0, 0), (0, 2, 0), (0, 29, 0)], gi_1854, [ac_1100, ac_1198], []), [((4, 48, 0), gi_1855, [(false, ac_1100), (false, ac_1198)], [], [1])])
theorem hd_2418 : con_2418.1 = (yX12_numberAt, cX12_numberAt, 3, (some .long)) := rfl
noncomputable def cu_2418 : List CUT2 := []
theorem ch_2418 : staG tb_X12_numberAt 1 bt_RX12 [] ct_2 [] [] cu_2418 11 con_2418 = true := by decide +kernel
theorem vl_2418 (l : Launch) : Vld2 l vwCl gTbl con_2418 := conR_ok3 gT_all (hd_2418) rfl pn_RX12 tk_X12_numberAt bo_RX12 xo_RX12 (cto_2 l) ch_2418 cut_nil
/-- RookHustingModel numberAt -/
noncomputable def con_2419 : Con2 := ((yX12_numberAt, cX12_numberAt, 3, (some .long)), (0, 0), ([(6, 0, 0), (0, 2, 0), (0, 31, 0)], gi_1850, [ac_1100, ac_1200], []), [((4, 48, 0), gi_1851, [(false, ac_1100), (false, ac_1200)], [], [1])])
theorem hd_2419 : con_2419.1 = (yX12_numberAt, cX12_numberAt, 3, (some .long)) := rfl
noncomputable def cu_2419 : List CUT2 := []
theorem ch_2419 : staG tb_X12_numberAt 1 bt_RX12 [] ct_2 [] [] cu_2419 11 con_2419 = true := by decide +kernel
theorem vl_2419 (l : Launch) : Vld2 l vwCl gTbl con_2419 := conR_ok3 gT_all (hd_2419) rfl pn_RX12 tk_X12_numberAt bo_RX12 xo_RX12 (cto_2 l) ch_2419 cut_nil
/-- RookHustingModel numberAt -/
noncomputable def con_2420 : Con2 := ((yX12_numberAt, cX12_numberAt, 3, (some .long)), (0, 0), ([(6, 0, 0), (0, 2, 0), (0, 30, 0)], gi_1852, [ac_1100, ac_1199], []), [((4, 48, 0), gi_1853, [(false, ac_1100), (false, ac_1199)], [], [1])])
theorem hd_2420 : con_2420.1 = (yX12_numberAt, cX12_numberAt, 3, (some .long)) := rfl
noncomputable def cu_2420 : List CUT2 := []
theorem ch_2420 : staG tb_X12_numberAt 1 bt_RX12 [] ct_2 [] [] cu_2420 11 con_2420 = true := by decide +kernel
theorem vl_2420 (l : Launch) : Vld2 l vwCl gTbl con_2420 := conR_ok3 gT_all (hd_2420) rfl pn_RX12 tk_X12_numberAt bo_RX12 xo_RX12 (cto_2 l) ch_2420 cut_nil
/-- RookHustingModel numberAt -/
noncomputable def con_2421 : Con2 := ((yX12_numberAt, cX12_numberAt, 3, (some .long)), (0, 0), ([(6, 0, 0), (0, 2, 0), (0, 32, 0)], gi_1854, [ac_1100, ac_1201], []), [((4, 48, 0), gi_1855, [(false, ac_1100), (false, ac_1201)], [], [1])])
theorem hd_2421 : con_2421.1 = (yX12_numberAt, cX12_numberAt, 3, (some .long)) := rfl
noncomputable def cu_2421 : List CUT2 := []
theorem ch_2421 : staG tb_X12_numberAt 1 bt_RX12 [] ct_2 [] [] cu_2421 11 con_2421 = true := by decide +kernel
theorem vl_2421 (l : Launch) : Vld2 l vwCl gTbl con_2421 := conR_ok3 gT_all (hd_2421) rfl pn_RX12 tk_X12_numberAt bo_RX12 xo_RX12 (cto_2 l) ch_2421 cut_nil
/-- RookHustingModel numberAt -/
noncomputable def con_2422 : Con2 := ((yX12_numberAt, cX12_numberAt, 3, (some .long)), (0, 0), ([(6, 0, 0), (0, 2, 0), (0, 34, 0)], gi_1850, [ac_1100, ac_1203], []), [((4, 48, 0), gi_1851, [(false, ac_1100), (false, ac_1203)], [], [1])])
theorem hd_2422 : con_2422.1 = (yX12_numberAt, cX12_numberAt, 3, (some .long)) := rfl
noncomputable def cu_2422 : List CUT2 := []
theorem ch_2422 : staG tb_X12_numberAt 1 bt_RX12 [] ct_2 [] [] cu_2422 11 con_2422 = true := by decide +kernel
theorem vl_2422 (l : Launch) : Vld2 l vwCl gTbl con_2422 := conR_ok3 gT_all (hd_2422) rfl pn_RX12 tk_X12_numberAt bo_RX12 xo_RX12 (cto_2 l) ch_2422 cut_nil
/-- RookHustingModel numberAt -/
noncomputable def con_2423 : Con2 := ((yX12_numberAt, cX12_numberAt, 3, (some .long)), (0, 0), ([(6, 0, 0), (0, 2, 0), (0, 33, 0)], gi_1852, [ac_1100, ac_1202], []), [((4, 48, 0), gi_1853, [(false, ac_1100), (false, ac_1202)], [], [1])])
theorem hd_2423 : con_2423.1 = (yX12_numberAt, cX12_numberAt, 3, (some .long)) := rfl
noncomputable def cu_2423 : List CUT2 := []
theorem ch_2423 : staG tb_X12_numberAt 1 bt_RX12 [] ct_2 [] [] cu_2423 11 con_2423 = true := by decide +kernel
theorem vl_2423 (l : Launch) : Vld2 l vwCl gTbl con_2423 := conR_ok3 gT_all (hd_2423) rfl pn_RX12 tk_X12_numberAt bo_RX12 xo_RX12 (cto_2 l) ch_2423 cut_nil
/-- RookHustingModel numberAt -/
noncomputable def con_2424 : Con2 := ((yX12_numberAt, cX12_numberAt, 3, (some .long)), (0, 0), ([(6, 0, 0), (0, 2, 0), (0, 35, 0)], gi_1854, [ac_1100, ac_1204], []), [((4, 48, 0), gi_1855, [(false, ac_1100), (false, ac_1204)], [], [1])])
theorem hd_2424 : con_2424.1 = (yX12_numberAt, cX12_numberAt, 3, (some .long)) := rfl
noncomputable def cu_2424 : List CUT2 := []
theorem ch_2424 : staG tb_X12_numberAt 1 bt_RX12 [] ct_2 [] [] cu_2424 11 con_2424 = true := by decide +kernel
theorem vl_2424 (l : Launch) : Vld2 l vwCl gTbl con_2424 := conR_ok3 gT_all (hd_2424) rfl pn_RX12 tk_X12_numberAt bo_RX12 xo_RX12 (cto_2 l) ch_2424 cut_nil
/-- RookHustingModel numberAt -/
noncomputable def con_2425 : Con2 := ((yX12_numberAt, cX12_numberAt, 3, (some .long)), (0, 0), ([(6, 0, 0), (0, 2, 0), (0, 37, 0)], gi_1850, [ac_1100, ac_1206], []), [((4, 48, 0), gi_1851, [(false, ac_1100), (false, ac_1206)], [], [1])])
theorem hd_2425 : con_2425.1 = (yX12_numberAt, cX12_numberAt, 3, (some .long)) := rfl
noncomputable def cu_2425 : List CUT2 := []
theorem ch_2425 : staG tb_X12_numberAt 1 bt_RX12 [] ct_2 [] [] cu_2425 11 con_2425 = true := by decide +kernel
theorem vl_2425 (l : Launch) : Vld2 l vwCl gTbl con_2425 := conR_ok3 gT_all (hd_2425) rfl pn_RX12 tk_X12_numberAt bo_RX12 xo_RX12 (cto_2 l) ch_2425 cut_nil
/-- RookHustingModel numberAt -/
noncomputable def con_2426 : Con2 := ((yX12_numberAt, cX12_numberAt, 3, (some .long)), (0, 0), ([(6, 0, 0), (0, 2, 0), (0, 36, 0)], gi_1852, [ac_1100, ac_1205], []), [((4, 48, 0), gi_1853, [(false, ac_1100), (false, ac_1205)], [], [1])])
theorem hd_2426 : con_2426.1 = (yX12_numberAt, cX12_numberAt, 3, (some .long)) := rfl
noncomputable def cu_2426 : List CUT2 := []
theorem ch_2426 : staG tb_X12_numberAt 1 bt_RX12 [] ct_2 [] [] cu_2426 11 con_2426 = true := by decide +kernel
theorem vl_2426 (l : Launch) : Vld2 l vwCl gTbl con_2426 := conR_ok3 gT_all (hd_2426) rfl pn_RX12 tk_X12_numberAt bo_RX12 xo_RX12 (cto_2 l) ch_2426 cut_nil
/-- RookHustingModel numberAt -/
noncomputable def con_2427 : Con2 := ((yX12_numberAt, cX12_numberAt, 3, (some .long)), (0, 0), ([(6, 0, 0), (0, 2, 0), (0, 38, 0)], gi_1854, [ac_1100, ac_1207], []), [((4, 48, 0), gi_1855, [(false, ac_1100), (false, ac_1207)], [], [1])])
theorem hd_2427 : con_2427.1 = (yX12_numberAt, cX12_numberAt, 3, (some .long)) := rfl
noncomputable def cu_2427 : List CUT2 := []
theorem ch_2427 : staG tb_X12_numberAt 1 bt_RX12 [] ct_2 [] [] cu_2427 11 con_2427 = true := by decide +kernel
theorem vl_2427 (l : Launch) : Vld2 l vwCl gTbl con_2427 := conR_ok3 gT_all (hd_2427) rfl pn_RX12 tk_X12_numberAt bo_RX12 xo_RX12 (cto_2 l) ch_2427 cut_nil
/-- RookHustingModel numberAt -/
noncomputable def con_2428 : Con2 := ((yX12_numberAt, cX12_numberAt, 3, (some .long)), (0, 0), ([(6, 0, 0), (0, 2, 0), (0, 40, 0)], gi_1850, [ac_1100, ac_1209], []), [((4, 48, 0), gi_1851, [(false, ac_1100), (false, ac_1209)], [], [1])])
theorem hd_2428 : con_2428.1 = (yX12_numberAt, cX12_numberAt, 3, (some .long)) := rfl
noncomputable def cu_2428 : List CUT2 := []
theorem ch_2428 : staG tb_X12_numberAt 1 bt_RX12 [] ct_2 [] [] cu_2428 11 con_2428 = true := by decide +kernel
theorem vl_2428 (l : Launch) : Vld2 l vwCl gTbl con_2428 := conR_ok3 gT_all (hd_2428) rfl pn_RX12 tk_X12_numberAt bo_RX12 xo_RX12 (cto_2 l) ch_2428 cut_nil
/-- RookHustingModel numberAt -/
noncomputable def con_2429 : Con2 := ((yX12_numberAt, cX12_numberAt, 3, (some .long)), (0, 0), ([(6, 0, 0), (0, 2, 0), (0, 39, 0)], gi_1852, [ac_1100, ac_1208], []), [((4, 48, 0), gi_1853, [(false, ac_1100), (false, ac_1208)], [], [1])])
theorem hd_2429 : con_2429.1 = (yX12_numberAt, cX12_numberAt, 3, (some .long)) := rfl
noncomputable def cu_2429 : List CUT2 := []
theorem ch_2429 : staG tb_X12_numberAt 1 bt_RX12 [] ct_2 [] [] cu_2429 11 con_2429 = true := by decide +kernel
theorem vl_2429 (l : Launch) : Vld2 l vwCl gTbl con_2429 := conR_ok3 gT_all (hd_2429) rfl pn_RX12 tk_X12_numberAt bo_RX12 xo_RX12 (cto_2 l) ch_2429 cut_nil
/-- RookHustingModel numberAt -/
noncomputable def con_2430 : Con2 := ((yX12_numberAt, cX12_numberAt, 3, (some .long)), (0, 0), ([(6, 0, 0), (0, 2, 0), (0, 41, 0)], gi_1854, [ac_1100, ac_1210], []), [((4, 48, 0), gi_1855, [(false, ac_1100), (false, ac_1210)], [], [1])])
theorem hd_2430 : con_2430.1 = (yX12_numberAt, cX12_numberAt, 3, (some .long)) := rfl
noncomputable def cu_2430 : List CUT2 := []
theorem ch_2430 : staG tb_X12_numberAt 1 bt_RX12 [] ct_2 [] [] cu_2430 11 con_2430 = true := by decide +kernel
theorem vl_2430 (l : Launch) : Vld2 l vwCl gTbl con_2430 := conR_ok3 gT_all (hd_2430) rfl pn_RX12 tk_X12_numberAt bo_RX12 xo_RX12 (cto_2 l) ch_2430 cut_nil
/-- RookHustingModel numberAt -/
noncomputable def con_2431 : Con2 := ((yX12_numberAt, cX12_numberAt, 3, (some .long)), (0, 0), ([(6, 0, 0), (0, 2, 0), (0, 43, 0)], gi_1850, [ac_1100, ac_1212], []), [((4, 48, 0), gi_1851, [(false, ac_1100), (false, ac_1212)], [], [1])])
theorem hd_2431 : con_2431.1 = (yX12_numberAt, cX12_numberAt, 3, (some .long)) := rfl
noncomputable def cu_2431 : List CUT2 := []
theorem ch_2431 : staG tb_X12_numberAt 1 bt_RX12 [] ct_2 [] [] cu_2431 11 con_2431 = true := by decide +kernel
theorem vl_2431 (l : Launch) : Vld2 l vwCl gTbl con_2431 := conR_ok3 gT_all (hd_2431) rfl pn_RX12 tk_X12_numberAt bo_RX12 xo_RX12 (cto_2 l) ch_2431 cut_nil
/-- RookHustingModel numberAt -/
noncomputable def con_2432 : Con2 := ((yX12_numberAt, cX12_numberAt, 3, (some .long)), (0, 0), ([(6, 0, 0), (0, 2, 0), (0, 42, 0)], gi_1852, [ac_1100, ac_1211], []), [((4, 48, 0), gi_1853, [(false, ac_1100), (false, ac_1211)], [], [1])])
theorem hd_2432 : con_2432.1 = (yX12_numberAt, cX12_numberAt, 3, (some .long)) := rfl
noncomputable def cu_2432 : List CUT2 := []
theorem ch_2432 : staG tb_X12_numberAt 1 bt_RX12 [] ct_2 [] [] cu_2432 11 con_2432 = true := by decide +kernel
theorem vl_2432 (l : Launch) : Vld2 l vwCl gTbl con_2432 := conR_ok3 gT_all (hd_2432) rfl pn_RX12 tk_X12_numberAt bo_RX12 xo_RX12 (cto_2 l) ch_2432 cut_nil
/-- RookHustingModel numberAt -/
noncomputable def con_2433 : Con2 := ((yX12_numberAt, cX12_numberAt, 3, (some .long)), (0, 0), ([(6, 0, 0), (0, 2, 0), (0, 44, 0)], gi_1854, [ac_1100, ac_1213], []), [((4, 48, 0), gi_1855, [(false, ac_1100), (false, ac_1213)], [], [1])])
theorem hd_2433 : con_2433.1 = (yX12_numberAt, cX12_numberAt, 3, (some .long)) := rfl
noncomputable def cu_2433 : List CUT2 := []
theorem ch_2433 : staG tb_X12_numberAt 1 bt_RX12 [] ct_2 [] [] cu_2433 11 con_2433 = true := by decide +kernel
theorem vl_2433 (l : Launch) : Vld2 l vwCl gTbl con_2433 := conR_ok3 gT_all (hd_2433) rfl pn_RX12 tk_X12_numberAt bo_RX12 xo_RX12 (cto_2 l) ch_2433 cut_nil
/-- RookHustingModel numberAt -/
noncomputable def con_2434 : Con2 := ((yX12_numberAt, cX12_numberAt, 3, (some .long)), (0, 0), ([(6, 0, 0), (0, 2, 0), (0, 46, 0)], gi_1850, [ac_1100, ac_1215], []), [((4, 48, 0), gi_1851, [(false, ac_1100), (false, ac_1215)], [], [1])])
theorem hd_2434 : con_2434.1 = (yX12_numberAt, cX12_numberAt, 3, (some .long)) := rfl
noncomputable def cu_2434 : List CUT2 := []
theorem ch_2434 : staG tb_X12_numberAt 1 bt_RX12 [] ct_2 [] [] cu_2434 11 con_2434 = true := by decide +kernel
theorem vl_2434 (l : Launch) : Vld2 l vwCl gTbl con_2434 := conR_ok3 gT_all (hd_2434) rfl pn_RX12 tk_X12_numberAt bo_RX12 xo_RX12 (cto_2 l) ch_2434 cut_nil
/-- RookHustingModel numberAt -/
noncomputable def con_2435 : Con2 := ((yX12_numberAt, cX12_numberAt, 3, (some .long)), (0, 0), ([(6, 0, 0), (0, 2, 0), (0, 45, 0)], gi_1852, [ac_1100, ac_1214], []), [((4, 48, 0), gi_1853, [(false, ac_1100), (false, ac_1214)], [], [1])])
theorem hd_2435 : con_2435.1 = (yX12_numberAt, cX12_numberAt, 3, (some .long)) := rfl
noncomputable def cu_2435 : List CUT2 := []
theorem ch_2435 : staG tb_X12_numberAt 1 bt_RX12 [] ct_2 [] [] cu_2435 11 con_2435 = true := by decide +kernel
theorem vl_2435 (l : Launch) : Vld2 l vwCl gTbl con_2435 := conR_ok3 gT_all (hd_2435) rfl pn_RX12 tk_X12_numberAt bo_RX12 xo_RX12 (cto_2 l) ch_2435 cut_nil
/-- RookHustingModel numberAt -/
noncomputable def con_2436 : Con2 := ((yX12_numberAt, cX12_numberAt, 3, (some .long)), (0, 0), ([(6, 0, 0), (0, 2, 0), (0, 47, 0)], gi_1854, [ac_1100, ac_1216], []), [((4, 48, 0), gi_1855, [(false, ac_1100), (false, ac_1216)], [], [1])])
theorem hd_2436 : con_2436.1 = (yX12_numberAt, cX12_numberAt, 3, (some .long)) := rfl
noncomputable def cu_2436 : List CUT2 := []
theorem ch_2436 : staG tb_X12_numberAt 1 bt_RX12 [] ct_2 [] [] cu_2436 11 con_2436 = true := by decide +kernel
theorem vl_2436 (l : Launch) : Vld2 l vwCl gTbl con_2436 := conR_ok3 gT_all (hd_2436) rfl pn_RX12 tk_X12_numberAt bo_RX12 xo_RX12 (cto_2 l) ch_2436 cut_nil
/-- RookHustingModel numberAt -/
noncomputable def con_2437 : Con2 := ((yX12_numberAt, cX12_numberAt, 3, (some .long)), (0, 0), ([(6, 0, 0), (0, 2, 0), (0, 49, 0)], gi_1850, [ac_1100, ac_1218], []), [((4, 48, 0), gi_1851, [(false, ac_1100), (false, ac_1218)], [], [1])])
theorem hd_2437 : con_2437.1 = (yX12_numberAt, cX12_numberAt, 3, (some .long)) := rfl
noncomputable def cu_2437 : List CUT2 := []
theorem ch_2437 : staG tb_X12_numberAt 1 bt_RX12 [] ct_2 [] [] cu_2437 11 con_2437 = true := by decide +kernel
theorem vl_2437 (l : Launch) : Vld2 l vwCl gTbl con_2437 := conR_ok3 gT_all (hd_2437) rfl pn_RX12 tk_X12_numberAt bo_RX12 xo_RX12 (cto_2 l) ch_2437 cut_nil
/-- RookHustingModel numberAt -/
noncomputable def con_2438 : Con2 := ((yX12_numberAt, cX12_numberAt, 3, (some .long)), (0, 0), ([(6, 0, 0), (0, 2, 0), (0, 48, 0)], gi_1852, [ac_1100, ac_1217], []), [((4, 48, 0), gi_1853, [(false, ac_1100), (false, ac_1217)], [], [1])])
theorem hd_2438 : con_2438.1 = (yX12_numberAt, cX12_numberAt, 3, (some .long)) := rfl
noncomputable def cu_2438 : List CUT2 := []
theorem ch_2438 : staG tb_X12_numberAt 1 bt_RX12 [] ct_2 [] [] cu_2438 11 con_2438 = true := by decide +kernel
theorem vl_2438 (l : Launch) : Vld2 l vwCl gTbl con_2438 := conR_ok3 gT_all (hd_2438) rfl pn_RX12 tk_X12_numberAt bo_RX12 xo_RX12 (cto_2 l) ch_2438 cut_nil
/-- RookHustingModel numberAt -/
noncomputable def con_2439 : Con2 := ((yX12_numberAt, cX12_numberAt, 3, (some .long)), (0, 0), ([(6, 0, 0), (0, 2, 0), (0, 50, 0)], gi_1854, [ac_1100, ac_1219], []), [((4, 48, 0), gi_1855, [(false, ac_1100), (false, ac_1219)], [], [1])])
theorem hd_2439 : con_2439.1 = (yX12_numberAt, cX12_numberAt, 3, (some .long)) := rfl
noncomputable def cu_2439 : List CUT2 := []
theorem ch_2439 : staG tb_X12_numberAt 1 bt_RX12 [] ct_2 [] [] cu_2439 11 con_2439 = true := by decide +kernel
theorem vl_2439 (l : Launch) : Vld2 l vwCl gTbl con_2439 := conR_ok3 gT_all (hd_2439) rfl pn_RX12 tk_X12_numberAt bo_RX12 xo_RX12 (cto_2 l) ch_2439 cut_nil
/-- RookHustingModel numberAt -/
noncomputable def con_2440 : Con2 := ((yX12_numberAt, cX12_numberAt, 3, (some .long)), (0, 0), ([(6, 0, 0), (0, 2, 0), (0, 52, 0)], gi_1850, [ac_1100, ac_1221], []), [((4, 48, 0), gi_1851, [(false, ac_1100), (false, ac_1221)], [], [1])])
theorem hd_2440 : con_2440.1 = (yX12_numberAt, cX12_numberAt, 3, (some .long)) := rfl
noncomputable def cu_2440 : List CUT2 := []
theorem ch_2440 : staG tb_X12_numberAt 1 bt_RX12 [] ct_2 [] [] cu_2440 11 con_2440 = true := by decide +kernel
theorem vl_2440 (l : Launch) : Vld2 l vwCl gTbl con_2440 := conR_ok3 gT_all (hd_2440) rfl pn_RX12 tk_X12_numberAt bo_RX12 xo_RX12 (cto_2 l) ch_2440 cut_nil
/-- RookHustingModel numberAt -/
noncomputable def con_2441 : Con2 := ((yX12_numberAt, cX12_numberAt, 3, (some .long)), (0, 0), ([(6, 0, 0), (0, 2, 0), (0, 51, 0)], gi_1852, [ac_1100, ac_1220], []), [((4, 48, 0), gi_1853, [(false, ac_1100), (false, ac_1220)], [], [1])])
theorem hd_2441 : con_2441.1 = (yX12_numberAt, cX12_numberAt, 3, (some .long)) := rfl
noncomputable def cu_2441 : List CUT2 := []
theorem ch_2441 : staG tb_X12_numberAt 1 bt_RX12 [] ct_2 [] [] cu_2441 11 con_2441 = true := by decide +kernel
theorem vl_2441 (l : Launch) : Vld2 l vwCl gTbl con_2441 := conR_ok3 gT_all (hd_2441) rfl pn_RX12 tk_X12_numberAt bo_RX12 xo_RX12 (cto_2 l) ch_2441 cut_nil
/-- RookHustingModel numberAt -/
noncomputable def con_2442 : Con2 := ((yX12_numberAt, cX12_numberAt, 3, (some .long)), (0, 0), ([(6, 0, 0), (0, 2, 0), (0, 53, 0)], gi_1854, [ac_1100, ac_1222], []), [((4, 48, 0), gi_1855, [(false, ac_1100), (false, ac_1222)], [], [1])])
theorem hd_2442 : con_2442.1 = (yX12_numberAt, cX12_numberAt, 3, (some .long)) := rfl
noncomputable def cu_2442 : List CUT2 := []
theorem ch_2442 : staG tb_X12_numberAt 1 bt_RX12 [] ct_2 [] [] cu_2442 11 con_2442 = true := by decide +kernel
theorem vl_2442 (l : Launch) : Vld2 l vwCl gTbl con_2442 := conR_ok3 gT_all (hd_2442) rfl pn_RX12 tk_X12_numberAt bo_RX12 xo_RX12 (cto_2 l) ch_2442 cut_nil
/-- RookHustingModel numberAt -/
noncomputable def con_2443 : Con2 := ((yX12_numberAt, cX12_numberAt, 3, (some .long)), (0, 0), ([(6, 0, 0), (0, 2, 0), (0, 55, 0)], gi_1850, [ac_1100, ac_1224], []), [((4, 48, 0), gi_1851, [(false, ac_1100), (false, ac_1224)], [], [1])])
theorem hd_2443 : con_2443.1 = (yX12_numberAt, cX12_numberAt, 3, (some .long)) := rfl
noncomputable def cu_2443 : List CUT2 := []
theorem ch_2443 : staG tb_X12_numberAt 1 bt_RX12 [] ct_2 [] [] cu_2443 11 con_2443 = true := by decide +kernel
theorem vl_2443 (l : Launch) : Vld2 l vwCl gTbl con_2443 := conR_ok3 gT_all (hd_2443) rfl pn_RX12 tk_X12_numberAt bo_RX12 xo_RX12 (cto_2 l) ch_2443 cut_nil
/-- RookHustingModel numberAt -/
noncomputable def con_2444 : Con2 := ((yX12_numberAt, cX12_numberAt, 3, (some .long)), (0, 0), ([(6, 0, 0), (0, 2, 0), (0, 54, 0)], gi_1852, [ac_1100, ac_1223], []), [((4, 48, 0), gi_1853, [(false, ac_1100), (false, ac_1223)], [], [1])])
theorem hd_2444 : con_2444.1 = (yX12_numberAt, cX12_numberAt, 3, (some .long)) := rfl
noncomputable def cu_2444 : List CUT2 := []
theorem ch_2444 : staG tb_X12_numberAt 1 bt_RX12 [] ct_2 [] [] cu_2444 11 con_2444 = true := by decide +kernel
theorem vl_2444 (l : Launch) : Vld2 l vwCl gTbl con_2444 := conR_ok3 gT_all (hd_2444) rfl pn_RX12 tk_X12_numberAt bo_RX12 xo_RX12 (cto_2 l) ch_2444 cut_nil
/-- RookHustingModel numberAt -/
noncomputable def con_2445 : Con2 := ((yX12_numberAt, cX12_numberAt, 3, (some .long)), (0, 0), ([(6, 0, 0), (0, 2, 0), (0, 56, 0)], gi_1854, [ac_1100, ac_1225], []), [((4, 48, 0), gi_1855, [(false, ac_1100), (false, ac_1225)], [], [1])])
theorem hd_2445 : con_2445.1 = (yX12_numberAt, cX12_numberAt, 3, (some .long)) := rfl
noncomputable def cu_2445 : List CUT2 := []
theorem ch_2445 : staG tb_X12_numberAt 1 bt_RX12 [] ct_2 [] [] cu_2445 11 con_2445 = true := by decide +kernel
theorem vl_2445 (l : Launch) : Vld2 l vwCl gTbl con_2445 := conR_ok3 gT_all (hd_2445) rfl pn_RX12 tk_X12_numberAt bo_RX12 xo_RX12 (cto_2 l) ch_2445 cut_nil
/-- RookHustingModel numberAt -/
noncomputable def con_2446 : Con2 := ((yX12_numberAt, cX12_numberAt, 3, (some .long)), (0, 0), ([(6, 0, 0), (0, 2, 0), (0, 58, 0)], gi_1850, [ac_1100, ac_1227], []), [((4, 48, 0), gi_1851, [(false, ac_1100), (false, ac_1227)], [], [1])])
theorem hd_2446 : con_2446.1 = (yX12_numberAt, cX12_numberAt, 3, (some .long)) := rfl
noncomputable def cu_2446 : List CUT2 := []
theorem ch_2446 : staG tb_X12_numberAt 1 bt_RX12 [] ct_2 [] [] cu_2446 11 con_2446 = true := by decide +kernel
theorem vl_2446 (l : Launch) : Vld2 l vwCl gTbl con_2446 := conR_ok3 gT_all (hd_2446) rfl pn_RX12 tk_X12_numberAt bo_RX12 xo_RX12 (cto_2 l) ch_2446 cut_nil
/-- RookHustingModel numberAt -/
noncomputable def con_2447 : Con2 := ((yX12_numberAt, cX12_numberAt, 3, (some .long)), (0, 0), ([(6, 0, 0), (0, 2, 0), (0, 57, 0)], gi_1852, [ac_1100, ac_1226], []), [((4, 48, 0), gi_1853, [(false, ac_1100), (false, ac_1226)], [], [1])])
theorem hd_2447 : con_2447.1 = (yX12_numberAt, cX12_numberAt, 3, (some .long)) := rfl
noncomputable def cu_2447 : List CUT2 := []
theorem ch_2447 : staG tb_X12_numberAt 1 bt_RX12 [] ct_2 [] [] cu_2447 11 con_2447 = true := by decide +kernel
theorem vl_2447 (l : Launch) : Vld2 l vwCl gTbl con_2447 := conR_ok3 gT_all (hd_2447) rfl pn_RX12 tk_X12_numberAt bo_RX12 xo_RX12 (cto_2 l) ch_2447 cut_nil
/-- RookHustingModel numberAt -/
noncomputable def con_2448 : Con2 := ((yX12_numberAt, cX12_numberAt, 3, (some .long)), (0, 0), ([(6, 0, 0), (0, 2, 0), (0, 59, 0)], gi_1854, [ac_1100, ac_1228], []), [((4, 48, 0), gi_1855, [(false, ac_1100), (false, ac_1228)], [], [1])])
theorem hd_2448 : con_2448.1 = (yX12_numberAt, cX12_numberAt, 3, (some .long)) := rfl
noncomputable def cu_2448 : List CUT2 := []
theorem ch_2448 : staG tb_X12_numberAt 1 bt_RX12 [] ct_2 [] [] cu_2448 11 con_2448 = true := by decide +kernel
theorem vl_2448 (l : Launch) : Vld2 l vwCl gTbl con_2448 := conR_ok3 gT_all (hd_2448) rfl pn_RX12 tk_X12_numberAt bo_RX12 xo_RX12 (cto_2 l) ch_2448 cut_nil
/-- RookHustingModel isSeen -/
noncomputable def gi_2055 : GI := jl_n [gp_759, gp_525]
noncomputable def gi_2056 : GI := jl_n [gp_759, gp_525, jl_z 1]
noncomputable def con_2449 : Con2 := ((yX12_isSeen, cX12_isSeen, 3, (some .boolean)), (1, 22), ([(6, 0, 0), (0, 2, 0)], gi_2055, hc_218, []), [((0, 0, 0), gi_2056, hq_922, [], [1]), ((0, 1, 0), gi_2056, hq_922, [], [1])])
theorem hd_2449 : con_2449.1 = (yX12_isSeen, cX12_isSeen, 3, (some .boolean)) := rfl
theorem ck_RX12_417_2400 : COK2 RX12 vwCl gTbl 417 0 con_2400 := ⟨wd_2061, wd_137, mh_X12_numberAt, .inr (.inr ⟨rfl, wd_2058, wd_2060, wd_114, ⟨_, rfl, pd_X12_numberAt⟩, 12, _, TX12, 45, rfl, rfl⟩)⟩
theorem ck_RX12_417_2403 : COK2 RX12 vwCl gTbl 417 0 con_2403 := ⟨wd_2061, wd_137, mh_X12_numberAt, .inr (.inr ⟨rfl, wd_2058, wd_2060, wd_114, ⟨_, rfl, pd_X12_numberAt⟩, 12, _, TX12, 45, rfl, rfl⟩)⟩
theorem ck_RX12_417_2406 : COK2 RX12 vwCl gTbl 417 0 con_2406 := ⟨wd_2061, wd_137, mh_X12_numberAt, .inr (.inr ⟨rfl, wd_2058, wd_2060, wd_114, ⟨_, rfl, pd_X12_numberAt⟩, 12, _, TX12, 45, rfl, rfl⟩)⟩
theorem ck_RX12_417_2409 : COK2 RX12 vwCl gTbl 417 0 con_2409 := ⟨wd_2061, wd_137, mh_X12_numberAt, .inr (.inr ⟨rfl, wd_2058, wd_2060, wd_114, ⟨_, rfl, pd_X12_numberAt⟩, 12, _, TX12, 45, rfl, rfl⟩)⟩
theorem ck_RX12_417_2412 : COK2 RX12 vwCl gTbl 417 0 con_2412 := ⟨wd_2061, wd_137, mh_X12_numberAt, .inr (.inr ⟨rfl, wd_2058, wd_2060, wd_114, ⟨_, rfl, pd_X12_numberAt⟩, 12, _, TX12, 45, rfl, rfl⟩)⟩
theorem ck_RX12_417_2415 : COK2 RX12 vwCl gTbl 417 0 con_2415 := ⟨wd_2061, wd_137, mh_X12_numberAt, .inr (.inr ⟨rfl, wd_2058, wd_2060, wd_114, ⟨_, rfl, pd_X12_numberAt⟩, 12, _, TX12, 45, rfl, rfl⟩)⟩
theorem ck_RX12_417_2418 : COK2 RX12 vwCl gTbl 417 0 con_2418 := ⟨wd_2061, wd_137, mh_X12_numberAt, .inr (.inr ⟨rfl, wd_2058, wd_2060, wd_114, ⟨_, rfl, pd_X12_numberAt⟩, 12, _, TX12, 45, rfl, rfl⟩)⟩
theorem ck_RX12_417_2421 : COK2 RX12 vwCl gTbl 417 0 con_2421 := ⟨wd_2061, wd_137, mh_X12_numberAt, .inr (.inr ⟨rfl, wd_2058, wd_2060, wd_114, ⟨_, rfl, pd_X12_numberAt⟩, 12, _, TX12, 45, rfl, rfl⟩)⟩
theorem ck_RX12_417_2424 : COK2 RX12 vwCl gTbl 417 0 con_2424 := ⟨wd_2061, wd_137, mh_X12_numberAt, .inr (.inr ⟨rfl, wd_2058, wd_2060, wd_114, ⟨_, rfl, pd_X12_numberAt⟩, 12, _, TX12, 45, rfl, rfl⟩)⟩
theorem ck_RX12_417_2427 : COK2 RX12 vwCl gTbl 417 0 con_2427 := ⟨wd_2061, wd_137, mh_X12_numberAt, .inr (.inr ⟨rfl, wd_2058, wd_2060, wd_114, ⟨_, rfl, pd_X12_numberAt⟩, 12, _, TX12, 45, rfl, rfl⟩)⟩
theorem ck_RX12_417_2430 : COK2 RX12 vwCl gTbl 417 0 con_2430 := ⟨wd_2061, wd_137, mh_X12_numberAt, .inr (.inr ⟨rfl, wd_2058, wd_2060, wd_114, ⟨_, rfl, pd_X12_numberAt⟩, 12, _, TX12, 45, rfl, rfl⟩)⟩
theorem ck_RX12_417_2433 : COK2 RX12 vwCl gTbl 417 0 con_2433 := ⟨wd_2061, wd_137, mh_X12_numberAt, .inr (.inr ⟨rfl, wd_2058, wd_2060, wd_114, ⟨_, rfl, pd_X12_numberAt⟩, 12, _, TX12, 45, rfl, rfl⟩)⟩
theorem ck_RX12_417_2436 : COK2 RX12 vwCl gTbl 417 0 con_2436 := ⟨wd_2061, wd_137, mh_X12_numberAt, .inr (.inr ⟨rfl, wd_2058, wd_2060, wd_114, ⟨_, rfl, pd_X12_numberAt⟩, 12, _, TX12, 45, rfl, rfl⟩)⟩
theorem ck_RX12_417_2439 : COK2 RX12 vwCl gTbl 417 0 con_2439 := ⟨wd_2061, wd_137, mh_X12_numberAt, .inr (.inr ⟨rfl, wd_2058, wd_2060, wd_114, ⟨_, rfl, pd_X12_numberAt⟩, 12, _, TX12, 45, rfl, rfl⟩)⟩
theorem ck_RX12_417_2442 : COK2 RX12 vwCl gTbl 417 0 con_2442 := ⟨wd_2061, wd_137, mh_X12_numberAt, .inr (.inr ⟨rfl, wd_2058, wd_2060, wd_114, ⟨_, rfl, pd_X12_numberAt⟩, 12, _, TX12, 45, rfl, rfl⟩)⟩
theorem ck_RX12_417_2445 : COK2 RX12 vwCl gTbl 417 0 con_2445 := ⟨wd_2061, wd_137, mh_X12_numberAt, .inr (.inr ⟨rfl, wd_2058, wd_2060, wd_114, ⟨_, rfl, pd_X12_numberAt⟩, 12, _, TX12, 45, rfl, rfl⟩)⟩
theorem ck_RX12_417_2448 : COK2 RX12 vwCl gTbl 417 0 con_2448 := ⟨wd_2061, wd_137, mh_X12_numberAt, .inr (.inr ⟨rfl, wd_2058, wd_2060, wd_114, ⟨_, rfl, pd_X12_numberAt⟩, 12, _, TX12, 45, rfl, rfl⟩)⟩
theorem ck_RX12_417_2399 : COK2 RX12 vwCl gTbl 417 0 con_2399 := ⟨wd_2061, wd_137, mh_X12_numberAt, .inr (.inr ⟨rfl, wd_2058, wd_2060, wd_114, ⟨_, rfl, pd_X12_numberAt⟩, 12, _, TX12, 45, rfl, rfl⟩)⟩
theorem ck_RX12_417_2402 : COK2 RX12 vwCl gTbl 417 0 con_2402 := ⟨wd_2061, wd_137, mh_X12_numberAt, .inr (.inr ⟨rfl, wd_2058, wd_2060, wd_114, ⟨_, rfl, pd_X12_numberAt⟩, 12, _, TX12, 45, rfl, rfl⟩)⟩
theorem ck_RX12_417_2405 : COK2 RX12 vwCl gTbl 417 0 con_2405 := ⟨wd_2061, wd_137, mh_X12_numberAt, .inr (.inr ⟨rfl, wd_2058, wd_2060, wd_114, ⟨_, rfl, pd_X12_numberAt⟩, 12, _, TX12, 45, rfl, rfl⟩)⟩
theorem ck_RX12_417_2408 : COK2 RX12 vwCl gTbl 417 0 con_2408 := ⟨wd_2061, wd_137, mh_X12_numberAt, .inr (.inr ⟨rfl, wd_2058, wd_2060, wd_114, ⟨_, rfl, pd_X12_numberAt⟩, 12, _, TX12, 45, rfl, rfl⟩)⟩
theorem ck_RX12_417_2411 : COK2 RX12 vwCl gTbl 417 0 con_2411 := ⟨wd_2061, wd_137, mh_X12_numberAt, .inr (.inr ⟨rfl, wd_2058, wd_2060, wd_114, ⟨_, rfl, pd_X12_numberAt⟩, 12, _, TX12, 45, rfl, rfl⟩)⟩
theorem ck_RX12_417_2414 : COK2 RX12 vwCl gTbl 417 0 con_2414 := ⟨wd_2061, wd_137, mh_X12_numberAt, .inr (.inr ⟨rfl, wd_2058, wd_2060, wd_114, ⟨_, rfl, pd_X12_numberAt⟩, 12, _, TX12, 45, rfl, rfl⟩)⟩
theorem ck_RX12_417_2417 : COK2 RX12 vwCl gTbl 417 0 con_2417 := ⟨wd_2061, wd_137, mh_X12_numberAt, .inr (.inr ⟨rfl, wd_2058, wd_2060, wd_114, ⟨_, rfl, pd_X12_numberAt⟩, 12, _, TX12, 45, rfl, rfl⟩)⟩
theorem ck_RX12_417_2420 : COK2 RX12 vwCl gTbl 417 0 con_2420 := ⟨wd_2061, wd_137, mh_X12_numberAt, .inr (.inr ⟨rfl, wd_2058, wd_2060, wd_114, ⟨_, rfl, pd_X12_numberAt⟩, 12, _, TX12, 45, rfl, rfl⟩)⟩
theorem ck_RX12_417_2423 : COK2 RX12 vwCl gTbl 417 0 con_2423 := ⟨wd_2061, wd_137, mh_X12_numberAt, .inr (.inr ⟨rfl, wd_2058, wd_2060, wd_114, ⟨_, rfl, pd_X12_numberAt⟩, 12, _, TX12, 45, rfl, rfl⟩)⟩
theorem ck_RX12_417_2426 : COK2 RX12 vwCl gTbl 417 0 con_2426 := ⟨wd_2061, wd_137, mh_X12_numberAt, .inr (.inr ⟨rfl, wd_2058, wd_2060, wd_114, ⟨_, rfl, pd_X12_numberAt⟩, 12, _, TX12, 45, rfl, rfl⟩)⟩
theorem ck_RX12_417_2429 : COK2 RX12 vwCl gTbl 417 0 con_2429 := ⟨wd_2061, wd_137, mh_X12_numberAt, .inr (.inr ⟨rfl, wd_2058, wd_2060, wd_114, ⟨_, rfl, pd_X12_numberAt⟩, 12, _, TX12, 45, rfl, rfl⟩)⟩
theorem ck_RX12_417_2432 : COK2 RX12 vwCl gTbl 417 0 con_2432 := ⟨wd_2061, wd_137, mh_X12_numberAt, .inr (.inr ⟨rfl, wd_2058, wd_2060, wd_114, ⟨_, rfl, pd_X12_numberAt⟩, 12, _, TX12, 45, rfl, rfl⟩)⟩
theorem ck_RX12_417_2435 : COK2 RX12 vwCl gTbl 417 0 con_2435 := ⟨wd_2061, wd_137, mh_X12_numberAt, .inr (.inr ⟨rfl, wd_2058, wd_2060, wd_114, ⟨_, rfl, pd_X12_numberAt⟩, 12, _, TX12, 45, rfl, rfl⟩)⟩
theorem ck_RX12_417_2438 : COK2 RX12 vwCl gTbl 417 0 con_2438 := ⟨wd_2061, wd_137, mh_X12_numberAt, .inr (.inr ⟨rfl, wd_2058, wd_2060, wd_114, ⟨_, rfl, pd_X12_numberAt⟩, 12, _, TX12, 45, rfl, rfl⟩)⟩
theorem ck_RX12_417_2441 : COK2 RX12 vwCl gTbl 417 0 con_2441 := ⟨wd_2061, wd_137, mh_X12_numberAt, .inr (.inr ⟨rfl, wd_2058, wd_2060, wd_114, ⟨_, rfl, pd_X12_numberAt⟩, 12, _, TX12, 45, rfl, rfl⟩)⟩
theorem ck_RX12_417_2444 : COK2 RX12 vwCl gTbl 417 0 con_2444 := ⟨wd_2061, wd_137, mh_X12_numberAt, .inr (.inr ⟨rfl, wd_2058, wd_2060, wd_114, ⟨_, rfl, pd_X12_numberAt⟩, 12, _, TX12, 45, rfl, rfl⟩)⟩
theorem ck_RX12_417_2447 : COK2 RX12 vwCl gTbl 417 0 con_2447 := ⟨wd_2061, wd_137, mh_X12_numberAt, .inr (.inr ⟨rfl, wd_2058, wd_2060, wd_114, ⟨_, rfl, pd_X12_numberAt⟩, 12, _, TX12, 45, rfl, rfl⟩)⟩
theorem ck_RX12_417_2398 : COK2 RX12 vwCl gTbl 417 0 con_2398 := ⟨wd_2061, wd_137, mh_X12_numberAt, .inr (.inr ⟨rfl, wd_2058, wd_2060, wd_114, ⟨_, rfl, pd_X12_numberAt⟩, 12, _, TX12, 45, rfl, rfl⟩)⟩
theorem ck_RX12_417_2401 : COK2 RX12 vwCl gTbl 417 0 con_2401 := ⟨wd_2061, wd_137, mh_X12_numberAt, .inr (.inr ⟨rfl, wd_2058, wd_2060, wd_114, ⟨_, rfl, pd_X12_numberAt⟩, 12, _, TX12, 45, rfl, rfl⟩)⟩
theorem ck_RX12_417_2404 : COK2 RX12 vwCl gTbl 417 0 con_2404 := ⟨wd_2061, wd_137, mh_X12_numberAt, .inr (.inr ⟨rfl, wd_2058, wd_2060, wd_114, ⟨_, rfl, pd_X12_numberAt⟩, 12, _, TX12, 45, rfl, rfl⟩)⟩
theorem ck_RX12_417_2407 : COK2 RX12 vwCl gTbl 417 0 con_2407 := ⟨wd_2061, wd_137, mh_X12_numberAt, .inr (.inr ⟨rfl, wd_2058, wd_2060, wd_114, ⟨_, rfl, pd_X12_numberAt⟩, 12, _, TX12, 45, rfl, rfl⟩)⟩
theorem ck_RX12_417_2410 : COK2 RX12 vwCl gTbl 417 0 con_2410 := ⟨wd_2061, wd_137, mh_X12_numberAt, .inr (.inr ⟨rfl, wd_2058, wd_2060, wd_114, ⟨_, rfl, pd_X12_numberAt⟩, 12, _, TX12, 45, rfl, rfl⟩)⟩
theorem ck_RX12_417_2413 : COK2 RX12 vwCl gTbl 417 0 con_2413 := ⟨wd_2061, wd_137, mh_X12_numberAt, .inr (.inr ⟨rfl, wd_2058, wd_2060, wd_114, ⟨_, rfl, pd_X12_numberAt⟩, 12, _, TX12, 45, rfl, rfl⟩)⟩
theorem ck_RX12_417_2416 : COK2 RX12 vwCl gTbl 417 0 con_2416 := ⟨wd_2061, wd_137, mh_X12_numberAt, .inr (.inr ⟨rfl, wd_2058, wd_2060, wd_114, ⟨_, rfl, pd_X12_numberAt⟩, 12, _, TX12, 45, rfl, rfl⟩)⟩
theorem ck_RX12_417_2419 : COK2 RX12 vwCl gTbl 417 0 con_2419 := ⟨wd_2061, wd_137, mh_X12_numberAt, .inr (.inr ⟨rfl, wd_2058, wd_2060, wd_114, ⟨_, rfl, pd_X12_numberAt⟩, 12, _, TX12, 45, rfl, rfl⟩)⟩
theorem ck_RX12_417_2422 : COK2 RX12 vwCl gTbl 417 0 con_2422 := ⟨wd_2061, wd_137, mh_X12_numberAt, .inr (.inr ⟨rfl, wd_2058, wd_2060, wd_114, ⟨_, rfl, pd_X12_numberAt⟩, 12, _, TX12, 45, rfl, rfl⟩)⟩
theorem ck_RX12_417_2425 : COK2 RX12 vwCl gTbl 417 0 con_2425 := ⟨wd_2061, wd_137, mh_X12_numberAt, .inr (.inr ⟨rfl, wd_2058, wd_2060, wd_114, ⟨_, rfl, pd_X12_numberAt⟩, 12, _, TX12, 45, rfl, rfl⟩)⟩
theorem ck_RX12_417_2428 : COK2 RX12 vwCl gTbl 417 0 con_2428 := ⟨wd_2061, wd_137, mh_X12_numberAt, .inr (.inr ⟨rfl, wd_2058, wd_2060, wd_114, ⟨_, rfl, pd_X12_numberAt⟩, 12, _, TX12, 45, rfl, rfl⟩)⟩
theorem ck_RX12_417_2431 : COK2 RX12 vwCl gTbl 417 0 con_2431 := ⟨wd_2061, wd_137, mh_X12_numberAt, .inr (.inr ⟨rfl, wd_2058, wd_2060, wd_114, ⟨_, rfl, pd_X12_numberAt⟩, 12, _, TX12, 45, rfl, rfl⟩)⟩
theorem ck_RX12_417_2434 : COK2 RX12 vwCl gTbl 417 0 con_2434 := ⟨wd_2061, wd_137, mh_X12_numberAt, .inr (.inr ⟨rfl, wd_2058, wd_2060, wd_114, ⟨_, rfl, pd_X12_numberAt⟩, 12, _, TX12, 45, rfl, rfl⟩)⟩
theorem ck_RX12_417_2437 : COK2 RX12 vwCl gTbl 417 0 con_2437 := ⟨wd_2061, wd_137, mh_X12_numberAt, .inr (.inr ⟨rfl, wd_2058, wd_2060, wd_114, ⟨_, rfl, pd_X12_numberAt⟩, 12, _, TX12, 45, rfl, rfl⟩)⟩
theorem ck_RX12_417_2440 : COK2 RX12 vwCl gTbl 417 0 con_2440 := ⟨wd_2061, wd_137, mh_X12_numberAt, .inr (.inr ⟨rfl, wd_2058, wd_2060, wd_114, ⟨_, rfl, pd_X12_numberAt⟩, 12, _, TX12, 45, rfl, rfl⟩)⟩
theorem ck_RX12_417_2443 : COK2 RX12 vwCl gTbl 417 0 con_2443 := ⟨wd_2061, wd_137, mh_X12_numberAt, .inr (.inr ⟨rfl, wd_2058, wd_2060, wd_114, ⟨_, rfl, pd_X12_numberAt⟩, 12, _, TX12, 45, rfl, rfl⟩)⟩
theorem ck_RX12_417_2446 : COK2 RX12 vwCl gTbl 417 0 con_2446 := ⟨wd_2061, wd_137, mh_X12_numberAt, .inr (.inr ⟨rfl, wd_2058, wd_2060, wd_114, ⟨_, rfl, pd_X12_numberAt⟩, 12, _, TX12, 45, rfl, rfl⟩)⟩
noncomputable def ct_2449 : CTB2 := [(22, 417, 0, con_2446, [0, 2]), (22, 417, 0, con_2443, [0, 2]), (22, 417, 0, con_2440, [0, 2]), (22, 417, 0, con_2437, [0, 2]), (22, 417, 0, con_2434, [0, 2]), (22, 417, 0, con_2431, [0, 2]), (22, 417, 0, con_2428, [0, 2]), (22, 417, 0, con_2425, [0, 2]), (22, 417, 0, con_2422, [0, 2]), (22, 417, 0, con_2419, [0, 2]), (22, 417, 0, con_2416, [0, 2]), (22, 417, 0, con_2413, [0, 2]), (22, 417, 0, con_2410, [0, 2]), (22, 417, 0, con_2407, [0, 2]), (22, 417, 0, con_2404, [0, 2]), (22, 417, 0, con_2401, [0, 2]), (22, 417, 0, con_2398, [0, 2]), (22, 417, 0, con_2394, [0, 2]), (22, 417, 0, con_2391, [0, 2]), (22, 417, 0, con_2388, [0, 2]), (30, 417, 0, con_2447, [0, 2]), (30, 417, 0, con_2444, [0, 2]), (30, 417, 0, con_2441, [0, 2]), (30, 417, 0, con_2438, [0, 2]), (30, 417, 0, con_2435, [0, 2]), (30, 417, 0, con_2432, [0, 2]), (30, 417, 0, con_2429, [0, 2]), (30, 417, 0, con_2426, [0, 2]), (30, 417, 0, con_2423, [0, 2]), (30, 417, 0, con_2420, [0, 2]), (30, 417, 0, con_2417, [0, 2]), (30, 417, 0, con_2414, [0, 2]), (30, 417, 0, con_2411, [0, 2]), (30, 417, 0, con_2408, [0, 2]), (30, 417, 0, con_2405, [0, 2]), (30, 417, 0, con_2402, [0, 2]), (30, 417, 0, con_2399, [0, 2]), (30, 417, 0, con_2395, [0, 2]), (30, 417, 0, con_2392, [0, 2]), (30, 417, 0, con_2389, [0, 2]), (42, 417, 0, con_2448, [0, 2]), (42, 417, 0, con_2445, [0, 2]), (42, 417, 0, con_2442, [0, 2]), (42, 417, 0, con_2439, [0, 2]), (42, 417, 0, con_2436, [0, 2]), (42, 417, 0, con_2433, [0, 2]), (42, 417, 0, con_2430, [0, 2]), (42, 417, 0, con_2427, [0, 2]), (42, 417, 0, con_2424, [0, 2]), (42, 417, 0, con_2421, [0, 2]), (42, 417, 0, con_2418, [0, 2]), (42, 417, 0, con_2415, [0, 2]), (42, 417, 0, con_2412, [0, 2]), (42, 417, 0, con_2409, [0, 2]), (42, 417, 0, con_2406, [0, 2]), (42, 417, 0, con_2403, [0, 2]), (42, 417, 0, con_2400, [0, 2]), (42, 417, 0, con_2396, [0, 2]), (42, 417, 0, con_2393, [0, 2]), (42, 417, 0, con_2390, [0, 2])]
noncomputable def gi_2057 : GI := jl_n [gp_759, gp_525, jl_z 3]
noncomputable def cu_2449_0 : List CUT2 := [((2, [lq 0 6 0, lq 1 0 2, lq 2 0 0], [], gi_2057, hq_922), [], ([], 60)), ((2, [lq 0 6 0, lq 1 0 2, lq 2 0 3], [], gi_2057, hq_922), [], ([], 57)), ((2, [lq 0 6 0, lq 1 0 2, lq 2 0 6], [], gi_2057, hq_922), [], ([], 54)), ((2, [lq 0 6 0, lq 1 0 2, lq 2 0 9], [], gi_2057, hq_922), [], ([], 51)), ((2, [lq 0 6 0, lq 1 0 2, lq 2 0 12], [], gi_2057, hq_922), [], ([], 48)), ((2, [lq 0 6 0, lq 1 0 2, lq 2 0 15], [], gi_2057, hq_922), [], ([], 45)), ((2, [lq 0 6 0, lq 1 0 2, lq 2 0 18], [], gi_2057, hq_922), [], ([], 42)), ((2, [lq 0 6 0, lq 1 0 2, lq 2 0 21], [], gi_2057, hq_922), [], ([], 39)), ((2, [lq 0 6 0, lq 1 0 2, lq 2 0 24], [], gi_2057, hq_922), [], ([], 36)), ((2, [lq 0 6 0, lq 1 0 2, lq 2 0 27], [], gi_2057, hq_922), [], ([], 33)), ((2, [lq 0 6 0, lq 1 0 2, lq 2 0 30], [], gi_2057, hq_922), [], ([], 30)), ((2, [lq 0 6 0, lq 1 0 2, lq 2 0 33], [], gi_2057, hq_922), [], ([], 27)), ((2, [lq 0 6 0, lq 1 0 2, lq 2 0 36], [], gi_2057, hq_922), [], ([], 24)), ((2, [lq 0 6 0, lq 1 0 2, lq 2 0 39], [], gi_2057, hq_922), [], ([], 21)), ((2, [lq 0 6 0, lq 1 0 2, lq 2 0 42], [], gi_2057, hq_922), [], ([], 18)), ((2, [lq 0 6 0, lq 1 0 2, lq 2 0 45], [], gi_2057, hq_922), [], ([], 15)), ((2, [lq 0 6 0, lq 1 0 2, lq 2 0 48], [], gi_2057, hq_922), [], ([], 12)), ((2, [lq 0 6 0, lq 1 0 2, lq 2 0 51], [], gi_2057, hq_922), [], ([], 9))]
noncomputable def cu_2449_1 : List CUT2 := [((2, [lq 0 6 0, lq 1 0 2, lq 2 0 54], [], gi_2057, hq_922), [], ([], 6)), ((2, [lq 0 6 0, lq 1 0 2, lq 2 0 57], [], gi_2057, hq_922), [], ([], 3)), ((2, [lq 0 6 0, lq 1 0 2, lq 2 0 60], [], gi_2057, hq_922), [], ([], 0))]
noncomputable def cu_2449 : List CUT2 := cu_2449_0 ++ (cu_2449_1)
theorem ch_2449 : staG tb_X12_isSeen 1 bt_RX12 [] ct_2449 [] [] cu_2449 37 con_2449 = true := by decide +kernel
theorem cc_2449_0 : cu_2449_0.all (cutG tb_X12_isSeen 1 bt_RX12 [] ct_2449 [] [] cu_2449 37 con_2449) = true := by decide +kernel
theorem cc_2449_1 : cu_2449_1.all (cutG tb_X12_isSeen 1 bt_RX12 [] ct_2449 [] [] cu_2449 37 con_2449) = true := by decide +kernel
theorem cto_2449 (l : Launch) : CTOK2 l RX12 vwCl gTbl ct_2449 := ct2_cons (vl_2446 l) ck_RX12_417_2446 (ct2_cons (vl_2443 l) ck_RX12_417_2443 (ct2_cons (vl_2440 l) ck_RX12_417_2440 (ct2_cons (vl_2437 l) ck_RX12_417_2437 (ct2_cons (vl_2434 l) ck_RX12_417_2434 (ct2_cons (vl_2431 l) ck_RX12_417_2431 (ct2_cons (vl_2428 l) ck_RX12_417_2428 (ct2_cons (vl_2425 l) ck_RX12_417_2425 (ct2_cons (vl_2422 l) ck_RX12_417_2422 (ct2_cons (vl_2419 l) ck_RX12_417_2419 (ct2_cons (vl_2416 l) ck_RX12_417_2416 (ct2_cons (vl_2413 l) ck_RX12_417_2413 (ct2_cons (vl_2410 l) ck_RX12_417_2410 (ct2_cons (vl_2407 l) ck_RX12_417_2407 (ct2_cons (vl_2404 l) ck_RX12_417_2404 (ct2_cons (vl_2401 l) ck_RX12_417_2401 (ct2_cons (vl_2398 l) ck_RX12_417_2398 (ct2_cons (vl_2394 l) ck_RX12_417_2394 (ct2_cons (vl_2391 l) ck_RX12_417_2391 (ct2_cons (vl_2388 l) ck_RX12_417_2388 (ct2_cons (vl_2447 l) ck_RX12_417_2447 (ct2_cons (vl_2444 l) ck_RX12_417_2444 (ct2_cons (vl_2441 l) ck_RX12_417_2441 (ct2_cons (vl_2438 l) ck_RX12_417_2438 (ct2_cons (vl_2435 l) ck_RX12_417_2435 (ct2_cons (vl_2432 l) ck_RX12_417_2432 (ct2_cons (vl_2429 l) ck_RX12_417_2429 (ct2_cons (vl_2426 l) ck_RX12_417_2426 (ct2_cons (vl_2423 l) ck_RX12_417_2423 (ct2_cons (vl_2420 l) ck_RX12_417_2420 (ct2_cons (vl_2417 l) ck_RX12_417_2417 (ct2_cons (vl_2414 l) ck_RX12_417_2414 (ct2_cons (vl_2411 l) ck_RX12_417_2411 (ct2_cons (vl_2408 l) ck_RX12_417_2408 (ct2_cons (vl_2405 l) ck_RX12_417_2405 (ct2_cons (vl_2402 l) ck_RX12_417_2402 (ct2_cons (vl_2399 l) ck_RX12_417_2399 (ct2_cons (vl_2395 l) ck_RX12_417_2395 (ct2_cons (vl_2392 l) ck_RX12_417_2392 (ct2_cons (vl_2389 l) ck_RX12_417_2389 (ct2_cons (vl_2448 l) ck_RX12_417_2448 (ct2_cons (vl_2445 l) ck_RX12_417_2445 (ct2_cons (vl_2442 l) ck_RX12_417_2442 (ct2_cons (vl_2439 l) ck_RX12_417_2439 (ct2_cons (vl_2436 l) ck_RX12_417_2436 (ct2_cons (vl_2433 l) ck_RX12_417_2433 (ct2_cons (vl_2430 l) ck_RX12_417_2430 (ct2_cons (vl_2427 l) ck_RX12_417_2427 (ct2_cons (vl_2424 l) ck_RX12_417_2424 (ct2_cons (vl_2421 l) ck_RX12_417_2421 (ct2_cons (vl_2418 l) ck_RX12_417_2418 (ct2_cons (vl_2415 l) ck_RX12_417_2415 (ct2_cons (vl_2412 l) ck_RX12_417_2412 (ct2_cons (vl_2409 l) ck_RX12_417_2409 (ct2_cons (vl_2406 l) ck_RX12_417_2406 (ct2_cons (vl_2403 l) ck_RX12_417_2403 (ct2_cons (vl_2400 l) ck_RX12_417_2400 (ct2_cons (vl_2396 l) ck_RX12_417_2396 (ct2_cons (vl_2393 l) ck_RX12_417_2393 (ct2_cons (vl_2390 l) ck_RX12_417_2390 (ct2_nil))))))))))))))))))))))))))))))))))))))))))))))))))))))))))))
theorem vl_2449 (l : Launch) : Vld2 l vwCl gTbl con_2449 := conR_ok3 gT_all (hd_2449) rfl pn_RX12 tk_X12_isSeen bo_RX12 xo_RX12 (cto_2449 l) ch_2449 (cut_app (cut_all cc_2449_0) (cut_all cc_2449_1))
/-- RookHustingModel isSeen -/
noncomputable def gi_2058 : GI := jl_n [gp_759, gp_524]
noncomputable def gi_2059 : GI := jl_n [gp_759, gp_524, jl_z 1]
noncomputable def con_2450 : Con2 := ((yX12_isSeen, cX12_isSeen, 3, (some .boolean)), (1, 22), ([(6, 0, 0), (0, 2, 0)], gi_2058, hc_218, []), [((0, 0, 0), gi_2059, hq_922, [], [1]), ((0, 1, 0), gi_2059, hq_922, [], [1])])
theorem hd_2450 : con_2450.1 = (yX12_isSeen, cX12_isSeen, 3, (some .boolean)) := rfl
noncomputable def ct_2450 : CTB2 := [(22, 417, 0, con_2391, [0, 2]), (22, 417, 0, con_2388, [0, 2]), (30, 417, 0, con_2392, [0, 2]), (30, 417, 0, con_2389, [0, 2]), (42, 417, 0, con_2393, [0, 2]), (42, 417, 0, con_2390, [0, 2])]
noncomputable def gi_2060 : GI := jl_n [gp_759, gp_524, jl_z 3]
noncomputable def cu_2450 : List CUT2 := [((2, [lq 0 6 0, lq 1 0 2, lq 2 0 0], [], gi_2060, hq_922), [], ([], 6)), ((2, [lq 0 6 0, lq 1 0 2, lq 2 0 3], [], gi_2060, hq_922), [], ([], 3)), ((2, [lq 0 6 0, lq 1 0 2, lq 2 0 6], [], gi_2060, hq_922), [], ([], 0))]
theorem ch_2450 : staG tb_X12_isSeen 1 bt_RX12 [] ct_2450 [] [] cu_2450 37 con_2450 = true := by decide +kernel
theorem cc_2450 : cu_2450.all (cutG tb_X12_isSeen 1 bt_RX12 [] ct_2450 [] [] cu_2450 37 con_2450) = true := by decide +kernel
theorem cto_2450 (l : Launch) : CTOK2 l RX12 vwCl gTbl ct_2450 := ct2_cons (vl_2391 l) ck_RX12_417_2391 (ct2_cons (vl_2388 l) ck_RX12_417_2388 (ct2_cons (vl_2392 l) ck_RX12_417_2392 (ct2_cons (vl_2389 l) ck_RX12_417_2389 (ct2_cons (vl_2393 l) ck_RX12_417_2393 (ct2_cons (vl_2390 l) ck_RX12_417_2390 (ct2_nil))))))
theorem vl_2450 (l : Launch) : Vld2 l vwCl gTbl con_2450 := conR_ok3 gT_all (hd_2450) rfl pn_RX12 tk_X12_isSeen bo_RX12 xo_RX12 (cto_2450 l) ch_2450 (cut_all cc_2450)
/-- RookHustingModel isSeen -/
noncomputable def gi_2061 : GI := jl_n [gp_759, gp_522]
noncomputable def gi_2062 : GI := jl_n [gp_759, gp_522, jl_z 1]
noncomputable def con_2451 : Con2 := ((yX12_isSeen, cX12_isSeen, 3, (some .boolean)), (1, 22), ([(6, 0, 0), (0, 2, 0)], gi_2061, hc_218, []), [((0, 0, 0), gi_2062, hq_922, [], [1]), ((0, 1, 0), gi_2062, hq_922, [], [1])])
theorem hd_2451 : con_2451.1 = (yX12_isSeen, cX12_isSeen, 3, (some .boolean)) := rfl
noncomputable def ct_2451 : CTB2 := [(22, 417, 0, con_2443, [0, 2]), (22, 417, 0, con_2440, [0, 2]), (22, 417, 0, con_2437, [0, 2]), (22, 417, 0, con_2434, [0, 2]), (22, 417, 0, con_2431, [0, 2]), (22, 417, 0, con_2428, [0, 2]), (22, 417, 0, con_2425, [0, 2]), (22, 417, 0, con_2422, [0, 2]), (22, 417, 0, con_2419, [0, 2]), (22, 417, 0, con_2416, [0, 2]), (22, 417, 0, con_2413, [0, 2]), (22, 417, 0, con_2410, [0, 2]), (22, 417, 0, con_2407, [0, 2]), (22, 417, 0, con_2404, [0, 2]), (22, 417, 0, con_2401, [0, 2]), (22, 417, 0, con_2398, [0, 2]), (22, 417, 0, con_2394, [0, 2]), (22, 417, 0, con_2391, [0, 2]), (22, 417, 0, con_2388, [0, 2]), (30, 417, 0, con_2444, [0, 2]), (30, 417, 0, con_2441, [0, 2]), (30, 417, 0, con_2438, [0, 2]), (30, 417, 0, con_2435, [0, 2]), (30, 417, 0, con_2432, [0, 2]), (30, 417, 0, con_2429, [0, 2]), (30, 417, 0, con_2426, [0, 2]), (30, 417, 0, con_2423, [0, 2]), (30, 417, 0, con_2420, [0, 2]), (30, 417, 0, con_2417, [0, 2]), (30, 417, 0, con_2414, [0, 2]), (30, 417, 0, con_2411, [0, 2]), (30, 417, 0, con_2408, [0, 2]), (30, 417, 0, con_2405, [0, 2]), (30, 417, 0, con_2402, [0, 2]), (30, 417, 0, con_2399, [0, 2]), (30, 417, 0, con_2395, [0, 2]), (30, 417, 0, con_2392, [0, 2]), (30, 417, 0, con_2389, [0, 2]), (42, 417, 0, con_2445, [0, 2]), (42, 417, 0, con_2442, [0, 2]), (42, 417, 0, con_2439, [0, 2]), (42, 417, 0, con_2436, [0, 2]), (42, 417, 0, con_2433, [0, 2]), (42, 417, 0, con_2430, [0, 2]), (42, 417, 0, con_2427, [0, 2]), (42, 417, 0, con_2424, [0, 2]), (42, 417, 0, con_2421, [0, 2]), (42, 417, 0, con_2418, [0, 2]), (42, 417, 0, con_2415, [0, 2]), (42, 417, 0, con_2412, [0, 2]), (42, 417, 0, con_2409, [0, 2]), (42, 417, 0, con_2406, [0, 2]), (42, 417, 0, con_2403, [0, 2]), (42, 417, 0, con_2400, [0, 2]), (42, 417, 0, con_2396, [0, 2]), (42, 417, 0, con_2393, [0, 2]), (42, 417, 0, con_2390, [0, 2])]
noncomputable def gi_2063 : GI := jl_n [gp_759, gp_522, jl_z 3]
noncomputable def cu_2451_0 : List CUT2 := [((2, [lq 0 6 0, lq 1 0 2, lq 2 0 0], [], gi_2063, hq_922), [], ([], 57)), ((2, [lq 0 6 0, lq 1 0 2, lq 2 0 3], [], gi_2063, hq_922), [], ([], 54)), ((2, [lq 0 6 0, lq 1 0 2, lq 2 0 6], [], gi_2063, hq_922), [], ([], 51)), ((2, [lq 0 6 0, lq 1 0 2, lq 2 0 9], [], gi_2063, hq_922), [], ([], 48)), ((2, [lq 0 6 0, lq 1 0 2, lq 2 0 12], [], gi_2063, hq_922), [], ([], 45)), ((2, [lq 0 6 0, lq 1 0 2, lq 2 0 15], [], gi_2063, hq_922), [], ([], 42)), ((2, [lq 0 6 0, lq 1 0 2, lq 2 0 18], [], gi_2063, hq_922), [], ([], 39)), ((2, [lq 0 6 0, lq 1 0 2, lq 2 0 21], [], gi_2063, hq_922), [], ([], 36)), ((2, [lq 0 6 0, lq 1 0 2, lq 2 0 24], [], gi_2063, hq_922), [], ([], 33)), ((2, [lq 0 6 0, lq 1 0 2, lq 2 0 27], [], gi_2063, hq_922), [], ([], 30)), ((2, [lq 0 6 0, lq 1 0 2, lq 2 0 30], [], gi_2063, hq_922), [], ([], 27)), ((2, [lq 0 6 0, lq 1 0 2, lq 2 0 33], [], gi_2063, hq_922), [], ([], 24)), ((2, [lq 0 6 0, lq 1 0 2, lq 2 0 36], [], gi_2063, hq_922), [], ([], 21)), ((2, [lq 0 6 0, lq 1 0 2, lq 2 0 39], [], gi_2063, hq_922), [], ([], 18)), ((2, [lq 0 6 0, lq 1 0 2, lq 2 0 42], [], gi_2063, hq_922), [], ([], 15)), ((2, [lq 0 6 0, lq 1 0 2, lq 2 0 45], [], gi_2063, hq_922), [], ([], 12)), ((2, [lq 0 6 0, lq 1 0 2, lq 2 0 48], [], gi_2063, hq_922), [], ([], 9)), ((2, [lq 0 6 0, lq 1 0 2, lq 2 0 51], [], gi_2063, hq_922), [], ([], 6))]
noncomputable def cu_2451_1 : List CUT2 := [((2, [lq 0 6 0, lq 1 0 2, lq 2 0 54], [], gi_2063, hq_922), [], ([], 3)), ((2, [lq 0 6 0, lq 1 0 2, lq 2 0 57], [], gi_2063, hq_922), [], ([], 0))]
noncomputable def cu_2451 : List CUT2 := cu_2451_0 ++ (cu_2451_1)
theorem ch_2451 : staG tb_X12_isSeen 1 bt_RX12 [] ct_2451 [] [] cu_2451 37 con_2451 = true := by decide +kernel
theorem cc_2451_0 : cu_2451_0.all (cutG tb_X12_isSeen 1 bt_RX12 [] ct_2451 [] [] cu_2451 37 con_2451) = true := by decide +kernel
theorem cc_2451_1 : cu_2451_1.all (cutG tb_X12_isSeen 1 bt_RX12 [] ct_2451 [] [] cu_2451 37 con_2451) = true := by decide +kernel
theorem cto_2451 (l : Launch) : CTOK2 l RX12 vwCl gTbl ct_2451 := ct2_cons (vl_2443 l) ck_RX12_417_2443 (ct2_cons (vl_2440 l) ck_RX12_417_2440 (ct2_cons (vl_2437 l) ck_RX12_417_2437 (ct2_cons (vl_2434 l) ck_RX12_417_2434 (ct2_cons (vl_2431 l) ck_RX12_417_2431 (ct2_cons (vl_2428 l) ck_RX12_417_2428 (ct2_cons (vl_2425 l) ck_RX12_417_2425 (ct2_cons (vl_2422 l) ck_RX12_417_2422 (ct2_cons (vl_2419 l) ck_RX12_417_2419 (ct2_cons (vl_2416 l) ck_RX12_417_2416 (ct2_cons (vl_2413 l) ck_RX12_417_2413 (ct2_cons (vl_2410 l) ck_RX12_417_2410 (ct2_cons (vl_2407 l) ck_RX12_417_2407 (ct2_cons (vl_2404 l) ck_RX12_417_2404 (ct2_cons (vl_2401 l) ck_RX12_417_2401 (ct2_cons (vl_2398 l) ck_RX12_417_2398 (ct2_cons (vl_2394 l) ck_RX12_417_2394 (ct2_cons (vl_2391 l) ck_RX12_417_2391 (ct2_cons (vl_2388 l) ck_RX12_417_2388 (ct2_cons (vl_2444 l) ck_RX12_417_2444 (ct2_cons (vl_2441 l) ck_RX12_417_2441 (ct2_cons (vl_2438 l) ck_RX12_417_2438 (ct2_cons (vl_2435 l) ck_RX12_417_2435 (ct2_cons (vl_2432 l) ck_RX12_417_2432 (ct2_cons (vl_2429 l) ck_RX12_417_2429 (ct2_cons (vl_2426 l) ck_RX12_417_2426 (ct2_cons (vl_2423 l) ck_RX12_417_2423 (ct2_cons (vl_2420 l) ck_RX12_417_2420 (ct2_cons (vl_2417 l) ck_RX12_417_2417 (ct2_cons (vl_2414 l) ck_RX12_417_2414 (ct2_cons (vl_2411 l) ck_RX12_417_2411 (ct2_cons (vl_2408 l) ck_RX12_417_2408 (ct2_cons (vl_2405 l) ck_RX12_417_2405 (ct2_cons (vl_2402 l) ck_RX12_417_2402 (ct2_cons (vl_2399 l) ck_RX12_417_2399 (ct2_cons (vl_2395 l) ck_RX12_417_2395 (ct2_cons (vl_2392 l) ck_RX12_417_2392 (ct2_cons (vl_2389 l) ck_RX12_417_2389 (ct2_cons (vl_2445 l) ck_RX12_417_2445 (ct2_cons (vl_2442 l) ck_RX12_417_2442 (ct2_cons (vl_2439 l) ck_RX12_417_2439 (ct2_cons (vl_2436 l) ck_RX12_417_2436 (ct2_cons (vl_2433 l) ck_RX12_417_2433 (ct2_cons (vl_2430 l) ck_RX12_417_2430 (ct2_cons (vl_2427 l) ck_RX12_417_2427 (ct2_cons (vl_2424 l) ck_RX12_417_2424 (ct2_cons (vl_2421 l) ck_RX12_417_2421 (ct2_cons (vl_2418 l) ck_RX12_417_2418 (ct2_cons (vl_2415 l) ck_RX12_417_2415 (ct2_cons (vl_2412 l) ck_RX12_417_2412 (ct2_cons (vl_2409 l) ck_RX12_417_2409 (ct2_cons (vl_2406 l) ck_RX12_417_2406 (ct2_cons (vl_2403 l) ck_RX12_417_2403 (ct2_cons (vl_2400 l) ck_RX12_417_2400 (ct2_cons (vl_2396 l) ck_RX12_417_2396 (ct2_cons (vl_2393 l) ck_RX12_417_2393 (ct2_cons (vl_2390 l) ck_RX12_417_2390 (ct2_nil)))))))))))))))))))))))))))))))))))))))))))))))))))))))))
theorem vl_2451 (l : Launch) : Vld2 l vwCl gTbl con_2451 := conR_ok3 gT_all (hd_2451) rfl pn_RX12 tk_X12_isSeen bo_RX12 xo_RX12 (cto_2451 l) ch_2451 (cut_app (cut_all cc_2451_0) (cut_all cc_2451_1))
/-- RookHustingModel isSeen -/
noncomputable def gi_2064 : GI := jl_n [gp_759, gp_520]
noncomputable def gi_2065 : GI := jl_n [gp_759, gp_520, jl_z 1]
noncomputable def con_2452 : Con2 := ((yX12_isSeen, cX12_isSeen, 3, (some .boolean)), (1, 22), ([(6, 0, 0), (0, 2, 0)], gi_2064, hc_218, []), [((0, 0, 0), gi_2065, hq_922, [], [1]), ((0, 1, 0), gi_2065, hq_922, [], [1])])
theorem hd_2452 : con_2452.1 = (yX12_isSeen, cX12_isSeen, 3, (some .boolean)) := rfl
noncomputable def ct_2452 : CTB2 := [(22, 417, 0, con_2440, [0, 2]), (22, 417, 0, con_2437, [0, 2]), (22, 417, 0, con_2434, [0, 2]), (22, 417, 0, con_2431, [0, 2]), (22, 417, 0, con_2428, [0, 2]), (22, 417, 0, con_2425, [0, 2]), (22, 417, 0, con_2422, [0, 2]), (22, 417, 0, con_2419, [0, 2]), (22, 417, 0, con_2416, [0, 2]), (22, 417, 0, con_2413, [0, 2]), (22, 417, 0, con_2410, [0, 2]), (22, 417, 0, con_2407, [0, 2]), (22, 417, 0, con_2404, [0, 2]), (22, 417, 0, con_2401, [0, 2]), (22, 417, 0, con_2398, [0, 2]), (22, 417, 0, con_2394, [0, 2]), (22, 417, 0, con_2391, [0, 2]), (22, 417, 0, con_2388, [0, 2]), (30, 417, 0, con_2441, [0, 2]), (30, 417, 0, con_2438, [0, 2]), (30, 417, 0, con_2435, [0, 2]), (30, 417, 0, con_2432, [0, 2]), (30, 417, 0, con_2429, [0, 2]), (30, 417, 0, con_2426, [0, 2]), (30, 417, 0, con_2423, [0, 2]), (30, 417, 0, con_2420, [0, 2]), (30, 417, 0, con_2417, [0, 2]), (30, 417, 0, con_2414, [0, 2]), (30, 417, 0, con_2411, [0, 2]), (30, 417, 0, con_2408, [0, 2]), (30, 417, 0, con_2405, [0, 2]), (30, 417, 0, con_2402, [0, 2]), (30, 417, 0, con_2399, [0, 2]), (30, 417, 0, con_2395, [0, 2]), (30, 417, 0, con_2392, [0, 2]), (30, 417, 0, con_2389, [0, 2]), (42, 417, 0, con_2442, [0, 2]), (42, 417, 0, con_2439, [0, 2]), (42, 417, 0, con_2436, [0, 2]), (42, 417, 0, con_2433, [0, 2]), (42, 417, 0, con_2430, [0, 2]), (42, 417, 0, con_2427, [0, 2]), (42, 417, 0, con_2424, [0, 2]), (42, 417, 0, con_2421, [0, 2]), (42, 417, 0, con_2418, [0, 2]), (42, 417, 0, con_2415, [0, 2]), (42, 417, 0, con_2412, [0, 2]), (42, 417, 0, con_2409, [0, 2]), (42, 417, 0, con_2406, [0, 2]), (42, 417, 0, con_2403, [0, 2]), (42, 417, 0, con_2400, [0, 2]), (42, 417, 0, con_2396, [0, 2]), (42, 417, 0, con_2393, [0, 2]), (42, 417, 0, con_2390, [0, 2])]
noncomputable def gi_2066 : GI := jl_n [gp_759, gp_520, jl_z 3]
noncomputable def cu_2452 : List CUT2 := [((2, [lq 0 6 0, lq 1 0 2, lq 2 0 0], [], gi_2066, hq_922), [], ([], 54)), ((2, [lq 0 6 0, lq 1 0 2, lq 2 0 3], [], gi_2066, hq_922), [], ([], 51)), ((2, [lq 0 6 0, lq 1 0 2, lq 2 0 6], [], gi_2066, hq_922), [], ([], 48)), ((2, [lq 0 6 0, lq 1 0 2, lq 2 0 9], [], gi_2066, hq_922), [], ([], 45)), ((2, [lq 0 6 0, lq 1 0 2, lq 2 0 12], [], gi_2066, hq_922), [], ([], 42)), ((2, [lq 0 6 0, lq 1 0 2, lq 2 0 15], [], gi_2066, hq_922), [], ([], 39)), ((2, [lq 0 6 0, lq 1 0 2, lq 2 0 18], [], gi_2066, hq_922), [], ([], 36)), ((2, [lq 0 6 0, lq 1 0 2, lq 2 0 21], [], gi_2066, hq_922), [], ([], 33)), ((2, [lq 0 6 0, lq 1 0 2, lq 2 0 24], [], gi_2066, hq_922), [], ([], 30)), ((2, [lq 0 6 0, lq 1 0 2, lq 2 0 27], [], gi_2066, hq_922), [], ([], 27)), ((2, [lq 0 6 0, lq 1 0 2, lq 2 0 30], [], gi_2066, hq_922), [], ([], 24)), ((2, [lq 0 6 0, lq 1 0 2, lq 2 0 33], [], gi_2066, hq_922), [], ([], 21)), ((2, [lq 0 6 0, lq 1 0 2, lq 2 0 36], [], gi_2066, hq_922), [], ([], 18)), ((2, [lq 0 6 0, lq 1 0 2, lq 2 0 39], [], gi_2066, hq_922), [], ([], 15)), ((2, [lq 0 6 0, lq 1 0 2, lq 2 0 42], [], gi_2066, hq_922), [], ([], 12)), ((2, [lq 0 6 0, lq 1 0 2, lq 2 0 45], [], gi_2066, hq_922), [], ([], 9)), ((2, [lq 0 6 0, lq 1 0 2, lq 2 0 48], [], gi_2066, hq_922), [], ([], 6)), ((2, [lq 0 6 0, lq 1 0 2, lq 2 0 51], [], gi_2066, hq_922), [], ([], 3)), ((2, [lq 0 6 0, lq 1 0 2, lq 2 0 54], [], gi_2066, hq_922), [], ([], 0))]
theorem ch_2452 : staG tb_X12_isSeen 1 bt_RX12 [] ct_2452 [] [] cu_2452 37 con_2452 = true := by decide +kernel
theorem cc_2452 : cu_2452.all (cutG tb_X12_isSeen 1 bt_RX12 [] ct_2452 [] [] cu_2452 37 con_2452) = true := by decide +kernel
theorem cto_2452 (l : Launch) : CTOK2 l RX12 vwCl gTbl ct_2452 := ct2_cons (vl_2440 l) ck_RX12_417_2440 (ct2_cons (vl_2437 l) ck_RX12_417_2437 (ct2_cons (vl_2434 l) ck_RX12_417_2434 (ct2_cons (vl_2431 l) ck_RX12_417_2431 (ct2_cons (vl_2428 l) ck_RX12_417_2428 (ct2_cons (vl_2425 l) ck_RX12_417_2425 (ct2_cons (vl_2422 l) ck_RX12_417_2422 (ct2_cons (vl_2419 l) ck_RX12_417_2419 (ct2_cons (vl_2416 l) ck_RX12_417_2416 (ct2_cons (vl_2413 l) ck_RX12_417_2413 (ct2_cons (vl_2410 l) ck_RX12_417_2410 (ct2_cons (vl_2407 l) ck_RX12_417_2407 (ct2_cons (vl_2404 l) ck_RX12_417_2404 (ct2_cons (vl_2401 l) ck_RX12_417_2401 (ct2_cons (vl_2398 l) ck_RX12_417_2398 (ct2_cons (vl_2394 l) ck_RX12_417_2394 (ct2_cons (vl_2391 l) ck_RX12_417_2391 (ct2_cons (vl_2388 l) ck_RX12_417_2388 (ct2_cons (vl_2441 l) ck_RX12_417_2441 (ct2_cons (vl_2438 l) ck_RX12_417_2438 (ct2_cons (vl_2435 l) ck_RX12_417_2435 (ct2_cons (vl_2432 l) ck_RX12_417_2432 (ct2_cons (vl_2429 l) ck_RX12_417_2429 (ct2_cons (vl_2426 l) ck_RX12_417_2426 (ct2_cons (vl_2423 l) ck_RX12_417_2423 (ct2_cons (vl_2420 l) ck_RX12_417_2420 (ct2_cons (vl_2417 l) ck_RX12_417_2417 (ct2_cons (vl_2414 l) ck_RX12_417_2414 (ct2_cons (vl_2411 l) ck_RX12_417_2411 (ct2_cons (vl_2408 l) ck_RX12_417_2408 (ct2_cons (vl_2405 l) ck_RX12_417_2405 (ct2_cons (vl_2402 l) ck_RX12_417_2402 (ct2_cons (vl_2399 l) ck_RX12_417_2399 (ct2_cons (vl_2395 l) ck_RX12_417_2395 (ct2_cons (vl_2392 l) ck_RX12_417_2392 (ct2_cons (vl_2389 l) ck_RX12_417_2389 (ct2_cons (vl_2442 l) ck_RX12_417_2442 (ct2_cons (vl_2439 l) ck_RX12_417_2439 (ct2_cons (vl_2436 l) ck_RX12_417_2436 (ct2_cons (vl_2433 l) ck_RX12_417_2433 (ct2_cons (vl_2430 l) ck_RX12_417_2430 (ct2_cons (vl_2427 l) ck_RX12_417_2427 (ct2_cons (vl_2424 l) ck_RX12_417_2424 (ct2_cons (vl_2421 l) ck_RX12_417_2421 (ct2_cons (vl_2418 l) ck_RX12_417_2418 (ct2_cons (vl_2415 l) ck_RX12_417_2415 (ct2_cons (vl_2412 l) ck_RX12_417_2412 (ct2_cons (vl_2409 l) ck_RX12_417_2409 (ct2_cons (vl_2406 l) ck_RX12_417_2406 (ct2_cons (vl_2403 l) ck_RX12_417_2403 (ct2_cons (vl_2400 l) ck_RX12_417_2400 (ct2_cons (vl_2396 l) ck_RX12_417_2396 (ct2_cons (vl_2393 l) ck_RX12_417_2393 (ct2_cons (vl_2390 l) ck_RX12_417_2390 (ct2_nil))))))))))))))))))))))))))))))))))))))))))))))))))))))
theorem vl_2452 (l : Launch) : Vld2 l vwCl gTbl con_2452 := conR_ok3 gT_all (hd_2452) rfl pn_RX12 tk_X12_isSeen bo_RX12 xo_RX12 (cto_2452 l) ch_2452 (cut_all cc_2452)
