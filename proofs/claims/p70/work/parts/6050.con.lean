/-! ===== contracts, 50 ===== -/
/-- RookHustingModel isSlot -/
noncomputable def con_2470 : Con2 := ((yX12_isSlot, cX12_isSlot, 1, (some .boolean)), (1, 25), ([(0, 1, 0)], [(0, 0)], [], []), [((0, 0, 0), [(0, 0), (0, 0)], [], [], [1]), ((0, 1, 0), [(0, 0), (0, 0)], [], [], [1])])
theorem hd_2470 : con_2470.1 = (yX12_isSlot, cX12_isSlot, 1, (some .boolean)) := rfl
noncomputable def cu_2470 : List CUT2 := []
theorem ch_2470 : staG tb_X12_isSlot 1 bt_RX12 [] ct_2171 [] [] cu_2470 8 con_2470 = true := by decide +kernel
theorem vl_2470 (l : Launch) : Vld2 l vwCl gTbl con_2470 := conR_ok3 gT_all (hd_2470) rfl pn_RX12 tk_X12_isSlot bo_RX12 xo_RX12 (cto_2171 l) ch_2470 cut_nil
/-- RookHustingModel numberAt -/
noncomputable def ac_1232 : AC := .inr (2, jl_n [js_5 60 9223372036854775807 9223372036854775807, js_4 49 1, js_5 179 9223372036854775807 9223372036854775807])
noncomputable def con_2471 : Con2 := ((yX12_numberAt, cX12_numberAt, 3, (some .long)), (0, 0), ([(6, 0, 0), (0, 1, 0), (0, 0, 0)], gi_1800, [ac_1100, ac_1232], []), [((4, 48, 0), gi_1801, [(false, ac_1100), (false, ac_1232)], [], [1])])
theorem hd_2471 : con_2471.1 = (yX12_numberAt, cX12_numberAt, 3, (some .long)) := rfl
noncomputable def cu_2471 : List CUT2 := []
theorem ch_2471 : staG tb_X12_numberAt 1 bt_RX12 [] ct_2 [] [] cu_2471 11 con_2471 = true := by decide +kernel
theorem vl_2471 (l : Launch) : Vld2 l vwCl gTbl con_2471 := conR_ok3 gT_all (hd_2471) rfl pn_RX12 tk_X12_numberAt bo_RX12 xo_RX12 (cto_2 l) ch_2471 cut_nil
/-- RookHustingModel numberAt -/
noncomputable def ac_1233 : AC := .inr (2, jl_n [js_5 61 9223372036854775807 9223372036854775807, js_4 49 1, js_5 178 9223372036854775807 9223372036854775807])
noncomputable def con_2472 : Con2 := ((yX12_numberAt, cX12_numberAt, 3, (some .long)), (0, 0), ([(6, 0, 0), (0, 1, 0), (0, 1, 0)], gi_1800, [ac_1100, ac_1233], []), [((4, 48, 0), gi_1801, [(false, ac_1100), (false, ac_1233)], [], [1])])
theorem hd_2472 : con_2472.1 = (yX12_numberAt, cX12_numberAt, 3, (some .long)) := rfl
noncomputable def cu_2472 : List CUT2 := []
theorem ch_2472 : staG tb_X12_numberAt 1 bt_RX12 [] ct_2 [] [] cu_2472 11 con_2472 = true := by decide +kernel
theorem vl_2472 (l : Launch) : Vld2 l vwCl gTbl con_2472 := conR_ok3 gT_all (hd_2472) rfl pn_RX12 tk_X12_numberAt bo_RX12 xo_RX12 (cto_2 l) ch_2472 cut_nil
/-- RookHustingModel numberAt -/
noncomputable def ac_1234 : AC := .inr (2, jl_n [js_5 62 9223372036854775807 9223372036854775807, js_4 49 1, js_5 177 9223372036854775807 9223372036854775807])
noncomputable def con_2473 : Con2 := ((yX12_numberAt, cX12_numberAt, 3, (some .long)), (0, 0), ([(6, 0, 0), (0, 1, 0), (0, 2, 0)], gi_1800, [ac_1100, ac_1234], []), [((4, 48, 0), gi_1801, [(false, ac_1100), (false, ac_1234)], [], [1])])
theorem hd_2473 : con_2473.1 = (yX12_numberAt, cX12_numberAt, 3, (some .long)) := rfl
noncomputable def cu_2473 : List CUT2 := []
theorem ch_2473 : staG tb_X12_numberAt 1 bt_RX12 [] ct_2 [] [] cu_2473 11 con_2473 = true := by decide +kernel
theorem vl_2473 (l : Launch) : Vld2 l vwCl gTbl con_2473 := conR_ok3 gT_all (hd_2473) rfl pn_RX12 tk_X12_numberAt bo_RX12 xo_RX12 (cto_2 l) ch_2473 cut_nil
/-- RookHustingModel numberAt -/
noncomputable def ac_1235 : AC := .inr (2, jl_n [js_5 63 9223372036854775807 9223372036854775807, js_4 49 1, js_5 176 9223372036854775807 9223372036854775807])
noncomputable def con_2474 : Con2 := ((yX12_numberAt, cX12_numberAt, 3, (some .long)), (0, 0), ([(6, 0, 0), (0, 1, 0), (0, 3, 0)], gi_1800, [ac_1100, ac_1235], []), [((4, 48, 0), gi_1801, [(false, ac_1100), (false, ac_1235)], [], [1])])
theorem hd_2474 : con_2474.1 = (yX12_numberAt, cX12_numberAt, 3, (some .long)) := rfl
noncomputable def cu_2474 : List CUT2 := []
theorem ch_2474 : staG tb_X12_numberAt 1 bt_RX12 [] ct_2 [] [] cu_2474 11 con_2474 = true := by decide +kernel
theorem vl_2474 (l : Launch) : Vld2 l vwCl gTbl con_2474 := conR_ok3 gT_all (hd_2474) rfl pn_RX12 tk_X12_numberAt bo_RX12 xo_RX12 (cto_2 l) ch_2474 cut_nil
/-- RookHustingModel numberAt -/
noncomputable def ac_1236 : AC := .inr (2, jl_n [js_5 64 9223372036854775807 9223372036854775807, js_4 49 1, js_5 175 9223372036854775807 9223372036854775807])
noncomputable def con_2475 : Con2 := ((yX12_numberAt, cX12_numberAt, 3, (some .long)), (0, 0), ([(6, 0, 0), (0, 1, 0), (0, 4, 0)], gi_1800, [ac_1100, ac_1236], []), [((4, 48, 0), gi_1801, [(false, ac_1100), (false, ac_1236)], [], [1])])
theorem hd_2475 : con_2475.1 = (yX12_numberAt, cX12_numberAt, 3, (some .long)) := rfl
noncomputable def cu_2475 : List CUT2 := []
theorem ch_2475 : staG tb_X12_numberAt 1 bt_RX12 [] ct_2 [] [] cu_2475 11 con_2475 = true := by decide +kernel
theorem vl_2475 (l : Launch) : Vld2 l vwCl gTbl con_2475 := conR_ok3 gT_all (hd_2475) rfl pn_RX12 tk_X12_numberAt bo_RX12 xo_RX12 (cto_2 l) ch_2475 cut_nil
/-- RookHustingModel numberAt -/
noncomputable def ac_1237 : AC := .inr (2, jl_n [js_5 65 9223372036854775807 9223372036854775807, js_4 49 1, js_5 174 9223372036854775807 9223372036854775807])
noncomputable def con_2476 : Con2 := ((yX12_numberAt, cX12_numberAt, 3, (some .long)), (0, 0), ([(6, 0, 0), (0, 1, 0), (0, 5, 0)], gi_1800, [ac_1100, ac_1237], []), [((4, 48, 0), gi_1801, [(false, ac_1100), (false, ac_1237)], [], [1])])
theorem hd_2476 : con_2476.1 = (yX12_numberAt, cX12_numberAt, 3, (some .long)) := rfl
noncomputable def cu_2476 : List CUT2 := []
theorem ch_2476 : staG tb_X12_numberAt 1 bt_RX12 [] ct_2 [] [] cu_2476 11 con_2476 = true := by decide +kernel
theorem vl_2476 (l : Launch) : Vld2 l vwCl gTbl con_2476 := conR_ok3 gT_all (hd_2476) rfl pn_RX12 tk_X12_numberAt bo_RX12 xo_RX12 (cto_2 l) ch_2476 cut_nil
/-- RookHustingModel numberAt -/
noncomputable def ac_1238 : AC := .inr (2, jl_n [js_5 66 9223372036854775807 9223372036854775807, js_4 49 1, js_5 173 9223372036854775807 9223372036854775807])
noncomputable def con_2477 : Con2 := ((yX12_numberAt, cX12_numberAt, 3, (some .long)), (0, 0), ([(6, 0, 0), (0, 1, 0), (0, 6, 0)], gi_1800, [ac_1100, ac_1238], []), [((4, 48, 0), gi_1801, [(false, ac_1100), (false, ac_1238)], [], [1])])
theorem hd_2477 : con_2477.1 = (yX12_numberAt, cX12_numberAt, 3, (some .long)) := rfl
noncomputable def cu_2477 : List CUT2 := []
theorem ch_2477 : staG tb_X12_numberAt 1 bt_RX12 [] ct_2 [] [] cu_2477 11 con_2477 = true := by decide +kernel
theorem vl_2477 (l : Launch) : Vld2 l vwCl gTbl con_2477 := conR_ok3 gT_all (hd_2477) rfl pn_RX12 tk_X12_numberAt bo_RX12 xo_RX12 (cto_2 l) ch_2477 cut_nil
/-- RookHustingModel numberAt -/
noncomputable def ac_1239 : AC := .inr (2, jl_n [js_5 67 9223372036854775807 9223372036854775807, js_4 49 1, js_5 172 9223372036854775807 9223372036854775807])
noncomputable def con_2478 : Con2 := ((yX12_numberAt, cX12_numberAt, 3, (some .long)), (0, 0), ([(6, 0, 0), (0, 1, 0), (0, 7, 0)], gi_1800, [ac_1100, ac_1239], []), [((4, 48, 0), gi_1801, [(false, ac_1100), (false, ac_1239)], [], [1])])
theorem hd_2478 : con_2478.1 = (yX12_numberAt, cX12_numberAt, 3, (some .long)) := rfl
noncomputable def cu_2478 : List CUT2 := []
theorem ch_2478 : staG tb_X12_numberAt 1 bt_RX12 [] ct_2 [] [] cu_2478 11 con_2478 = true := by decide +kernel
theorem vl_2478 (l : Launch) : Vld2 l vwCl gTbl con_2478 := conR_ok3 gT_all (hd_2478) rfl pn_RX12 tk_X12_numberAt bo_RX12 xo_RX12 (cto_2 l) ch_2478 cut_nil
/-- RookHustingModel numberAt -/
noncomputable def ac_1240 : AC := .inr (2, jl_n [js_5 68 9223372036854775807 9223372036854775807, js_4 49 1, js_5 171 9223372036854775807 9223372036854775807])
noncomputable def con_2479 : Con2 := ((yX12_numberAt, cX12_numberAt, 3, (some .long)), (0, 0), ([(6, 0, 0), (0, 1, 0), (0, 8, 0)], gi_1800, [ac_1100, ac_1240], []), [((4, 48, 0), gi_1801, [(false, ac_1100), (false, ac_1240)], [], [1])])
theorem hd_2479 : con_2479.1 = (yX12_numberAt, cX12_numberAt, 3, (some .long)) := rfl
noncomputable def cu_2479 : List CUT2 := []
theorem ch_2479 : staG tb_X12_numberAt 1 bt_RX12 [] ct_2 [] [] cu_2479 11 con_2479 = true := by decide +kernel
theorem vl_2479 (l : Launch) : Vld2 l vwCl gTbl con_2479 := conR_ok3 gT_all (hd_2479) rfl pn_RX12 tk_X12_numberAt bo_RX12 xo_RX12 (cto_2 l) ch_2479 cut_nil
/-- RookHustingModel numberAt -/
noncomputable def ac_1241 : AC := .inr (2, jl_n [js_5 69 9223372036854775807 9223372036854775807, js_4 49 1, js_5 170 9223372036854775807 9223372036854775807])
noncomputable def con_2480 : Con2 := ((yX12_numberAt, cX12_numberAt, 3, (some .long)), (0, 0), ([(6, 0, 0), (0, 1, 0), (0, 9, 0)], gi_1800, [ac_1100, ac_1241], []), [((4, 48, 0), gi_1801, [(false, ac_1100), (false, ac_1241)], [], [1])])
theorem hd_2480 : con_2480.1 = (yX12_numberAt, cX12_numberAt, 3, (some .long)) := rfl
noncomputable def cu_2480 : List CUT2 := []
theorem ch_2480 : staG tb_X12_numberAt 1 bt_RX12 [] ct_2 [] [] cu_2480 11 con_2480 = true := by decide +kernel
theorem vl_2480 (l : Launch) : Vld2 l vwCl gTbl con_2480 := conR_ok3 gT_all (hd_2480) rfl pn_RX12 tk_X12_numberAt bo_RX12 xo_RX12 (cto_2 l) ch_2480 cut_nil
/-- RookHustingModel numberAt -/
noncomputable def ac_1242 : AC := .inr (2, jl_n [js_5 70 9223372036854775807 9223372036854775807, js_4 49 1, js_5 169 9223372036854775807 9223372036854775807])
noncomputable def con_2481 : Con2 := ((yX12_numberAt, cX12_numberAt, 3, (some .long)), (0, 0), ([(6, 0, 0), (0, 1, 0), (0, 10, 0)], gi_1800, [ac_1100, ac_1242], []), [((4, 48, 0), gi_1801, [(false, ac_1100), (false, ac_1242)], [], [1])])
theorem hd_2481 : con_2481.1 = (yX12_numberAt, cX12_numberAt, 3, (some .long)) := rfl
noncomputable def cu_2481 : List CUT2 := []
theorem ch_2481 : staG tb_X12_numberAt 1 bt_RX12 [] ct_2 [] [] cu_2481 11 con_2481 = true := by decide +kernel
theorem vl_2481 (l : Launch) : Vld2 l vwCl gTbl con_2481 := conR_ok3 gT_all (hd_2481) rfl pn_RX12 tk_X12_numberAt bo_RX12 xo_RX12 (cto_2 l) ch_2481 cut_nil
/-- RookHustingModel numberAt -/
noncomputable def ac_1243 : AC := .inr (2, jl_n [js_5 71 9223372036854775807 9223372036854775807, js_4 49 1, js_5 168 9223372036854775807 9223372036854775807])
noncomputable def con_2482 : Con2 := ((yX12_numberAt, cX12_numberAt, 3, (some .long)), (0, 0), ([(6, 0, 0), (0, 1, 0), (0, 11, 0)], gi_1800, [ac_1100, ac_1243], []), [((4, 48, 0), gi_1801, [(false, ac_1100), (false, ac_1243)], [], [1])])
theorem hd_2482 : con_2482.1 = (yX12_numberAt, cX12_numberAt, 3, (some .long)) := rfl
noncomputable def cu_2482 : List CUT2 := []
theorem ch_2482 : staG tb_X12_numberAt 1 bt_RX12 [] ct_2 [] [] cu_2482 11 con_2482 = true := by decide +kernel
theorem vl_2482 (l : Launch) : Vld2 l vwCl gTbl con_2482 := conR_ok3 gT_all (hd_2482) rfl pn_RX12 tk_X12_numberAt bo_RX12 xo_RX12 (cto_2 l) ch_2482 cut_nil
/-- RookHustingModel numberAt -/
noncomputable def ac_1244 : AC := .inr (2, jl_n [js_5 72 9223372036854775807 9223372036854775807, js_4 49 1, js_5 167 9223372036854775807 9223372036854775807])
noncomputable def con_2483 : Con2 := ((yX12_numberAt, cX12_numberAt, 3, (some .long)), (0, 0), ([(6, 0, 0), (0, 1, 0), (0, 12, 0)], gi_1800, [ac_1100, ac_1244], []), [((4, 48, 0), gi_1801, [(false, ac_1100), (false, ac_1244)], [], [1])])
theorem hd_2483 : con_2483.1 = (yX12_numberAt, cX12_numberAt, 3, (some .long)) := rfl
noncomputable def cu_2483 : List CUT2 := []
theorem ch_2483 : staG tb_X12_numberAt 1 bt_RX12 [] ct_2 [] [] cu_2483 11 con_2483 = true := by decide +kernel
theorem vl_2483 (l : Launch) : Vld2 l vwCl gTbl con_2483 := conR_ok3 gT_all (hd_2483) rfl pn_RX12 tk_X12_numberAt bo_RX12 xo_RX12 (cto_2 l) ch_2483 cut_nil
/-- RookHustingModel numberAt -/
noncomputable def ac_1245 : AC := .inr (2, jl_n [js_5 73 9223372036854775807 9223372036854775807, js_4 49 1, js_5 166 9223372036854775807 9223372036854775807])
noncomputable def con_2484 : Con2 := ((yX12_numberAt, cX12_numberAt, 3, (some .long)), (0, 0), ([(6, 0, 0), (0, 1, 0), (0, 13, 0)], gi_1800, [ac_1100, ac_1245], []), [((4, 48, 0), gi_1801, [(false, ac_1100), (false, ac_1245)], [], [1])])
theorem hd_2484 : con_2484.1 = (yX12_numberAt, cX12_numberAt, 3, (some .long)) := rfl
noncomputable def cu_2484 : List CUT2 := []
theorem ch_2484 : staG tb_X12_numberAt 1 bt_RX12 [] ct_2 [] [] cu_2484 11 con_2484 = true := by decide +kernel
theorem vl_2484 (l : Launch) : Vld2 l vwCl gTbl con_2484 := conR_ok3 gT_all (hd_2484) rfl pn_RX12 tk_X12_numberAt bo_RX12 xo_RX12 (cto_2 l) ch_2484 cut_nil
/-- RookHustingModel numberAt -/
noncomputable def ac_1246 : AC := .inr (2, jl_n [js_5 74 9223372036854775807 9223372036854775807, js_4 49 1, js_5 165 9223372036854775807 9223372036854775807])
noncomputable def con_2485 : Con2 := ((yX12_numberAt, cX12_numberAt, 3, (some .long)), (0, 0), ([(6, 0, 0), (0, 1, 0), (0, 14, 0)], gi_1800, [ac_1100, ac_1246], []), [((4, 48, 0), gi_1801, [(false, ac_1100), (false, ac_1246)], [], [1])])
theorem hd_2485 : con_2485.1 = (yX12_numberAt, cX12_numberAt, 3, (some .long)) := rfl
noncomputable def cu_2485 : List CUT2 := []
theorem ch_2485 : staG tb_X12_numberAt 1 bt_RX12 [] ct_2 [] [] cu_2485 11 con_2485 = true := by decide +kernel
theorem vl_2485 (l : Launch) : Vld2 l vwCl gTbl con_2485 := conR_ok3 gT_all (hd_2485) rfl pn_RX12 tk_X12_numberAt bo_RX12 xo_RX12 (cto_2 l) ch_2485 cut_nil
/-- RookHustingModel numberAt -/
noncomputable def ac_1247 : AC := .inr (2, jl_n [js_5 75 9223372036854775807 9223372036854775807, js_4 49 1, js_5 164 9223372036854775807 9223372036854775807])
noncomputable def con_2486 : Con2 := ((yX12_numberAt, cX12_numberAt, 3, (some .long)), (0, 0), ([(6, 0, 0), (0, 1, 0), (0, 15, 0)], gi_1800, [ac_1100, ac_1247], []), [((4, 48, 0), gi_1801, [(false, ac_1100), (false, ac_1247)], [], [1])])
theorem hd_2486 : con_2486.1 = (yX12_numberAt, cX12_numberAt, 3, (some .long)) := rfl
noncomputable def cu_2486 : List CUT2 := []
theorem ch_2486 : staG tb_X12_numberAt 1 bt_RX12 [] ct_2 [] [] cu_2486 11 con_2486 = true := by decide +kernel
theorem vl_2486 (l : Launch) : Vld2 l vwCl gTbl con_2486 := conR_ok3 gT_all (hd_2486) rfl pn_RX12 tk_X12_numberAt bo_RX12 xo_RX12 (cto_2 l) ch_2486 cut_nil
/-- RookHustingModel numberAt -/
noncomputable def ac_1248 : AC := .inr (2, jl_n [js_5 76 9223372036854775807 9223372036854775807, js_4 49 1, js_5 163 9223372036854775807 9223372036854775807])
noncomputable def con_2487 : Con2 := ((yX12_numberAt, cX12_numberAt, 3, (some .long)), (0, 0), ([(6, 0, 0), (0, 1, 0), (0, 16, 0)], gi_1800, [ac_1100, ac_1248], []), [((4, 48, 0), gi_1801, [(false, ac_1100), (false, ac_1248)], [], [1])])
theorem hd_2487 : con_2487.1 = (yX12_numberAt, cX12_numberAt, 3, (some .long)) := rfl
noncomputable def cu_2487 : List CUT2 := []
theorem ch_2487 : staG tb_X12_numberAt 1 bt_RX12 [] ct_2 [] [] cu_2487 11 con_2487 = true := by decide +kernel
theorem vl_2487 (l : Launch) : Vld2 l vwCl gTbl con_2487 := conR_ok3 gT_all (hd_2487) rfl pn_RX12 tk_X12_numberAt bo_RX12 xo_RX12 (cto_2 l) ch_2487 cut_nil
/-- RookHustingModel numberAt -/
noncomputable def ac_1249 : AC := .inr (2, jl_n [js_5 77 9223372036854775807 9223372036854775807, js_4 49 1, js_5 162 9223372036854775807 9223372036854775807])
noncomputable def con_2488 : Con2 := ((yX12_numberAt, cX12_numberAt, 3, (some .long)), (0, 0), ([(6, 0, 0), (0, 1, 0), (0, 17, 0)], gi_1800, [ac_1100, ac_1249], []), [((4, 48, 0), gi_1801, [(false, ac_1100), (false, ac_1249)], [], [1])])
theorem hd_2488 : con_2488.1 = (yX12_numberAt, cX12_numberAt, 3, (some .long)) := rfl
noncomputable def cu_2488 : List CUT2 := []
theorem ch_2488 : staG tb_X12_numberAt 1 bt_RX12 [] ct_2 [] [] cu_2488 11 con_2488 = true := by decide +kernel
theorem vl_2488 (l : Launch) : Vld2 l vwCl gTbl con_2488 := conR_ok3 gT_all (hd_2488) rfl pn_RX12 tk_X12_numberAt bo_RX12 xo_RX12 (cto_2 l) ch_2488 cut_nil
/-- RookHustingModel numberAt -/
noncomputable def ac_1250 : AC := .inr (2, jl_n [js_5 78 9223372036854775807 9223372036854775807, js_4 49 1, js_5 161 9223372036854775807 9223372036854775807])
noncomputable def con_2489 : Con2 := ((yX12_numberAt, cX12_numberAt, 3, (some .long)), (0, 0), ([(6, 0, 0), (0, 1, 0), (0, 18, 0)], gi_1800, [ac_1100, ac_1250], []), [((4, 48, 0), gi_1801, [(false, ac_1100), (false, ac_1250)], [], [1])])
theorem hd_2489 : con_2489.1 = (yX12_numberAt, cX12_numberAt, 3, (some .long)) := rfl
noncomputable def cu_2489 : List CUT2 := []
theorem ch_2489 : staG tb_X12_numberAt 1 bt_RX12 [] ct_2 [] [] cu_2489 11 con_2489 = true := by decide +kernel
theorem vl_2489 (l : Launch) : Vld2 l vwCl gTbl con_2489 := conR_ok3 gT_all (hd_2489) rfl pn_RX12 tk_X12_numberAt bo_RX12 xo_RX12 (cto_2 l) ch_2489 cut_nil
/-- RookHustingModel numberAt -/
noncomputable def ac_1251 : AC := .inr (2, jl_n [js_5 79 9223372036854775807 9223372036854775807, js_4 49 1, js_5 160 9223372036854775807 9223372036854775807])
noncomputable def con_2490 : Con2 := ((yX12_numberAt, cX12_numberAt, 3, (some .long)), (0, 0), ([(6, 0, 0), (0, 1, 0), (0, 19, 0)], gi_1800, [ac_1100, ac_1251], []), [((4, 48, 0), gi_1801, [(false, ac_1100), (false, ac_1251)], [], [1])])
theorem hd_2490 : con_2490.1 = (yX12_numberAt, cX12_numberAt, 3, (some .long)) := rfl
noncomputable def cu_2490 : List CUT2 := []
theorem ch_2490 : staG tb_X12_numberAt 1 bt_RX12 [] ct_2 [] [] cu_2490 11 con_2490 = true := by decide +kernel
theorem vl_2490 (l : Launch) : Vld2 l vwCl gTbl con_2490 := conR_ok3 gT_all (hd_2490) rfl pn_RX12 tk_X12_numberAt bo_RX12 xo_RX12 (cto_2 l) ch_2490 cut_nil
/-- RookHustingModel numberAt -/
noncomputable def ac_1252 : AC := .inr (2, jl_n [js_5 80 9223372036854775807 9223372036854775807, js_4 49 1, js_5 159 9223372036854775807 9223372036854775807])
noncomputable def con_2491 : Con2 := ((yX12_numberAt, cX12_numberAt, 3, (some .long)), (0, 0), ([(6, 0, 0), (0, 1, 0), (0, 20, 0)], gi_1800, [ac_1100, ac_1252], []), [((4, 48, 0), gi_1801, [(false, ac_1100), (false, ac_1252)], [], [1])])
theorem hd_2491 : con_2491.1 = (yX12_numberAt, cX12_numberAt, 3, (some .long)) := rfl
noncomputable def cu_2491 : List CUT2 := []
theorem ch_2491 : staG tb_X12_numberAt 1 bt_RX12 [] ct_2 [] [] cu_2491 11 con_2491 = true := by decide +kernel
theorem vl_2491 (l : Launch) : Vld2 l vwCl gTbl con_2491 := conR_ok3 gT_all (hd_2491) rfl pn_RX12 tk_X12_numberAt bo_RX12 xo_RX12 (cto_2 l) ch_2491 cut_nil
/-- RookHustingModel numberAt -/
noncomputable def ac_1253 : AC := .inr (2, jl_n [js_5 81 9223372036854775807 9223372036854775807, js_4 49 1, js_5 158 9223372036854775807 9223372036854775807])
noncomputable def con_2492 : Con2 := ((yX12_numberAt, cX12_numberAt, 3, (some .long)), (0, 0), ([(6, 0, 0), (0, 1, 0), (0, 21, 0)], gi_1800, [ac_1100, ac_1253], []), [((4, 48, 0), gi_1801, [(false, ac_1100), (false, ac_1253)], [], [1])])
theorem hd_2492 : con_2492.1 = (yX12_numberAt, cX12_numberAt, 3, (some .long)) := rfl
noncomputable def cu_2492 : List CUT2 := []
theorem ch_2492 : staG tb_X12_numberAt 1 bt_RX12 [] ct_2 [] [] cu_2492 11 con_2492 = true := by decide +kernel
theorem vl_2492 (l : Launch) : Vld2 l vwCl gTbl con_2492 := conR_ok3 gT_all (hd_2492) rfl pn_RX12 tk_X12_numberAt bo_RX12 xo_RX12 (cto_2 l) ch_2492 cut_nil
/-- RookHustingModel numberAt -/
noncomputable def ac_1254 : AC := .inr (2, jl_n [js_5 82 9223372036854775807 9223372036854775807, js_4 49 1, js_5 157 9223372036854775807 9223372036854775807])
noncomputable def con_2493 : Con2 := ((yX12_numberAt, cX12_numberAt, 3, (some .long)), (0, 0), ([(6, 0, 0), (0, 1, 0), (0, 22, 0)], gi_1800, [ac_1100, ac_1254], []), [((4, 48, 0), gi_1801, [(false, ac_1100), (false, ac_1254)], [], [1])])
theorem hd_2493 : con_2493.1 = (yX12_numberAt, cX12_numberAt, 3, (some .long)) := rfl
noncomputable def cu_2493 : List CUT2 := []
theorem ch_2493 : staG tb_X12_numberAt 1 bt_RX12 [] ct_2 [] [] cu_2493 11 con_2493 = true := by decide +kernel
theorem vl_2493 (l : Launch) : Vld2 l vwCl gTbl con_2493 := conR_ok3 gT_all (hd_2493) rfl pn_RX12 tk_X12_numberAt bo_RX12 xo_RX12 (cto_2 l) ch_2493 cut_nil
/-- RookHustingModel numberAt -/
noncomputable def ac_1255 : AC := .inr (2, jl_n [js_5 83 9223372036854775807 9223372036854775807, js_4 49 1, js_5 156 9223372036854775807 9223372036854775807])
noncomputable def con_2494 : Con2 := ((yX12_numberAt, cX12_numberAt, 3, (some .long)), (0, 0), ([(6, 0, 0), (0, 1, 0), (0, 23, 0)], gi_1800, [ac_1100, ac_1255], []), [((4, 48, 0), gi_1801, [(false, ac_1100), (false, ac_1255)], [], [1])])
theorem hd_2494 : con_2494.1 = (yX12_numberAt, cX12_numberAt, 3, (some .long)) := rfl
noncomputable def cu_2494 : List CUT2 := []
theorem ch_2494 : staG tb_X12_numberAt 1 bt_RX12 [] ct_2 [] [] cu_2494 11 con_2494 = true := by decide +kernel
theorem vl_2494 (l : Launch) : Vld2 l vwCl gTbl con_2494 := conR_ok3 gT_all (hd_2494) rfl pn_RX12 tk_X12_numberAt bo_RX12 xo_RX12 (cto_2 l) ch_2494 cut_nil
/-- RookHustingModel numberAt -/
noncomputable def ac_1256 : AC := .inr (2, jl_n [js_5 84 9223372036854775807 9223372036854775807, js_4 49 1, js_5 155 9223372036854775807 9223372036854775807])
noncomputable def con_2495 : Con2 := ((yX12_numberAt, cX12_numberAt, 3, (some .long)), (0, 0), ([(6, 0, 0), (0, 1, 0), (0, 24, 0)], gi_1800, [ac_1100, ac_1256], []), [((4, 48, 0), gi_1801, [(false, ac_1100), (false, ac_1256)], [], [1])])
theorem hd_2495 : con_2495.1 = (yX12_numberAt, cX12_numberAt, 3, (some .long)) := rfl
noncomputable def cu_2495 : List CUT2 := []
theorem ch_2495 : staG tb_X12_numberAt 1 bt_RX12 [] ct_2 [] [] cu_2495 11 con_2495 = true := by decide +kernel
theorem vl_2495 (l : Launch) : Vld2 l vwCl gTbl con_2495 := conR_ok3 gT_all (hd_2495) rfl pn_RX12 tk_X12_numberAt bo_RX12 xo_RX12 (cto_2 l) ch_2495 cut_nil
/-- RookHustingModel numberAt -/
noncomputable def ac_1257 : AC := .inr (2, jl_n [js_5 85 9223372036854775807 9223372036854775807, js_4 49 1, js_5 154 9223372036854775807 9223372036854775807])
noncomputable def con_2496 : Con2 := ((yX12_numberAt, cX12_numberAt, 3, (some .long)), (0, 0), ([(6, 0, 0), (0, 1, 0), (0, 25, 0)], gi_1800, [ac_1100, ac_1257], []), [((4, 48, 0), gi_1801, [(false, ac_1100), (false, ac_1257)], [], [1])])
theorem hd_2496 : con_2496.1 = (yX12_numberAt, cX12_numberAt, 3, (some .long)) := rfl
noncomputable def cu_2496 : List CUT2 := []
theorem ch_2496 : staG tb_X12_numberAt 1 bt_RX12 [] ct_2 [] [] cu_2496 11 con_2496 = true := by decide +kernel
theorem vl_2496 (l : Launch) : Vld2 l vwCl gTbl con_2496 := conR_ok3 gT_all (hd_2496) rfl pn_RX12 tk_X12_numberAt bo_RX12 xo_RX12 (cto_2 l) ch_2496 cut_nil
/-- RookHustingModel numberAt -/
noncomputable def ac_1258 : AC := .inr (2, jl_n [js_5 86 9223372036854775807 9223372036854775807, js_4 49 1, js_5 153 9223372036854775807 9223372036854775807])
noncomputable def con_2497 : Con2 := ((yX12_numberAt, cX12_numberAt, 3, (some .long)), (0, 0), ([(6, 0, 0), (0, 1, 0), (0, 26, 0)], gi_1800, [ac_1100, ac_1258], []), [((4, 48, 0), gi_1801, [(false, ac_1100), (false, ac_1258)], [], [1])])
theorem hd_2497 : con_2497.1 = (yX12_numberAt, cX12_numberAt, 3, (some .long)) := rfl
noncomputable def cu_2497 : List CUT2 := []
theorem ch_2497 : staG tb_X12_numberAt 1 bt_RX12 [] ct_2 [] [] cu_2497 11 con_2497 = true := by decide +kernel
theorem vl_2497 (l : Launch) : Vld2 l vwCl gTbl con_2497 := conR_ok3 gT_all (hd_2497) rfl pn_RX12 tk_X12_numberAt bo_RX12 xo_RX12 (cto_2 l) ch_2497 cut_nil
/-- RookHustingModel numberAt -/
noncomputable def ac_1259 : AC := .inr (2, jl_n [js_5 87 9223372036854775807 9223372036854775807, js_4 49 1, js_5 152 9223372036854775807 9223372036854775807])
noncomputable def con_2498 : Con2 := ((yX12_numberAt, cX12_numberAt, 3, (some .long)), (0, 0), ([(6, 0, 0), (0, 1, 0), (0, 27, 0)], gi_1800, [ac_1100, ac_1259], []), [((4, 48, 0), gi_1801, [(false, ac_1100), (false, ac_1259)], [], [1])])
theorem hd_2498 : con_2498.1 = (yX12_numberAt, cX12_numberAt, 3, (some .long)) := rfl
noncomputable def cu_2498 : List CUT2 := []
theorem ch_2498 : staG tb_X12_numberAt 1 bt_RX12 [] ct_2 [] [] cu_2498 11 con_2498 = true := by decide +kernel
theorem vl_2498 (l : Launch) : Vld2 l vwCl gTbl con_2498 := conR_ok3 gT_all (hd_2498) rfl pn_RX12 tk_X12_numberAt bo_RX12 xo_RX12 (cto_2 l) ch_2498 cut_nil
/-- RookHustingModel numberAt -/
noncomputable def ac_1260 : AC := .inr (2, jl_n [js_5 88 9223372036854775807 9223372036854775807, js_4 49 1, js_5 151 9223372036854775807 9223372036854775807])
noncomputable def con_2499 : Con2 := ((yX12_numberAt, cX12_numberAt, 3, (some .long)), (0, 0), ([(6, 0, 0), (0, 1, 0), (0, 28, 0)], gi_1800, [ac_1100, ac_1260], []), [((4, 48, 0), gi_1801, [(false, ac_1100), (false, ac_1260)], [], [1])])
theorem hd_2499 : con_2499.1 = (yX12_numberAt, cX12_numberAt, 3, (some .long)) := rfl
noncomputable def cu_2499 : List CUT2 := []
theorem ch_2499 : staG tb_X12_numberAt 1 bt_RX12 [] ct_2 [] [] cu_2499 11 con_2499 = true := by decide +kernel
theorem vl_2499 (l : Launch) : Vld2 l vwCl gTbl con_2499 := conR_ok3 gT_all (hd_2499) rfl pn_RX12 tk_X12_numberAt bo_RX12 xo_RX12 (cto_2 l) ch_2499 cut_nil
/-- RookHustingModel numberAt -/
noncomputable def ac_1261 : AC := .inr (2, jl_n [js_5 89 9223372036854775807 9223372036854775807, js_4 49 1, js_5 150 9223372036854775807 9223372036854775807])
noncomputable def con_2500 : Con2 := ((yX12_numberAt, cX12_numberAt, 3, (some .long)), (0, 0), ([(6, 0, 0), (0, 1, 0), (0, 29, 0)], gi_1800, [ac_1100, ac_1261], []), [((4, 48, 0), gi_1801, [(false, ac_1100), (false, ac_1261)], [], [1])])
theorem hd_2500 : con_2500.1 = (yX12_numberAt, cX12_numberAt, 3, (some .long)) := rfl
noncomputable def cu_2500 : List CUT2 := []
theorem ch_2500 : staG tb_X12_numberAt 1 bt_RX12 [] ct_2 [] [] cu_2500 11 con_2500 = true := by decide +kernel
theorem vl_2500 (l : Launch) : Vld2 l vwCl gTbl con_2500 := conR_ok3 gT_all (hd_2500) rfl pn_RX12 tk_X12_numberAt bo_RX12 xo_RX12 (cto_2 l) ch_2500 cut_nil
/-- RookHustingModel numberAt -/
noncomputable def ac_1262 : AC := .inr (2, jl_n [js_5 90 9223372036854775807 9223372036854775807, js_4 49 1, js_5 149 9223372036854775807 9223372036854775807])
noncomputable def con_2501 : Con2 := ((yX12_numberAt, cX12_numberAt, 3, (some .long)), (0, 0), ([(6, 0, 0), (0, 1, 0), (0, 30, 0)], gi_1800, [ac_1100, ac_1262], []), [((4, 48, 0), gi_1801, [(false, ac_1100), (false, ac_1262)], [], [1])])
theorem hd_2501 : con_2501.1 = (yX12_numberAt, cX12_numberAt, 3, (some .long)) := rfl
noncomputable def cu_2501 : List CUT2 := []
theorem ch_2501 : staG tb_X12_numberAt 1 bt_RX12 [] ct_2 [] [] cu_2501 11 con_2501 = true := by decide +kernel
theorem vl_2501 (l : Launch) : Vld2 l vwCl gTbl con_2501 := conR_ok3 gT_all (hd_2501) rfl pn_RX12 tk_X12_numberAt bo_RX12 xo_RX12 (cto_2 l) ch_2501 cut_nil
/-- RookHustingModel numberAt -/
noncomputable def ac_1263 : AC := .inr (2, jl_n [js_5 91 9223372036854775807 9223372036854775807, js_4 49 1, js_5 148 9223372036854775807 9223372036854775807])
noncomputable def con_2502 : Con2 := ((yX12_numberAt, cX12_numberAt, 3, (some .long)), (0, 0), ([(6, 0, 0), (0, 1, 0), (0, 31, 0)], gi_1800, [ac_1100, ac_1263], []), [((4, 48, 0), gi_1801, [(false, ac_1100), (false, ac_1263)], [], [1])])
theorem hd_2502 : con_2502.1 = (yX12_numberAt, cX12_numberAt, 3, (some .long)) := rfl
noncomputable def cu_2502 : List CUT2 := []
theorem ch_2502 : staG tb_X12_numberAt 1 bt_RX12 [] ct_2 [] [] cu_2502 11 con_2502 = true := by decide +kernel
theorem vl_2502 (l : Launch) : Vld2 l vwCl gTbl con_2502 := conR_ok3 gT_all (hd_2502) rfl pn_RX12 tk_X12_numberAt bo_RX12 xo_RX12 (cto_2 l) ch_2502 cut_nil
/-- RookHustingModel numberAt -/
noncomputable def ac_1264 : AC := .inr (2, jl_n [js_5 92 9223372036854775807 9223372036854775807, js_4 49 1, js_5 147 9223372036854775807 9223372036854775807])
noncomputable def con_2503 : Con2 := ((yX12_numberAt, cX12_numberAt, 3, (some .long)), (0, 0), ([(6, 0, 0), (0, 1, 0), (0, 32, 0)], gi_1800, [ac_1100, ac_1264], []), [((4, 48, 0), gi_1801, [(false, ac_1100), (false, ac_1264)], [], [1])])
theorem hd_2503 : con_2503.1 = (yX12_numberAt, cX12_numberAt, 3, (some .long)) := rfl
noncomputable def cu_2503 : List CUT2 := []
theorem ch_2503 : staG tb_X12_numberAt 1 bt_RX12 [] ct_2 [] [] cu_2503 11 con_2503 = true := by decide +kernel
theorem vl_2503 (l : Launch) : Vld2 l vwCl gTbl con_2503 := conR_ok3 gT_all (hd_2503) rfl pn_RX12 tk_X12_numberAt bo_RX12 xo_RX12 (cto_2 l) ch_2503 cut_nil
/-- RookHustingModel numberAt -/
noncomputable def ac_1265 : AC := .inr (2, jl_n [js_5 93 9223372036854775807 9223372036854775807, js_4 49 1, js_5 146 9223372036854775807 9223372036854775807])
noncomputable def con_2504 : Con2 := ((yX12_numberAt, cX12_numberAt, 3, (some .long)), (0, 0), ([(6, 0, 0), (0, 1, 0), (0, 33, 0)], gi_1800, [ac_1100, ac_1265], []), [((4, 48, 0), gi_1801, [(false, ac_1100), (false, ac_1265)], [], [1])])
theorem hd_2504 : con_2504.1 = (yX12_numberAt, cX12_numberAt, 3, (some .long)) := rfl
noncomputable def cu_2504 : List CUT2 := []
theorem ch_2504 : staG tb_X12_numberAt 1 bt_RX12 [] ct_2 [] [] cu_2504 11 con_2504 = true := by decide +kernel
theorem vl_2504 (l : Launch) : Vld2 l vwCl gTbl con_2504 := conR_ok3 gT_all (hd_2504) rfl pn_RX12 tk_X12_numberAt bo_RX12 xo_RX12 (cto_2 l) ch_2504 cut_nil
/-- RookHustingModel numberAt -/
noncomputable def ac_1266 : AC := .inr (2, jl_n [js_5 94 9223372036854775807 9223372036854775807, js_4 49 1, js_5 145 9223372036854775807 9223372036854775807])
noncomputable def con_2505 : Con2 := ((yX12_numberAt, cX12_numberAt, 3, (some .long)), (0, 0), ([(6, 0, 0), (0, 1, 0), (0, 34, 0)], gi_1800, [ac_1100, ac_1266], []), [((4, 48, 0), gi_1801, [(false, ac_1100), (false, ac_1266)], [], [1])])
theorem hd_2505 : con_2505.1 = (yX12_numberAt, cX12_numberAt, 3, (some .long)) := rfl
noncomputable def cu_2505 : List CUT2 := []
theorem ch_2505 : staG tb_X12_numberAt 1 bt_RX12 [] ct_2 [] [] cu_2505 11 con_2505 = true := by decide +kernel
theorem vl_2505 (l : Launch) : Vld2 l vwCl gTbl con_2505 := conR_ok3 gT_all (hd_2505) rfl pn_RX12 tk_X12_numberAt bo_RX12 xo_RX12 (cto_2 l) ch_2505 cut_nil
/-- RookHustingModel numberAt -/
noncomputable def ac_1267 : AC := .inr (2, jl_n [js_5 95 9223372036854775807 9223372036854775807, js_4 49 1, js_5 144 9223372036854775807 9223372036854775807])
noncomputable def con_2506 : Con2 := ((yX12_numberAt, cX12_numberAt, 3, (some .long)), (0, 0), ([(6, 0, 0), (0, 1, 0), (0, 35, 0)], gi_1800, [ac_1100, ac_1267], []), [((4, 48, 0), gi_1801, [(false, ac_1100), (false, ac_1267)], [], [1])])
theorem hd_2506 : con_2506.1 = (yX12_numberAt, cX12_numberAt, 3, (some .long)) := rfl
noncomputable def cu_2506 : List CUT2 := []
theorem ch_2506 : staG tb_X12_numberAt 1 bt_RX12 [] ct_2 [] [] cu_2506 11 con_2506 = true := by decide +kernel
theorem vl_2506 (l : Launch) : Vld2 l vwCl gTbl con_2506 := conR_ok3 gT_all (hd_2506) rfl pn_RX12 tk_X12_numberAt bo_RX12 xo_RX12 (cto_2 l) ch_2506 cut_nil
/-- RookHustingModel numberAt -/
noncomputable def ac_1268 : AC := .inr (2, jl_n [js_5 96 9223372036854775807 9223372036854775807, js_4 49 1, js_5 143 9223372036854775807 9223372036854775807])
noncomputable def con_2507 : Con2 := ((yX12_numberAt, cX12_numberAt, 3, (some .long)), (0, 0), ([(6, 0, 0), (0, 1, 0), (0, 36, 0)], gi_1800, [ac_1100, ac_1268], []), [((4, 48, 0), gi_1801, [(false, ac_1100), (false, ac_1268)], [], [1])])
theorem hd_2507 : con_2507.1 = (yX12_numberAt, cX12_numberAt, 3, (some .long)) := rfl
noncomputable def cu_2507 : List CUT2 := []
theorem ch_2507 : staG tb_X12_numberAt 1 bt_RX12 [] ct_2 [] [] cu_2507 11 con_2507 = true := by decide +kernel
theorem vl_2507 (l : Launch) : Vld2 l vwCl gTbl con_2507 := conR_ok3 gT_all (hd_2507) rfl pn_RX12 tk_X12_numberAt bo_RX12 xo_RX12 (cto_2 l) ch_2507 cut_nil
/-- RookHustingModel numberAt -/
noncomputable def ac_1269 : AC := .inr (2, jl_n [js_5 97 9223372036854775807 9223372036854775807, js_4 49 1, js_5 142 9223372036854775807 9223372036854775807])
noncomputable def con_2508 : Con2 := ((yX12_numberAt, cX12_numberAt, 3, (some .long)), (0, 0), ([(6, 0, 0), (0, 1, 0), (0, 37, 0)], gi_1800, [ac_1100, ac_1269], []), [((4, 48, 0), gi_1801, [(false, ac_1100), (false, ac_1269)], [], [1])])
theorem hd_2508 : con_2508.1 = (yX12_numberAt, cX12_numberAt, 3, (some .long)) := rfl
noncomputable def cu_2508 : List CUT2 := []
theorem ch_2508 : staG tb_X12_numberAt 1 bt_RX12 [] ct_2 [] [] cu_2508 11 con_2508 = true := by decide +kernel
theorem vl_2508 (l : Launch) : Vld2 l vwCl gTbl con_2508 := conR_ok3 gT_all (hd_2508) rfl pn_RX12 tk_X12_numberAt bo_RX12 xo_RX12 (cto_2 l) ch_2508 cut_nil
/-- RookHustingModel numberAt -/
noncomputable def ac_1270 : AC := .inr (2, jl_n [js_5 98 9223372036854775807 9223372036854775807, js_4 49 1, js_5 141 9223372036854775807 9223372036854775807])
noncomputable def con_2509 : Con2 := ((yX12_numberAt, cX12_numberAt, 3, (some .long)), (0, 0), ([(6, 0, 0), (0, 1, 0), (0, 38, 0)], gi_1800, [ac_1100, ac_1270], []), [((4, 48, 0), gi_1801, [(false, ac_1100), (false, ac_1270)], [], [1])])
theorem hd_2509 : con_2509.1 = (yX12_numberAt, cX12_numberAt, 3, (some .long)) := rfl
noncomputable def cu_2509 : List CUT2 := []
theorem ch_2509 : staG tb_X12_numberAt 1 bt_RX12 [] ct_2 [] [] cu_2509 11 con_2509 = true := by decide +kernel
theorem vl_2509 (l : Launch) : Vld2 l vwCl gTbl con_2509 := conR_ok3 gT_all (hd_2509) rfl pn_RX12 tk_X12_numberAt bo_RX12 xo_RX12 (cto_2 l) ch_2509 cut_nil
/-- RookHustingModel numberAt -/
noncomputable def ac_1271 : AC := .inr (2, jl_n [js_5 99 9223372036854775807 9223372036854775807, js_4 49 1, js_5 140 9223372036854775807 9223372036854775807])
noncomputable def con_2510 : Con2 := ((yX12_numberAt, cX12_numberAt, 3, (some .long)), (0, 0), ([(6, 0, 0), (0, 1, 0), (0, 39, 0)], gi_1800, [ac_1100, ac_1271], []), [((4, 48, 0), gi_1801, [(false, ac_1100), (false, ac_1271)], [], [1])])
theorem hd_2510 : con_2510.1 = (yX12_numberAt, cX12_numberAt, 3, (some .long)) := rfl
noncomputable def cu_2510 : List CUT2 := []
theorem ch_2510 : staG tb_X12_numberAt 1 bt_RX12 [] ct_2 [] [] cu_2510 11 con_2510 = true := by decide +kernel
theorem vl_2510 (l : Launch) : Vld2 l vwCl gTbl con_2510 := conR_ok3 gT_all (hd_2510) rfl pn_RX12 tk_X12_numberAt bo_RX12 xo_RX12 (cto_2 l) ch_2510 cut_nil
/-- RookHustingModel numberAt -/
noncomputable def ac_1272 : AC := .inr (2, jl_n [js_5 100 9223372036854775807 9223372036854775807, js_4 49 1, js_5 139 9223372036854775807 9223372036854775807])
noncomputable def con_2511 : Con2 := ((yX12_numberAt, cX12_numberAt, 3, (some .long)), (0, 0), ([(6, 0, 0), (0, 1, 0), (0, 40, 0)], gi_1800, [ac_1100, ac_1272], []), [((4, 48, 0), gi_1801, [(false, ac_1100), (false, ac_1272)], [], [1])])
theorem hd_2511 : con_2511.1 = (yX12_numberAt, cX12_numberAt, 3, (some .long)) := rfl
noncomputable def cu_2511 : List CUT2 := []
theorem ch_2511 : staG tb_X12_numberAt 1 bt_RX12 [] ct_2 [] [] cu_2511 11 con_2511 = true := by decide +kernel
theorem vl_2511 (l : Launch) : Vld2 l vwCl gTbl con_2511 := conR_ok3 gT_all (hd_2511) rfl pn_RX12 tk_X12_numberAt bo_RX12 xo_RX12 (cto_2 l) ch_2511 cut_nil
/-- RookHustingModel numberAt -/
noncomputable def ac_1273 : AC := .inr (2, jl_n [js_5 101 9223372036854775807 9223372036854775807, js_4 49 1, js_5 138 9223372036854775807 9223372036854775807])
noncomputable def con_2512 : Con2 := ((yX12_numberAt, cX12_numberAt, 3, (some .long)), (0, 0), ([(6, 0, 0), (0, 1, 0), (0, 41, 0)], gi_1800, [ac_1100, ac_1273], []), [((4, 48, 0), gi_1801, [(false, ac_1100), (false, ac_1273)], [], [1])])
theorem hd_2512 : con_2512.1 = (yX12_numberAt, cX12_numberAt, 3, (some .long)) := rfl
noncomputable def cu_2512 : List CUT2 := []
theorem ch_2512 : staG tb_X12_numberAt 1 bt_RX12 [] ct_2 [] [] cu_2512 11 con_2512 = true := by decide +kernel
theorem vl_2512 (l : Launch) : Vld2 l vwCl gTbl con_2512 := conR_ok3 gT_all (hd_2512) rfl pn_RX12 tk_X12_numberAt bo_RX12 xo_RX12 (cto_2 l) ch_2512 cut_nil
/-- RookHustingModel numberAt -/
noncomputable def ac_1274 : AC := .inr (2, jl_n [js_5 102 9223372036854775807 9223372036854775807, js_4 49 1, js_5 137 9223372036854775807 9223372036854775807])
noncomputable def con_2513 : Con2 := ((yX12_numberAt, cX12_numberAt, 3, (some .long)), (0, 0), ([(6, 0, 0), (0, 1, 0), (0, 42, 0)], gi_1800, [ac_1100, ac_1274], []), [((4, 48, 0), gi_1801, [(false, ac_1100), (false, ac_1274)], [], [1])])
theorem hd_2513 : con_2513.1 = (yX12_numberAt, cX12_numberAt, 3, (some .long)) := rfl
noncomputable def cu_2513 : List CUT2 := []
theorem ch_2513 : staG tb_X12_numberAt 1 bt_RX12 [] ct_2 [] [] cu_2513 11 con_2513 = true := by decide +kernel
theorem vl_2513 (l : Launch) : Vld2 l vwCl gTbl con_2513 := conR_ok3 gT_all (hd_2513) rfl pn_RX12 tk_X12_numberAt bo_RX12 xo_RX12 (cto_2 l) ch_2513 cut_nil
/-- RookHustingModel numberAt -/
noncomputable def ac_1275 : AC := .inr (2, jl_n [js_5 103 9223372036854775807 9223372036854775807, js_4 49 1, js_5 136 9223372036854775807 9223372036854775807])
noncomputable def con_2514 : Con2 := ((yX12_numberAt, cX12_numberAt, 3, (some .long)), (0, 0), ([(6, 0, 0), (0, 1, 0), (0, 43, 0)], gi_1800, [ac_1100, ac_1275], []), [((4, 48, 0), gi_1801, [(false, ac_1100), (false, ac_1275)], [], [1])])
theorem hd_2514 : con_2514.1 = (yX12_numberAt, cX12_numberAt, 3, (some .long)) := rfl
noncomputable def cu_2514 : List CUT2 := []
theorem ch_2514 : staG tb_X12_numberAt 1 bt_RX12 [] ct_2 [] [] cu_2514 11 con_2514 = true := by decide +kernel
theorem vl_2514 (l : Launch) : Vld2 l vwCl gTbl con_2514 := conR_ok3 gT_all (hd_2514) rfl pn_RX12 tk_X12_numberAt bo_RX12 xo_RX12 (cto_2 l) ch_2514 cut_nil
/-- RookHustingModel numberAt -/
noncomputable def ac_1276 : AC := .inr (2, jl_n [js_5 104 9223372036854775807 9223372036854775807, js_4 49 1, js_5 135 9223372036854775807 9223372036854775807])
noncomputable def con_2515 : Con2 := ((yX12_numberAt, cX12_numberAt, 3, (some .long)), (0, 0), ([(6, 0, 0), (0, 1, 0), (0, 44, 0)], gi_1800, [ac_1100, ac_1276], []), [((4, 48, 0), gi_1801, [(false, ac_1100), (false, ac_1276)], [], [1])])
theorem hd_2515 : con_2515.1 = (yX12_numberAt, cX12_numberAt, 3, (some .long)) := rfl
noncomputable def cu_2515 : List CUT2 := []
theorem ch_2515 : staG tb_X12_numberAt 1 bt_RX12 [] ct_2 [] [] cu_2515 11 con_2515 = true := by decide +kernel
theorem vl_2515 (l : Launch) : Vld2 l vwCl gTbl con_2515 := conR_ok3 gT_all (hd_2515) rfl pn_RX12 tk_X12_numberAt bo_RX12 xo_RX12 (cto_2 l) ch_2515 cut_nil
/-- RookHustingModel numberAt -/
noncomputable def ac_1277 : AC := .inr (2, jl_n [js_5 105 9223372036854775807 9223372036854775807, js_4 49 1, js_5 134 9223372036854775807 9223372036854775807])
noncomputable def con_2516 : Con2 := ((yX12_numberAt, cX12_numberAt, 3, (some .long)), (0, 0), ([(6, 0, 0), (0, 1, 0), (0, 45, 0)], gi_1800, [ac_1100, ac_1277], []), [((4, 48, 0), gi_1801, [(false, ac_1100), (false, ac_1277)], [], [1])])
theorem hd_2516 : con_2516.1 = (yX12_numberAt, cX12_numberAt, 3, (some .long)) := rfl
noncomputable def cu_2516 : List CUT2 := []
theorem ch_2516 : staG tb_X12_numberAt 1 bt_RX12 [] ct_2 [] [] cu_2516 11 con_2516 = true := by decide +kernel
theorem vl_2516 (l : Launch) : Vld2 l vwCl gTbl con_2516 := conR_ok3 gT_all (hd_2516) rfl pn_RX12 tk_X12_numberAt bo_RX12 xo_RX12 (cto_2 l) ch_2516 cut_nil
/-- RookHustingModel numberAt -/
noncomputable def ac_1278 : AC := .inr (2, jl_n [js_5 106 9223372036854775807 9223372036854775807, js_4 49 1, js_5 133 9223372036854775807 9223372036854775807])
noncomputable def con_2517 : Con2 := ((yX12_numberAt, cX12_numberAt, 3, (some .long)), (0, 0), ([(6, 0, 0), (0, 1, 0), (0, 46, 0)], gi_1800, [ac_1100, ac_1278], []), [((4, 48, 0), gi_1801, [(false, ac_1100), (false, ac_1278)], [], [1])])
theorem hd_2517 : con_2517.1 = (yX12_numberAt, cX12_numberAt, 3, (some .long)) := rfl
noncomputable def cu_2517 : List CUT2 := []
theorem ch_2517 : staG tb_X12_numberAt 1 bt_RX12 [] ct_2 [] [] cu_2517 11 con_2517 = true := by decide +kernel
theorem vl_2517 (l : Launch) : Vld2 l vwCl gTbl con_2517 := conR_ok3 gT_all (hd_2517) rfl pn_RX12 tk_X12_numberAt bo_RX12 xo_RX12 (cto_2 l) ch_2517 cut_nil
/-- RookHustingModel numberAt -/
noncomputable def ac_1279 : AC := .inr (2, jl_n [js_5 107 9223372036854775807 9223372036854775807, js_4 49 1, js_5 132 9223372036854775807 9223372036854775807])
noncomputable def con_2518 : Con2 := ((yX12_numberAt, cX12_numberAt, 3, (some .long)), (0, 0), ([(6, 0, 0), (0, 1, 0), (0, 47, 0)], gi_1800, [ac_1100, ac_1279], []), [((4, 48, 0), gi_1801, [(false, ac_1100), (false, ac_1279)], [], [1])])
theorem hd_2518 : con_2518.1 = (yX12_numberAt, cX12_numberAt, 3, (some .long)) := rfl
noncomputable def cu_2518 : List CUT2 := []
theorem ch_2518 : staG tb_X12_numberAt 1 bt_RX12 [] ct_2 [] [] cu_2518 11 con_2518 = true := by decide +kernel
theorem vl_2518 (l : Launch) : Vld2 l vwCl gTbl con_2518 := conR_ok3 gT_all (hd_2518) rfl pn_RX12 tk_X12_numberAt bo_RX12 xo_RX12 (cto_2 l) ch_2518 cut_nil
/-- RookHustingModel numberAt -/
noncomputable def ac_1280 : AC := .inr (2, jl_n [js_5 108 9223372036854775807 9223372036854775807, js_4 49 1, js_5 131 9223372036854775807 9223372036854775807])
noncomputable def con_2519 : Con2 := ((yX12_numberAt, cX12_numberAt, 3, (some .long)), (0, 0), ([(6, 0, 0), (0, 1, 0), (0, 48, 0)], gi_1800, [ac_1100, ac_1280], []), [((4, 48, 0), gi_1801, [(false, ac_1100), (false, ac_1280)], [], [1])])
theorem hd_2519 : con_2519.1 = (yX12_numberAt, cX12_numberAt, 3, (some .long)) := rfl
noncomputable def cu_2519 : List CUT2 := []
theorem ch_2519 : staG tb_X12_numberAt 1 bt_RX12 [] ct_2 [] [] cu_2519 11 con_2519 = true := by decide +kernel
theorem vl_2519 (l : Launch) : Vld2 l vwCl gTbl con_2519 := conR_ok3 gT_all (hd_2519) rfl pn_RX12 tk_X12_numberAt bo_RX12 xo_RX12 (cto_2 l) ch_2519 cut_nil
/-- RookHustingModel numberAt -/
noncomputable def ac_1281 : AC := .inr (2, jl_n [js_5 109 9223372036854775807 9223372036854775807, js_4 49 1, js_5 130 9223372036854775807 9223372036854775807])
noncomputable def con_2520 : Con2 := ((yX12_numberAt, cX12_numberAt, 3, (some .long)), (0, 0), ([(6, 0, 0), (0, 1, 0), (0, 49, 0)], gi_1800, [ac_1100, ac_1281], []), [((4, 48, 0), gi_1801, [(false, ac_1100), (false, ac_1281)], [], [1])])
theorem hd_2520 : con_2520.1 = (yX12_numberAt, cX12_numberAt, 3, (some .long)) := rfl
noncomputable def cu_2520 : List CUT2 := []
theorem ch_2520 : staG tb_X12_numberAt 1 bt_RX12 [] ct_2 [] [] cu_2520 11 con_2520 = true := by decide +kernel
theorem vl_2520 (l : Launch) : Vld2 l vwCl gTbl con_2520 := conR_ok3 gT_all (hd_2520) rfl pn_RX12 tk_X12_numberAt bo_RX12 xo_RX12 (cto_2 l) ch_2520 cut_nil
/-- RookHustingModel numberAt -/
noncomputable def ac_1282 : AC := .inr (2, jl_n [js_5 110 9223372036854775807 9223372036854775807, js_4 49 1, js_5 129 9223372036854775807 9223372036854775807])
noncomputable def con_2521 : Con2 := ((yX12_numberAt, cX12_numberAt, 3, (some .long)), (0, 0), ([(6, 0, 0), (0, 1, 0), (0, 50, 0)], gi_1800, [ac_1100, ac_1282], []), [((4, 48, 0), gi_1801, [(false, ac_1100), (false, ac_1282)], [], [1])])
theorem hd_2521 : con_2521.1 = (yX12_numberAt, cX12_numberAt, 3, (some .long)) := rfl
noncomputable def cu_2521 : List CUT2 := []
theorem ch_2521 : staG tb_X12_numberAt 1 bt_RX12 [] ct_2 [] [] cu_2521 11 con_2521 = true := by decide +kernel
theorem vl_2521 (l : Launch) : Vld2 l vwCl gTbl con_2521 := conR_ok3 gT_all (hd_2521) rfl pn_RX12 tk_X12_numberAt bo_RX12 xo_RX12 (cto_2 l) ch_2521 cut_nil
/-- RookHustingModel numberAt -/
noncomputable def ac_1283 : AC := .inr (2, jl_n [js_5 111 9223372036854775807 9223372036854775807, js_4 49 1, js_5 128 9223372036854775807 9223372036854775807])
noncomputable def con_2522 : Con2 := ((yX12_numberAt, cX12_numberAt, 3, (some .long)), (0, 0), ([(6, 0, 0), (0, 1, 0), (0, 51, 0)], gi_1800, [ac_1100, ac_1283], []), [((4, 48, 0), gi_1801, [(false, ac_1100), (false, ac_1283)], [], [1])])
theorem hd_2522 : con_2522.1 = (yX12_numberAt, cX12_numberAt, 3, (some .long)) := rfl
noncomputable def cu_2522 : List CUT2 := []
theorem ch_2522 : staG tb_X12_numberAt 1 bt_RX12 [] ct_2 [] [] cu_2522 11 con_2522 = true := by decide +kernel
theorem vl_2522 (l : Launch) : Vld2 l vwCl gTbl con_2522 := conR_ok3 gT_all (hd_2522) rfl pn_RX12 tk_X12_numberAt bo_RX12 xo_RX12 (cto_2 l) ch_2522 cut_nil
/-- RookHustingModel numberAt -/
noncomputable def ac_1284 : AC := .inr (2, jl_n [js_5 112 9223372036854775807 9223372036854775807, js_4 49 1, js_5 127 9223372036854775807 9223372036854775807])
noncomputable def con_2523 : Con2 := ((yX12_numberAt, cX12_numberAt, 3, (some .long)), (0, 0), ([(6, 0, 0), (0, 1, 0), (0, 52, 0)], gi_1800, [ac_1100, ac_1284], []), [((4, 48, 0), gi_1801, [(false, ac_1100), (false, ac_1284)], [], [1])])
theorem hd_2523 : con_2523.1 = (yX12_numberAt, cX12_numberAt, 3, (some .long)) := rfl
noncomputable def cu_2523 : List CUT2 := []
theorem ch_2523 : staG tb_X12_numberAt 1 bt_RX12 [] ct_2 [] [] cu_2523 11 con_2523 = true := by decide +kernel
theorem vl_2523 (l : Launch) : Vld2 l vwCl gTbl con_2523 := conR_ok3 gT_all (hd_2523) rfl pn_RX12 tk_X12_numberAt bo_RX12 xo_RX12 (cto_2 l) ch_2523 cut_nil
/-- RookHustingModel numberAt -/
noncomputable def ac_1285 : AC := .inr (2, jl_n [js_5 113 9223372036854775807 9223372036854775807, js_4 49 1, js_5 126 9223372036854775807 9223372036854775807])
noncomputable def con_2524 : Con2 := ((yX12_numberAt, cX12_numberAt, 3, (some .long)), (0, 0), ([(6, 0, 0), (0, 1, 0), (0, 53, 0)], gi_1800, [ac_1100, ac_1285], []), [((4, 48, 0), gi_1801, [(false, ac_1100), (false, ac_1285)], [], [1])])
theorem hd_2524 : con_2524.1 = (yX12_numberAt, cX12_numberAt, 3, (some .long)) := rfl
noncomputable def cu_2524 : List CUT2 := []
theorem ch_2524 : staG tb_X12_numberAt 1 bt_RX12 [] ct_2 [] [] cu_2524 11 con_2524 = true := by decide +kernel
theorem vl_2524 (l : Launch) : Vld2 l vwCl gTbl con_2524 := conR_ok3 gT_all (hd_2524) rfl pn_RX12 tk_X12_numberAt bo_RX12 xo_RX12 (cto_2 l) ch_2524 cut_nil
/-- RookHustingModel numberAt -/
noncomputable def ac_1286 : AC := .inr (2, jl_n [js_5 114 9223372036854775807 9223372036854775807, js_4 49 1, js_5 125 9223372036854775807 9223372036854775807])
noncomputable def con_2525 : Con2 := ((yX12_numberAt, cX12_numberAt, 3, (some .long)), (0, 0), ([(6, 0, 0), (0, 1, 0), (0, 54, 0)], gi_1800, [ac_1100, ac_1286], []), [((4, 48, 0), gi_1801, [(false, ac_1100), (false, ac_1286)], [], [1])])
theorem hd_2525 : con_2525.1 = (yX12_numberAt, cX12_numberAt, 3, (some .long)) := rfl
noncomputable def cu_2525 : List CUT2 := []
theorem ch_2525 : staG tb_X12_numberAt 1 bt_RX12 [] ct_2 [] [] cu_2525 11 con_2525 = true := by decide +kernel
theorem vl_2525 (l : Launch) : Vld2 l vwCl gTbl con_2525 := conR_ok3 gT_all (hd_2525) rfl pn_RX12 tk_X12_numberAt bo_RX12 xo_RX12 (cto_2 l) ch_2525 cut_nil
/-- RookHustingModel numberAt -/
noncomputable def ac_1287 : AC := .inr (2, jl_n [js_5 115 9223372036854775807 9223372036854775807, js_4 49 1, js_5 124 9223372036854775807 9223372036854775807])
noncomputable def con_2526 : Con2 := ((yX12_numberAt, cX12_numberAt, 3, (some .long)), (0, 0), ([(6, 0, 0), (0, 1, 0), (0, 55, 0)], gi_1800, [ac_1100, ac_1287], []), [((4, 48, 0), gi_1801, [(false, ac_1100), (false, ac_1287)], [], [1])])
theorem hd_2526 : con_2526.1 = (yX12_numberAt, cX12_numberAt, 3, (some .long)) := rfl
noncomputable def cu_2526 : List CUT2 := []
theorem ch_2526 : staG tb_X12_numberAt 1 bt_RX12 [] ct_2 [] [] cu_2526 11 con_2526 = true := by decide +kernel
theorem vl_2526 (l : Launch) : Vld2 l vwCl gTbl con_2526 := conR_ok3 gT_all (hd_2526) rfl pn_RX12 tk_X12_numberAt bo_RX12 xo_RX12 (cto_2 l) ch_2526 cut_nil
/-- RookHustingModel numberAt -/
noncomputable def ac_1288 : AC := .inr (2, jl_n [js_5 116 9223372036854775807 9223372036854775807, js_4 49 1, js_5 123 9223372036854775807 9223372036854775807])
noncomputable def con_2527 : Con2 := ((yX12_numberAt, cX12_numberAt, 3, (some .long)), (0, 0), ([(6, 0, 0), (0, 1, 0), (0, 56, 0)], gi_1800, [ac_1100, ac_1288], []), [((4, 48, 0), gi_1801, [(false, ac_1100), (false, ac_1288)], [], [1])])
theorem hd_2527 : con_2527.1 = (yX12_numberAt, cX12_numberAt, 3, (some .long)) := rfl
noncomputable def cu_2527 : List CUT2 := []
theorem ch_2527 : staG tb_X12_numberAt 1 bt_RX12 [] ct_2 [] [] cu_2527 11 con_2527 = true := by decide +kernel
theorem vl_2527 (l : Launch) : Vld2 l vwCl gTbl con_2527 := conR_ok3 gT_all (hd_2527) rfl pn_RX12 tk_X12_numberAt bo_RX12 xo_RX12 (cto_2 l) ch_2527 cut_nil
/-- RookHustingModel numberAt -/
noncomputable def ac_1289 : AC := .inr (2, jl_n [js_5 117 9223372036854775807 9223372036854775807, js_4 49 1, js_5 122 9223372036854775807 9223372036854775807])
noncomputable def con_2528 : Con2 := ((yX12_numberAt, cX12_numberAt, 3, (some .long)), (0, 0), ([(6, 0, 0), (0, 1, 0), (0, 57, 0)], gi_1800, [ac_1100, ac_1289], []), [((4, 48, 0), gi_1801, [(false, ac_1100), (false, ac_1289)], [], [1])])
theorem hd_2528 : con_2528.1 = (yX12_numberAt, cX12_numberAt, 3, (some .long)) := rfl
noncomputable def cu_2528 : List CUT2 := []
theorem ch_2528 : staG tb_X12_numberAt 1 bt_RX12 [] ct_2 [] [] cu_2528 11 con_2528 = true := by decide +kernel
theorem vl_2528 (l : Launch) : Vld2 l vwCl gTbl con_2528 := conR_ok3 gT_all (hd_2528) rfl pn_RX12 tk_X12_numberAt bo_RX12 xo_RX12 (cto_2 l) ch_2528 cut_nil
/-- RookHustingModel numberAt -/
noncomputable def ac_1290 : AC := .inr (2, jl_n [js_5 118 9223372036854775807 9223372036854775807, js_4 49 1, js_5 121 9223372036854775807 9223372036854775807])
noncomputable def con_2529 : Con2 := ((yX12_numberAt, cX12_numberAt, 3, (some .long)), (0, 0), ([(6, 0, 0), (0, 1, 0), (0, 58, 0)], gi_1800, [ac_1100, ac_1290], []), [((4, 48, 0), gi_1801, [(false, ac_1100), (false, ac_1290)], [], [1])])
theorem hd_2529 : con_2529.1 = (yX12_numberAt, cX12_numberAt, 3, (some .long)) := rfl
noncomputable def cu_2529 : List CUT2 := []
theorem ch_2529 : staG tb_X12_numberAt 1 bt_RX12 [] ct_2 [] [] cu_2529 11 con_2529 = true := by decide +kernel
theorem vl_2529 (l : Launch) : Vld2 l vwCl gTbl con_2529 := conR_ok3 gT_all (hd_2529) rfl pn_RX12 tk_X12_numberAt bo_RX12 xo_RX12 (cto_2 l) ch_2529 cut_nil
/-- RookHustingModel numberAt -/
noncomputable def ac_1291 : AC := .inr (2, jl_n [js_5 119 9223372036854775807 9223372036854775807, js_4 49 1, js_5 120 9223372036854775807 9223372036854775807])
noncomputable def con_2530 : Con2 := ((yX12_numberAt, cX12_numberAt, 3, (some .long)), (0, 0), ([(6, 0, 0), (0, 1, 0), (0, 59, 0)], gi_1800, [ac_1100, ac_1291], []), [((4, 48, 0), gi_1801, [(false, ac_1100), (false, ac_1291)], [], [1])])
theorem hd_2530 : con_2530.1 = (yX12_numberAt, cX12_numberAt, 3, (some .long)) := rfl
noncomputable def cu_2530 : List CUT2 := []
theorem ch_2530 : staG tb_X12_numberAt 1 bt_RX12 [] ct_2 [] [] cu_2530 11 con_2530 = true := by decide +kernel
theorem vl_2530 (l : Launch) : Vld2 l vwCl gTbl con_2530 := conR_ok3 gT_all (hd_2530) rfl pn_RX12 tk_X12_numberAt bo_RX12 xo_RX12 (cto_2 l) ch_2530 cut_nil
/-- RookHustingModel askSeen -/
noncomputable def ac_1292 : AC := .inr (2, jl_n [js_5 60 9223372036854775807 9223372036854775807, js_4 135 60, js_5 120 9223372036854775807 9223372036854775807])
noncomputable def hq_928 : HP := [(false, ac_1097), (false, ac_440), (false, ac_1098), (false, ac_1292)]
noncomputable def gi_2201 : GI := jl_n [gp_729, jl_m 0 60, jl_k 0 0, gp_530, jl_z 1]
noncomputable def gi_2202 : GI := jl_n [gp_729, gp_762, jl_z 1]
noncomputable def gi_2203 : GI := jl_n [gp_763, gp_533, jl_z 1]
noncomputable def gi_2204 : GI := jl_n [gp_763, gp_535, jl_z 1]
noncomputable def gi_2205 : GI := jl_n [gp_763, gp_537, jl_z 1]
noncomputable def gi_2206 : GI := jl_n [gp_763, gp_539, jl_z 1]
noncomputable def gi_2207 : GI := jl_n [gp_763, gp_542, jl_z 1]
noncomputable def gi_2208 : GI := jl_n [gp_763, gp_544, jl_z 1]
noncomputable def gi_2209 : GI := jl_n [gp_763, gp_546, jl_z 1]
noncomputable def gi_2210 : GI := jl_n [gp_763, gp_548, jl_z 1]
noncomputable def gi_2211 : GI := jl_n [gp_763, gp_550, jl_z 1]
noncomputable def gi_2212 : GI := jl_n [gp_763, gp_552, jl_z 1]
noncomputable def gi_2213 : GI := jl_n [gp_763, gp_554, jl_z 1]
noncomputable def gi_2214 : GI := jl_n [gp_763, gp_556, jl_z 1]
noncomputable def gi_2215 : GI := jl_n [gp_763, gp_558, jl_z 1]
noncomputable def gi_2216 : GI := jl_n [gp_763, gp_560, jl_z 1]
noncomputable def gi_2217 : GI := jl_n [gp_763, gp_562, jl_z 1]
noncomputable def gi_2218 : GI := jl_n [gp_763, gp_564, jl_z 1]
noncomputable def gi_2219 : GI := jl_n [gp_763, gp_566, jl_z 1]
noncomputable def gi_2220 : GI := jl_n [gp_763, gp_568, jl_z 1]
noncomputable def gi_2221 : GI := jl_n [gp_763, gp_569, jl_z 1]
noncomputable def gi_2222 : GI := jl_n [gp_763, gp_571, jl_z 1]
noncomputable def con_2531 : Con2 := ((yX12_askSeen, cX12_askSeen, 4, (some .int)), (2, 47), ([(6, 0, 0), (0, 1, 0), (1, 2, 0)], gi_1805, [ac_1097, ac_440, ac_1098, ac_1292], []), [((0, (-2), 0), gi_1806, hq_928, [], [1]), ((0, (-6), 0), gi_2201, hq_928, [], [1]), ((0, 0, 0), gi_2202, hq_928, [], [1]), ((0, 0, 0), gi_2203, hq_928, [], [1]), ((0, 0, 0), gi_2204, hq_928, [], [1]), ((0, 0, 0), gi_2205, hq_928, [], [1]), ((0, 0, 0), gi_2206, hq_928, [], [1]), ((0, 0, 0), gi_2207, hq_928, [], [1]), ((0, 0, 0), gi_2208, hq_928, [], [1]), ((0, 0, 0), gi_2209, hq_928, [], [1]), ((0, 0, 0), gi_2210, hq_928, [], [1]), ((0, 0, 0), gi_2211, hq_928, [], [1]), ((0, 0, 0), gi_2212, hq_928, [], [1]), ((0, 0, 0), gi_2213, hq_928, [], [1]), ((0, 0, 0), gi_2214, hq_928, [], [1]), ((0, 0, 0), gi_2215, hq_928, [], [1]), ((0, 0, 0), gi_2216, hq_928, [], [1]), ((0, 0, 0), gi_2217, hq_928, [], [1]), ((0, 0, 0), gi_2218, hq_928, [], [1]), ((0, 0, 0), gi_2219, hq_928, [], [1]), ((0, 0, 0), gi_2220, hq_928, [], [1]), ((0, 0, 0), gi_2221, hq_928, [], [1]), ((0, 0, 0), gi_2222, hq_928, [], [1])])
theorem hd_2531 : con_2531.1 = (yX12_askSeen, cX12_askSeen, 4, (some .int)) := rfl
theorem ck_RX12_417_2473 : COK2 RX12 vwCl gTbl 417 0 con_2473 := ⟨wd_2061, wd_137, mh_X12_numberAt, .inr (.inr ⟨rfl, wd_2058, wd_2060, wd_114, ⟨_, rfl, pd_X12_numberAt⟩, 12, _, TX12, 45, rfl, rfl⟩)⟩
theorem ck_RX12_417_2476 : COK2 RX12 vwCl gTbl 417 0 con_2476 := ⟨wd_2061, wd_137, mh_X12_numberAt, .inr (.inr ⟨rfl, wd_2058, wd_2060, wd_114, ⟨_, rfl, pd_X12_numberAt⟩, 12, _, TX12, 45, rfl, rfl⟩)⟩
theorem ck_RX12_417_2479 : COK2 RX12 vwCl gTbl 417 0 con_2479 := ⟨wd_2061, wd_137, mh_X12_numberAt, .inr (.inr ⟨rfl, wd_2058, wd_2060, wd_114, ⟨_, rfl, pd_X12_numberAt⟩, 12, _, TX12, 45, rfl, rfl⟩)⟩
theorem ck_RX12_417_2482 : COK2 RX12 vwCl gTbl 417 0 con_2482 := ⟨wd_2061, wd_137, mh_X12_numberAt, .inr (.inr ⟨rfl, wd_2058, wd_2060, wd_114, ⟨_, rfl, pd_X12_numberAt⟩, 12, _, TX12, 45, rfl, rfl⟩)⟩
theorem ck_RX12_417_2485 : COK2 RX12 vwCl gTbl 417 0 con_2485 := ⟨wd_2061, wd_137, mh_X12_numberAt, .inr (.inr ⟨rfl, wd_2058, wd_2060, wd_114, ⟨_, rfl, pd_X12_numberAt⟩, 12, _, TX12, 45, rfl, rfl⟩)⟩
theorem ck_RX12_417_2488 : COK2 RX12 vwCl gTbl 417 0 con_2488 := ⟨wd_2061, wd_137, mh_X12_numberAt, .inr (.inr ⟨rfl, wd_2058, wd_2060, wd_114, ⟨_, rfl, pd_X12_numberAt⟩, 12, _, TX12, 45, rfl, rfl⟩)⟩
theorem ck_RX12_417_2491 : COK2 RX12 vwCl gTbl 417 0 con_2491 := ⟨wd_2061, wd_137, mh_X12_numberAt, .inr (.inr ⟨rfl, wd_2058, wd_2060, wd_114, ⟨_, rfl, pd_X12_numberAt⟩, 12, _, TX12, 45, rfl, rfl⟩)⟩
theorem ck_RX12_417_2494 : COK2 RX12 vwCl gTbl 417 0 con_2494 := ⟨wd_2061, wd_137, mh_X12_numberAt, .inr (.inr ⟨rfl, wd_2058, wd_2060, wd_114, ⟨_, rfl, pd_X12_numberAt⟩, 12, _, TX12, 45, rfl, rfl⟩)⟩
theorem ck_RX12_417_2497 : COK2 RX12 vwCl gTbl 417 0 con_2497 := ⟨wd_2061, wd_137, mh_X12_numberAt, .inr (.inr ⟨rfl, wd_2058, wd_2060, wd_114, ⟨_, rfl, pd_X12_numberAt⟩, 12, _, TX12, 45, rfl, rfl⟩)⟩
theorem ck_RX12_417_2500 : COK2 RX12 vwCl gTbl 417 0 con_2500 := ⟨wd_2061, wd_137, mh_X12_numberAt, .inr (.inr ⟨rfl, wd_2058, wd_2060, wd_114, ⟨_, rfl, pd_X12_numberAt⟩, 12, _, TX12, 45, rfl, rfl⟩)⟩
theorem ck_RX12_417_2503 : COK2 RX12 vwCl gTbl 417 0 con_2503 := ⟨wd_2061, wd_137, mh_X12_numberAt, .inr (.inr ⟨rfl, wd_2058, wd_2060, wd_114, ⟨_, rfl, pd_X12_numberAt⟩, 12, _, TX12, 45, rfl, rfl⟩)⟩
theorem ck_RX12_417_2506 : COK2 RX12 vwCl gTbl 417 0 con_2506 := ⟨wd_2061, wd_137, mh_X12_numberAt, .inr (.inr ⟨rfl, wd_2058, wd_2060, wd_114, ⟨_, rfl, pd_X12_numberAt⟩, 12, _, TX12, 45, rfl, rfl⟩)⟩
theorem ck_RX12_417_2509 : COK2 RX12 vwCl gTbl 417 0 con_2509 := ⟨wd_2061, wd_137, mh_X12_numberAt, .inr (.inr ⟨rfl, wd_2058, wd_2060, wd_114, ⟨_, rfl, pd_X12_numberAt⟩, 12, _, TX12, 45, rfl, rfl⟩)⟩
theorem ck_RX12_417_2512 : COK2 RX12 vwCl gTbl 417 0 con_2512 := ⟨wd_2061, wd_137, mh_X12_numberAt, .inr (.inr ⟨rfl, wd_2058, wd_2060, wd_114, ⟨_, rfl, pd_X12_numberAt⟩, 12, _, TX12, 45, rfl, rfl⟩)⟩
theorem ck_RX12_417_2515 : COK2 RX12 vwCl gTbl 417 0 con_2515 := ⟨wd_2061, wd_137, mh_X12_numberAt, .inr (.inr ⟨rfl, wd_2058, wd_2060, wd_114, ⟨_, rfl, pd_X12_numberAt⟩, 12, _, TX12, 45, rfl, rfl⟩)⟩
theorem ck_RX12_417_2518 : COK2 RX12 vwCl gTbl 417 0 con_2518 := ⟨wd_2061, wd_137, mh_X12_numberAt, .inr (.inr ⟨rfl, wd_2058, wd_2060, wd_114, ⟨_, rfl, pd_X12_numberAt⟩, 12, _, TX12, 45, rfl, rfl⟩)⟩
theorem ck_RX12_417_2521 : COK2 RX12 vwCl gTbl 417 0 con_2521 := ⟨wd_2061, wd_137, mh_X12_numberAt, .inr (.inr ⟨rfl, wd_2058, wd_2060, wd_114, ⟨_, rfl, pd_X12_numberAt⟩, 12, _, TX12, 45, rfl, rfl⟩)⟩
theorem ck_RX12_417_2524 : COK2 RX12 vwCl gTbl 417 0 con_2524 := ⟨wd_2061, wd_137, mh_X12_numberAt, .inr (.inr ⟨rfl, wd_2058, wd_2060, wd_114, ⟨_, rfl, pd_X12_numberAt⟩, 12, _, TX12, 45, rfl, rfl⟩)⟩
theorem ck_RX12_417_2527 : COK2 RX12 vwCl gTbl 417 0 con_2527 := ⟨wd_2061, wd_137, mh_X12_numberAt, .inr (.inr ⟨rfl, wd_2058, wd_2060, wd_114, ⟨_, rfl, pd_X12_numberAt⟩, 12, _, TX12, 45, rfl, rfl⟩)⟩
theorem ck_RX12_417_2530 : COK2 RX12 vwCl gTbl 417 0 con_2530 := ⟨wd_2061, wd_137, mh_X12_numberAt, .inr (.inr ⟨rfl, wd_2058, wd_2060, wd_114, ⟨_, rfl, pd_X12_numberAt⟩, 12, _, TX12, 45, rfl, rfl⟩)⟩
theorem ck_RX12_417_2472 : COK2 RX12 vwCl gTbl 417 0 con_2472 := ⟨wd_2061, wd_137, mh_X12_numberAt, .inr (.inr ⟨rfl, wd_2058, wd_2060, wd_114, ⟨_, rfl, pd_X12_numberAt⟩, 12, _, TX12, 45, rfl, rfl⟩)⟩
theorem ck_RX12_417_2475 : COK2 RX12 vwCl gTbl 417 0 con_2475 := ⟨wd_2061, wd_137, mh_X12_numberAt, .inr (.inr ⟨rfl, wd_2058, wd_2060, wd_114, ⟨_, rfl, pd_X12_numberAt⟩, 12, _, TX12, 45, rfl, rfl⟩)⟩
theorem ck_RX12_417_2478 : COK2 RX12 vwCl gTbl 417 0 con_2478 := ⟨wd_2061, wd_137, mh_X12_numberAt, .inr (.inr ⟨rfl, wd_2058, wd_2060, wd_114, ⟨_, rfl, pd_X12_numberAt⟩, 12, _, TX12, 45, rfl, rfl⟩)⟩
theorem ck_RX12_417_2481 : COK2 RX12 vwCl gTbl 417 0 con_2481 := ⟨wd_2061, wd_137, mh_X12_numberAt, .inr (.inr ⟨rfl, wd_2058, wd_2060, wd_114, ⟨_, rfl, pd_X12_numberAt⟩, 12, _, TX12, 45, rfl, rfl⟩)⟩
theorem ck_RX12_417_2484 : COK2 RX12 vwCl gTbl 417 0 con_2484 := ⟨wd_2061, wd_137, mh_X12_numberAt, .inr (.inr ⟨rfl, wd_2058, wd_2060, wd_114, ⟨_, rfl, pd_X12_numberAt⟩, 12, _, TX12, 45, rfl, rfl⟩)⟩
theorem ck_RX12_417_2487 : COK2 RX12 vwCl gTbl 417 0 con_2487 := ⟨wd_2061, wd_137, mh_X12_numberAt, .inr (.inr ⟨rfl, wd_2058, wd_2060, wd_114, ⟨_, rfl, pd_X12_numberAt⟩, 12, _, TX12, 45, rfl, rfl⟩)⟩
theorem ck_RX12_417_2490 : COK2 RX12 vwCl gTbl 417 0 con_2490 := ⟨wd_2061, wd_137, mh_X12_numberAt, .inr (.inr ⟨rfl, wd_2058, wd_2060, wd_114, ⟨_, rfl, pd_X12_numberAt⟩, 12, _, TX12, 45, rfl, rfl⟩)⟩
theorem ck_RX12_417_2493 : COK2 RX12 vwCl gTbl 417 0 con_2493 := ⟨wd_2061, wd_137, mh_X12_numberAt, .inr (.inr ⟨rfl, wd_2058, wd_2060, wd_114, ⟨_, rfl, pd_X12_numberAt⟩, 12, _, TX12, 45, rfl, rfl⟩)⟩
theorem ck_RX12_417_2496 : COK2 RX12 vwCl gTbl 417 0 con_2496 := ⟨wd_2061, wd_137, mh_X12_numberAt, .inr (.inr ⟨rfl, wd_2058, wd_2060, wd_114, ⟨_, rfl, pd_X12_numberAt⟩, 12, _, TX12, 45, rfl, rfl⟩)⟩
theorem ck_RX12_417_2499 : COK2 RX12 vwCl gTbl 417 0 con_2499 := ⟨wd_2061, wd_137, mh_X12_numberAt, .inr (.inr ⟨rfl, wd_2058, wd_2060, wd_114, ⟨_, rfl, pd_X12_numberAt⟩, 12, _, TX12, 45, rfl, rfl⟩)⟩
theorem ck_RX12_417_2502 : COK2 RX12 vwCl gTbl 417 0 con_2502 := ⟨wd_2061, wd_137, mh_X12_numberAt, .inr (.inr ⟨rfl, wd_2058, wd_2060, wd_114, ⟨_, rfl, pd_X12_numberAt⟩, 12, _, TX12, 45, rfl, rfl⟩)⟩
theorem ck_RX12_417_2505 : COK2 RX12 vwCl gTbl 417 0 con_2505 := ⟨wd_2061, wd_137, mh_X12_numberAt, .inr (.inr ⟨rfl, wd_2058, wd_2060, wd_114, ⟨_, rfl, pd_X12_numberAt⟩, 12, _, TX12, 45, rfl, rfl⟩)⟩
theorem ck_RX12_417_2508 : COK2 RX12 vwCl gTbl 417 0 con_2508 := ⟨wd_2061, wd_137, mh_X12_numberAt, .inr (.inr ⟨rfl, wd_2058, wd_2060, wd_114, ⟨_, rfl, pd_X12_numberAt⟩, 12, _, TX12, 45, rfl, rfl⟩)⟩
theorem ck_RX12_417_2511 : COK2 RX12 vwCl gTbl 417 0 con_2511 := ⟨wd_2061, wd_137, mh_X12_numberAt, .inr (.inr ⟨rfl, wd_2058, wd_2060, wd_114, ⟨_, rfl, pd_X12_numberAt⟩, 12, _, TX12, 45, rfl, rfl⟩)⟩
theorem ck_RX12_417_2514 : COK2 RX12 vwCl gTbl 417 0 con_2514 := ⟨wd_2061, wd_137, mh_X12_numberAt, .inr (.inr ⟨rfl, wd_2058, wd_2060, wd_114, ⟨_, rfl, pd_X12_numberAt⟩, 12, _, TX12, 45, rfl, rfl⟩)⟩
theorem ck_RX12_417_2517 : COK2 RX12 vwCl gTbl 417 0 con_2517 := ⟨wd_2061, wd_137, mh_X12_numberAt, .inr (.inr ⟨rfl, wd_2058, wd_2060, wd_114, ⟨_, rfl, pd_X12_numberAt⟩, 12, _, TX12, 45, rfl, rfl⟩)⟩
theorem ck_RX12_417_2520 : COK2 RX12 vwCl gTbl 417 0 con_2520 := ⟨wd_2061, wd_137, mh_X12_numberAt, .inr (.inr ⟨rfl, wd_2058, wd_2060, wd_114, ⟨_, rfl, pd_X12_numberAt⟩, 12, _, TX12, 45, rfl, rfl⟩)⟩
theorem ck_RX12_417_2523 : COK2 RX12 vwCl gTbl 417 0 con_2523 := ⟨wd_2061, wd_137, mh_X12_numberAt, .inr (.inr ⟨rfl, wd_2058, wd_2060, wd_114, ⟨_, rfl, pd_X12_numberAt⟩, 12, _, TX12, 45, rfl, rfl⟩)⟩
theorem ck_RX12_417_2526 : COK2 RX12 vwCl gTbl 417 0 con_2526 := ⟨wd_2061, wd_137, mh_X12_numberAt, .inr (.inr ⟨rfl, wd_2058, wd_2060, wd_114, ⟨_, rfl, pd_X12_numberAt⟩, 12, _, TX12, 45, rfl, rfl⟩)⟩
theorem ck_RX12_417_2529 : COK2 RX12 vwCl gTbl 417 0 con_2529 := ⟨wd_2061, wd_137, mh_X12_numberAt, .inr (.inr ⟨rfl, wd_2058, wd_2060, wd_114, ⟨_, rfl, pd_X12_numberAt⟩, 12, _, TX12, 45, rfl, rfl⟩)⟩
theorem ck_RX12_417_2471 : COK2 RX12 vwCl gTbl 417 0 con_2471 := ⟨wd_2061, wd_137, mh_X12_numberAt, .inr (.inr ⟨rfl, wd_2058, wd_2060, wd_114, ⟨_, rfl, pd_X12_numberAt⟩, 12, _, TX12, 45, rfl, rfl⟩)⟩
theorem ck_RX12_417_2474 : COK2 RX12 vwCl gTbl 417 0 con_2474 := ⟨wd_2061, wd_137, mh_X12_numberAt, .inr (.inr ⟨rfl, wd_2058, wd_2060, wd_114, ⟨_, rfl, pd_X12_numberAt⟩, 12, _, TX12, 45, rfl, rfl⟩)⟩
theorem ck_RX12_417_2477 : COK2 RX12 vwCl gTbl 417 0 con_2477 := ⟨wd_2061, wd_137, mh_X12_numberAt, .inr (.inr ⟨rfl, wd_2058, wd_2060, wd_114, ⟨_, rfl, pd_X12_numberAt⟩, 12, _, TX12, 45, rfl, rfl⟩)⟩
theorem ck_RX12_417_2480 : COK2 RX12 vwCl gTbl 417 0 con_2480 := ⟨wd_2061, wd_137, mh_X12_numberAt, .inr (.inr ⟨rfl, wd_2058, wd_2060, wd_114, ⟨_, rfl, pd_X12_numberAt⟩, 12, _, TX12, 45, rfl, rfl⟩)⟩
theorem ck_RX12_417_2483 : COK2 RX12 vwCl gTbl 417 0 con_2483 := ⟨wd_2061, wd_137, mh_X12_numberAt, .inr (.inr ⟨rfl, wd_2058, wd_2060, wd_114, ⟨_, rfl, pd_X12_numberAt⟩, 12, _, TX12, 45, rfl, rfl⟩)⟩
theorem ck_RX12_417_2486 : COK2 RX12 vwCl gTbl 417 0 con_2486 := ⟨wd_2061, wd_137, mh_X12_numberAt, .inr (.inr ⟨rfl, wd_2058, wd_2060, wd_114, ⟨_, rfl, pd_X12_numberAt⟩, 12, _, TX12, 45, rfl, rfl⟩)⟩
theorem ck_RX12_417_2489 : COK2 RX12 vwCl gTbl 417 0 con_2489 := ⟨wd_2061, wd_137, mh_X12_numberAt, .inr (.inr ⟨rfl, wd_2058, wd_2060, wd_114, ⟨_, rfl, pd_X12_numberAt⟩, 12, _, TX12, 45, rfl, rfl⟩)⟩
theorem ck_RX12_417_2492 : COK2 RX12 vwCl gTbl 417 0 con_2492 := ⟨wd_2061, wd_137, mh_X12_numberAt, .inr (.inr ⟨rfl, wd_2058, wd_2060, wd_114, ⟨_, rfl, pd_X12_numberAt⟩, 12, _, TX12, 45, rfl, rfl⟩)⟩
theorem ck_RX12_417_2495 : COK2 RX12 vwCl gTbl 417 0 con_2495 := ⟨wd_2061, wd_137, mh_X12_numberAt, .inr (.inr ⟨rfl, wd_2058, wd_2060, wd_114, ⟨_, rfl, pd_X12_numberAt⟩, 12, _, TX12, 45, rfl, rfl⟩)⟩
theorem ck_RX12_417_2498 : COK2 RX12 vwCl gTbl 417 0 con_2498 := ⟨wd_2061, wd_137, mh_X12_numberAt, .inr (.inr ⟨rfl, wd_2058, wd_2060, wd_114, ⟨_, rfl, pd_X12_numberAt⟩, 12, _, TX12, 45, rfl, rfl⟩)⟩
theorem ck_RX12_417_2501 : COK2 RX12 vwCl gTbl 417 0 con_2501 := ⟨wd_2061, wd_137, mh_X12_numberAt, .inr (.inr ⟨rfl, wd_2058, wd_2060, wd_114, ⟨_, rfl, pd_X12_numberAt⟩, 12, _, TX12, 45, rfl, rfl⟩)⟩
theorem ck_RX12_417_2504 : COK2 RX12 vwCl gTbl 417 0 con_2504 := ⟨wd_2061, wd_137, mh_X12_numberAt, .inr (.inr ⟨rfl, wd_2058, wd_2060, wd_114, ⟨_, rfl, pd_X12_numberAt⟩, 12, _, TX12, 45, rfl, rfl⟩)⟩
theorem ck_RX12_417_2507 : COK2 RX12 vwCl gTbl 417 0 con_2507 := ⟨wd_2061, wd_137, mh_X12_numberAt, .inr (.inr ⟨rfl, wd_2058, wd_2060, wd_114, ⟨_, rfl, pd_X12_numberAt⟩, 12, _, TX12, 45, rfl, rfl⟩)⟩
theorem ck_RX12_417_2510 : COK2 RX12 vwCl gTbl 417 0 con_2510 := ⟨wd_2061, wd_137, mh_X12_numberAt, .inr (.inr ⟨rfl, wd_2058, wd_2060, wd_114, ⟨_, rfl, pd_X12_numberAt⟩, 12, _, TX12, 45, rfl, rfl⟩)⟩
theorem ck_RX12_417_2513 : COK2 RX12 vwCl gTbl 417 0 con_2513 := ⟨wd_2061, wd_137, mh_X12_numberAt, .inr (.inr ⟨rfl, wd_2058, wd_2060, wd_114, ⟨_, rfl, pd_X12_numberAt⟩, 12, _, TX12, 45, rfl, rfl⟩)⟩
theorem ck_RX12_417_2516 : COK2 RX12 vwCl gTbl 417 0 con_2516 := ⟨wd_2061, wd_137, mh_X12_numberAt, .inr (.inr ⟨rfl, wd_2058, wd_2060, wd_114, ⟨_, rfl, pd_X12_numberAt⟩, 12, _, TX12, 45, rfl, rfl⟩)⟩
theorem ck_RX12_417_2519 : COK2 RX12 vwCl gTbl 417 0 con_2519 := ⟨wd_2061, wd_137, mh_X12_numberAt, .inr (.inr ⟨rfl, wd_2058, wd_2060, wd_114, ⟨_, rfl, pd_X12_numberAt⟩, 12, _, TX12, 45, rfl, rfl⟩)⟩
theorem ck_RX12_417_2522 : COK2 RX12 vwCl gTbl 417 0 con_2522 := ⟨wd_2061, wd_137, mh_X12_numberAt, .inr (.inr ⟨rfl, wd_2058, wd_2060, wd_114, ⟨_, rfl, pd_X12_numberAt⟩, 12, _, TX12, 45, rfl, rfl⟩)⟩
theorem ck_RX12_417_2525 : COK2 RX12 vwCl gTbl 417 0 con_2525 := ⟨wd_2061, wd_137, mh_X12_numberAt, .inr (.inr ⟨rfl, wd_2058, wd_2060, wd_114, ⟨_, rfl, pd_X12_numberAt⟩, 12, _, TX12, 45, rfl, rfl⟩)⟩
theorem ck_RX12_417_2528 : COK2 RX12 vwCl gTbl 417 0 con_2528 := ⟨wd_2061, wd_137, mh_X12_numberAt, .inr (.inr ⟨rfl, wd_2058, wd_2060, wd_114, ⟨_, rfl, pd_X12_numberAt⟩, 12, _, TX12, 45, rfl, rfl⟩)⟩
theorem ck_RX12_414_2470 : COK2 RX12 vwCl gTbl 414 1 con_2470 := ⟨wd_2057, wd_137, mh_X12_isSlot, .inl ⟨rfl, wd_2055, wd_2056, pd_X12_isSlot⟩⟩
noncomputable def ct_2531 : CTB2 := [(1, 414, 1, con_2470, []), (10, 109, 0, con_651, [0, 1]), (62, 417, 0, con_2528, [0, 3]), (62, 417, 0, con_2525, [0, 3]), (62, 417, 0, con_2522, [0, 3]), (62, 417, 0, con_2519, [0, 3]), (62, 417, 0, con_2516, [0, 3]), (62, 417, 0, con_2513, [0, 3]), (62, 417, 0, con_2510, [0, 3]), (62, 417, 0, con_2507, [0, 3]), (62, 417, 0, con_2504, [0, 3]), (62, 417, 0, con_2501, [0, 3]), (62, 417, 0, con_2498, [0, 3]), (62, 417, 0, con_2495, [0, 3]), (62, 417, 0, con_2492, [0, 3]), (62, 417, 0, con_2489, [0, 3]), (62, 417, 0, con_2486, [0, 3]), (62, 417, 0, con_2483, [0, 3]), (62, 417, 0, con_2480, [0, 3]), (62, 417, 0, con_2477, [0, 3]), (62, 417, 0, con_2474, [0, 3]), (62, 417, 0, con_2471, [0, 3]), (65, 109, 0, con_2176, [0, 1]), (77, 417, 0, con_2529, [0, 3]), (77, 417, 0, con_2526, [0, 3]), (77, 417, 0, con_2523, [0, 3]), (77, 417, 0, con_2520, [0, 3]), (77, 417, 0, con_2517, [0, 3]), (77, 417, 0, con_2514, [0, 3]), (77, 417, 0, con_2511, [0, 3]), (77, 417, 0, con_2508, [0, 3]), (77, 417, 0, con_2505, [0, 3]), (77, 417, 0, con_2502, [0, 3]), (77, 417, 0, con_2499, [0, 3]), (77, 417, 0, con_2496, [0, 3]), (77, 417, 0, con_2493, [0, 3]), (77, 417, 0, con_2490, [0, 3]), (77, 417, 0, con_2487, [0, 3]), (77, 417, 0, con_2484, [0, 3]), (77, 417, 0, con_2481, [0, 3]), (77, 417, 0, con_2478, [0, 3]), (77, 417, 0, con_2475, [0, 3]), (77, 417, 0, con_2472, [0, 3]), (80, 369, 0, con_2178, [0, 1]), (91, 417, 0, con_2530, [0, 3]), (91, 417, 0, con_2527, [0, 3]), (91, 417, 0, con_2524, [0, 3]), (91, 417, 0, con_2521, [0, 3]), (91, 417, 0, con_2518, [0, 3]), (91, 417, 0, con_2515, [0, 3]), (91, 417, 0, con_2512, [0, 3]), (91, 417, 0, con_2509, [0, 3]), (91, 417, 0, con_2506, [0, 3]), (91, 417, 0, con_2503, [0, 3]), (91, 417, 0, con_2500, [0, 3]), (91, 417, 0, con_2497, [0, 3]), (91, 417, 0, con_2494, [0, 3]), (91, 417, 0, con_2491, [0, 3]), (91, 417, 0, con_2488, [0, 3]), (91, 417, 0, con_2485, [0, 3]), (91, 417, 0, con_2482, [0, 3]), (91, 417, 0, con_2479, [0, 3]), (91, 417, 0, con_2476, [0, 3]), (91, 417, 0, con_2473, [0, 3]), (98, 91, 1, con_2180, [])]
noncomputable def gi_2223 : GI := jl_n [gp_729, gp_528, gp_530, jl_z 4]
noncomputable def gi_2224 : GI := jl_n [gp_763, jl_i 1 60, gp_545, jl_z 4]
noncomputable def gi_2225 : GI := jl_n [gp_763, jl_i 4 60, gp_567, jl_z 4]
noncomputable def gi_2226 : GI := jl_n [gp_763, jl_i 7 60, gp_570, jl_z 4]
noncomputable def gi_2227 : GI := jl_n [gp_763, jl_i 10 60, gp_532, jl_z 4]
noncomputable def gi_2228 : GI := jl_n [gp_763, jl_i 13 60, gp_534, jl_z 4]
noncomputable def gi_2229 : GI := jl_n [gp_763, jl_i 16 60, gp_536, jl_z 4]
noncomputable def gi_2230 : GI := jl_n [gp_763, jl_i 19 60, gp_538, jl_z 4]
noncomputable def gi_2231 : GI := jl_n [gp_763, jl_i 22 60, gp_541, jl_z 4]
noncomputable def gi_2232 : GI := jl_n [gp_763, jl_i 25 60, gp_543, jl_z 4]
noncomputable def gi_2233 : GI := jl_n [gp_763, jl_i 28 60, gp_547, jl_z 4]
noncomputable def gi_2234 : GI := jl_n [gp_763, jl_i 31 60, gp_549, jl_z 4]
noncomputable def gi_2235 : GI := jl_n [gp_763, jl_i 34 60, gp_551, jl_z 4]
noncomputable def gi_2236 : GI := jl_n [gp_763, jl_i 37 60, gp_553, jl_z 4]
noncomputable def gi_2237 : GI := jl_n [gp_763, jl_i 40 60, gp_555, jl_z 4]
noncomputable def gi_2238 : GI := jl_n [gp_763, jl_i 43 60, gp_557, jl_z 4]
noncomputable def gi_2239 : GI := jl_n [gp_763, jl_i 46 60, gp_559, jl_z 4]
noncomputable def gi_2240 : GI := jl_n [gp_763, jl_i 49 60, gp_561, jl_z 4]
noncomputable def gi_2241 : GI := jl_n [gp_763, jl_i 52 60, gp_563, jl_z 4]
noncomputable def gi_2242 : GI := jl_n [gp_763, jl_i 55 60, jl_r 2 (jl_m 0 60), gp_735]
noncomputable def gi_2243 : GI := jl_n [gp_763, gp_569, jl_z 4]
noncomputable def cu_2531_0 : List CUT2 := [((48, [lq 0 6 0, lq 1 0 1, lq 2 1 2, lq 3 0 0], [], gi_2223, hq_928), [], ([], 60)), ((48, [lq 0 6 0, lq 1 0 1, lq 2 1 2, lq 3 0 3], [], gi_2224, hq_928), [], ([], 57)), ((48, [lq 0 6 0, lq 1 0 1, lq 2 1 2, lq 3 0 6], [], gi_2225, hq_928), [], ([], 54)), ((48, [lq 0 6 0, lq 1 0 1, lq 2 1 2, lq 3 0 9], [], gi_2226, hq_928), [], ([], 51)), ((48, [lq 0 6 0, lq 1 0 1, lq 2 1 2, lq 3 0 12], [], gi_2227, hq_928), [], ([], 48)), ((48, [lq 0 6 0, lq 1 0 1, lq 2 1 2, lq 3 0 15], [], gi_2228, hq_928), [], ([], 45)), ((48, [lq 0 6 0, lq 1 0 1, lq 2 1 2, lq 3 0 18], [], gi_2229, hq_928), [], ([], 42)), ((48, [lq 0 6 0, lq 1 0 1, lq 2 1 2, lq 3 0 21], [], gi_2230, hq_928), [], ([], 39)), ((48, [lq 0 6 0, lq 1 0 1, lq 2 1 2, lq 3 0 24], [], gi_2231, hq_928), [], ([], 36)), ((48, [lq 0 6 0, lq 1 0 1, lq 2 1 2, lq 3 0 27], [], gi_2232, hq_928), [], ([], 33)), ((48, [lq 0 6 0, lq 1 0 1, lq 2 1 2, lq 3 0 30], [], gi_2233, hq_928), [], ([], 30)), ((48, [lq 0 6 0, lq 1 0 1, lq 2 1 2, lq 3 0 33], [], gi_2234, hq_928), [], ([], 27)), ((48, [lq 0 6 0, lq 1 0 1, lq 2 1 2, lq 3 0 36], [], gi_2235, hq_928), [], ([], 24))]
noncomputable def cu_2531_1 : List CUT2 := [((48, [lq 0 6 0, lq 1 0 1, lq 2 1 2, lq 3 0 39], [], gi_2236, hq_928), [], ([], 21)), ((48, [lq 0 6 0, lq 1 0 1, lq 2 1 2, lq 3 0 42], [], gi_2237, hq_928), [], ([], 18)), ((48, [lq 0 6 0, lq 1 0 1, lq 2 1 2, lq 3 0 45], [], gi_2238, hq_928), [], ([], 15)), ((48, [lq 0 6 0, lq 1 0 1, lq 2 1 2, lq 3 0 48], [], gi_2239, hq_928), [], ([], 12)), ((48, [lq 0 6 0, lq 1 0 1, lq 2 1 2, lq 3 0 51], [], gi_2240, hq_928), [], ([], 9)), ((48, [lq 0 6 0, lq 1 0 1, lq 2 1 2, lq 3 0 54], [], gi_2241, hq_928), [], ([], 6)), ((48, [lq 0 6 0, lq 1 0 1, lq 2 1 2, lq 3 0 57], [], gi_2242, hq_928), [], ([], 3)), ((48, [lq 0 6 0, lq 1 0 1, lq 2 1 2, lq 3 0 60], [], gi_2243, hq_928), [], ([], 0))]
noncomputable def cu_2531 : List CUT2 := cu_2531_0 ++ (cu_2531_1)
theorem ch_2531 : staG tb_X12_askSeen 1 bt_RX12 [] ct_2531 [] [] cu_2531 37 con_2531 = true := by decide +kernel
theorem cc_2531_0 : cu_2531_0.all (cutG tb_X12_askSeen 1 bt_RX12 [] ct_2531 [] [] cu_2531 37 con_2531) = true := by decide +kernel
theorem cc_2531_1 : cu_2531_1.all (cutG tb_X12_askSeen 1 bt_RX12 [] ct_2531 [] [] cu_2531 37 con_2531) = true := by decide +kernel
theorem cto_2531 (l : Launch) : CTOK2 l RX12 vwCl gTbl ct_2531 := ct2_cons (vl_2470 l) ck_RX12_414_2470 (ct2_cons (vl_651 l) ck_RX12_109_651 (ct2_cons (vl_2528 l) ck_RX12_417_2528 (ct2_cons (vl_2525 l) ck_RX12_417_2525 (ct2_cons (vl_2522 l) ck_RX12_417_2522 (ct2_cons (vl_2519 l) ck_RX12_417_2519 (ct2_cons (vl_2516 l) ck_RX12_417_2516 (ct2_cons (vl_2513 l) ck_RX12_417_2513 (ct2_cons (vl_2510 l) ck_RX12_417_2510 (ct2_cons (vl_2507 l) ck_RX12_417_2507 (ct2_cons (vl_2504 l) ck_RX12_417_2504 (ct2_cons (vl_2501 l) ck_RX12_417_2501 (ct2_cons (vl_2498 l) ck_RX12_417_2498 (ct2_cons (vl_2495 l) ck_RX12_417_2495 (ct2_cons (vl_2492 l) ck_RX12_417_2492 (ct2_cons (vl_2489 l) ck_RX12_417_2489 (ct2_cons (vl_2486 l) ck_RX12_417_2486 (ct2_cons (vl_2483 l) ck_RX12_417_2483 (ct2_cons (vl_2480 l) ck_RX12_417_2480 (ct2_cons (vl_2477 l) ck_RX12_417_2477 (ct2_cons (vl_2474 l) ck_RX12_417_2474 (ct2_cons (vl_2471 l) ck_RX12_417_2471 (ct2_cons (vl_2176 l) ck_RX12_109_2176 (ct2_cons (vl_2529 l) ck_RX12_417_2529 (ct2_cons (vl_2526 l) ck_RX12_417_2526 (ct2_cons (vl_2523 l) ck_RX12_417_2523 (ct2_cons (vl_2520 l) ck_RX12_417_2520 (ct2_cons (vl_2517 l) ck_RX12_417_2517 (ct2_cons (vl_2514 l) ck_RX12_417_2514 (ct2_cons (vl_2511 l) ck_RX12_417_2511 (ct2_cons (vl_2508 l) ck_RX12_417_2508 (ct2_cons (vl_2505 l) ck_RX12_417_2505 (ct2_cons (vl_2502 l) ck_RX12_417_2502 (ct2_cons (vl_2499 l) ck_RX12_417_2499 (ct2_cons (vl_2496 l) ck_RX12_417_2496 (ct2_cons (vl_2493 l) ck_RX12_417_2493 (ct2_cons (vl_2490 l) ck_RX12_417_2490 (ct2_cons (vl_2487 l) ck_RX12_417_2487 (ct2_cons (vl_2484 l) ck_RX12_417_2484 (ct2_cons (vl_2481 l) ck_RX12_417_2481 (ct2_cons (vl_2478 l) ck_RX12_417_2478 (ct2_cons (vl_2475 l) ck_RX12_417_2475 (ct2_cons (vl_2472 l) ck_RX12_417_2472 (ct2_cons (vl_2178 l) ck_RX12_369_2178 (ct2_cons (vl_2530 l) ck_RX12_417_2530 (ct2_cons (vl_2527 l) ck_RX12_417_2527 (ct2_cons (vl_2524 l) ck_RX12_417_2524 (ct2_cons (vl_2521 l) ck_RX12_417_2521 (ct2_cons (vl_2518 l) ck_RX12_417_2518 (ct2_cons (vl_2515 l) ck_RX12_417_2515 (ct2_cons (vl_2512 l) ck_RX12_417_2512 (ct2_cons (vl_2509 l) ck_RX12_417_2509 (ct2_cons (vl_2506 l) ck_RX12_417_2506 (ct2_cons (vl_2503 l) ck_RX12_417_2503 (ct2_cons (vl_2500 l) ck_RX12_417_2500 (ct2_cons (vl_2497 l) ck_RX12_417_2497 (ct2_cons (vl_2494 l) ck_RX12_417_2494 (ct2_cons (vl_2491 l) ck_RX12_417_2491 (ct2_cons (vl_2488 l) ck_RX12_417_2488 (ct2_cons (vl_2485 l) ck_RX12_417_2485 (ct2_cons (vl_2482 l) ck_RX12_417_2482 (ct2_cons (vl_2479 l) ck_RX12_417_2479 (ct2_cons (vl_2476 l) ck_RX12_417_2476 (ct2_cons (vl_2473 l) ck_RX12_417_2473 (ct2_cons (vl_2180 l) ck_RX12_91_2180 (ct2_nil)))))))))))))))))))))))))))))))))))))))))))))))))))))))))))))))))
theorem vl_2531 (l : Launch) : Vld2 l vwCl gTbl con_2531 := conR_ok3 gT_all (hd_2531) rfl pn_RX12 tk_X12_askSeen bo_RX12 xo_RX12 (cto_2531 l) ch_2531 (cut_app (cut_all cc_2531_0) (cut_all cc_2531_1))
/-- RookHustingModel numberAt -/
noncomputable def con_2532 : Con2 := ((yX12_numberAt, cX12_numberAt, 3, (some .long)), (0, 0), ([(6, 0, 0), (0, 1, 0), (0, 1, 0)], gi_1850, [ac_1100, ac_1233], []), [((4, 48, 0), gi_1851, [(false, ac_1100), (false, ac_1233)], [], [1])])
theorem hd_2532 : con_2532.1 = (yX12_numberAt, cX12_numberAt, 3, (some .long)) := rfl
noncomputable def cu_2532 : List CUT2 := []
theorem ch_2532 : staG tb_X12_numberAt 1 bt_RX12 [] ct_2 [] [] cu_2532 11 con_2532 = true := by decide +kernel
theorem vl_2532 (l : Launch) : Vld2 l vwCl gTbl con_2532 := conR_ok3 gT_all (hd_2532) rfl pn_RX12 tk_X12_numberAt bo_RX12 xo_RX12 (cto_2 l) ch_2532 cut_nil
/-- RookHustingModel numberAt -/
noncomputable def con_2533 : Con2 := ((yX12_numberAt, cX12_numberAt, 3, (some .long)), (0, 0), ([(6, 0, 0), (0, 1, 0), (0, 0, 0)], gi_1852, [ac_1100, ac_1232], []), [((4, 48, 0), gi_1853, [(false, ac_1100), (false, ac_1232)], [], [1])])
theorem hd_2533 : con_2533.1 = (yX12_numberAt, cX12_numberAt, 3, (some .long)) := rfl
noncomputable def cu_2533 : List CUT2 := []
theorem ch_2533 : staG tb_X12_numberAt 1 bt_RX12 [] ct_2 [] [] cu_2533 11 con_2533 = true := by decide +kernel
theorem vl_2533 (l : Launch) : Vld2 l vwCl gTbl con_2533 := conR_ok3 gT_all (hd_2533) rfl pn_RX12 tk_X12_numberAt bo_RX12 xo_RX12 (cto_2 l) ch_2533 cut_nil
/-- RookHustingModel numberAt -/
noncomputable def con_2534 : Con2 := ((yX12_numberAt, cX12_numberAt, 3, (some .long)), (0, 0), ([(6, 0, 0), (0, 1, 0), (0, 2, 0)], gi_1854, [ac_1100, ac_1234], []), [((4, 48, 0), gi_1855, [(false, ac_1100), (false, ac_1234)], [], [1])])
theorem hd_2534 : con_2534.1 = (yX12_numberAt, cX12_numberAt, 3, (some .long)) := rfl
noncomputable def cu_2534 : List CUT2 := []
theorem ch_2534 : staG tb_X12_numberAt 1 bt_RX12 [] ct_2 [] [] cu_2534 11 con_2534 = true := by decide +kernel
theorem vl_2534 (l : Launch) : Vld2 l vwCl gTbl con_2534 := conR_ok3 gT_all (hd_2534) rfl pn_RX12 tk_X12_numberAt bo_RX12 xo_RX12 (cto_2 l) ch_2534 cut_nil
/-- RookHustingModel numberAt -/
noncomputable def con_2535 : Con2 := ((yX12_numberAt, cX12_numberAt, 3, (some .long)), (0, 0), ([(6, 0, 0), (0, 1, 0), (0, 4, 0)], gi_1850, [ac_1100, ac_1236], []), [((4, 48, 0), gi_1851, [(false, ac_1100), (false, ac_1236)], [], [1])])
theorem hd_2535 : con_2535.1 = (yX12_numberAt, cX12_numberAt, 3, (some .long)) := rfl
noncomputable def cu_2535 : List CUT2 := []
theorem ch_2535 : staG tb_X12_numberAt 1 bt_RX12 [] ct_2 [] [] cu_2535 11 con_2535 = true := by decide +kernel
theorem vl_2535 (l : Launch) : Vld2 l vwCl gTbl con_2535 := conR_ok3 gT_all (hd_2535) rfl pn_RX12 tk_X12_numberAt bo_RX12 xo_RX12 (cto_2 l) ch_2535 cut_nil
/-- RookHustingModel numberAt -/
noncomputable def con_2536 : Con2 := ((yX12_numberAt, cX12_numberAt, 3, (some .long)), (0, 0), ([(6, 0, 0), (0, 1, 0), (0, 3, 0)], gi_1852, [ac_1100, ac_1235], []), [((4, 48, 0), gi_1853, [(false, ac_1100), (false, ac_1235)], [], [1])])
theorem hd_2536 : con_2536.1 = (yX12_numberAt, cX12_numberAt, 3, (some .long)) := rfl
noncomputable def cu_2536 : List CUT2 := []
theorem ch_2536 : staG tb_X12_numberAt 1 bt_RX12 [] ct_2 [] [] cu_2536 11 con_2536 = true := by decide +kernel
theorem vl_2536 (l : Launch) : Vld2 l vwCl gTbl con_2536 := conR_ok3 gT_all (hd_2536) rfl pn_RX12 tk_X12_numberAt bo_RX12 xo_RX12 (cto_2 l) ch_2536 cut_nil
/-- RookHustingModel numberAt -/
noncomputable def con_2537 : Con2 := ((yX12_numberAt, cX12_numberAt, 3, (some .long)), (0, 0), ([(6, 0, 0), (0, 1, 0), (0, 5, 0)], gi_1854, [ac_1100, ac_1237], []), [((4, 48, 0), gi_1855, [(false, ac_1100), (false, ac_1237)], [], [1])])
theorem hd_2537 : con_2537.1 = (yX12_numberAt, cX12_numberAt, 3, (some .long)) := rfl
noncomputable def cu_2537 : List CUT2 := []
theorem ch_2537 : staG tb_X12_numberAt 1 bt_RX12 [] ct_2 [] [] cu_2537 11 con_2537 = true := by decide +kernel
theorem vl_2537 (l : Launch) : Vld2 l vwCl gTbl con_2537 := conR_ok3 gT_all (hd_2537) rfl pn_RX12 tk_X12_numberAt bo_RX12 xo_RX12 (cto_2 l) ch_2537 cut_nil
/-- RookHustingModel numberAt -/
noncomputable def con_2538 : Con2 := ((yX12_numberAt, cX12_numberAt, 3, (some .long)), (0, 0), ([(6, 0, 0), (0, 1, 0), (0, 7, 0)], gi_1850, [ac_1100, ac_1239], []), [((4, 48, 0), gi_1851, [(false, ac_1100), (false, ac_1239)], [], [1])])
theorem hd_2538 : con_2538.1 = (yX12_numberAt, cX12_numberAt, 3, (some .long)) := rfl
noncomputable def cu_2538 : List CUT2 := []
theorem ch_2538 : staG tb_X12_numberAt 1 bt_RX12 [] ct_2 [] [] cu_2538 11 con_2538 = true := by decide +kernel
theorem vl_2538 (l : Launch) : Vld2 l vwCl gTbl con_2538 := conR_ok3 gT_all (hd_2538) rfl pn_RX12 tk_X12_numberAt bo_RX12 xo_RX12 (cto_2 l) ch_2538 cut_nil
/-- RookHustingModel numberAt -/
noncomputable def con_2539 : Con2 := ((yX12_numberAt, cX12_numberAt, 3, (some .long)), (0, 0), ([(6, 0, 0), (0, 1, 0), (0, 6, 0)], gi_1852, [ac_1100, ac_1238], []), [((4, 48, 0), gi_1853, [(false, ac_1100), (false, ac_1238)], [], [1])])
theorem hd_2539 : con_2539.1 = (yX12_numberAt, cX12_numberAt, 3, (some .long)) := rfl
noncomputable def cu_2539 : List CUT2 := []
theorem ch_2539 : staG tb_X12_numberAt 1 bt_RX12 [] ct_2 [] [] cu_2539 11 con_2539 = true := by decide +kernel
theorem vl_2539 (l : Launch) : Vld2 l vwCl gTbl con_2539 := conR_ok3 gT_all (hd_2539) rfl pn_RX12 tk_X12_numberAt bo_RX12 xo_RX12 (cto_2 l) ch_2539 cut_nil
/-- RookHustingModel numberAt -/
noncomputable def con_2540 : Con2 := ((yX12_numberAt, cX12_numberAt, 3, (some .long)), (0, 0), ([(6, 0, 0), (0, 1, 0), (0, 8, 0)], gi_1854, [ac_1100, ac_1240], []), [((4, 48, 0), gi_1855, [(false, ac_1100), (false, ac_1240)], [], [1])])
theorem hd_2540 : con_2540.1 = (yX12_numberAt, cX12_numberAt, 3, (some .long)) := rfl
noncomputable def cu_2540 : List CUT2 := []
theorem ch_2540 : staG tb_X12_numberAt 1 bt_RX12 [] ct_2 [] [] cu_2540 11 con_2540 = true := by decide +kernel
theorem vl_2540 (l : Launch) : Vld2 l vwCl gTbl con_2540 := conR_ok3 gT_all (hd_2540) rfl pn_RX12 tk_X12_numberAt bo_RX12 xo_RX12 (cto_2 l) ch_2540 cut_nil
/-- RookHustingModel isSeen -/
noncomputable def gi_2244 : GI := jl_n [gp_764, gp_571]
noncomputable def ac_1293 : AC := .inr (2, jl_n [js_5 60 9223372036854775807 9223372036854775807, js_4 111 60, js_5 120 9223372036854775807 9223372036854775807])
noncomputable def hc_221 : List AC := [ac_1162, ac_1163, ac_1293, am_0]
noncomputable def gi_2245 : GI := jl_n [gp_764, gp_571, jl_z 1]
noncomputable def hq_929 : HP := [(false, ac_1162), (false, ac_1163), (false, ac_1293), (false, am_0)]
noncomputable def con_2541 : Con2 := ((yX12_isSeen, cX12_isSeen, 3, (some .boolean)), (1, 22), ([(6, 0, 0), (0, 1, 0)], gi_2244, hc_221, []), [((0, 0, 0), gi_2245, hq_929, [], [1]), ((0, 1, 0), gi_2245, hq_929, [], [1])])
theorem hd_2541 : con_2541.1 = (yX12_isSeen, cX12_isSeen, 3, (some .boolean)) := rfl
theorem ck_RX12_417_2534 : COK2 RX12 vwCl gTbl 417 0 con_2534 := ⟨wd_2061, wd_137, mh_X12_numberAt, .inr (.inr ⟨rfl, wd_2058, wd_2060, wd_114, ⟨_, rfl, pd_X12_numberAt⟩, 12, _, TX12, 45, rfl, rfl⟩)⟩
theorem ck_RX12_417_2537 : COK2 RX12 vwCl gTbl 417 0 con_2537 := ⟨wd_2061, wd_137, mh_X12_numberAt, .inr (.inr ⟨rfl, wd_2058, wd_2060, wd_114, ⟨_, rfl, pd_X12_numberAt⟩, 12, _, TX12, 45, rfl, rfl⟩)⟩
theorem ck_RX12_417_2540 : COK2 RX12 vwCl gTbl 417 0 con_2540 := ⟨wd_2061, wd_137, mh_X12_numberAt, .inr (.inr ⟨rfl, wd_2058, wd_2060, wd_114, ⟨_, rfl, pd_X12_numberAt⟩, 12, _, TX12, 45, rfl, rfl⟩)⟩
theorem ck_RX12_417_2533 : COK2 RX12 vwCl gTbl 417 0 con_2533 := ⟨wd_2061, wd_137, mh_X12_numberAt, .inr (.inr ⟨rfl, wd_2058, wd_2060, wd_114, ⟨_, rfl, pd_X12_numberAt⟩, 12, _, TX12, 45, rfl, rfl⟩)⟩
theorem ck_RX12_417_2536 : COK2 RX12 vwCl gTbl 417 0 con_2536 := ⟨wd_2061, wd_137, mh_X12_numberAt, .inr (.inr ⟨rfl, wd_2058, wd_2060, wd_114, ⟨_, rfl, pd_X12_numberAt⟩, 12, _, TX12, 45, rfl, rfl⟩)⟩
theorem ck_RX12_417_2539 : COK2 RX12 vwCl gTbl 417 0 con_2539 := ⟨wd_2061, wd_137, mh_X12_numberAt, .inr (.inr ⟨rfl, wd_2058, wd_2060, wd_114, ⟨_, rfl, pd_X12_numberAt⟩, 12, _, TX12, 45, rfl, rfl⟩)⟩
theorem ck_RX12_417_2532 : COK2 RX12 vwCl gTbl 417 0 con_2532 := ⟨wd_2061, wd_137, mh_X12_numberAt, .inr (.inr ⟨rfl, wd_2058, wd_2060, wd_114, ⟨_, rfl, pd_X12_numberAt⟩, 12, _, TX12, 45, rfl, rfl⟩)⟩
theorem ck_RX12_417_2535 : COK2 RX12 vwCl gTbl 417 0 con_2535 := ⟨wd_2061, wd_137, mh_X12_numberAt, .inr (.inr ⟨rfl, wd_2058, wd_2060, wd_114, ⟨_, rfl, pd_X12_numberAt⟩, 12, _, TX12, 45, rfl, rfl⟩)⟩
theorem ck_RX12_417_2538 : COK2 RX12 vwCl gTbl 417 0 con_2538 := ⟨wd_2061, wd_137, mh_X12_numberAt, .inr (.inr ⟨rfl, wd_2058, wd_2060, wd_114, ⟨_, rfl, pd_X12_numberAt⟩, 12, _, TX12, 45, rfl, rfl⟩)⟩
noncomputable def ct_2541 : CTB2 := [(22, 417, 0, con_2538, [0, 2]), (22, 417, 0, con_2535, [0, 2]), (22, 417, 0, con_2532, [0, 2]), (30, 417, 0, con_2539, [0, 2]), (30, 417, 0, con_2536, [0, 2]), (30, 417, 0, con_2533, [0, 2]), (42, 417, 0, con_2540, [0, 2]), (42, 417, 0, con_2537, [0, 2]), (42, 417, 0, con_2534, [0, 2])]
noncomputable def gi_2246 : GI := jl_n [gp_764, gp_571, jl_z 3]
noncomputable def cu_2541 : List CUT2 := [((2, [lq 0 6 0, lq 1 0 1, lq 2 0 0], [], gi_2246, hq_929), [], ([], 9)), ((2, [lq 0 6 0, lq 1 0 1, lq 2 0 3], [], gi_2246, hq_929), [], ([], 6)), ((2, [lq 0 6 0, lq 1 0 1, lq 2 0 6], [], gi_2246, hq_929), [], ([], 3)), ((2, [lq 0 6 0, lq 1 0 1, lq 2 0 9], [], gi_2246, hq_929), [], ([], 0))]
theorem ch_2541 : staG tb_X12_isSeen 1 bt_RX12 [] ct_2541 [] [] cu_2541 37 con_2541 = true := by decide +kernel
theorem cc_2541 : cu_2541.all (cutG tb_X12_isSeen 1 bt_RX12 [] ct_2541 [] [] cu_2541 37 con_2541) = true := by decide +kernel
theorem cto_2541 (l : Launch) : CTOK2 l RX12 vwCl gTbl ct_2541 := ct2_cons (vl_2538 l) ck_RX12_417_2538 (ct2_cons (vl_2535 l) ck_RX12_417_2535 (ct2_cons (vl_2532 l) ck_RX12_417_2532 (ct2_cons (vl_2539 l) ck_RX12_417_2539 (ct2_cons (vl_2536 l) ck_RX12_417_2536 (ct2_cons (vl_2533 l) ck_RX12_417_2533 (ct2_cons (vl_2540 l) ck_RX12_417_2540 (ct2_cons (vl_2537 l) ck_RX12_417_2537 (ct2_cons (vl_2534 l) ck_RX12_417_2534 (ct2_nil)))))))))
theorem vl_2541 (l : Launch) : Vld2 l vwCl gTbl con_2541 := conR_ok3 gT_all (hd_2541) rfl pn_RX12 tk_X12_isSeen bo_RX12 xo_RX12 (cto_2541 l) ch_2541 (cut_all cc_2541)
/-- RookHustingModel numberAt -/
noncomputable def con_2542 : Con2 := ((yX12_numberAt, cX12_numberAt, 3, (some .long)), (0, 0), ([(6, 0, 0), (0, 1, 0), (0, 10, 0)], gi_1850, [ac_1100, ac_1242], []), [((4, 48, 0), gi_1851, [(false, ac_1100), (false, ac_1242)], [], [1])])
theorem hd_2542 : con_2542.1 = (yX12_numberAt, cX12_numberAt, 3, (some .long)) := rfl
noncomputable def cu_2542 : List CUT2 := []
theorem ch_2542 : staG tb_X12_numberAt 1 bt_RX12 [] ct_2 [] [] cu_2542 11 con_2542 = true := by decide +kernel
theorem vl_2542 (l : Launch) : Vld2 l vwCl gTbl con_2542 := conR_ok3 gT_all (hd_2542) rfl pn_RX12 tk_X12_numberAt bo_RX12 xo_RX12 (cto_2 l) ch_2542 cut_nil
/-- RookHustingModel numberAt -/
noncomputable def con_2543 : Con2 := ((yX12_numberAt, cX12_numberAt, 3, (some .long)), (0, 0), ([(6, 0, 0), (0, 1, 0), (0, 9, 0)], gi_1852, [ac_1100, ac_1241], []), [((4, 48, 0), gi_1853, [(false, ac_1100), (false, ac_1241)], [], [1])])
theorem hd_2543 : con_2543.1 = (yX12_numberAt, cX12_numberAt, 3, (some .long)) := rfl
noncomputable def cu_2543 : List CUT2 := []
theorem ch_2543 : staG tb_X12_numberAt 1 bt_RX12 [] ct_2 [] [] cu_2543 11 con_2543 = true := by decide +kernel
theorem vl_2543 (l : Launch) : Vld2 l vwCl gTbl con_2543 := conR_ok3 gT_all (hd_2543) rfl pn_RX12 tk_X12_numberAt bo_RX12 xo_RX12 (cto_2 l) ch_2543 cut_nil
/-- RookHustingModel numberAt -/
noncomputable def con_2544 : Con2 := ((yX12_numberAt, cX12_numberAt, 3, (some .long)), (0, 0), ([(6, 0, 0), (0, 1, 0), (0, 11, 0)], gi_1854, [ac_1100, ac_1243], []), [((4, 48, 0), gi_1855, [(false, ac_1100), (false, ac_1243)], [], [1])])
theorem hd_2544 : con_2544.1 = (yX12_numberAt, cX12_numberAt, 3, (some .long)) := rfl
noncomputable def cu_2544 : List CUT2 := []
theorem ch_2544 : staG tb_X12_numberAt 1 bt_RX12 [] ct_2 [] [] cu_2544 11 con_2544 = true := by decide +kernel
theorem vl_2544 (l : Launch) : Vld2 l vwCl gTbl con_2544 := conR_ok3 gT_all (hd_2544) rfl pn_RX12 tk_X12_numberAt bo_RX12 xo_RX12 (cto_2 l) ch_2544 cut_nil
/-- RookHustingModel numberAt -/
noncomputable def con_2545 : Con2 := ((yX12_numberAt, cX12_numberAt, 3, (some .long)), (0, 0), ([(6, 0, 0), (0, 1, 0), (0, 13, 0)], gi_1850, [ac_1100, ac_1245], []), [((4, 48, 0), gi_1851, [(false, ac_1100), (false, ac_1245)], [], [1])])
theorem hd_2545 : con_2545.1 = (yX12_numberAt, cX12_numberAt, 3, (some .long)) := rfl
noncomputable def cu_2545 : List CUT2 := []
theorem ch_2545 : staG tb_X12_numberAt 1 bt_RX12 [] ct_2 [] [] cu_2545 11 con_2545 = true := by decide +kernel
theorem vl_2545 (l : Launch) : Vld2 l vwCl gTbl con_2545 := conR_ok3 gT_all (hd_2545) rfl pn_RX12 tk_X12_numberAt bo_RX12 xo_RX12 (cto_2 l) ch_2545 cut_nil
/-- RookHustingModel numberAt -/
noncomputable def con_2546 : Con2 := ((yX12_numberAt, cX12_numberAt, 3, (some .long)), (0, 0), ([(6, 0, 0), (0, 1, 0), (0, 12, 0)], gi_1852, [ac_1100, ac_1244], []), [((4, 48, 0), gi_1853, [(false, ac_1100), (false, ac_1244)], [], [1])])
theorem hd_2546 : con_2546.1 = (yX12_numberAt, cX12_numberAt, 3, (some .long)) := rfl
noncomputable def cu_2546 : List CUT2 := []
theorem ch_2546 : staG tb_X12_numberAt 1 bt_RX12 [] ct_2 [] [] cu_2546 11 con_2546 = true := by decide +kernel
theorem vl_2546 (l : Launch) : Vld2 l vwCl gTbl con_2546 := conR_ok3 gT_all (hd_2546) rfl pn_RX12 tk_X12_numberAt bo_RX12 xo_RX12 (cto_2 l) ch_2546 cut_nil
/-- RookHustingModel numberAt -/
noncomputable def con_2547 : Con2 := ((yX12_numberAt, cX12_numberAt, 3, (some .long)), (0, 0), ([(6, 0, 0), (0, 1, 0), (0, 14, 0)], gi_1854, [ac_1100, ac_1246], []), [((4, 48, 0), gi_1855, [(false, ac_1100), (false, ac_1246)], [], [1])])
theorem hd_2547 : con_2547.1 = (yX12_numberAt, cX12_numberAt, 3, (some .long)) := rfl
noncomputable def cu_2547 : List CUT2 := []
theorem ch_2547 : staG tb_X12_numberAt 1 bt_RX12 [] ct_2 [] [] cu_2547 11 con_2547 = true := by decide +kernel
theorem vl_2547 (l : Launch) : Vld2 l vwCl gTbl con_2547 := conR_ok3 gT_all (hd_2547) rfl pn_RX12 tk_X12_numberAt bo_RX12 xo_RX12 (cto_2 l) ch_2547 cut_nil
/-- RookHustingModel numberAt -/
noncomputable def con_2548 : Con2 := ((yX12_numberAt, cX12_numberAt, 3, (some .long)), (0, 0), ([(6, 0, 0), (0, 1, 0), (0, 16, 0)], gi_1850, [ac_1100, ac_1248], []), [((4, 48, 0), gi_1851, [(false, ac_1100), (false, ac_1248)], [], [1])])
theorem hd_2548 : con_2548.1 = (yX12_numberAt, cX12_numberAt, 3, (some .long)) := rfl
noncomputable def cu_2548 : List CUT2 := []
theorem ch_2548 : staG tb_X12_numberAt 1 bt_RX12 [] ct_2 [] [] cu_2548 11 con_2548 = true := by decide +kernel
theorem vl_2548 (l : Launch) : Vld2 l vwCl gTbl con_2548 := conR_ok3 gT_all (hd_2548) rfl pn_RX12 tk_X12_numberAt bo_RX12 xo_RX12 (cto_2 l) ch_2548 cut_nil
/-- RookHustingModel numberAt -/
noncomputable def con_2549 : Con2 := ((yX12_numberAt, cX12_numberAt, 3, (some .long)), (0, 0), ([(6, 0, 0), (0, 1, 0), (0, 15, 0)], gi_1852, [ac_1100, ac_1247], []), [((4, 48, 0), gi_1853, [(false, ac_1100), (false, ac_1247)], [], [1])])
theorem hd_2549 : con_2549.1 = (yX12_numberAt, cX12_numberAt, 3, (some .long)) := rfl
noncomputable def cu_2549 : List CUT2 := []
theorem ch_2549 : staG tb_X12_numberAt 1 bt_RX12 [] ct_2 [] [] cu_2549 11 con_2549 = true := by decide +kernel
theorem vl_2549 (l : Launch) : Vld2 l vwCl gTbl con_2549 := conR_ok3 gT_all (hd_2549) rfl pn_RX12 tk_X12_numberAt bo_RX12 xo_RX12 (cto_2 l) ch_2549 cut_nil
/-- RookHustingModel numberAt -/
noncomputable def con_2550 : Con2 := ((yX12_numberAt, cX12_numberAt, 3, (some .long)), (0, 0), ([(6, 0, 0), (0, 1, 0), (0, 17, 0)], gi_1854, [ac_1100, ac_1249], []), [((4, 48, 0), gi_1855, [(false, ac_1100), (false, ac_1249)], [], [1])])
theorem hd_2550 : con_2550.1 = (yX12_numberAt, cX12_numberAt, 3, (some .long)) := rfl
noncomputable def cu_2550 : List CUT2 := []
theorem ch_2550 : staG tb_X12_numberAt 1 bt_RX12 [] ct_2 [] [] cu_2550 11 con_2550 = true := by decide +kernel
theorem vl_2550 (l : Launch) : Vld2 l vwCl gTbl con_2550 := conR_ok3 gT_all (hd_2550) rfl pn_RX12 tk_X12_numberAt bo_RX12 xo_RX12 (cto_2 l) ch_2550 cut_nil
/-- RookHustingModel numberAt -/
noncomputable def con_2551 : Con2 := ((yX12_numberAt, cX12_numberAt, 3, (some .long)), (0, 0), ([(6, 0, 0), (0, 1, 0), (0, 19, 0)], gi_1850, [ac_1100, ac_1251], []), [((4, 48, 0), gi_1851, [(false, ac_1100), (false, ac_1251)], [], [1])])
theorem hd_2551 : con_2551.1 = (yX12_numberAt, cX12_numberAt, 3, (some .long)) := rfl
noncomputable def cu_2551 : List CUT2 := []
theorem ch_2551 : staG tb_X12_numberAt 1 bt_RX12 [] ct_2 [] [] cu_2551 11 con_2551 = true := by decide +kernel
theorem vl_2551 (l : Launch) : Vld2 l vwCl gTbl con_2551 := conR_ok3 gT_all (hd_2551) rfl pn_RX12 tk_X12_numberAt bo_RX12 xo_RX12 (cto_2 l) ch_2551 cut_nil
/-- RookHustingModel numberAt -/
noncomputable def con_2552 : Con2 := ((yX12_numberAt, cX12_numberAt, 3, (some .long)), (0, 0), ([(6, 0, 0), (0, 1, 0), (0, 18, 0)], gi_1852, [ac_1100, ac_1250], []), [((4, 48, 0), gi_1853, [(false, ac_1100), (false, ac_1250)], [], [1])])
theorem hd_2552 : con_2552.1 = (yX12_numberAt, cX12_numberAt, 3, (some .long)) := rfl
noncomputable def cu_2552 : List CUT2 := []
theorem ch_2552 : staG tb_X12_numberAt 1 bt_RX12 [] ct_2 [] [] cu_2552 11 con_2552 = true := by decide +kernel
theorem vl_2552 (l : Launch) : Vld2 l vwCl gTbl con_2552 := conR_ok3 gT_all (hd_2552) rfl pn_RX12 tk_X12_numberAt bo_RX12 xo_RX12 (cto_2 l) ch_2552 cut_nil
/-- RookHustingModel numberAt -/
noncomputable def con_2553 : Con2 := ((yX12_numberAt, cX12_numberAt, 3, (some .long)), (0, 0), ([(6, 0, 0), (0, 1, 0), (0, 20, 0)], gi_1854, [ac_1100, ac_1252], []), [((4, 48, 0), gi_1855, [(false, ac_1100), (false, ac_1252)], [], [1])])
theorem hd_2553 : con_2553.1 = (yX12_numberAt, cX12_numberAt, 3, (some .long)) := rfl
noncomputable def cu_2553 : List CUT2 := []
theorem ch_2553 : staG tb_X12_numberAt 1 bt_RX12 [] ct_2 [] [] cu_2553 11 con_2553 = true := by decide +kernel
theorem vl_2553 (l : Launch) : Vld2 l vwCl gTbl con_2553 := conR_ok3 gT_all (hd_2553) rfl pn_RX12 tk_X12_numberAt bo_RX12 xo_RX12 (cto_2 l) ch_2553 cut_nil
/-- RookHustingModel numberAt -/
noncomputable def con_2554 : Con2 := ((yX12_numberAt, cX12_numberAt, 3, (some .long)), (0, 0), ([(6, 0, 0), (0, 1, 0), (0, 22, 0)], gi_1850, [ac_1100, ac_1254], []), [((4, 48, 0), gi_1851, [(false, ac_1100), (false, ac_1254)], [], [1])])
theorem hd_2554 : con_2554.1 = (yX12_numberAt, cX12_numberAt, 3, (some .long)) := rfl
noncomputable def cu_2554 : List CUT2 := []
theorem ch_2554 : staG tb_X12_numberAt 1 bt_RX12 [] ct_2 [] [] cu_2554 11 con_2554 = true := by decide +kernel
theorem vl_2554 (l : Launch) : Vld2 l vwCl gTbl con_2554 := conR_ok3 gT_all (hd_2554) rfl pn_RX12 tk_X12_numberAt bo_RX12 xo_RX12 (cto_2 l) ch_2554 cut_nil
/-- RookHustingModel numberAt -/
noncomputable def con_2555 : Con2 := ((yX12_numberAt, cX12_numberAt, 3, (some .long)), (0, 0), ([(6, 0, 0), (0, 1, 0), (0, 21, 0)], gi_1852, [ac_1100, ac_1253], []), [((4, 48, 0), gi_1853, [(false, ac_1100), (false, ac_1253)], [], [1])])
theorem hd_2555 : con_2555.1 = (yX12_numberAt, cX12_numberAt, 3, (some .long)) := rfl
noncomputable def cu_2555 : List CUT2 := []
theorem ch_2555 : staG tb_X12_numberAt 1 bt_RX12 [] ct_2 [] [] cu_2555 11 con_2555 = true := by decide +kernel
theorem vl_2555 (l : Launch) : Vld2 l vwCl gTbl con_2555 := conR_ok3 gT_all (hd_2555) rfl pn_RX12 tk_X12_numberAt bo_RX12 xo_RX12 (cto_2 l) ch_2555 cut_nil
/-- RookHustingModel numberAt -/
noncomputable def con_2556 : Con2 := ((yX12_numberAt, cX12_numberAt, 3, (some .long)), (0, 0), ([(6, 0, 0), (0, 1, 0), (0, 23, 0)], gi_1854, [ac_1100, ac_1255], []), [((4, 48, 0), gi_1855, [(false, ac_1100), (false, ac_1255)], [], [1])])
theorem hd_2556 : con_2556.1 = (yX12_numberAt, cX12_numberAt, 3, (some .long)) := rfl
noncomputable def cu_2556 : List CUT2 := []
theorem ch_2556 : staG tb_X12_numberAt 1 bt_RX12 [] ct_2 [] [] cu_2556 11 con_2556 = true := by decide +kernel
theorem vl_2556 (l : Launch) : Vld2 l vwCl gTbl con_2556 := conR_ok3 gT_all (hd_2556) rfl pn_RX12 tk_X12_numberAt bo_RX12 xo_RX12 (cto_2 l) ch_2556 cut_nil
/-- RookHustingModel numberAt -/
noncomputable def con_2557 : Con2 := ((yX12_numberAt, cX12_numberAt, 3, (some .long)), (0, 0), ([(6, 0, 0), (0, 1, 0), (0, 25, 0)], gi_1850, [ac_1100, ac_1257], []), [((4, 48, 0), gi_1851, [(false, ac_1100), (false, ac_1257)], [], [1])])
theorem hd_2557 : con_2557.1 = (yX12_numberAt, cX12_numberAt, 3, (some .long)) := rfl
noncomputable def cu_2557 : List CUT2 := []
theorem ch_2557 : staG tb_X12_numberAt 1 bt_RX12 [] ct_2 [] [] cu_2557 11 con_2557 = true := by decide +kernel
theorem vl_2557 (l : Launch) : Vld2 l vwCl gTbl con_2557 := conR_ok3 gT_all (hd_2557) rfl pn_RX12 tk_X12_numberAt bo_RX12 xo_RX12 (cto_2 l) ch_2557 cut_nil
/-- RookHustingModel numberAt -/
noncomputable def con_2558 : Con2 := ((yX12_numberAt, cX12_numberAt, 3, (some .long)), (0, 0), ([(6, 0, 0), (0, 1, 0), (0, 24, 0)], gi_1852, [ac_1100, ac_1256], []), [((4, 48, 0), gi_1853, [(false, ac_1100), (false, ac_1256)], [], [1])])
theorem hd_2558 : con_2558.1 = (yX12_numberAt, cX12_numberAt, 3, (some .long)) := rfl
noncomputable def cu_2558 : List CUT2 := []
theorem ch_2558 : staG tb_X12_numberAt 1 bt_RX12 [] ct_2 [] [] cu_2558 11 con_2558 = true := by decide +kernel
theorem vl_2558 (l : Launch) : Vld2 l vwCl gTbl con_2558 := conR_ok3 gT_all (hd_2558) rfl pn_RX12 tk_X12_numberAt bo_RX12 xo_RX12 (cto_2 l) ch_2558 cut_nil
/-- RookHustingModel numberAt -/
noncomputable def con_2559 : Con2 := ((yX12_numberAt, cX12_numberAt, 3, (some .long)), (0, 0), ([(6, 0, 0), (0, 1, 0), (0, 26, 0)], gi_1854, [ac_1100, ac_1258], []), [((4, 48, 0), gi_1855, [(false, ac_1100), (false, ac_1258)], [], [1])])
theorem hd_2559 : con_2559.1 = (yX12_numberAt, cX12_numberAt, 3, (some .long)) := rfl
noncomputable def cu_2559 : List CUT2 := []
theorem ch_2559 : staG tb_X12_numberAt 1 bt_RX12 [] ct_2 [] [] cu_2559 11 con_2559 = true := by decide +kernel
theorem vl_2559 (l : Launch) : Vld2 l vwCl gTbl con_2559 := conR_ok3 gT_all (hd_2559) rfl pn_RX12 tk_X12_numberAt bo_RX12 xo_RX12 (cto_2 l) ch_2559 cut_nil
/-- RookHustingModel numberAt -/
noncomputable def con_2560 : Con2 := ((yX12_numberAt, cX12_numberAt, 3, (some .long)), (0, 0), ([(6, 0, 0), (0, 1, 0), (0, 28, 0)], gi_1850, [ac_1100, ac_1260], []), [((4, 48, 0), gi_1851, [(false, ac_1100), (false, ac_1260)], [], [1])])
theorem hd_2560 : con_2560.1 = (yX12_numberAt, cX12_numberAt, 3, (some .long)) := rfl
noncomputable def cu_2560 : List CUT2 := []
theorem ch_2560 : staG tb_X12_numberAt 1 bt_RX12 [] ct_2 [] [] cu_2560 11 con_2560 = true := by decide +kernel
theorem vl_2560 (l : Launch) : Vld2 l vwCl gTbl con_2560 := conR_ok3 gT_all (hd_2560) rfl pn_RX12 tk_X12_numberAt bo_RX12 xo_RX12 (cto_2 l) ch_2560 cut_nil
/-- RookHustingModel numberAt -/
noncomputable def con_2561 : Con2 := ((yX12_numberAt, cX12_numberAt, 3, (some .long)), (0, 0), ([(6, 0, 0), (0, 1, 0), (0, 27, 0)], gi_1852, [ac_1100, ac_1259], []), [((4, 48, 0), gi_1853, [(false, ac_1100), (false, ac_1259)], [], [1])])
theorem hd_2561 : con_2561.1 = (yX12_numberAt, cX12_numberAt, 3, (some .long)) := rfl
noncomputable def cu_2561 : List CUT2 := []
theorem ch_2561 : staG tb_X12_numberAt 1 bt_RX12 [] ct_2 [] [] cu_2561 11 con_2561 = true := by decide +kernel
theorem vl_2561 (l : Launch) : Vld2 l vwCl gTbl con_2561 := conR_ok3 gT_all (hd_2561) rfl pn_RX12 tk_X12_numberAt bo_RX12 xo_RX12 (cto_2 l) ch_2561 cut_nil
/-- RookHustingModel numberAt -/
noncomputable def con_2562 : Con2 := ((yX12_numberAt, cX12_numberAt, 3, (some .long)), (0, 0), ([(6, 0, 0), (0, 1, 0), (0, 29, 0)], gi_1854, [ac_1100, ac_1261], []), [((4, 48, 0), gi_1855, [(false, ac_1100), (false, ac_1261)], [], [1])])
theorem hd_2562 : con_2562.1 = (yX12_numberAt, cX12_numberAt, 3, (some .long)) := rfl
noncomputable def cu_2562 : List CUT2 := []
theorem ch_2562 : staG tb_X12_numberAt 1 bt_RX12 [] ct_2 [] [] cu_2562 11 con_2562 = true := by decide +kernel
theorem vl_2562 (l : Launch) : Vld2 l vwCl gTbl con_2562 := conR_ok3 gT_all (hd_2562) rfl pn_RX12 tk_X12_numberAt bo_RX12 xo_RX12 (cto_2 l) ch_2562 cut_nil
/-- RookHustingModel numberAt -/
noncomputable def con_2563 : Con2 := ((yX12_numberAt, cX12_numberAt, 3, (some .long)), (0, 0), ([(6, 0, 0), (0, 1, 0), (0, 31, 0)], gi_1850, [ac_1100, ac_1263], []), [((4, 48, 0), gi_1851, [(false, ac_1100), (false, ac_1263)], [], [1])])
theorem hd_2563 : con_2563.1 = (yX12_numberAt, cX12_numberAt, 3, (some .long)) := rfl
noncomputable def cu_2563 : List CUT2 := []
theorem ch_2563 : staG tb_X12_numberAt 1 bt_RX12 [] ct_2 [] [] cu_2563 11 con_2563 = true := by decide +kernel
theorem vl_2563 (l : Launch) : Vld2 l vwCl gTbl con_2563 := conR_ok3 gT_all (hd_2563) rfl pn_RX12 tk_X12_numberAt bo_RX12 xo_RX12 (cto_2 l) ch_2563 cut_nil
/-- RookHustingModel numberAt -/
noncomputable def con_2564 : Con2 := ((yX12_numberAt, cX12_numberAt, 3, (some .long)), (0, 0), ([(6, 0, 0), (0, 1, 0), (0, 30, 0)], gi_1852, [ac_1100, ac_1262], []), [((4, 48, 0), gi_1853, [(false, ac_1100), (false, ac_1262)], [], [1])])
theorem hd_2564 : con_2564.1 = (yX12_numberAt, cX12_numberAt, 3, (some .long)) := rfl
noncomputable def cu_2564 : List CUT2 := []
theorem ch_2564 : staG tb_X12_numberAt 1 bt_RX12 [] ct_2 [] [] cu_2564 11 con_2564 = true := by decide +kernel
theorem vl_2564 (l : Launch) : Vld2 l vwCl gTbl con_2564 := conR_ok3 gT_all (hd_2564) rfl pn_RX12 tk_X12_numberAt bo_RX12 xo_RX12 (cto_2 l) ch_2564 cut_nil
/-- RookHustingModel numberAt -/
noncomputable def con_2565 : Con2 := ((yX12_numberAt, cX12_numberAt, 3, (some .long)), (0, 0), ([(6, 0, 0), (0, 1, 0), (0, 32, 0)], gi_1854, [ac_1100, ac_1264], []), [((4, 48, 0), gi_1855, [(false, ac_1100), (false, ac_1264)], [], [1])])
theorem hd_2565 : con_2565.1 = (yX12_numberAt, cX12_numberAt, 3, (some .long)) := rfl
noncomputable def cu_2565 : List CUT2 := []
theorem ch_2565 : staG tb_X12_numberAt 1 bt_RX12 [] ct_2 [] [] cu_2565 11 con_2565 = true := by decide +kernel
theorem vl_2565 (l : Launch) : Vld2 l vwCl gTbl con_2565 := conR_ok3 gT_all (hd_2565) rfl pn_RX12 tk_X12_numberAt bo_RX12 xo_RX12 (cto_2 l) ch_2565 cut_nil
/-- RookHustingModel numberAt -/
noncomputable def con_2566 : Con2 := ((yX12_numberAt, cX12_numberAt, 3, (some .long)), (0, 0), ([(6, 0, 0), (0, 1, 0), (0, 34, 0)], gi_1850, [ac_1100, ac_1266], []), [((4, 48, 0), gi_1851, [(false, ac_1100), (false, ac_1266)], [], [1])])
theorem hd_2566 : con_2566.1 = (yX12_numberAt, cX12_numberAt, 3, (some .long)) := rfl
noncomputable def cu_2566 : List CUT2 := []
theorem ch_2566 : staG tb_X12_numberAt 1 bt_RX12 [] ct_2 [] [] cu_2566 11 con_2566 = true := by decide +kernel
theorem vl_2566 (l : Launch) : Vld2 l vwCl gTbl con_2566 := conR_ok3 gT_all (hd_2566) rfl pn_RX12 tk_X12_numberAt bo_RX12 xo_RX12 (cto_2 l) ch_2566 cut_nil
/-- RookHustingModel numberAt -/
noncomputable def con_2567 : Con2 := ((yX12_numberAt, cX12_numberAt, 3, (some .long)), (0, 0), ([(6, 0, 0), (0, 1, 0), (0, 33, 0)], gi_1852, [ac_1100, ac_1265], []), [((4, 48, 0), gi_1853, [(false, ac_1100), (false, ac_1265)], [], [1])])
theorem hd_2567 : con_2567.1 = (yX12_numberAt, cX12_numberAt, 3, (some .long)) := rfl
noncomputable def cu_2567 : List CUT2 := []
theorem ch_2567 : staG tb_X12_numberAt 1 bt_RX12 [] ct_2 [] [] cu_2567 11 con_2567 = true := by decide +kernel
theorem vl_2567 (l : Launch) : Vld2 l vwCl gTbl con_2567 := conR_ok3 gT_all (hd_2567) rfl pn_RX12 tk_X12_numberAt bo_RX12 xo_RX12 (cto_2 l) ch_2567 cut_nil
/-- RookHustingModel numberAt -/
noncomputable def con_2568 : Con2 := ((yX12_numberAt, cX12_numberAt, 3, (some .long)), (0, 0), ([(6, 0, 0), (0, 1, 0), (0, 35, 0)], gi_1854, [ac_1100, ac_1267], []), [((4, 48, 0), gi_1855, [(false, ac_1100), (false, ac_1267)], [], [1])])
theorem hd_2568 : con_2568.1 = (yX12_numberAt, cX12_numberAt, 3, (some .long)) := rfl
noncomputable def cu_2568 : List CUT2 := []
theorem ch_2568 : staG tb_X12_numberAt 1 bt_RX12 [] ct_2 [] [] cu_2568 11 con_2568 = true := by decide +kernel
theorem vl_2568 (l : Launch) : Vld2 l vwCl gTbl con_2568 := conR_ok3 gT_all (hd_2568) rfl pn_RX12 tk_X12_numberAt bo_RX12 xo_RX12 (cto_2 l) ch_2568 cut_nil
/-- RookHustingModel numberAt -/
noncomputable def con_2569 : Con2 := ((yX12_numberAt, cX12_numberAt, 3, (some .long)), (0, 0), ([(6, 0, 0), (0, 1, 0), (0, 37, 0)], gi_1850, [ac_1100, ac_1269], []), [((4, 48, 0), gi_1851, [(false, ac_1100), (false, ac_1269)], [], [1])])
theorem hd_2569 : con_2569.1 = (yX12_numberAt, cX12_numberAt, 3, (some .long)) := rfl
noncomputable def cu_2569 : List CUT2 := []
theorem ch_2569 : staG tb_X12_numberAt 1 bt_RX12 [] ct_2 [] [] cu_2569 11 con_2569 = true := by decide +kernel
theorem vl_2569 (l : Launch) : Vld2 l vwCl gTbl con_2569 := conR_ok3 gT_all (hd_2569) rfl pn_RX12 tk_X12_numberAt bo_RX12 xo_RX12 (cto_2 l) ch_2569 cut_nil
/-- RookHustingModel numberAt -/
noncomputable def con_2570 : Con2 := ((yX12_numberAt, cX12_numberAt, 3, (some .long)), (0, 0), ([(6, 0, 0), (0, 1, 0), (0, 36, 0)], gi_1852, [ac_1100, ac_1268], []), [((4, 48, 0), gi_1853, [(false, ac_1100), (false, ac_1268)], [], [1])])
theorem hd_2570 : con_2570.1 = (yX12_numberAt, cX12_numberAt, 3, (some .long)) := rfl
noncomputable def cu_2570 : List CUT2 := []
theorem ch_2570 : staG tb_X12_numberAt 1 bt_RX12 [] ct_2 [] [] cu_2570 11 con_2570 = true := by decide +kernel
theorem vl_2570 (l : Launch) : Vld2 l vwCl gTbl con_2570 := conR_ok3 gT_all (hd_2570) rfl pn_RX12 tk_X12_numberAt bo_RX12 xo_RX12 (cto_2 l) ch_2570 cut_nil
/-- RookHustingModel numberAt -/
noncomputable def con_2571 : Con2 := ((yX12_numberAt, cX12_numberAt, 3, (some .long)), (0, 0), ([(6, 0, 0), (0, 1, 0), (0, 38, 0)], gi_1854, [ac_1100, ac_1270], []), [((4, 48, 0), gi_1855, [(false, ac_1100), (false, ac_1270)], [], [1])])
theorem hd_2571 : con_2571.1 = (yX12_numberAt, cX12_numberAt, 3, (some .long)) := rfl
noncomputable def cu_2571 : List CUT2 := []
theorem ch_2571 : staG tb_X12_numberAt 1 bt_RX12 [] ct_2 [] [] cu_2571 11 con_2571 = true := by decide +kernel
theorem vl_2571 (l : Launch) : Vld2 l vwCl gTbl con_2571 := conR_ok3 gT_all (hd_2571) rfl pn_RX12 tk_X12_numberAt bo_RX12 xo_RX12 (cto_2 l) ch_2571 cut_nil
/-- RookHustingModel numberAt -/
noncomputable def con_2572 : Con2 := ((yX12_numberAt, cX12_numberAt, 3, (some .long)), (0, 0), ([(6, 0, 0), (0, 1, 0), (0, 40, 0)], gi_1850, [ac_1100, ac_1272], []), [((4, 48, 0), gi_1851, [(false, ac_1100), (false, ac_1272)], [], [1])])
theorem hd_2572 : con_2572.1 = (yX12_numberAt, cX12_numberAt, 3, (some .long)) := rfl
noncomputable def cu_2572 : List CUT2 := []
theorem ch_2572 : staG tb_X12_numberAt 1 bt_RX12 [] ct_2 [] [] cu_2572 11 con_2572 = true := by decide +kernel
theorem vl_2572 (l : Launch) : Vld2 l vwCl gTbl con_2572 := conR_ok3 gT_all (hd_2572) rfl pn_RX12 tk_X12_numberAt bo_RX12 xo_RX12 (cto_2 l) ch_2572 cut_nil
/-- RookHustingModel numberAt -/
noncomputable def con_2573 : Con2 := ((yX12_numberAt, cX12_numberAt, 3, (some .long)), (0, 0), ([(6, 0, 0), (0, 1, 0), (0, 39, 0)], gi_1852, [ac_1100, ac_1271], []), [((4, 48, 0), gi_1853, [(false, ac_1100), (false, ac_1271)], [], [1])])
theorem hd_2573 : con_2573.1 = (yX12_numberAt, cX12_numberAt, 3, (some .long)) := rfl
noncomputable def cu_2573 : List CUT2 := []
theorem ch_2573 : staG tb_X12_numberAt 1 bt_RX12 [] ct_2 [] [] cu_2573 11 con_2573 = true := by decide +kernel
theorem vl_2573 (l : Launch) : Vld2 l vwCl gTbl con_2573 := conR_ok3 gT_all (hd_2573) rfl pn_RX12 tk_X12_numberAt bo_RX12 xo_RX12 (cto_2 l) ch_2573 cut_nil
/-- RookHustingModel numberAt -/
noncomputable def con_2574 : Con2 := ((yX12_numberAt, cX12_numberAt, 3, (some .long)), (0, 0), ([(6, 0, 0), (0, 1, 0), (0, 41, 0)], gi_1854, [ac_1100, ac_1273], []), [((4, 48, 0), gi_1855, [(false, ac_1100), (false, ac_1273)], [], [1])])
theorem hd_2574 : con_2574.1 = (yX12_numberAt, cX12_numberAt, 3, (some .long)) := rfl
noncomputable def cu_2574 : List CUT2 := []
theorem ch_2574 : staG tb_X12_numberAt 1 bt_RX12 [] ct_2 [] [] cu_2574 11 con_2574 = true := by decide +kernel
theorem vl_2574 (l : Launch) : Vld2 l vwCl gTbl con_2574 := conR_ok3 gT_all (hd_2574) rfl pn_RX12 tk_X12_numberAt bo_RX12 xo_RX12 (cto_2 l) ch_2574 cut_nil
/-- RookHustingModel numberAt -/
noncomputable def con_2575 : Con2 := ((yX12_numberAt, cX12_numberAt, 3, (some .long)), (0, 0), ([(6, 0, 0), (0, 1, 0), (0, 43, 0)], gi_1850, [ac_1100, ac_1275], []), [((4, 48, 0), gi_1851, [(false, ac_1100), (false, ac_1275)], [], [1])])
theorem hd_2575 : con_2575.1 = (yX12_numberAt, cX12_numberAt, 3, (some .long)) := rfl
noncomputable def cu_2575 : List CUT2 := []
theorem ch_2575 : staG tb_X12_numberAt 1 bt_RX12 [] ct_2 [] [] cu_2575 11 con_2575 = true := by decide +kernel
theorem vl_2575 (l : Launch) : Vld2 l vwCl gTbl con_2575 := conR_ok3 gT_all (hd_2575) rfl pn_RX12 tk_X12_numberAt bo_RX12 xo_RX12 (cto_2 l) ch_2575 cut_nil
/-- RookHustingModel numberAt -/
noncomputable def con_2576 : Con2 := ((yX12_numberAt, cX12_numberAt, 3, (some .long)), (0, 0), ([(6, 0, 0), (0, 1, 0), (0, 42, 0)], gi_1852, [ac_1100, ac_1274], []), [((4, 48, 0), gi_1853, [(false, ac_1100), (false, ac_1274)], [], [1])])
theorem hd_2576 : con_2576.1 = (yX12_numberAt, cX12_numberAt, 3, (some .long)) := rfl
noncomputable def cu_2576 : List CUT2 := []
theorem ch_2576 : staG tb_X12_numberAt 1 bt_RX12 [] ct_2 [] [] cu_2576 11 con_2576 = true := by decide +kernel
theorem vl_2576 (l : Launch) : Vld2 l vwCl gTbl con_2576 := conR_ok3 gT_all (hd_2576) rfl pn_RX12 tk_X12_numberAt bo_RX12 xo_RX12 (cto_2 l) ch_2576 cut_nil
/-- RookHustingModel numberAt -/
noncomputable def con_2577 : Con2 := ((yX12_numberAt, cX12_numberAt, 3, (some .long)), (0, 0), ([(6, 0, 0), (0, 1, 0), (0, 44, 0)], gi_1854, [ac_1100, ac_1276], []), [((4, 48, 0), gi_1855, [(false, ac_1100), (false, ac_1276)], [], [1])])
theorem hd_2577 : con_2577.1 = (yX12_numberAt, cX12_numberAt, 3, (some .long)) := rfl
noncomputable def cu_2577 : List CUT2 := []
theorem ch_2577 : staG tb_X12_numberAt 1 bt_RX12 [] ct_2 [] [] cu_2577 11 con_2577 = true := by decide +kernel
theorem vl_2577 (l : Launch) : Vld2 l vwCl gTbl con_2577 := conR_ok3 gT_all (hd_2577) rfl pn_RX12 tk_X12_numberAt bo_RX12 xo_RX12 (cto_2 l) ch_2577 cut_nil
/-- RookHustingModel numberAt -/
noncomputable def con_2578 : Con2 := ((yX12_numberAt, cX12_numberAt, 3, (some .long)), (0, 0), ([(6, 0, 0), (0, 1, 0), (0, 46, 0)], gi_1850, [ac_1100, ac_1278], []), [((4, 48, 0), gi_1851, [(false, ac_1100), (false, ac_1278)], [], [1])])
theorem hd_2578 : con_2578.1 = (yX12_numberAt, cX12_numberAt, 3, (some .long)) := rfl
noncomputable def cu_2578 : List CUT2 := []
theorem ch_2578 : staG tb_X12_numberAt 1 bt_RX12 [] ct_2 [] [] cu_2578 11 con_2578 = true := by decide +kernel
theorem vl_2578 (l : Launch) : Vld2 l vwCl gTbl con_2578 := conR_ok3 gT_all (hd_2578) rfl pn_RX12 tk_X12_numberAt bo_RX12 xo_RX12 (cto_2 l) ch_2578 cut_nil
/-- RookHustingModel numberAt -/
noncomputable def con_2579 : Con2 := ((yX12_numberAt, cX12_numberAt, 3, (some .long)), (0, 0), ([(6, 0, 0), (0, 1, 0), (0, 45, 0)], gi_1852, [ac_1100, ac_1277], []), [((4, 48, 0), gi_1853, [(false, ac_1100), (false, ac_1277)], [], [1])])
theorem hd_2579 : con_2579.1 = (yX12_numberAt, cX12_numberAt, 3, (some .long)) := rfl
noncomputable def cu_2579 : List CUT2 := []
theorem ch_2579 : staG tb_X12_numberAt 1 bt_RX12 [] ct_2 [] [] cu_2579 11 con_2579 = true := by decide +kernel
theorem vl_2579 (l : Launch) : Vld2 l vwCl gTbl con_2579 := conR_ok3 gT_all (hd_2579) rfl pn_RX12 tk_X12_numberAt bo_RX12 xo_RX12 (cto_2 l) ch_2579 cut_nil
/-- RookHustingModel numberAt -/
noncomputable def con_2580 : Con2 := ((yX12_numberAt, cX12_numberAt, 3, (some .long)), (0, 0), ([(6, 0, 0), (0, 1, 0), (0, 47, 0)], gi_1854, [ac_1100, ac_1279], []), [((4, 48, 0), gi_1855, [(false, ac_1100), (false, ac_1279)], [], [1])])
theorem hd_2580 : con_2580.1 = (yX12_numberAt, cX12_numberAt, 3, (some .long)) := rfl
noncomputable def cu_2580 : List CUT2 := []
theorem ch_2580 : staG tb_X12_numberAt 1 bt_RX12 [] ct_2 [] [] cu_2580 11 con_2580 = true := by decide +kernel
theorem vl_2580 (l : Launch) : Vld2 l vwCl gTbl con_2580 := conR_ok3 gT_all (hd_2580) rfl pn_RX12 tk_X12_numberAt bo_RX12 xo_RX12 (cto_2 l) ch_2580 cut_nil
/-- RookHustingModel numberAt -/
noncomputable def con_2581 : Con2 := ((yX12_numberAt, cX12_numberAt, 3, (some .long)), (0, 0), ([(6, 0, 0), (0, 1, 0), (0, 49, 0)], gi_1850, [ac_1100, ac_1281], []), [((4, 48, 0), gi_1851, [(false, ac_1100), (false, ac_1281)], [], [1])])
theorem hd_2581 : con_2581.1 = (yX12_numberAt, cX12_numberAt, 3, (some .long)) := rfl
noncomputable def cu_2581 : List CUT2 := []
theorem ch_2581 : staG tb_X12_numberAt 1 bt_RX12 [] ct_2 [] [] cu_2581 11 con_2581 = true := by decide +kernel
theorem vl_2581 (l : Launch) : Vld2 l vwCl gTbl con_2581 := conR_ok3 gT_all (hd_2581) rfl pn_RX12 tk_X12_numberAt bo_RX12 xo_RX12 (cto_2 l) ch_2581 cut_nil
/-- RookHustingModel numberAt -/
noncomputable def con_2582 : Con2 := ((yX12_numberAt, cX12_numberAt, 3, (some .long)), (0, 0), ([(6, 0, 0), (0, 1, 0), (0, 48, 0)], gi_1852, [ac_1100, ac_1280], []), [((4, 48, 0), gi_1853, [(false, ac_1100), (false, ac_1280)], [], [1])])
theorem hd_2582 : con_2582.1 = (yX12_numberAt, cX12_numberAt, 3, (some .long)) := rfl
noncomputable def cu_2582 : List CUT2 := []
theorem ch_2582 : staG tb_X12_numberAt 1 bt_RX12 [] ct_2 [] [] cu_2582 11 con_2582 = true := by decide +kernel
theorem vl_2582 (l : Launch) : Vld2 l vwCl gTbl con_2582 := conR_ok3 gT_all (hd_2582) rfl pn_RX12 tk_X12_numberAt bo_RX12 xo_RX12 (cto_2 l) ch_2582 cut_nil
/-- RookHustingModel numberAt -/
noncomputable def con_2583 : Con2 := ((yX12_numberAt, cX12_numberAt, 3, (some .long)), (0, 0), ([(6, 0, 0), (0, 1, 0), (0, 50, 0)], gi_1854, [ac_1100, ac_1282], []), [((4, 48, 0), gi_1855, [(false, ac_1100), (false, ac_1282)], [], [1])])
theorem hd_2583 : con_2583.1 = (yX12_numberAt, cX12_numberAt, 3, (some .long)) := rfl
noncomputable def cu_2583 : List CUT2 := []
theorem ch_2583 : staG tb_X12_numberAt 1 bt_RX12 [] ct_2 [] [] cu_2583 11 con_2583 = true := by decide +kernel
theorem vl_2583 (l : Launch) : Vld2 l vwCl gTbl con_2583 := conR_ok3 gT_all (hd_2583) rfl pn_RX12 tk_X12_numberAt bo_RX12 xo_RX12 (cto_2 l) ch_2583 cut_nil
/-- RookHustingModel numberAt -/
noncomputable def con_2584 : Con2 := ((yX12_numberAt, cX12_numberAt, 3, (some .long)), (0, 0), ([(6, 0, 0), (0, 1, 0), (0, 52, 0)], gi_1850, [ac_1100, ac_1284], []), [((4, 48, 0), gi_1851, [(false, ac_1100), (false, ac_1284)], [], [1])])
theorem hd_2584 : con_2584.1 = (yX12_numberAt, cX12_numberAt, 3, (some .long)) := rfl
noncomputable def cu_2584 : List CUT2 := []
theorem ch_2584 : staG tb_X12_numberAt 1 bt_RX12 [] ct_2 [] [] cu_2584 11 con_2584 = true := by decide +kernel
theorem vl_2584 (l : Launch) : Vld2 l vwCl gTbl con_2584 := conR_ok3 gT_all (hd_2584) rfl pn_RX12 tk_X12_numberAt bo_RX12 xo_RX12 (cto_2 l) ch_2584 cut_nil
/-- RookHustingModel numberAt -/
noncomputable def con_2585 : Con2 := ((yX12_numberAt, cX12_numberAt, 3, (some .long)), (0, 0), ([(6, 0, 0), (0, 1, 0), (0, 51, 0)], gi_1852, [ac_1100, ac_1283], []), [((4, 48, 0), gi_1853, [(false, ac_1100), (false, ac_1283)], [], [1])])
theorem hd_2585 : con_2585.1 = (yX12_numberAt, cX12_numberAt, 3, (some .long)) := rfl
noncomputable def cu_2585 : List CUT2 := []
theorem ch_2585 : staG tb_X12_numberAt 1 bt_RX12 [] ct_2 [] [] cu_2585 11 con_2585 = true := by decide +kernel
theorem vl_2585 (l : Launch) : Vld2 l vwCl gTbl con_2585 := conR_ok3 gT_all (hd_2585) rfl pn_RX12 tk_X12_numberAt bo_RX12 xo_RX12 (cto_2 l) ch_2585 cut_nil
/-- RookHustingModel numberAt -/
noncomputable def con_2586 : Con2 := ((yX12_numberAt, cX12_numberAt, 3, (some .long)), (0, 0), ([(6, 0, 0), (0, 1, 0), (0, 53, 0)], gi_1854, [ac_1100, ac_1285], []), [((4, 48, 0), gi_1855, [(false, ac_1100), (false, ac_1285)], [], [1])])
theorem hd_2586 : con_2586.1 = (yX12_numberAt, cX12_numberAt, 3, (some .long)) := rfl
noncomputable def cu_2586 : List CUT2 := []
theorem ch_2586 : staG tb_X12_numberAt 1 bt_RX12 [] ct_2 [] [] cu_2586 11 con_2586 = true := by decide +kernel
theorem vl_2586 (l : Launch) : Vld2 l vwCl gTbl con_2586 := conR_ok3 gT_all (hd_2586) rfl pn_RX12 tk_X12_numberAt bo_RX12 xo_RX12 (cto_2 l) ch_2586 cut_nil
/-- RookHustingModel numberAt -/
noncomputable def con_2587 : Con2 := ((yX12_numberAt, cX12_numberAt, 3, (some .long)), (0, 0), ([(6, 0, 0), (0, 1, 0), (0, 55, 0)], gi_1850, [ac_1100, ac_1287], []), [((4, 48, 0), gi_1851, [(false, ac_1100), (false, ac_1287)], [], [1])])
theorem hd_2587 : con_2587.1 = (yX12_numberAt, cX12_numberAt, 3, (some .long)) := rfl
noncomputable def cu_2587 : List CUT2 := []
theorem ch_2587 : staG tb_X12_numberAt 1 bt_RX12 [] ct_2 [] [] cu_2587 11 con_2587 = true := by decide +kernel
theorem vl_2587 (l : Launch) : Vld2 l vwCl gTbl con_2587 := conR_ok3 gT_all (hd_2587) rfl pn_RX12 tk_X12_numberAt bo_RX12 xo_RX12 (cto_2 l) ch_2587 cut_nil
/-- RookHustingModel numberAt -/
noncomputable def con_2588 : Con2 := ((yX12_numberAt, cX12_numberAt, 3, (some .long)), (0, 0), ([(6, 0, 0), (0, 1, 0), (0, 54, 0)], gi_1852, [ac_1100, ac_1286], []), [((4, 48, 0), gi_1853, [(false, ac_1100), (false, ac_1286)], [], [1])])
theorem hd_2588 : con_2588.1 = (yX12_numberAt, cX12_numberAt, 3, (some .long)) := rfl
noncomputable def cu_2588 : List CUT2 := []
theorem ch_2588 : staG tb_X12_numberAt 1 bt_RX12 [] ct_2 [] [] cu_2588 11 con_2588 = true := by decide +kernel
theorem vl_2588 (l : Launch) : Vld2 l vwCl gTbl con_2588 := conR_ok3 gT_all (hd_2588) rfl pn_RX12 tk_X12_numberAt bo_RX12 xo_RX12 (cto_2 l) ch_2588 cut_nil
/-- RookHustingModel numberAt -/
noncomputable def con_2589 : Con2 := ((yX12_numberAt, cX12_numberAt, 3, (some .long)), (0, 0), ([(6, 0, 0), (0, 1, 0), (0, 56, 0)], gi_1854, [ac_1100, ac_1288], []), [((4, 48, 0), gi_1855, [(false, ac_1100), (false, ac_1288)], [], [1])])
theorem hd_2589 : con_2589.1 = (yX12_numberAt, cX12_numberAt, 3, (some .long)) := rfl
noncomputable def cu_2589 : List CUT2 := []
theorem ch_2589 : staG tb_X12_numberAt 1 bt_RX12 [] ct_2 [] [] cu_2589 11 con_2589 = true := by decide +kernel
theorem vl_2589 (l : Launch) : Vld2 l vwCl gTbl con_2589 := conR_ok3 gT_all (hd_2589) rfl pn_RX12 tk_X12_numberAt bo_RX12 xo_RX12 (cto_2 l) ch_2589 cut_nil
/-- RookHustingModel numberAt -/
noncomputable def con_2590 : Con2 := ((yX12_numberAt, cX12_numberAt, 3, (some .long)), (0, 0), ([(6, 0, 0), (0, 1, 0), (0, 58, 0)], gi_1850, [ac_1100, ac_1290], []), [((4, 48, 0), gi_1851, [(false, ac_1100), (false, ac_1290)], [], [1])])
theorem hd_2590 : con_2590.1 = (yX12_numberAt, cX12_numberAt, 3, (some .long)) := rfl
noncomputable def cu_2590 : List CUT2 := []
theorem ch_2590 : staG tb_X12_numberAt 1 bt_RX12 [] ct_2 [] [] cu_2590 11 con_2590 = true := by decide +kernel
theorem vl_2590 (l : Launch) : Vld2 l vwCl gTbl con_2590 := conR_ok3 gT_all (hd_2590) rfl pn_RX12 tk_X12_numberAt bo_RX12 xo_RX12 (cto_2 l) ch_2590 cut_nil
/-- RookHustingModel numberAt -/
noncomputable def con_2591 : Con2 := ((yX12_numberAt, cX12_numberAt, 3, (some .long)), (0, 0), ([(6, 0, 0), (0, 1, 0), (0, 57, 0)], gi_1852, [ac_1100, ac_1289], []), [((4, 48, 0), gi_1853, [(false, ac_1100), (false, ac_1289)], [], [1])])
theorem hd_2591 : con_2591.1 = (yX12_numberAt, cX12_numberAt, 3, (some .long)) := rfl
noncomputable def cu_2591 : List CUT2 := []
theorem ch_2591 : staG tb_X12_numberAt 1 bt_RX12 [] ct_2 [] [] cu_2591 11 con_2591 = true := by decide +kernel
theorem vl_2591 (l : Launch) : Vld2 l vwCl gTbl con_2591 := conR_ok3 gT_all (hd_2591) rfl pn_RX12 tk_X12_numberAt bo_RX12 xo_RX12 (cto_2 l) ch_2591 cut_nil
/-- RookHustingModel numberAt -/
noncomputable def con_2592 : Con2 := ((yX12_numberAt, cX12_numberAt, 3, (some .long)), (0, 0), ([(6, 0, 0), (0, 1, 0), (0, 59, 0)], gi_1854, [ac_1100, ac_1291], []), [((4, 48, 0), gi_1855, [(false, ac_1100), (false, ac_1291)], [], [1])])
theorem hd_2592 : con_2592.1 = (yX12_numberAt, cX12_numberAt, 3, (some .long)) := rfl
noncomputable def cu_2592 : List CUT2 := []
theorem ch_2592 : staG tb_X12_numberAt 1 bt_RX12 [] ct_2 [] [] cu_2592 11 con_2592 = true := by decide +kernel
theorem vl_2592 (l : Launch) : Vld2 l vwCl gTbl con_2592 := conR_ok3 gT_all (hd_2592) rfl pn_RX12 tk_X12_numberAt bo_RX12 xo_RX12 (cto_2 l) ch_2592 cut_nil
/-- RookHustingModel isSeen -/
noncomputable def gi_2247 : GI := jl_n [gp_764, gp_569]
noncomputable def gi_2248 : GI := jl_n [gp_764, gp_569, jl_z 1]
noncomputable def con_2593 : Con2 := ((yX12_isSeen, cX12_isSeen, 3, (some .boolean)), (1, 22), ([(6, 0, 0), (0, 1, 0)], gi_2247, hc_221, []), [((0, 0, 0), gi_2248, hq_929, [], [1]), ((0, 1, 0), gi_2248, hq_929, [], [1])])
theorem hd_2593 : con_2593.1 = (yX12_isSeen, cX12_isSeen, 3, (some .boolean)) := rfl
theorem ck_RX12_417_2544 : COK2 RX12 vwCl gTbl 417 0 con_2544 := ⟨wd_2061, wd_137, mh_X12_numberAt, .inr (.inr ⟨rfl, wd_2058, wd_2060, wd_114, ⟨_, rfl, pd_X12_numberAt⟩, 12, _, TX12, 45, rfl, rfl⟩)⟩
theorem ck_RX12_417_2547 : COK2 RX12 vwCl gTbl 417 0 con_2547 := ⟨wd_2061, wd_137, mh_X12_numberAt, .inr (.inr ⟨rfl, wd_2058, wd_2060, wd_114, ⟨_, rfl, pd_X12_numberAt⟩, 12, _, TX12, 45, rfl, rfl⟩)⟩
theorem ck_RX12_417_2550 : COK2 RX12 vwCl gTbl 417 0 con_2550 := ⟨wd_2061, wd_137, mh_X12_numberAt, .inr (.inr ⟨rfl, wd_2058, wd_2060, wd_114, ⟨_, rfl, pd_X12_numberAt⟩, 12, _, TX12, 45, rfl, rfl⟩)⟩
theorem ck_RX12_417_2553 : COK2 RX12 vwCl gTbl 417 0 con_2553 := ⟨wd_2061, wd_137, mh_X12_numberAt, .inr (.inr ⟨rfl, wd_2058, wd_2060, wd_114, ⟨_, rfl, pd_X12_numberAt⟩, 12, _, TX12, 45, rfl, rfl⟩)⟩
theorem ck_RX12_417_2556 : COK2 RX12 vwCl gTbl 417 0 con_2556 := ⟨wd_2061, wd_137, mh_X12_numberAt, .inr (.inr ⟨rfl, wd_2058, wd_2060, wd_114, ⟨_, rfl, pd_X12_numberAt⟩, 12, _, TX12, 45, rfl, rfl⟩)⟩
theorem ck_RX12_417_2559 : COK2 RX12 vwCl gTbl 417 0 con_2559 := ⟨wd_2061, wd_137, mh_X12_numberAt, .inr (.inr ⟨rfl, wd_2058, wd_2060, wd_114, ⟨_, rfl, pd_X12_numberAt⟩, 12, _, TX12, 45, rfl, rfl⟩)⟩
theorem ck_RX12_417_2562 : COK2 RX12 vwCl gTbl 417 0 con_2562 := ⟨wd_2061, wd_137, mh_X12_numberAt, .inr (.inr ⟨rfl, wd_2058, wd_2060, wd_114, ⟨_, rfl, pd_X12_numberAt⟩, 12, _, TX12, 45, rfl, rfl⟩)⟩
theorem ck_RX12_417_2565 : COK2 RX12 vwCl gTbl 417 0 con_2565 := ⟨wd_2061, wd_137, mh_X12_numberAt, .inr (.inr ⟨rfl, wd_2058, wd_2060, wd_114, ⟨_, rfl, pd_X12_numberAt⟩, 12, _, TX12, 45, rfl, rfl⟩)⟩
theorem ck_RX12_417_2568 : COK2 RX12 vwCl gTbl 417 0 con_2568 := ⟨wd_2061, wd_137, mh_X12_numberAt, .inr (.inr ⟨rfl, wd_2058, wd_2060, wd_114, ⟨_, rfl, pd_X12_numberAt⟩, 12, _, TX12, 45, rfl, rfl⟩)⟩
theorem ck_RX12_417_2571 : COK2 RX12 vwCl gTbl 417 0 con_2571 := ⟨wd_2061, wd_137, mh_X12_numberAt, .inr (.inr ⟨rfl, wd_2058, wd_2060, wd_114, ⟨_, rfl, pd_X12_numberAt⟩, 12, _, TX12, 45, rfl, rfl⟩)⟩
theorem ck_RX12_417_2574 : COK2 RX12 vwCl gTbl 417 0 con_2574 := ⟨wd_2061, wd_137, mh_X12_numberAt, .inr (.inr ⟨rfl, wd_2058, wd_2060, wd_114, ⟨_, rfl, pd_X12_numberAt⟩, 12, _, TX12, 45, rfl, rfl⟩)⟩
theorem ck_RX12_417_2577 : COK2 RX12 vwCl gTbl 417 0 con_2577 := ⟨wd_2061, wd_137, mh_X12_numberAt, .inr (.inr ⟨rfl, wd_2058, wd_2060, wd_114, ⟨_, rfl, pd_X12_numberAt⟩, 12, _, TX12, 45, rfl, rfl⟩)⟩
theorem ck_RX12_417_2580 : COK2 RX12 vwCl gTbl 417 0 con_2580 := ⟨wd_2061, wd_137, mh_X12_numberAt, .inr (.inr ⟨rfl, wd_2058, wd_2060, wd_114, ⟨_, rfl, pd_X12_numberAt⟩, 12, _, TX12, 45, rfl, rfl⟩)⟩
theorem ck_RX12_417_2583 : COK2 RX12 vwCl gTbl 417 0 con_2583 := ⟨wd_2061, wd_137, mh_X12_numberAt, .inr (.inr ⟨rfl, wd_2058, wd_2060, wd_114, ⟨_, rfl, pd_X12_numberAt⟩, 12, _, TX12, 45, rfl, rfl⟩)⟩
theorem ck_RX12_417_2586 : COK2 RX12 vwCl gTbl 417 0 con_2586 := ⟨wd_2061, wd_137, mh_X12_numberAt, .inr (.inr ⟨rfl, wd_2058, wd_2060, wd_114, ⟨_, rfl, pd_X12_numberAt⟩, 12, _, TX12, 45, rfl, rfl⟩)⟩
theorem ck_RX12_417_2589 : COK2 RX12 vwCl gTbl 417 0 con_2589 := ⟨wd_2061, wd_137, mh_X12_numberAt, .inr (.inr ⟨rfl, wd_2058, wd_2060, wd_114, ⟨_, rfl, pd_X12_numberAt⟩, 12, _, TX12, 45, rfl, rfl⟩)⟩
theorem ck_RX12_417_2592 : COK2 RX12 vwCl gTbl 417 0 con_2592 := ⟨wd_2061, wd_137, mh_X12_numberAt, .inr (.inr ⟨rfl, wd_2058, wd_2060, wd_114, ⟨_, rfl, pd_X12_numberAt⟩, 12, _, TX12, 45, rfl, rfl⟩)⟩
theorem ck_RX12_417_2543 : COK2 RX12 vwCl gTbl 417 0 con_2543 := ⟨wd_2061, wd_137, mh_X12_numberAt, .inr (.inr ⟨rfl, wd_2058, wd_2060, wd_114, ⟨_, rfl, pd_X12_numberAt⟩, 12, _, TX12, 45, rfl, rfl⟩)⟩
theorem ck_RX12_417_2546 : COK2 RX12 vwCl gTbl 417 0 con_2546 := ⟨wd_2061, wd_137, mh_X12_numberAt, .inr (.inr ⟨rfl, wd_2058, wd_2060, wd_114, ⟨_, rfl, pd_X12_numberAt⟩, 12, _, TX12, 45, rfl, rfl⟩)⟩
theorem ck_RX12_417_2549 : COK2 RX12 vwCl gTbl 417 0 con_2549 := ⟨wd_2061, wd_137, mh_X12_numberAt, .inr (.inr ⟨rfl, wd_2058, wd_2060, wd_114, ⟨_, rfl, pd_X12_numberAt⟩, 12, _, TX12, 45, rfl, rfl⟩)⟩
theorem ck_RX12_417_2552 : COK2 RX12 vwCl gTbl 417 0 con_2552 := ⟨wd_2061, wd_137, mh_X12_numberAt, .inr (.inr ⟨rfl, wd_2058, wd_2060, wd_114, ⟨_, rfl, pd_X12_numberAt⟩, 12, _, TX12, 45, rfl, rfl⟩)⟩
theorem ck_RX12_417_2555 : COK2 RX12 vwCl gTbl 417 0 con_2555 := ⟨wd_2061, wd_137, mh_X12_numberAt, .inr (.inr ⟨rfl, wd_2058, wd_2060, wd_114, ⟨_, rfl, pd_X12_numberAt⟩, 12, _, TX12, 45, rfl, rfl⟩)⟩
theorem ck_RX12_417_2558 : COK2 RX12 vwCl gTbl 417 0 con_2558 := ⟨wd_2061, wd_137, mh_X12_numberAt, .inr (.inr ⟨rfl, wd_2058, wd_2060, wd_114, ⟨_, rfl, pd_X12_numberAt⟩, 12, _, TX12, 45, rfl, rfl⟩)⟩
theorem ck_RX12_417_2561 : COK2 RX12 vwCl gTbl 417 0 con_2561 := ⟨wd_2061, wd_137, mh_X12_numberAt, .inr (.inr ⟨rfl, wd_2058, wd_2060, wd_114, ⟨_, rfl, pd_X12_numberAt⟩, 12, _, TX12, 45, rfl, rfl⟩)⟩
theorem ck_RX12_417_2564 : COK2 RX12 vwCl gTbl 417 0 con_2564 := ⟨wd_2061, wd_137, mh_X12_numberAt, .inr (.inr ⟨rfl, wd_2058, wd_2060, wd_114, ⟨_, rfl, pd_X12_numberAt⟩, 12, _, TX12, 45, rfl, rfl⟩)⟩
theorem ck_RX12_417_2567 : COK2 RX12 vwCl gTbl 417 0 con_2567 := ⟨wd_2061, wd_137, mh_X12_numberAt, .inr (.inr ⟨rfl, wd_2058, wd_2060, wd_114, ⟨_, rfl, pd_X12_numberAt⟩, 12, _, TX12, 45, rfl, rfl⟩)⟩
theorem ck_RX12_417_2570 : COK2 RX12 vwCl gTbl 417 0 con_2570 := ⟨wd_2061, wd_137, mh_X12_numberAt, .inr (.inr ⟨rfl, wd_2058, wd_2060, wd_114, ⟨_, rfl, pd_X12_numberAt⟩, 12, _, TX12, 45, rfl, rfl⟩)⟩
theorem ck_RX12_417_2573 : COK2 RX12 vwCl gTbl 417 0 con_2573 := ⟨wd_2061, wd_137, mh_X12_numberAt, .inr (.inr ⟨rfl, wd_2058, wd_2060, wd_114, ⟨_, rfl, pd_X12_numberAt⟩, 12, _, TX12, 45, rfl, rfl⟩)⟩
theorem ck_RX12_417_2576 : COK2 RX12 vwCl gTbl 417 0 con_2576 := ⟨wd_2061, wd_137, mh_X12_numberAt, .inr (.inr ⟨rfl, wd_2058, wd_2060, wd_114, ⟨_, rfl, pd_X12_numberAt⟩, 12, _, TX12, 45, rfl, rfl⟩)⟩
theorem ck_RX12_417_2579 : COK2 RX12 vwCl gTbl 417 0 con_2579 := ⟨wd_2061, wd_137, mh_X12_numberAt, .inr (.inr ⟨rfl, wd_2058, wd_2060, wd_114, ⟨_, rfl, pd_X12_numberAt⟩, 12, _, TX12, 45, rfl, rfl⟩)⟩
theorem ck_RX12_417_2582 : COK2 RX12 vwCl gTbl 417 0 con_2582 := ⟨wd_2061, wd_137, mh_X12_numberAt, .inr (.inr ⟨rfl, wd_2058, wd_2060, wd_114, ⟨_, rfl, pd_X12_numberAt⟩, 12, _, TX12, 45, rfl, rfl⟩)⟩
theorem ck_RX12_417_2585 : COK2 RX12 vwCl gTbl 417 0 con_2585 := ⟨wd_2061, wd_137, mh_X12_numberAt, .inr (.inr ⟨rfl, wd_2058, wd_2060, wd_114, ⟨_, rfl, pd_X12_numberAt⟩, 12, _, TX12, 45, rfl, rfl⟩)⟩
theorem ck_RX12_417_2588 : COK2 RX12 vwCl gTbl 417 0 con_2588 := ⟨wd_2061, wd_137, mh_X12_numberAt, .inr (.inr ⟨rfl, wd_2058, wd_2060, wd_114, ⟨_, rfl, pd_X12_numberAt⟩, 12, _, TX12, 45, rfl, rfl⟩)⟩
theorem ck_RX12_417_2591 : COK2 RX12 vwCl gTbl 417 0 con_2591 := ⟨wd_2061, wd_137, mh_X12_numberAt, .inr (.inr ⟨rfl, wd_2058, wd_2060, wd_114, ⟨_, rfl, pd_X12_numberAt⟩, 12, _, TX12, 45, rfl, rfl⟩)⟩
theorem ck_RX12_417_2542 : COK2 RX12 vwCl gTbl 417 0 con_2542 := ⟨wd_2061, wd_137, mh_X12_numberAt, .inr (.inr ⟨rfl, wd_2058, wd_2060, wd_114, ⟨_, rfl, pd_X12_numberAt⟩, 12, _, TX12, 45, rfl, rfl⟩)⟩
theorem ck_RX12_417_2545 : COK2 RX12 vwCl gTbl 417 0 con_2545 := ⟨wd_2061, wd_137, mh_X12_numberAt, .inr (.inr ⟨rfl, wd_2058, wd_2060, wd_114, ⟨_, rfl, pd_X12_numberAt⟩, 12, _, TX12, 45, rfl, rfl⟩)⟩
theorem ck_RX12_417_2548 : COK2 RX12 vwCl gTbl 417 0 con_2548 := ⟨wd_2061, wd_137, mh_X12_numberAt, .inr (.inr ⟨rfl, wd_2058, wd_2060, wd_114, ⟨_, rfl, pd_X12_numberAt⟩, 12, _, TX12, 45, rfl, rfl⟩)⟩
theorem ck_RX12_417_2551 : COK2 RX12 vwCl gTbl 417 0 con_2551 := ⟨wd_2061, wd_137, mh_X12_numberAt, .inr (.inr ⟨rfl, wd_2058, wd_2060, wd_114, ⟨_, rfl, pd_X12_numberAt⟩, 12, _, TX12, 45, rfl, rfl⟩)⟩
theorem ck_RX12_417_2554 : COK2 RX12 vwCl gTbl 417 0 con_2554 := ⟨wd_2061, wd_137, mh_X12_numberAt, .inr (.inr ⟨rfl, wd_2058, wd_2060, wd_114, ⟨_, rfl, pd_X12_numberAt⟩, 12, _, TX12, 45, rfl, rfl⟩)⟩
theorem ck_RX12_417_2557 : COK2 RX12 vwCl gTbl 417 0 con_2557 := ⟨wd_2061, wd_137, mh_X12_numberAt, .inr (.inr ⟨rfl, wd_2058, wd_2060, wd_114, ⟨_, rfl, pd_X12_numberAt⟩, 12, _, TX12, 45, rfl, rfl⟩)⟩
theorem ck_RX12_417_2560 : COK2 RX12 vwCl gTbl 417 0 con_2560 := ⟨wd_2061, wd_137, mh_X12_numberAt, .inr (.inr ⟨rfl, wd_2058, wd_2060, wd_114, ⟨_, rfl, pd_X12_numberAt⟩, 12, _, TX12, 45, rfl, rfl⟩)⟩
theorem ck_RX12_417_2563 : COK2 RX12 vwCl gTbl 417 0 con_2563 := ⟨wd_2061, wd_137, mh_X12_numberAt, .inr (.inr ⟨rfl, wd_2058, wd_2060, wd_114, ⟨_, rfl, pd_X12_numberAt⟩, 12, _, TX12, 45, rfl, rfl⟩)⟩
theorem ck_RX12_417_2566 : COK2 RX12 vwCl gTbl 417 0 con_2566 := ⟨wd_2061, wd_137, mh_X12_numberAt, .inr (.inr ⟨rfl, wd_2058, wd_2060, wd_114, ⟨_, rfl, pd_X12_numberAt⟩, 12, _, TX12, 45, rfl, rfl⟩)⟩
theorem ck_RX12_417_2569 : COK2 RX12 vwCl gTbl 417 0 con_2569 := ⟨wd_2061, wd_137, mh_X12_numberAt, .inr (.inr ⟨rfl, wd_2058, wd_2060, wd_114, ⟨_, rfl, pd_X12_numberAt⟩, 12, _, TX12, 45, rfl, rfl⟩)⟩
theorem ck_RX12_417_2572 : COK2 RX12 vwCl gTbl 417 0 con_2572 := ⟨wd_2061, wd_137, mh_X12_numberAt, .inr (.inr ⟨rfl, wd_2058, wd_2060, wd_114, ⟨_, rfl, pd_X12_numberAt⟩, 12, _, TX12, 45, rfl, rfl⟩)⟩
theorem ck_RX12_417_2575 : COK2 RX12 vwCl gTbl 417 0 con_2575 := ⟨wd_2061, wd_137, mh_X12_numberAt, .inr (.inr ⟨rfl, wd_2058, wd_2060, wd_114, ⟨_, rfl, pd_X12_numberAt⟩, 12, _, TX12, 45, rfl, rfl⟩)⟩
theorem ck_RX12_417_2578 : COK2 RX12 vwCl gTbl 417 0 con_2578 := ⟨wd_2061, wd_137, mh_X12_numberAt, .inr (.inr ⟨rfl, wd_2058, wd_2060, wd_114, ⟨_, rfl, pd_X12_numberAt⟩, 12, _, TX12, 45, rfl, rfl⟩)⟩
theorem ck_RX12_417_2581 : COK2 RX12 vwCl gTbl 417 0 con_2581 := ⟨wd_2061, wd_137, mh_X12_numberAt, .inr (.inr ⟨rfl, wd_2058, wd_2060, wd_114, ⟨_, rfl, pd_X12_numberAt⟩, 12, _, TX12, 45, rfl, rfl⟩)⟩
theorem ck_RX12_417_2584 : COK2 RX12 vwCl gTbl 417 0 con_2584 := ⟨wd_2061, wd_137, mh_X12_numberAt, .inr (.inr ⟨rfl, wd_2058, wd_2060, wd_114, ⟨_, rfl, pd_X12_numberAt⟩, 12, _, TX12, 45, rfl, rfl⟩)⟩
theorem ck_RX12_417_2587 : COK2 RX12 vwCl gTbl 417 0 con_2587 := ⟨wd_2061, wd_137, mh_X12_numberAt, .inr (.inr ⟨rfl, wd_2058, wd_2060, wd_114, ⟨_, rfl, pd_X12_numberAt⟩, 12, _, TX12, 45, rfl, rfl⟩)⟩
theorem ck_RX12_417_2590 : COK2 RX12 vwCl gTbl 417 0 con_2590 := ⟨wd_2061, wd_137, mh_X12_numberAt, .inr (.inr ⟨rfl, wd_2058, wd_2060, wd_114, ⟨_, rfl, pd_X12_numberAt⟩, 12, _, TX12, 45, rfl, rfl⟩)⟩
noncomputable def ct_2593 : CTB2 := [(22, 417, 0, con_2590, [0, 2]), (22, 417, 0, con_2587, [0, 2]), (22, 417, 0, con_2584, [0, 2]), (22, 417, 0, con_2581, [0, 2]), (22, 417, 0, con_2578, [0, 2]), (22, 417, 0, con_2575, [0, 2]), (22, 417, 0, con_2572, [0, 2]), (22, 417, 0, con_2569, [0, 2]), (22, 417, 0, con_2566, [0, 2]), (22, 417, 0, con_2563, [0, 2]), (22, 417, 0, con_2560, [0, 2]), (22, 417, 0, con_2557, [0, 2]), (22, 417, 0, con_2554, [0, 2]), (22, 417, 0, con_2551, [0, 2]), (22, 417, 0, con_2548, [0, 2]), (22, 417, 0, con_2545, [0, 2]), (22, 417, 0, con_2542, [0, 2]), (22, 417, 0, con_2538, [0, 2]), (22, 417, 0, con_2535, [0, 2]), (22, 417, 0, con_2532, [0, 2]), (30, 417, 0, con_2591, [0, 2]), (30, 417, 0, con_2588, [0, 2]), (30, 417, 0, con_2585, [0, 2]), (30, 417, 0, con_2582, [0, 2]), (30, 417, 0, con_2579, [0, 2]), (30, 417, 0, con_2576, [0, 2]), (30, 417, 0, con_2573, [0, 2]), (30, 417, 0, con_2570, [0, 2]), (30, 417, 0, con_2567, [0, 2]), (30, 417, 0, con_2564, [0, 2]), (30, 417, 0, con_2561, [0, 2]), (30, 417, 0, con_2558, [0, 2]), (30, 417, 0, con_2555, [0, 2]), (30, 417, 0, con_2552, [0, 2]), (30, 417, 0, con_2549, [0, 2]), (30, 417, 0, con_2546, [0, 2]), (30, 417, 0, con_2543, [0, 2]), (30, 417, 0, con_2539, [0, 2]), (30, 417, 0, con_2536, [0, 2]), (30, 417, 0, con_2533, [0, 2]), (42, 417, 0, con_2592, [0, 2]), (42, 417, 0, con_2589, [0, 2]), (42, 417, 0, con_2586, [0, 2]), (42, 417, 0, con_2583, [0, 2]), (42, 417, 0, con_2580, [0, 2]), (42, 417, 0, con_2577, [0, 2]), (42, 417, 0, con_2574, [0, 2]), (42, 417, 0, con_2571, [0, 2]), (42, 417, 0, con_2568, [0, 2]), (42, 417, 0, con_2565, [0, 2]), (42, 417, 0, con_2562, [0, 2]), (42, 417, 0, con_2559, [0, 2]), (42, 417, 0, con_2556, [0, 2]), (42, 417, 0, con_2553, [0, 2]), (42, 417, 0, con_2550, [0, 2]), (42, 417, 0, con_2547, [0, 2]), (42, 417, 0, con_2544, [0, 2]), (42, 417, 0, con_2540, [0, 2]), (42, 417, 0, con_2537, [0, 2]), (42, 417, 0, con_2534, [0, 2])]
noncomputable def gi_2249 : GI := jl_n [gp_764, gp_569, jl_z 3]
noncomputable def cu_2593_0 : List CUT2 := [((2, [lq 0 6 0, lq 1 0 1, lq 2 0 0], [], gi_2249, hq_929), [], ([], 60)), ((2, [lq 0 6 0, lq 1 0 1, lq 2 0 3], [], gi_2249, hq_929), [], ([], 57)), ((2, [lq 0 6 0, lq 1 0 1, lq 2 0 6], [], gi_2249, hq_929), [], ([], 54)), ((2, [lq 0 6 0, lq 1 0 1, lq 2 0 9], [], gi_2249, hq_929), [], ([], 51)), ((2, [lq 0 6 0, lq 1 0 1, lq 2 0 12], [], gi_2249, hq_929), [], ([], 48)), ((2, [lq 0 6 0, lq 1 0 1, lq 2 0 15], [], gi_2249, hq_929), [], ([], 45)), ((2, [lq 0 6 0, lq 1 0 1, lq 2 0 18], [], gi_2249, hq_929), [], ([], 42)), ((2, [lq 0 6 0, lq 1 0 1, lq 2 0 21], [], gi_2249, hq_929), [], ([], 39)), ((2, [lq 0 6 0, lq 1 0 1, lq 2 0 24], [], gi_2249, hq_929), [], ([], 36)), ((2, [lq 0 6 0, lq 1 0 1, lq 2 0 27], [], gi_2249, hq_929), [], ([], 33)), ((2, [lq 0 6 0, lq 1 0 1, lq 2 0 30], [], gi_2249, hq_929), [], ([], 30)), ((2, [lq 0 6 0, lq 1 0 1, lq 2 0 33], [], gi_2249, hq_929), [], ([], 27)), ((2, [lq 0 6 0, lq 1 0 1, lq 2 0 36], [], gi_2249, hq_929), [], ([], 24)), ((2, [lq 0 6 0, lq 1 0 1, lq 2 0 39], [], gi_2249, hq_929), [], ([], 21)), ((2, [lq 0 6 0, lq 1 0 1, lq 2 0 42], [], gi_2249, hq_929), [], ([], 18)), ((2, [lq 0 6 0, lq 1 0 1, lq 2 0 45], [], gi_2249, hq_929), [], ([], 15)), ((2, [lq 0 6 0, lq 1 0 1, lq 2 0 48], [], gi_2249, hq_929), [], ([], 12)), ((2, [lq 0 6 0, lq 1 0 1, lq 2 0 51], [], gi_2249, hq_929), [], ([], 9))]
noncomputable def cu_2593_1 : List CUT2 := [((2, [lq 0 6 0, lq 1 0 1, lq 2 0 54], [], gi_2249, hq_929), [], ([], 6)), ((2, [lq 0 6 0, lq 1 0 1, lq 2 0 57], [], gi_2249, hq_929), [], ([], 3)), ((2, [lq 0 6 0, lq 1 0 1, lq 2 0 60], [], gi_2249, hq_929), [], ([], 0))]
noncomputable def cu_2593 : List CUT2 := cu_2593_0 ++ (cu_2593_1)
theorem ch_2593 : staG tb_X12_isSeen 1 bt_RX12 [] ct_2593 [] [] cu_2593 37 con_2593 = true := by decide +kernel
theorem cc_2593_0 : cu_2593_0.all (cutG tb_X12_isSeen 1 bt_RX12 [] ct_2593 [] [] cu_2593 37 con_2593) = true := by decide +kernel
theorem cc_2593_1 : cu_2593_1.all (cutG tb_X12_isSeen 1 bt_RX12 [] ct_2593 [] [] cu_2593 37 con_2593) = true := by decide +kernel
theorem cto_2593 (l : Launch) : CTOK2 l RX12 vwCl gTbl ct_2593 := ct2_cons (vl_2590 l) ck_RX12_417_2590 (ct2_cons (vl_2587 l) ck_RX12_417_2587 (ct2_cons (vl_2584 l) ck_RX12_417_2584 (ct2_cons (vl_2581 l) ck_RX12_417_2581 (ct2_cons (vl_2578 l) ck_RX12_417_2578 (ct2_cons (vl_2575 l) ck_RX12_417_2575 (ct2_cons (vl_2572 l) ck_RX12_417_2572 (ct2_cons (vl_2569 l) ck_RX12_417_2569 (ct2_cons (vl_2566 l) ck_RX12_417_2566 (ct2_cons (vl_2563 l) ck_RX12_417_2563 (ct2_cons (vl_2560 l) ck_RX12_417_2560 (ct2_cons (vl_2557 l) ck_RX12_417_2557 (ct2_cons (vl_2554 l) ck_RX12_417_2554 (ct2_cons (vl_2551 l) ck_RX12_417_2551 (ct2_cons (vl_2548 l) ck_RX12_417_2548 (ct2_cons (vl_2545 l) ck_RX12_417_2545 (ct2_cons (vl_2542 l) ck_RX12_417_2542 (ct2_cons (vl_2538 l) ck_RX12_417_2538 (ct2_cons (vl_2535 l) ck_RX12_417_2535 (ct2_cons (vl_2532 l) ck_RX12_417_2532 (ct2_cons (vl_2591 l) ck_RX12_417_2591 (ct2_cons (vl_2588 l) ck_RX12_417_2588 (ct2_cons (vl_2585 l) ck_RX12_417_2585 (ct2_cons (vl_2582 l) ck_RX12_417_2582 (ct2_cons (vl_2579 l) ck_RX12_417_2579 (ct2_cons (vl_2576 l) ck_RX12_417_2576 (ct2_cons (vl_2573 l) ck_RX12_417_2573 (ct2_cons (vl_2570 l) ck_RX12_417_2570 (ct2_cons (vl_2567 l) ck_RX12_417_2567 (ct2_cons (vl_2564 l) ck_RX12_417_2564 (ct2_cons (vl_2561 l) ck_RX12_417_2561 (ct2_cons (vl_2558 l) ck_RX12_417_2558 (ct2_cons (vl_2555 l) ck_RX12_417_2555 (ct2_cons (vl_2552 l) ck_RX12_417_2552 (ct2_cons (vl_2549 l) ck_RX12_417_2549 (ct2_cons (vl_2546 l) ck_RX12_417_2546 (ct2_cons (vl_2543 l) ck_RX12_417_2543 (ct2_cons (vl_2539 l) ck_RX12_417_2539 (ct2_cons (vl_2536 l) ck_RX12_417_2536 (ct2_cons (vl_2533 l) ck_RX12_417_2533 (ct2_cons (vl_2592 l) ck_RX12_417_2592 (ct2_cons (vl_2589 l) ck_RX12_417_2589 (ct2_cons (vl_2586 l) ck_RX12_417_2586 (ct2_cons (vl_2583 l) ck_RX12_417_2583 (ct2_cons (vl_2580 l) ck_RX12_417_2580 (ct2_cons (vl_2577 l) ck_RX12_417_2577 (ct2_cons (vl_2574 l) ck_RX12_417_2574 (ct2_cons (vl_2571 l) ck_RX12_417_2571 (ct2_cons (vl_2568 l) ck_RX12_417_2568 (ct2_cons (vl_2565 l) ck_RX12_417_2565 (ct2_cons (vl_2562 l) ck_RX12_417_2562 (ct2_cons (vl_2559 l) ck_RX12_417_2559 (ct2_cons (vl_2556 l) ck_RX12_417_2556 (ct2_cons (vl_2553 l) ck_RX12_417_2553 (ct2_cons (vl_2550 l) ck_RX12_417_2550 (ct2_cons (vl_2547 l) ck_RX12_417_2547 (ct2_cons (vl_2544 l) ck_RX12_417_2544 (ct2_cons (vl_2540 l) ck_RX12_417_2540 (ct2_cons (vl_2537 l) ck_RX12_417_2537 (ct2_cons (vl_2534 l) ck_RX12_417_2534 (ct2_nil))))))))))))))))))))))))))))))))))))))))))))))))))))))))))))
theorem vl_2593 (l : Launch) : Vld2 l vwCl gTbl con_2593 := conR_ok3 gT_all (hd_2593) rfl pn_RX12 tk_X12_isSeen bo_RX12 xo_RX12 (cto_2593 l) ch_2593 (cut_app (cut_all cc_2593_0) (cut_all cc_2593_1))
/-- RookHustingModel isSeen -/
noncomputable def gi_2250 : GI := jl_n [gp_764, gp_568]
noncomputable def gi_2251 : GI := jl_n [gp_764, gp_568, jl_z 1]
noncomputable def con_2594 : Con2 := ((yX12_isSeen, cX12_isSeen, 3, (some .boolean)), (1, 22), ([(6, 0, 0), (0, 1, 0)], gi_2250, hc_221, []), [((0, 0, 0), gi_2251, hq_929, [], [1]), ((0, 1, 0), gi_2251, hq_929, [], [1])])
theorem hd_2594 : con_2594.1 = (yX12_isSeen, cX12_isSeen, 3, (some .boolean)) := rfl
noncomputable def ct_2594 : CTB2 := [(22, 417, 0, con_2535, [0, 2]), (22, 417, 0, con_2532, [0, 2]), (30, 417, 0, con_2536, [0, 2]), (30, 417, 0, con_2533, [0, 2]), (42, 417, 0, con_2537, [0, 2]), (42, 417, 0, con_2534, [0, 2])]
noncomputable def gi_2252 : GI := jl_n [gp_764, gp_568, jl_z 3]
noncomputable def cu_2594 : List CUT2 := [((2, [lq 0 6 0, lq 1 0 1, lq 2 0 0], [], gi_2252, hq_929), [], ([], 6)), ((2, [lq 0 6 0, lq 1 0 1, lq 2 0 3], [], gi_2252, hq_929), [], ([], 3)), ((2, [lq 0 6 0, lq 1 0 1, lq 2 0 6], [], gi_2252, hq_929), [], ([], 0))]
theorem ch_2594 : staG tb_X12_isSeen 1 bt_RX12 [] ct_2594 [] [] cu_2594 37 con_2594 = true := by decide +kernel
theorem cc_2594 : cu_2594.all (cutG tb_X12_isSeen 1 bt_RX12 [] ct_2594 [] [] cu_2594 37 con_2594) = true := by decide +kernel
theorem cto_2594 (l : Launch) : CTOK2 l RX12 vwCl gTbl ct_2594 := ct2_cons (vl_2535 l) ck_RX12_417_2535 (ct2_cons (vl_2532 l) ck_RX12_417_2532 (ct2_cons (vl_2536 l) ck_RX12_417_2536 (ct2_cons (vl_2533 l) ck_RX12_417_2533 (ct2_cons (vl_2537 l) ck_RX12_417_2537 (ct2_cons (vl_2534 l) ck_RX12_417_2534 (ct2_nil))))))
theorem vl_2594 (l : Launch) : Vld2 l vwCl gTbl con_2594 := conR_ok3 gT_all (hd_2594) rfl pn_RX12 tk_X12_isSeen bo_RX12 xo_RX12 (cto_2594 l) ch_2594 (cut_all cc_2594)
/-- RookHustingModel isSeen -/
noncomputable def gi_2253 : GI := jl_n [gp_764, gp_566]
noncomputable def gi_2254 : GI := jl_n [gp_764, gp_566, jl_z 1]
noncomputable def con_2595 : Con2 := ((yX12_isSeen, cX12_isSeen, 3, (some .boolean)), (1, 22), ([(6, 0, 0), (0, 1, 0)], gi_2253, hc_221, []), [((0, 0, 0), gi_2254, hq_929, [], [1]), ((0, 1, 0), gi_2254, hq_929, [], [1])])
theorem hd_2595 : con_2595.1 = (yX12_isSeen, cX12_isSeen, 3, (some .boolean)) := rfl
noncomputable def ct_2595 : CTB2 := [(22, 417, 0, con_2587, [0, 2]), (22, 417, 0, con_2584, [0, 2]), (22, 417, 0, con_2581, [0, 2]), (22, 417, 0, con_2578, [0, 2]), (22, 417, 0, con_2575, [0, 2]), (22, 417, 0, con_2572, [0, 2]), (22, 417, 0, con_2569, [0, 2]), (22, 417, 0, con_2566, [0, 2]), (22, 417, 0, con_2563, [0, 2]), (22, 417, 0, con_2560, [0, 2]), (22, 417, 0, con_2557, [0, 2]), (22, 417, 0, con_2554, [0, 2]), (22, 417, 0, con_2551, [0, 2]), (22, 417, 0, con_2548, [0, 2]), (22, 417, 0, con_2545, [0, 2]), (22, 417, 0, con_2542, [0, 2]), (22, 417, 0, con_2538, [0, 2]), (22, 417, 0, con_2535, [0, 2]), (22, 417, 0, con_2532, [0, 2]), (30, 417, 0, con_2588, [0, 2]), (30, 417, 0, con_2585, [0, 2]), (30, 417, 0, con_2582, [0, 2]), (30, 417, 0, con_2579, [0, 2]), (30, 417, 0, con_2576, [0, 2]), (30, 417, 0, con_2573, [0, 2]), (30, 417, 0, con_2570, [0, 2]), (30, 417, 0, con_2567, [0, 2]), (30, 417, 0, con_2564, [0, 2]), (30, 417, 0, con_2561, [0, 2]), (30, 417, 0, con_2558, [0, 2]), (30, 417, 0, con_2555, [0, 2]), (30, 417, 0, con_2552, [0, 2]), (30, 417, 0, con_2549, [0, 2]), (30, 417, 0, con_2546, [0, 2]), (30, 417, 0, con_2543, [0, 2]), (30, 417, 0, con_2539, [0, 2]), (30, 417, 0, con_2536, [0, 2]), (30, 417, 0, con_2533, [0, 2]), (42, 417, 0, con_2589, [0, 2]), (42, 417, 0, con_2586, [0, 2]), (42, 417, 0, con_2583, [0, 2]), (42, 417, 0, con_2580, [0, 2]), (42, 417, 0, con_2577, [0, 2]), (42, 417, 0, con_2574, [0, 2]), (42, 417, 0, con_2571, [0, 2]), (42, 417, 0, con_2568, [0, 2]), (42, 417, 0, con_2565, [0, 2]), (42, 417, 0, con_2562, [0, 2]), (42, 417, 0, con_2559, [0, 2]), (42, 417, 0, con_2556, [0, 2]), (42, 417, 0, con_2553, [0, 2]), (42, 417, 0, con_2550, [0, 2]), (42, 417, 0, con_2547, [0, 2]), (42, 417, 0, con_2544, [0, 2]), (42, 417, 0, con_2540, [0, 2]), (42, 417, 0, con_2537, [0, 2]), (42, 417, 0, con_2534, [0, 2])]
noncomputable def gi_2255 : GI := jl_n [gp_764, gp_566, jl_z 3]
noncomputable def cu_2595_0 : List CUT2 := [((2, [lq 0 6 0, lq 1 0 1, lq 2 0 0], [], gi_2255, hq_929), [], ([], 57)), ((2, [lq 0 6 0, lq 1 0 1, lq 2 0 3], [], gi_2255, hq_929), [], ([], 54)), ((2, [lq 0 6 0, lq 1 0 1, lq 2 0 6], [], gi_2255, hq_929), [], ([], 51)), ((2, [lq 0 6 0, lq 1 0 1, lq 2 0 9], [], gi_2255, hq_929), [], ([], 48)), ((2, [lq 0 6 0, lq 1 0 1, lq 2 0 12], [], gi_2255, hq_929), [], ([], 45)), ((2, [lq 0 6 0, lq 1 0 1, lq 2 0 15], [], gi_2255, hq_929), [], ([], 42)), ((2, [lq 0 6 0, lq 1 0 1, lq 2 0 18], [], gi_2255, hq_929), [], ([], 39)), ((2, [lq 0 6 0, lq 1 0 1, lq 2 0 21], [], gi_2255, hq_929), [], ([], 36)), ((2, [lq 0 6 0, lq 1 0 1, lq 2 0 24], [], gi_2255, hq_929), [], ([], 33)), ((2, [lq 0 6 0, lq 1 0 1, lq 2 0 27], [], gi_2255, hq_929), [], ([], 30)), ((2, [lq 0 6 0, lq 1 0 1, lq 2 0 30], [], gi_2255, hq_929), [], ([], 27)), ((2, [lq 0 6 0, lq 1 0 1, lq 2 0 33], [], gi_2255, hq_929), [], ([], 24)), ((2, [lq 0 6 0, lq 1 0 1, lq 2 0 36], [], gi_2255, hq_929), [], ([], 21)), ((2, [lq 0 6 0, lq 1 0 1, lq 2 0 39], [], gi_2255, hq_929), [], ([], 18)), ((2, [lq 0 6 0, lq 1 0 1, lq 2 0 42], [], gi_2255, hq_929), [], ([], 15)), ((2, [lq 0 6 0, lq 1 0 1, lq 2 0 45], [], gi_2255, hq_929), [], ([], 12)), ((2, [lq 0 6 0, lq 1 0 1, lq 2 0 48], [], gi_2255, hq_929), [], ([], 9)), ((2, [lq 0 6 0, lq 1 0 1, lq 2 0 51], [], gi_2255, hq_929), [], ([], 6))]
noncomputable def cu_2595_1 : List CUT2 := [((2, [lq 0 6 0, lq 1 0 1, lq 2 0 54], [], gi_2255, hq_929), [], ([], 3)), ((2, [lq 0 6 0, lq 1 0 1, lq 2 0 57], [], gi_2255, hq_929), [], ([], 0))]
noncomputable def cu_2595 : List CUT2 := cu_2595_0 ++ (cu_2595_1)
theorem ch_2595 : staG tb_X12_isSeen 1 bt_RX12 [] ct_2595 [] [] cu_2595 37 con_2595 = true := by decide +kernel
theorem cc_2595_0 : cu_2595_0.all (cutG tb_X12_isSeen 1 bt_RX12 [] ct_2595 [] [] cu_2595 37 con_2595) = true := by decide +kernel
theorem cc_2595_1 : cu_2595_1.all (cutG tb_X12_isSeen 1 bt_RX12 [] ct_2595 [] [] cu_2595 37 con_2595) = true := by decide +kernel
theorem cto_2595 (l : Launch) : CTOK2 l RX12 vwCl gTbl ct_2595 := ct2_cons (vl_2587 l) ck_RX12_417_2587 (ct2_cons (vl_2584 l) ck_RX12_417_2584 (ct2_cons (vl_2581 l) ck_RX12_417_2581 (ct2_cons (vl_2578 l) ck_RX12_417_2578 (ct2_cons (vl_2575 l) ck_RX12_417_2575 (ct2_cons (vl_2572 l) ck_RX12_417_2572 (ct2_cons (vl_2569 l) ck_RX12_417_2569 (ct2_cons (vl_2566 l) ck_RX12_417_2566 (ct2_cons (vl_2563 l) ck_RX12_417_2563 (ct2_cons (vl_2560 l) ck_RX12_417_2560 (ct2_cons (vl_2557 l) ck_RX12_417_2557 (ct2_cons (vl_2554 l) ck_RX12_417_2554 (ct2_cons (vl_2551 l) ck_RX12_417_2551 (ct2_cons (vl_2548 l) ck_RX12_417_2548 (ct2_cons (vl_2545 l) ck_RX12_417_2545 (ct2_cons (vl_2542 l) ck_RX12_417_2542 (ct2_cons (vl_2538 l) ck_RX12_417_2538 (ct2_cons (vl_2535 l) ck_RX12_417_2535 (ct2_cons (vl_2532 l) ck_RX12_417_2532 (ct2_cons (vl_2588 l) ck_RX12_417_2588 (ct2_cons (vl_2585 l) ck_RX12_417_2585 (ct2_cons (vl_2582 l) ck_RX12_417_2582 (ct2_cons (vl_2579 l) ck_RX12_417_2579 (ct2_cons (vl_2576 l) ck_RX12_417_2576 (ct2_cons (vl_2573 l) ck_RX12_417_2573 (ct2_cons (vl_2570 l) ck_RX12_417_2570 (ct2_cons (vl_2567 l) ck_RX12_417_2567 (ct2_cons (vl_2564 l) ck_RX12_417_2564 (ct2_cons (vl_2561 l) ck_RX12_417_2561 (ct2_cons (vl_2558 l) ck_RX12_417_2558 (ct2_cons (vl_2555 l) ck_RX12_417_2555 (ct2_cons (vl_2552 l) ck_RX12_417_2552 (ct2_cons (vl_2549 l) ck_RX12_417_2549 (ct2_cons (vl_2546 l) ck_RX12_417_2546 (ct2_cons (vl_2543 l) ck_RX12_417_2543 (ct2_cons (vl_2539 l) ck_RX12_417_2539 (ct2_cons (vl_2536 l) ck_RX12_417_2536 (ct2_cons (vl_2533 l) ck_RX12_417_2533 (ct2_cons (vl_2589 l) ck_RX12_417_2589 (ct2_cons (vl_2586 l) ck_RX12_417_2586 (ct2_cons (vl_2583 l) ck_RX12_417_2583 (ct2_cons (vl_2580 l) ck_RX12_417_2580 (ct2_cons (vl_2577 l) ck_RX12_417_2577 (ct2_cons (vl_2574 l) ck_RX12_417_2574 (ct2_cons (vl_2571 l) ck_RX12_417_2571 (ct2_cons (vl_2568 l) ck_RX12_417_2568 (ct2_cons (vl_2565 l) ck_RX12_417_2565 (ct2_cons (vl_2562 l) ck_RX12_417_2562 (ct2_cons (vl_2559 l) ck_RX12_417_2559 (ct2_cons (vl_2556 l) ck_RX12_417_2556 (ct2_cons (vl_2553 l) ck_RX12_417_2553 (ct2_cons (vl_2550 l) ck_RX12_417_2550 (ct2_cons (vl_2547 l) ck_RX12_417_2547 (ct2_cons (vl_2544 l) ck_RX12_417_2544 (ct2_cons (vl_2540 l) ck_RX12_417_2540 (ct2_cons (vl_2537 l) ck_RX12_417_2537 (ct2_cons (vl_2534 l) ck_RX12_417_2534 (ct2_nil)))))))))))))))))))))))))))))))))))))))))))))))))))))))))
theorem vl_2595 (l : Launch) : Vld2 l vwCl gTbl con_2595 := conR_ok3 gT_all (hd_2595) rfl pn_RX12 tk_X12_isSeen bo_RX12 xo_RX12 (cto_2595 l) ch_2595 (cut_app (cut_all cc_2595_0) (cut_all cc_2595_1))
/-- RookHustingModel isSeen -/
noncomputable def gi_2256 : GI := jl_n [gp_764, gp_564]
noncomputable def gi_2257 : GI := jl_n [gp_764, gp_564, jl_z 1]
noncomputable def con_2596 : Con2 := ((yX12_isSeen, cX12_isSeen, 3, (some .boolean)), (1, 22), ([(6, 0, 0), (0, 1, 0)], gi_2256, hc_221, []), [((0, 0, 0), gi_2257, hq_929, [], [1]), ((0, 1, 0), gi_2257, hq_929, [], [1])])
theorem hd_2596 : con_2596.1 = (yX12_isSeen, cX12_isSeen, 3, (some .boolean)) := rfl
noncomputable def ct_2596 : CTB2 := [(22, 417, 0, con_2584, [0, 2]), (22, 417, 0, con_2581, [0, 2]), (22, 417, 0, con_2578, [0, 2]), (22, 417, 0, con_2575, [0, 2]), (22, 417, 0, con_2572, [0, 2]), (22, 417, 0, con_2569, [0, 2]), (22, 417, 0, con_2566, [0, 2]), (22, 417, 0, con_2563, [0, 2]), (22, 417, 0, con_2560, [0, 2]), (22, 417, 0, con_2557, [0, 2]), (22, 417, 0, con_2554, [0, 2]), (22, 417, 0, con_2551, [0, 2]), (22, 417, 0, con_2548, [0, 2]), (22, 417, 0, con_2545, [0, 2]), (22, 417, 0, con_2542, [0, 2]), (22, 417, 0, con_2538, [0, 2]), (22, 417, 0, con_2535, [0, 2]), (22, 417, 0, con_2532, [0, 2]), (30, 417, 0, con_2585, [0, 2]), (30, 417, 0, con_2582, [0, 2]), (30, 417, 0, con_2579, [0, 2]), (30, 417, 0, con_2576, [0, 2]), (30, 417, 0, con_2573, [0, 2]), (30, 417, 0, con_2570, [0, 2]), (30, 417, 0, con_2567, [0, 2]), (30, 417, 0, con_2564, [0, 2]), (30, 417, 0, con_2561, [0, 2]), (30, 417, 0, con_2558, [0, 2]), (30, 417, 0, con_2555, [0, 2]), (30, 417, 0, con_2552, [0, 2]), (30, 417, 0, con_2549, [0, 2]), (30, 417, 0, con_2546, [0, 2]), (30, 417, 0, con_2543, [0, 2]), (30, 417, 0, con_2539, [0, 2]), (30, 417, 0, con_2536, [0, 2]), (30, 417, 0, con_2533, [0, 2]), (42, 417, 0, con_2586, [0, 2]), (42, 417, 0, con_2583, [0, 2]), (42, 417, 0, con_2580, [0, 2]), (42, 417, 0, con_2577, [0, 2]), (42, 417, 0, con_2574, [0, 2]), (42, 417, 0, con_2571, [0, 2]), (42, 417, 0, con_2568, [0, 2]), (42, 417, 0, con_2565, [0, 2]), (42, 417, 0, con_2562, [0, 2]), (42, 417, 0, con_2559, [0, 2]), (42, 417, 0, con_2556, [0, 2]), (42, 417, 0, con_2553, [0, 2]), (42, 417, 0, con_2550, [0, 2]), (42, 417, 0, con_2547, [0, 2]), (42, 417, 0, con_2544, [0, 2]), (42, 417, 0, con_2540, [0, 2]), (42, 417, 0, con_2537, [0, 2]), (42, 417, 0, con_2534, [0, 2])]
noncomputable def gi_2258 : GI := jl_n [gp_764, gp_564, jl_z 3]
noncomputable def cu_2596 : List CUT2 := [((2, [lq 0 6 0, lq 1 0 1, lq 2 0 0], [], gi_2258, hq_929), [], ([], 54)), ((2, [lq 0 6 0, lq 1 0 1, lq 2 0 3], [], gi_2258, hq_929), [], ([], 51)), ((2, [lq 0 6 0, lq 1 0 1, lq 2 0 6], [], gi_2258, hq_929), [], ([], 48)), ((2, [lq 0 6 0, lq 1 0 1, lq 2 0 9], [], gi_2258, hq_929), [], ([], 45)), ((2, [lq 0 6 0, lq 1 0 1, lq 2 0 12], [], gi_2258, hq_929), [], ([], 42)), ((2, [lq 0 6 0, lq 1 0 1, lq 2 0 15], [], gi_2258, hq_929), [], ([], 39)), ((2, [lq 0 6 0, lq 1 0 1, lq 2 0 18], [], gi_2258, hq_929), [], ([], 36)), ((2, [lq 0 6 0, lq 1 0 1, lq 2 0 21], [], gi_2258, hq_929), [], ([], 33)), ((2, [lq 0 6 0, lq 1 0 1, lq 2 0 24], [], gi_2258, hq_929), [], ([], 30)), ((2, [lq 0 6 0, lq 1 0 1, lq 2 0 27], [], gi_2258, hq_929), [], ([], 27)), ((2, [lq 0 6 0, lq 1 0 1, lq 2 0 30], [], gi_2258, hq_929), [], ([], 24)), ((2, [lq 0 6 0, lq 1 0 1, lq 2 0 33], [], gi_2258, hq_929), [], ([], 21)), ((2, [lq 0 6 0, lq 1 0 1, lq 2 0 36], [], gi_2258, hq_929), [], ([], 18)), ((2, [lq 0 6 0, lq 1 0 1, lq 2 0 39], [], gi_2258, hq_929), [], ([], 15)), ((2, [lq 0 6 0, lq 1 0 1, lq 2 0 42], [], gi_2258, hq_929), [], ([], 12)), ((2, [lq 0 6 0, lq 1 0 1, lq 2 0 45], [], gi_2258, hq_929), [], ([], 9)), ((2, [lq 0 6 0, lq 1 0 1, lq 2 0 48], [], gi_2258, hq_929), [], ([], 6)), ((2, [lq 0 6 0, lq 1 0 1, lq 2 0 51], [], gi_2258, hq_929), [], ([], 3)), ((2, [lq 0 6 0, lq 1 0 1, lq 2 0 54], [], gi_2258, hq_929), [], ([], 0))]
theorem ch_2596 : staG tb_X12_isSeen 1 bt_RX12 [] ct_2596 [] [] cu_2596 37 con_2596 = true := by decide +kernel
theorem cc_2596 : cu_2596.all (cutG tb_X12_isSeen 1 bt_RX12 [] ct_2596 [] [] cu_2596 37 con_2596) = true := by decide +kernel
theorem cto_2596 (l : Launch) : CTOK2 l RX12 vwCl gTbl ct_2596 := ct2_cons (vl_2584 l) ck_RX12_417_2584 (ct2_cons (vl_2581 l) ck_RX12_417_2581 (ct2_cons (vl_2578 l) ck_RX12_417_2578 (ct2_cons (vl_2575 l) ck_RX12_417_2575 (ct2_cons (vl_2572 l) ck_RX12_417_2572 (ct2_cons (vl_2569 l) ck_RX12_417_2569 (ct2_cons (vl_2566 l) ck_RX12_417_2566 (ct2_cons (vl_2563 l) ck_RX12_417_2563 (ct2_cons (vl_2560 l) ck_RX12_417_2560 (ct2_cons (vl_2557 l) ck_RX12_417_2557 (ct2_cons (vl_2554 l) ck_RX12_417_2554 (ct2_cons (vl_2551 l) ck_RX12_417_2551 (ct2_cons (vl_2548 l) ck_RX12_417_2548 (ct2_cons (vl_2545 l) ck_RX12_417_2545 (ct2_cons (vl_2542 l) ck_RX12_417_2542 (ct2_cons (vl_2538 l) ck_RX12_417_2538 (ct2_cons (vl_2535 l) ck_RX12_417_2535 (ct2_cons (vl_2532 l) ck_RX12_417_2532 (ct2_cons (vl_2585 l) ck_RX12_417_2585 (ct2_cons (vl_2582 l) ck_RX12_417_2582 (ct2_cons (vl_2579 l) ck_RX12_417_2579 (ct2_cons (vl_2576 l) ck_RX12_417_2576 (ct2_cons (vl_2573 l) ck_RX12_417_2573 (ct2_cons (vl_2570 l) ck_RX12_417_2570 (ct2_cons (vl_2567 l) ck_RX12_417_2567 (ct2_cons (vl_2564 l) ck_RX12_417_2564 (ct2_cons (vl_2561 l) ck_RX12_417_2561 (ct2_cons (vl_2558 l) ck_RX12_417_2558 (ct2_cons (vl_2555 l) ck_RX12_417_2555 (ct2_cons (vl_2552 l) ck_RX12_417_2552 (ct2_cons (vl_2549 l) ck_RX12_417_2549 (ct2_cons (vl_2546 l) ck_RX12_417_2546 (ct2_cons (vl_2543 l) ck_RX12_417_2543 (ct2_cons (vl_2539 l) ck_RX12_417_2539 (ct2_cons (vl_2536 l) ck_RX12_417_2536 (ct2_cons (vl_2533 l) ck_RX12_417_2533 (ct2_cons (vl_2586 l) ck_RX12_417_2586 (ct2_cons (vl_2583 l) ck_RX12_417_2583 (ct2_cons (vl_2580 l) ck_RX12_417_2580 (ct2_cons (vl_2577 l) ck_RX12_417_2577 (ct2_cons (vl_2574 l) ck_RX12_417_2574 (ct2_cons (vl_2571 l) ck_RX12_417_2571 (ct2_cons (vl_2568 l) ck_RX12_417_2568 (ct2_cons (vl_2565 l) ck_RX12_417_2565 (ct2_cons (vl_2562 l) ck_RX12_417_2562 (ct2_cons (vl_2559 l) ck_RX12_417_2559 (ct2_cons (vl_2556 l) ck_RX12_417_2556 (ct2_cons (vl_2553 l) ck_RX12_417_2553 (ct2_cons (vl_2550 l) ck_RX12_417_2550 (ct2_cons (vl_2547 l) ck_RX12_417_2547 (ct2_cons (vl_2544 l) ck_RX12_417_2544 (ct2_cons (vl_2540 l) ck_RX12_417_2540 (ct2_cons (vl_2537 l) ck_RX12_417_2537 (ct2_cons (vl_2534 l) ck_RX12_417_2534 (ct2_nil))))))))))))))))))))))))))))))))))))))))))))))))))))))
theorem vl_2596 (l : Launch) : Vld2 l vwCl gTbl con_2596 := conR_ok3 gT_all (hd_2596) rfl pn_RX12 tk_X12_isSeen bo_RX12 xo_RX12 (cto_2596 l) ch_2596 (cut_all cc_2596)
