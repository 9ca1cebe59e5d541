/-! ===== contracts, 54 ===== -/
/-- RookHustingModel isSlot -/
noncomputable def con_2370 : Con2 := ((yX12_isSlot, cX12_isSlot, 1, (some .boolean)), (1, 25), ([(0, 0, 0)], [(0, 0)], [], []), [((0, 1, 0), [(0, 0), (0, 0)], [], [], [1])])
theorem hd_2370 : con_2370.1 = (yX12_isSlot, cX12_isSlot, 1, (some .boolean)) := rfl
noncomputable def cu_2370 : List CUT2 := []
theorem ch_2370 : staG tb_X12_isSlot 1 bt_RX12 [] ct_1927 [] [] cu_2370 8 con_2370 = true := by decide +kernel
theorem vl_2370 (l : Launch) : Vld2 l vwCl gTbl con_2370 := conR_ok3 gT_all (hd_2370) rfl pn_RX12 tk_X12_isSlot bo_RX12 xo_RX12 (cto_1927 l) ch_2370 cut_nil
/-- RookHustingModel numberAt -/
noncomputable def ac_1295 : AC := .inr (2, jl_n [js_4 49 1, js_5 239 9223372036854775807 9223372036854775807])
noncomputable def con_2371 : Con2 := ((yX12_numberAt, cX12_numberAt, 3, (some .long)), (0, 0), ([(6, 0, 0), (0, 0, 0), (0, 0, 0)], gi_1801, [ac_1100, ac_1295], []), [((4, 48, 0), gi_1802, [(false, ac_1100), (false, ac_1295)], [], [1])])
theorem hd_2371 : con_2371.1 = (yX12_numberAt, cX12_numberAt, 3, (some .long)) := rfl
noncomputable def cu_2371 : List CUT2 := []
theorem ch_2371 : staG tb_X12_numberAt 1 bt_RX12 [] ct_2 [] [] cu_2371 11 con_2371 = true := by decide +kernel
theorem vl_2371 (l : Launch) : Vld2 l vwCl gTbl con_2371 := conR_ok3 gT_all (hd_2371) rfl pn_RX12 tk_X12_numberAt bo_RX12 xo_RX12 (cto_2 l) ch_2371 cut_nil
/-- RookHustingModel numberAt -/
noncomputable def gi_2394 : GI := jl_n [jl_z 49, jl_u]
noncomputable def ac_1296 : AC := .inr (2, jl_n [js_5 1 9223372036854775807 9223372036854775807, js_4 50 1, js_5 238 9223372036854775807 9223372036854775807])
noncomputable def gi_2395 : GI := jl_n [jl_z 49, gp_129]
noncomputable def con_2372 : Con2 := ((yX12_numberAt, cX12_numberAt, 3, (some .long)), (0, 0), ([(6, 0, 0), (0, 0, 0), (0, 1, 0)], gi_2394, [ac_1100, ac_1296], []), [((4, 49, 0), gi_2395, [(false, ac_1100), (false, ac_1296)], [], [1])])
theorem hd_2372 : con_2372.1 = (yX12_numberAt, cX12_numberAt, 3, (some .long)) := rfl
noncomputable def cu_2372 : List CUT2 := []
theorem ch_2372 : staG tb_X12_numberAt 1 bt_RX12 [] ct_2 [] [] cu_2372 11 con_2372 = true := by decide +kernel
theorem vl_2372 (l : Launch) : Vld2 l vwCl gTbl con_2372 := conR_ok3 gT_all (hd_2372) rfl pn_RX12 tk_X12_numberAt bo_RX12 xo_RX12 (cto_2 l) ch_2372 cut_nil
/-- RookHustingModel numberAt -/
noncomputable def ac_1297 : AC := .inr (2, jl_n [js_5 2 9223372036854775807 9223372036854775807, js_4 49 1, js_5 237 9223372036854775807 9223372036854775807])
noncomputable def con_2373 : Con2 := ((yX12_numberAt, cX12_numberAt, 3, (some .long)), (0, 0), ([(6, 0, 0), (0, 0, 0), (0, 2, 0)], gi_1801, [ac_1100, ac_1297], []), [((4, 48, 0), gi_1802, [(false, ac_1100), (false, ac_1297)], [], [1])])
theorem hd_2373 : con_2373.1 = (yX12_numberAt, cX12_numberAt, 3, (some .long)) := rfl
noncomputable def cu_2373 : List CUT2 := []
theorem ch_2373 : staG tb_X12_numberAt 1 bt_RX12 [] ct_2 [] [] cu_2373 11 con_2373 = true := by decide +kernel
theorem vl_2373 (l : Launch) : Vld2 l vwCl gTbl con_2373 := conR_ok3 gT_all (hd_2373) rfl pn_RX12 tk_X12_numberAt bo_RX12 xo_RX12 (cto_2 l) ch_2373 cut_nil
/-- RookHustingModel numberAt -/
noncomputable def ac_1298 : AC := .inr (2, jl_n [js_5 3 9223372036854775807 9223372036854775807, js_4 49 1, js_5 236 9223372036854775807 9223372036854775807])
noncomputable def con_2374 : Con2 := ((yX12_numberAt, cX12_numberAt, 3, (some .long)), (0, 0), ([(6, 0, 0), (0, 0, 0), (0, 3, 0)], gi_1801, [ac_1100, ac_1298], []), [((4, 48, 0), gi_1802, [(false, ac_1100), (false, ac_1298)], [], [1])])
theorem hd_2374 : con_2374.1 = (yX12_numberAt, cX12_numberAt, 3, (some .long)) := rfl
noncomputable def cu_2374 : List CUT2 := []
theorem ch_2374 : staG tb_X12_numberAt 1 bt_RX12 [] ct_2 [] [] cu_2374 11 con_2374 = true := by decide +kernel
theorem vl_2374 (l : Launch) : Vld2 l vwCl gTbl con_2374 := conR_ok3 gT_all (hd_2374) rfl pn_RX12 tk_X12_numberAt bo_RX12 xo_RX12 (cto_2 l) ch_2374 cut_nil
/-- RookHustingModel numberAt -/
noncomputable def ac_1299 : AC := .inr (2, jl_n [js_5 4 9223372036854775807 9223372036854775807, js_4 49 1, js_5 235 9223372036854775807 9223372036854775807])
noncomputable def con_2375 : Con2 := ((yX12_numberAt, cX12_numberAt, 3, (some .long)), (0, 0), ([(6, 0, 0), (0, 0, 0), (0, 4, 0)], gi_1801, [ac_1100, ac_1299], []), [((4, 48, 0), gi_1802, [(false, ac_1100), (false, ac_1299)], [], [1])])
theorem hd_2375 : con_2375.1 = (yX12_numberAt, cX12_numberAt, 3, (some .long)) := rfl
noncomputable def cu_2375 : List CUT2 := []
theorem ch_2375 : staG tb_X12_numberAt 1 bt_RX12 [] ct_2 [] [] cu_2375 11 con_2375 = true := by decide +kernel
theorem vl_2375 (l : Launch) : Vld2 l vwCl gTbl con_2375 := conR_ok3 gT_all (hd_2375) rfl pn_RX12 tk_X12_numberAt bo_RX12 xo_RX12 (cto_2 l) ch_2375 cut_nil
/-- RookHustingModel numberAt -/
noncomputable def ac_1300 : AC := .inr (2, jl_n [js_5 5 9223372036854775807 9223372036854775807, js_4 49 1, js_5 234 9223372036854775807 9223372036854775807])
noncomputable def con_2376 : Con2 := ((yX12_numberAt, cX12_numberAt, 3, (some .long)), (0, 0), ([(6, 0, 0), (0, 0, 0), (0, 5, 0)], gi_1801, [ac_1100, ac_1300], []), [((4, 48, 0), gi_1802, [(false, ac_1100), (false, ac_1300)], [], [1])])
theorem hd_2376 : con_2376.1 = (yX12_numberAt, cX12_numberAt, 3, (some .long)) := rfl
noncomputable def cu_2376 : List CUT2 := []
theorem ch_2376 : staG tb_X12_numberAt 1 bt_RX12 [] ct_2 [] [] cu_2376 11 con_2376 = true := by decide +kernel
theorem vl_2376 (l : Launch) : Vld2 l vwCl gTbl con_2376 := conR_ok3 gT_all (hd_2376) rfl pn_RX12 tk_X12_numberAt bo_RX12 xo_RX12 (cto_2 l) ch_2376 cut_nil
/-- RookHustingModel numberAt -/
noncomputable def ac_1301 : AC := .inr (2, jl_n [js_5 6 9223372036854775807 9223372036854775807, js_4 49 1, js_5 233 9223372036854775807 9223372036854775807])
noncomputable def con_2377 : Con2 := ((yX12_numberAt, cX12_numberAt, 3, (some .long)), (0, 0), ([(6, 0, 0), (0, 0, 0), (0, 6, 0)], gi_1801, [ac_1100, ac_1301], []), [((4, 48, 0), gi_1802, [(false, ac_1100), (false, ac_1301)], [], [1])])
theorem hd_2377 : con_2377.1 = (yX12_numberAt, cX12_numberAt, 3, (some .long)) := rfl
noncomputable def cu_2377 : List CUT2 := []
theorem ch_2377 : staG tb_X12_numberAt 1 bt_RX12 [] ct_2 [] [] cu_2377 11 con_2377 = true := by decide +kernel
theorem vl_2377 (l : Launch) : Vld2 l vwCl gTbl con_2377 := conR_ok3 gT_all (hd_2377) rfl pn_RX12 tk_X12_numberAt bo_RX12 xo_RX12 (cto_2 l) ch_2377 cut_nil
/-- RookHustingModel numberAt -/
noncomputable def ac_1302 : AC := .inr (2, jl_n [js_5 7 9223372036854775807 9223372036854775807, js_4 49 1, js_5 232 9223372036854775807 9223372036854775807])
noncomputable def con_2378 : Con2 := ((yX12_numberAt, cX12_numberAt, 3, (some .long)), (0, 0), ([(6, 0, 0), (0, 0, 0), (0, 7, 0)], gi_1801, [ac_1100, ac_1302], []), [((4, 48, 0), gi_1802, [(false, ac_1100), (false, ac_1302)], [], [1])])
theorem hd_2378 : con_2378.1 = (yX12_numberAt, cX12_numberAt, 3, (some .long)) := rfl
noncomputable def cu_2378 : List CUT2 := []
theorem ch_2378 : staG tb_X12_numberAt 1 bt_RX12 [] ct_2 [] [] cu_2378 11 con_2378 = true := by decide +kernel
theorem vl_2378 (l : Launch) : Vld2 l vwCl gTbl con_2378 := conR_ok3 gT_all (hd_2378) rfl pn_RX12 tk_X12_numberAt bo_RX12 xo_RX12 (cto_2 l) ch_2378 cut_nil
/-- RookHustingModel numberAt -/
noncomputable def ac_1303 : AC := .inr (2, jl_n [js_5 8 9223372036854775807 9223372036854775807, js_4 49 1, js_5 231 9223372036854775807 9223372036854775807])
noncomputable def con_2379 : Con2 := ((yX12_numberAt, cX12_numberAt, 3, (some .long)), (0, 0), ([(6, 0, 0), (0, 0, 0), (0, 8, 0)], gi_1801, [ac_1100, ac_1303], []), [((4, 48, 0), gi_1802, [(false, ac_1100), (false, ac_1303)], [], [1])])
theorem hd_2379 : con_2379.1 = (yX12_numberAt, cX12_numberAt, 3, (some .long)) := rfl
noncomputable def cu_2379 : List CUT2 := []
theorem ch_2379 : staG tb_X12_numberAt 1 bt_RX12 [] ct_2 [] [] cu_2379 11 con_2379 = true := by decide +kernel
theorem vl_2379 (l : Launch) : Vld2 l vwCl gTbl con_2379 := conR_ok3 gT_all (hd_2379) rfl pn_RX12 tk_X12_numberAt bo_RX12 xo_RX12 (cto_2 l) ch_2379 cut_nil
/-- RookHustingModel numberAt -/
noncomputable def ac_1304 : AC := .inr (2, jl_n [js_5 9 9223372036854775807 9223372036854775807, js_4 49 1, js_5 230 9223372036854775807 9223372036854775807])
noncomputable def con_2380 : Con2 := ((yX12_numberAt, cX12_numberAt, 3, (some .long)), (0, 0), ([(6, 0, 0), (0, 0, 0), (0, 9, 0)], gi_1801, [ac_1100, ac_1304], []), [((4, 48, 0), gi_1802, [(false, ac_1100), (false, ac_1304)], [], [1])])
theorem hd_2380 : con_2380.1 = (yX12_numberAt, cX12_numberAt, 3, (some .long)) := rfl
noncomputable def cu_2380 : List CUT2 := []
theorem ch_2380 : staG tb_X12_numberAt 1 bt_RX12 [] ct_2 [] [] cu_2380 11 con_2380 = true := by decide +kernel
theorem vl_2380 (l : Launch) : Vld2 l vwCl gTbl con_2380 := conR_ok3 gT_all (hd_2380) rfl pn_RX12 tk_X12_numberAt bo_RX12 xo_RX12 (cto_2 l) ch_2380 cut_nil
/-- RookHustingModel numberAt -/
noncomputable def ac_1305 : AC := .inr (2, jl_n [js_5 10 9223372036854775807 9223372036854775807, js_4 49 1, js_5 229 9223372036854775807 9223372036854775807])
noncomputable def con_2381 : Con2 := ((yX12_numberAt, cX12_numberAt, 3, (some .long)), (0, 0), ([(6, 0, 0), (0, 0, 0), (0, 10, 0)], gi_1801, [ac_1100, ac_1305], []), [((4, 48, 0), gi_1802, [(false, ac_1100), (false, ac_1305)], [], [1])])
theorem hd_2381 : con_2381.1 = (yX12_numberAt, cX12_numberAt, 3, (some .long)) := rfl
noncomputable def cu_2381 : List CUT2 := []
theorem ch_2381 : staG tb_X12_numberAt 1 bt_RX12 [] ct_2 [] [] cu_2381 11 con_2381 = true := by decide +kernel
theorem vl_2381 (l : Launch) : Vld2 l vwCl gTbl con_2381 := conR_ok3 gT_all (hd_2381) rfl pn_RX12 tk_X12_numberAt bo_RX12 xo_RX12 (cto_2 l) ch_2381 cut_nil
/-- RookHustingModel numberAt -/
noncomputable def ac_1306 : AC := .inr (2, jl_n [js_5 11 9223372036854775807 9223372036854775807, js_4 49 1, js_5 228 9223372036854775807 9223372036854775807])
noncomputable def con_2382 : Con2 := ((yX12_numberAt, cX12_numberAt, 3, (some .long)), (0, 0), ([(6, 0, 0), (0, 0, 0), (0, 11, 0)], gi_1801, [ac_1100, ac_1306], []), [((4, 48, 0), gi_1802, [(false, ac_1100), (false, ac_1306)], [], [1])])
theorem hd_2382 : con_2382.1 = (yX12_numberAt, cX12_numberAt, 3, (some .long)) := rfl
noncomputable def cu_2382 : List CUT2 := []
theorem ch_2382 : staG tb_X12_numberAt 1 bt_RX12 [] ct_2 [] [] cu_2382 11 con_2382 = true := by decide +kernel
theorem vl_2382 (l : Launch) : Vld2 l vwCl gTbl con_2382 := conR_ok3 gT_all (hd_2382) rfl pn_RX12 tk_X12_numberAt bo_RX12 xo_RX12 (cto_2 l) ch_2382 cut_nil
/-- RookHustingModel numberAt -/
noncomputable def ac_1307 : AC := .inr (2, jl_n [js_5 12 9223372036854775807 9223372036854775807, js_4 49 1, js_5 227 9223372036854775807 9223372036854775807])
noncomputable def con_2383 : Con2 := ((yX12_numberAt, cX12_numberAt, 3, (some .long)), (0, 0), ([(6, 0, 0), (0, 0, 0), (0, 12, 0)], gi_1801, [ac_1100, ac_1307], []), [((4, 48, 0), gi_1802, [(false, ac_1100), (false, ac_1307)], [], [1])])
theorem hd_2383 : con_2383.1 = (yX12_numberAt, cX12_numberAt, 3, (some .long)) := rfl
noncomputable def cu_2383 : List CUT2 := []
theorem ch_2383 : staG tb_X12_numberAt 1 bt_RX12 [] ct_2 [] [] cu_2383 11 con_2383 = true := by decide +kernel
theorem vl_2383 (l : Launch) : Vld2 l vwCl gTbl con_2383 := conR_ok3 gT_all (hd_2383) rfl pn_RX12 tk_X12_numberAt bo_RX12 xo_RX12 (cto_2 l) ch_2383 cut_nil
/-- RookHustingModel numberAt -/
noncomputable def ac_1308 : AC := .inr (2, jl_n [js_5 13 9223372036854775807 9223372036854775807, js_4 49 1, js_5 226 9223372036854775807 9223372036854775807])
noncomputable def con_2384 : Con2 := ((yX12_numberAt, cX12_numberAt, 3, (some .long)), (0, 0), ([(6, 0, 0), (0, 0, 0), (0, 13, 0)], gi_1801, [ac_1100, ac_1308], []), [((4, 48, 0), gi_1802, [(false, ac_1100), (false, ac_1308)], [], [1])])
theorem hd_2384 : con_2384.1 = (yX12_numberAt, cX12_numberAt, 3, (some .long)) := rfl
noncomputable def cu_2384 : List CUT2 := []
theorem ch_2384 : staG tb_X12_numberAt 1 bt_RX12 [] ct_2 [] [] cu_2384 11 con_2384 = true := by decide +kernel
theorem vl_2384 (l : Launch) : Vld2 l vwCl gTbl con_2384 := conR_ok3 gT_all (hd_2384) rfl pn_RX12 tk_X12_numberAt bo_RX12 xo_RX12 (cto_2 l) ch_2384 cut_nil
/-- RookHustingModel numberAt -/
noncomputable def ac_1309 : AC := .inr (2, jl_n [js_5 14 9223372036854775807 9223372036854775807, js_4 49 1, js_5 225 9223372036854775807 9223372036854775807])
noncomputable def con_2385 : Con2 := ((yX12_numberAt, cX12_numberAt, 3, (some .long)), (0, 0), ([(6, 0, 0), (0, 0, 0), (0, 14, 0)], gi_1801, [ac_1100, ac_1309], []), [((4, 48, 0), gi_1802, [(false, ac_1100), (false, ac_1309)], [], [1])])
theorem hd_2385 : con_2385.1 = (yX12_numberAt, cX12_numberAt, 3, (some .long)) := rfl
noncomputable def cu_2385 : List CUT2 := []
theorem ch_2385 : staG tb_X12_numberAt 1 bt_RX12 [] ct_2 [] [] cu_2385 11 con_2385 = true := by decide +kernel
theorem vl_2385 (l : Launch) : Vld2 l vwCl gTbl con_2385 := conR_ok3 gT_all (hd_2385) rfl pn_RX12 tk_X12_numberAt bo_RX12 xo_RX12 (cto_2 l) ch_2385 cut_nil
/-- RookHustingModel numberAt -/
noncomputable def ac_1310 : AC := .inr (2, jl_n [js_5 15 9223372036854775807 9223372036854775807, js_4 49 1, js_5 224 9223372036854775807 9223372036854775807])
noncomputable def con_2386 : Con2 := ((yX12_numberAt, cX12_numberAt, 3, (some .long)), (0, 0), ([(6, 0, 0), (0, 0, 0), (0, 15, 0)], gi_1801, [ac_1100, ac_1310], []), [((4, 48, 0), gi_1802, [(false, ac_1100), (false, ac_1310)], [], [1])])
theorem hd_2386 : con_2386.1 = (yX12_numberAt, cX12_numberAt, 3, (some .long)) := rfl
noncomputable def cu_2386 : List CUT2 := []
theorem ch_2386 : staG tb_X12_numberAt 1 bt_RX12 [] ct_2 [] [] cu_2386 11 con_2386 = true := by decide +kernel
theorem vl_2386 (l : Launch) : Vld2 l vwCl gTbl con_2386 := conR_ok3 gT_all (hd_2386) rfl pn_RX12 tk_X12_numberAt bo_RX12 xo_RX12 (cto_2 l) ch_2386 cut_nil
/-- RookHustingModel numberAt -/
noncomputable def ac_1311 : AC := .inr (2, jl_n [js_5 16 9223372036854775807 9223372036854775807, js_4 49 1, js_5 223 9223372036854775807 9223372036854775807])
noncomputable def con_2387 : Con2 := ((yX12_numberAt, cX12_numberAt, 3, (some .long)), (0, 0), ([(6, 0, 0), (0, 0, 0), (0, 16, 0)], gi_1801, [ac_1100, ac_1311], []), [((4, 48, 0), gi_1802, [(false, ac_1100), (false, ac_1311)], [], [1])])
theorem hd_2387 : con_2387.1 = (yX12_numberAt, cX12_numberAt, 3, (some .long)) := rfl
noncomputable def cu_2387 : List CUT2 := []
theorem ch_2387 : staG tb_X12_numberAt 1 bt_RX12 [] ct_2 [] [] cu_2387 11 con_2387 = true := by decide +kernel
theorem vl_2387 (l : Launch) : Vld2 l vwCl gTbl con_2387 := conR_ok3 gT_all (hd_2387) rfl pn_RX12 tk_X12_numberAt bo_RX12 xo_RX12 (cto_2 l) ch_2387 cut_nil
/-- RookHustingModel numberAt -/
noncomputable def ac_1312 : AC := .inr (2, jl_n [js_5 17 9223372036854775807 9223372036854775807, js_4 49 1, js_5 222 9223372036854775807 9223372036854775807])
noncomputable def con_2388 : Con2 := ((yX12_numberAt, cX12_numberAt, 3, (some .long)), (0, 0), ([(6, 0, 0), (0, 0, 0), (0, 17, 0)], gi_1801, [ac_1100, ac_1312], []), [((4, 48, 0), gi_1802, [(false, ac_1100), (false, ac_1312)], [], [1])])
theorem hd_2388 : con_2388.1 = (yX12_numberAt, cX12_numberAt, 3, (some .long)) := rfl
noncomputable def cu_2388 : List CUT2 := []
theorem ch_2388 : staG tb_X12_numberAt 1 bt_RX12 [] ct_2 [] [] cu_2388 11 con_2388 = true := by decide +kernel
theorem vl_2388 (l : Launch) : Vld2 l vwCl gTbl con_2388 := conR_ok3 gT_all (hd_2388) rfl pn_RX12 tk_X12_numberAt bo_RX12 xo_RX12 (cto_2 l) ch_2388 cut_nil
/-- RookHustingModel numberAt -/
noncomputable def ac_1313 : AC := .inr (2, jl_n [js_5 18 9223372036854775807 9223372036854775807, js_4 49 1, js_5 221 9223372036854775807 9223372036854775807])
noncomputable def con_2389 : Con2 := ((yX12_numberAt, cX12_numberAt, 3, (some .long)), (0, 0), ([(6, 0, 0), (0, 0, 0), (0, 18, 0)], gi_1801, [ac_1100, ac_1313], []), [((4, 48, 0), gi_1802, [(false, ac_1100), (false, ac_1313)], [], [1])])
theorem hd_2389 : con_2389.1 = (yX12_numberAt, cX12_numberAt, 3, (some .long)) := rfl
noncomputable def cu_2389 : List CUT2 := []
theorem ch_2389 : staG tb_X12_numberAt 1 bt_RX12 [] ct_2 [] [] cu_2389 11 con_2389 = true := by decide +kernel
theorem vl_2389 (l : Launch) : Vld2 l vwCl gTbl con_2389 := conR_ok3 gT_all (hd_2389) rfl pn_RX12 tk_X12_numberAt bo_RX12 xo_RX12 (cto_2 l) ch_2389 cut_nil
/-- RookHustingModel numberAt -/
noncomputable def ac_1314 : AC := .inr (2, jl_n [js_5 19 9223372036854775807 9223372036854775807, js_4 49 1, js_5 220 9223372036854775807 9223372036854775807])
noncomputable def con_2390 : Con2 := ((yX12_numberAt, cX12_numberAt, 3, (some .long)), (0, 0), ([(6, 0, 0), (0, 0, 0), (0, 19, 0)], gi_1801, [ac_1100, ac_1314], []), [((4, 48, 0), gi_1802, [(false, ac_1100), (false, ac_1314)], [], [1])])
theorem hd_2390 : con_2390.1 = (yX12_numberAt, cX12_numberAt, 3, (some .long)) := rfl
noncomputable def cu_2390 : List CUT2 := []
theorem ch_2390 : staG tb_X12_numberAt 1 bt_RX12 [] ct_2 [] [] cu_2390 11 con_2390 = true := by decide +kernel
theorem vl_2390 (l : Launch) : Vld2 l vwCl gTbl con_2390 := conR_ok3 gT_all (hd_2390) rfl pn_RX12 tk_X12_numberAt bo_RX12 xo_RX12 (cto_2 l) ch_2390 cut_nil
/-- RookHustingModel numberAt -/
noncomputable def ac_1315 : AC := .inr (2, jl_n [js_5 20 9223372036854775807 9223372036854775807, js_4 49 1, js_5 219 9223372036854775807 9223372036854775807])
noncomputable def con_2391 : Con2 := ((yX12_numberAt, cX12_numberAt, 3, (some .long)), (0, 0), ([(6, 0, 0), (0, 0, 0), (0, 20, 0)], gi_1801, [ac_1100, ac_1315], []), [((4, 48, 0), gi_1802, [(false, ac_1100), (false, ac_1315)], [], [1])])
theorem hd_2391 : con_2391.1 = (yX12_numberAt, cX12_numberAt, 3, (some .long)) := rfl
noncomputable def cu_2391 : List CUT2 := []
theorem ch_2391 : staG tb_X12_numberAt 1 bt_RX12 [] ct_2 [] [] cu_2391 11 con_2391 = true := by decide +kernel
theorem vl_2391 (l : Launch) : Vld2 l vwCl gTbl con_2391 := conR_ok3 gT_all (hd_2391) rfl pn_RX12 tk_X12_numberAt bo_RX12 xo_RX12 (cto_2 l) ch_2391 cut_nil
/-- RookHustingModel numberAt -/
noncomputable def ac_1316 : AC := .inr (2, jl_n [js_5 21 9223372036854775807 9223372036854775807, js_4 49 1, js_5 218 9223372036854775807 9223372036854775807])
noncomputable def con_2392 : Con2 := ((yX12_numberAt, cX12_numberAt, 3, (some .long)), (0, 0), ([(6, 0, 0), (0, 0, 0), (0, 21, 0)], gi_1801, [ac_1100, ac_1316], []), [((4, 48, 0), gi_1802, [(false, ac_1100), (false, ac_1316)], [], [1])])
theorem hd_2392 : con_2392.1 = (yX12_numberAt, cX12_numberAt, 3, (some .long)) := rfl
noncomputable def cu_2392 : List CUT2 := []
theorem ch_2392 : staG tb_X12_numberAt 1 bt_RX12 [] ct_2 [] [] cu_2392 11 con_2392 = true := by decide +kernel
theorem vl_2392 (l : Launch) : Vld2 l vwCl gTbl con_2392 := conR_ok3 gT_all (hd_2392) rfl pn_RX12 tk_X12_numberAt bo_RX12 xo_RX12 (cto_2 l) ch_2392 cut_nil
/-- RookHustingModel numberAt -/
noncomputable def ac_1317 : AC := .inr (2, jl_n [js_5 22 9223372036854775807 9223372036854775807, js_4 49 1, js_5 217 9223372036854775807 9223372036854775807])
noncomputable def con_2393 : Con2 := ((yX12_numberAt, cX12_numberAt, 3, (some .long)), (0, 0), ([(6, 0, 0), (0, 0, 0), (0, 22, 0)], gi_1801, [ac_1100, ac_1317], []), [((4, 48, 0), gi_1802, [(false, ac_1100), (false, ac_1317)], [], [1])])
theorem hd_2393 : con_2393.1 = (yX12_numberAt, cX12_numberAt, 3, (some .long)) := rfl
noncomputable def cu_2393 : List CUT2 := []
theorem ch_2393 : staG tb_X12_numberAt 1 bt_RX12 [] ct_2 [] [] cu_2393 11 con_2393 = true := by decide +kernel
theorem vl_2393 (l : Launch) : Vld2 l vwCl gTbl con_2393 := conR_ok3 gT_all (hd_2393) rfl pn_RX12 tk_X12_numberAt bo_RX12 xo_RX12 (cto_2 l) ch_2393 cut_nil
/-- RookHustingModel numberAt -/
noncomputable def ac_1318 : AC := .inr (2, jl_n [js_5 23 9223372036854775807 9223372036854775807, js_4 49 1, js_5 216 9223372036854775807 9223372036854775807])
noncomputable def con_2394 : Con2 := ((yX12_numberAt, cX12_numberAt, 3, (some .long)), (0, 0), ([(6, 0, 0), (0, 0, 0), (0, 23, 0)], gi_1801, [ac_1100, ac_1318], []), [((4, 48, 0), gi_1802, [(false, ac_1100), (false, ac_1318)], [], [1])])
theorem hd_2394 : con_2394.1 = (yX12_numberAt, cX12_numberAt, 3, (some .long)) := rfl
noncomputable def cu_2394 : List CUT2 := []
theorem ch_2394 : staG tb_X12_numberAt 1 bt_RX12 [] ct_2 [] [] cu_2394 11 con_2394 = true := by decide +kernel
theorem vl_2394 (l : Launch) : Vld2 l vwCl gTbl con_2394 := conR_ok3 gT_all (hd_2394) rfl pn_RX12 tk_X12_numberAt bo_RX12 xo_RX12 (cto_2 l) ch_2394 cut_nil
/-- RookHustingModel numberAt -/
noncomputable def ac_1319 : AC := .inr (2, jl_n [js_5 24 9223372036854775807 9223372036854775807, js_4 49 1, js_5 215 9223372036854775807 9223372036854775807])
noncomputable def con_2395 : Con2 := ((yX12_numberAt, cX12_numberAt, 3, (some .long)), (0, 0), ([(6, 0, 0), (0, 0, 0), (0, 24, 0)], gi_1801, [ac_1100, ac_1319], []), [((4, 48, 0), gi_1802, [(false, ac_1100), (false, ac_1319)], [], [1])])
theorem hd_2395 : con_2395.1 = (yX12_numberAt, cX12_numberAt, 3, (some .long)) := rfl
noncomputable def cu_2395 : List CUT2 := []
theorem ch_2395 : staG tb_X12_numberAt 1 bt_RX12 [] ct_2 [] [] cu_2395 11 con_2395 = true := by decide +kernel
theorem vl_2395 (l : Launch) : Vld2 l vwCl gTbl con_2395 := conR_ok3 gT_all (hd_2395) rfl pn_RX12 tk_X12_numberAt bo_RX12 xo_RX12 (cto_2 l) ch_2395 cut_nil
/-- RookHustingModel numberAt -/
noncomputable def ac_1320 : AC := .inr (2, jl_n [js_5 25 9223372036854775807 9223372036854775807, js_4 49 1, js_5 214 9223372036854775807 9223372036854775807])
noncomputable def con_2396 : Con2 := ((yX12_numberAt, cX12_numberAt, 3, (some .long)), (0, 0), ([(6, 0, 0), (0, 0, 0), (0, 25, 0)], gi_1801, [ac_1100, ac_1320], []), [((4, 48, 0), gi_1802, [(false, ac_1100), (false, ac_1320)], [], [1])])
theorem hd_2396 : con_2396.1 = (yX12_numberAt, cX12_numberAt, 3, (some .long)) := rfl
noncomputable def cu_2396 : List CUT2 := []
theorem ch_2396 : staG tb_X12_numberAt 1 bt_RX12 [] ct_2 [] [] cu_2396 11 con_2396 = true := by decide +kernel
theorem vl_2396 (l : Launch) : Vld2 l vwCl gTbl con_2396 := conR_ok3 gT_all (hd_2396) rfl pn_RX12 tk_X12_numberAt bo_RX12 xo_RX12 (cto_2 l) ch_2396 cut_nil
/-- RookHustingModel numberAt -/
noncomputable def ac_1321 : AC := .inr (2, jl_n [js_5 26 9223372036854775807 9223372036854775807, js_4 49 1, js_5 213 9223372036854775807 9223372036854775807])
noncomputable def con_2397 : Con2 := ((yX12_numberAt, cX12_numberAt, 3, (some .long)), (0, 0), ([(6, 0, 0), (0, 0, 0), (0, 26, 0)], gi_1801, [ac_1100, ac_1321], []), [((4, 48, 0), gi_1802, [(false, ac_1100), (false, ac_1321)], [], [1])])
theorem hd_2397 : con_2397.1 = (yX12_numberAt, cX12_numberAt, 3, (some .long)) := rfl
noncomputable def cu_2397 : List CUT2 := []
theorem ch_2397 : staG tb_X12_numberAt 1 bt_RX12 [] ct_2 [] [] cu_2397 11 con_2397 = true := by decide +kernel
theorem vl_2397 (l : Launch) : Vld2 l vwCl gTbl con_2397 := conR_ok3 gT_all (hd_2397) rfl pn_RX12 tk_X12_numberAt bo_RX12 xo_RX12 (cto_2 l) ch_2397 cut_nil
/-- RookHustingModel numberAt -/
noncomputable def ac_1322 : AC := .inr (2, jl_n [js_5 27 9223372036854775807 9223372036854775807, js_4 49 1, js_5 212 9223372036854775807 9223372036854775807])
noncomputable def con_2398 : Con2 := ((yX12_numberAt, cX12_numberAt, 3, (some .long)), (0, 0), ([(6, 0, 0), (0, 0, 0), (0, 27, 0)], gi_1801, [ac_1100, ac_1322], []), [((4, 48, 0), gi_1802, [(false, ac_1100), (false, ac_1322)], [], [1])])
theorem hd_2398 : con_2398.1 = (yX12_numberAt, cX12_numberAt, 3, (some .long)) := rfl
noncomputable def cu_2398 : List CUT2 := []
theorem ch_2398 : staG tb_X12_numberAt 1 bt_RX12 [] ct_2 [] [] cu_2398 11 con_2398 = true := by decide +kernel
theorem vl_2398 (l : Launch) : Vld2 l vwCl gTbl con_2398 := conR_ok3 gT_all (hd_2398) rfl pn_RX12 tk_X12_numberAt bo_RX12 xo_RX12 (cto_2 l) ch_2398 cut_nil
/-- RookHustingModel numberAt -/
noncomputable def ac_1323 : AC := .inr (2, jl_n [js_5 28 9223372036854775807 9223372036854775807, js_4 49 1, js_5 211 9223372036854775807 9223372036854775807])
noncomputable def con_2399 : Con2 := ((yX12_numberAt, cX12_numberAt, 3, (some .long)), (0, 0), ([(6, 0, 0), (0, 0, 0), (0, 28, 0)], gi_1801, [ac_1100, ac_1323], []), [((4, 48, 0), gi_1802, [(false, ac_1100), (false, ac_1323)], [], [1])])
theorem hd_2399 : con_2399.1 = (yX12_numberAt, cX12_numberAt, 3, (some .long)) := rfl
noncomputable def cu_2399 : List CUT2 := []
theorem ch_2399 : staG tb_X12_numberAt 1 bt_RX12 [] ct_2 [] [] cu_2399 11 con_2399 = true := by decide +kernel
theorem vl_2399 (l : Launch) : Vld2 l vwCl gTbl con_2399 := conR_ok3 gT_all (hd_2399) rfl pn_RX12 tk_X12_numberAt bo_RX12 xo_RX12 (cto_2 l) ch_2399 cut_nil
/-- RookHustingModel numberAt -/
noncomputable def ac_1324 : AC := .inr (2, jl_n [js_5 29 9223372036854775807 9223372036854775807, js_4 49 1, js_5 210 9223372036854775807 9223372036854775807])
noncomputable def con_2400 : Con2 := ((yX12_numberAt, cX12_numberAt, 3, (some .long)), (0, 0), ([(6, 0, 0), (0, 0, 0), (0, 29, 0)], gi_1801, [ac_1100, ac_1324], []), [((4, 48, 0), gi_1802, [(false, ac_1100), (false, ac_1324)], [], [1])])
theorem hd_2400 : con_2400.1 = (yX12_numberAt, cX12_numberAt, 3, (some .long)) := rfl
noncomputable def cu_2400 : List CUT2 := []
theorem ch_2400 : staG tb_X12_numberAt 1 bt_RX12 [] ct_2 [] [] cu_2400 11 con_2400 = true := by decide +kernel
theorem vl_2400 (l : Launch) : Vld2 l vwCl gTbl con_2400 := conR_ok3 gT_all (hd_2400) rfl pn_RX12 tk_X12_numberAt bo_RX12 xo_RX12 (cto_2 l) ch_2400 cut_nil
/-- RookHustingModel numberAt -/
noncomputable def ac_1325 : AC := .inr (2, jl_n [js_5 30 9223372036854775807 9223372036854775807, js_4 49 1, js_5 209 9223372036854775807 9223372036854775807])
noncomputable def con_2401 : Con2 := ((yX12_numberAt, cX12_numberAt, 3, (some .long)), (0, 0), ([(6, 0, 0), (0, 0, 0), (0, 30, 0)], gi_1801, [ac_1100, ac_1325], []), [((4, 48, 0), gi_1802, [(false, ac_1100), (false, ac_1325)], [], [1])])
theorem hd_2401 : con_2401.1 = (yX12_numberAt, cX12_numberAt, 3, (some .long)) := rfl
noncomputable def cu_2401 : List CUT2 := []
theorem ch_2401 : staG tb_X12_numberAt 1 bt_RX12 [] ct_2 [] [] cu_2401 11 con_2401 = true := by decide +kernel
theorem vl_2401 (l : Launch) : Vld2 l vwCl gTbl con_2401 := conR_ok3 gT_all (hd_2401) rfl pn_RX12 tk_X12_numberAt bo_RX12 xo_RX12 (cto_2 l) ch_2401 cut_nil
/-- RookHustingModel numberAt -/
noncomputable def ac_1326 : AC := .inr (2, jl_n [js_5 31 9223372036854775807 9223372036854775807, js_4 49 1, js_5 208 9223372036854775807 9223372036854775807])
noncomputable def con_2402 : Con2 := ((yX12_numberAt, cX12_numberAt, 3, (some .long)), (0, 0), ([(6, 0, 0), (0, 0, 0), (0, 31, 0)], gi_1801, [ac_1100, ac_1326], []), [((4, 48, 0), gi_1802, [(false, ac_1100), (false, ac_1326)], [], [1])])
theorem hd_2402 : con_2402.1 = (yX12_numberAt, cX12_numberAt, 3, (some .long)) := rfl
noncomputable def cu_2402 : List CUT2 := []
theorem ch_2402 : staG tb_X12_numberAt 1 bt_RX12 [] ct_2 [] [] cu_2402 11 con_2402 = true := by decide +kernel
theorem vl_2402 (l : Launch) : Vld2 l vwCl gTbl con_2402 := conR_ok3 gT_all (hd_2402) rfl pn_RX12 tk_X12_numberAt bo_RX12 xo_RX12 (cto_2 l) ch_2402 cut_nil
/-- RookHustingModel numberAt -/
noncomputable def ac_1327 : AC := .inr (2, jl_n [js_5 32 9223372036854775807 9223372036854775807, js_4 49 1, js_5 207 9223372036854775807 9223372036854775807])
noncomputable def con_2403 : Con2 := ((yX12_numberAt, cX12_numberAt, 3, (some .long)), (0, 0), ([(6, 0, 0), (0, 0, 0), (0, 32, 0)], gi_1801, [ac_1100, ac_1327], []), [((4, 48, 0), gi_1802, [(false, ac_1100), (false, ac_1327)], [], [1])])
theorem hd_2403 : con_2403.1 = (yX12_numberAt, cX12_numberAt, 3, (some .long)) := rfl
noncomputable def cu_2403 : List CUT2 := []
theorem ch_2403 : staG tb_X12_numberAt 1 bt_RX12 [] ct_2 [] [] cu_2403 11 con_2403 = true := by decide +kernel
theorem vl_2403 (l : Launch) : Vld2 l vwCl gTbl con_2403 := conR_ok3 gT_all (hd_2403) rfl pn_RX12 tk_X12_numberAt bo_RX12 xo_RX12 (cto_2 l) ch_2403 cut_nil
/-- RookHustingModel numberAt -/
noncomputable def ac_1328 : AC := .inr (2, jl_n [js_5 33 9223372036854775807 9223372036854775807, js_4 49 1, js_5 206 9223372036854775807 9223372036854775807])
noncomputable def con_2404 : Con2 := ((yX12_numberAt, cX12_numberAt, 3, (some .long)), (0, 0), ([(6, 0, 0), (0, 0, 0), (0, 33, 0)], gi_1801, [ac_1100, ac_1328], []), [((4, 48, 0), gi_1802, [(false, ac_1100), (false, ac_1328)], [], [1])])
theorem hd_2404 : con_2404.1 = (yX12_numberAt, cX12_numberAt, 3, (some .long)) := rfl
noncomputable def cu_2404 : List CUT2 := []
theorem ch_2404 : staG tb_X12_numberAt 1 bt_RX12 [] ct_2 [] [] cu_2404 11 con_2404 = true := by decide +kernel
theorem vl_2404 (l : Launch) : Vld2 l vwCl gTbl con_2404 := conR_ok3 gT_all (hd_2404) rfl pn_RX12 tk_X12_numberAt bo_RX12 xo_RX12 (cto_2 l) ch_2404 cut_nil
/-- RookHustingModel numberAt -/
noncomputable def ac_1329 : AC := .inr (2, jl_n [js_5 34 9223372036854775807 9223372036854775807, js_4 49 1, js_5 205 9223372036854775807 9223372036854775807])
noncomputable def con_2405 : Con2 := ((yX12_numberAt, cX12_numberAt, 3, (some .long)), (0, 0), ([(6, 0, 0), (0, 0, 0), (0, 34, 0)], gi_1801, [ac_1100, ac_1329], []), [((4, 48, 0), gi_1802, [(false, ac_1100), (false, ac_1329)], [], [1])])
theorem hd_2405 : con_2405.1 = (yX12_numberAt, cX12_numberAt, 3, (some .long)) := rfl
noncomputable def cu_2405 : List CUT2 := []
theorem ch_2405 : staG tb_X12_numberAt 1 bt_RX12 [] ct_2 [] [] cu_2405 11 con_2405 = true := by decide +kernel
theorem vl_2405 (l : Launch) : Vld2 l vwCl gTbl con_2405 := conR_ok3 gT_all (hd_2405) rfl pn_RX12 tk_X12_numberAt bo_RX12 xo_RX12 (cto_2 l) ch_2405 cut_nil
/-- RookHustingModel numberAt -/
noncomputable def ac_1330 : AC := .inr (2, jl_n [js_5 35 9223372036854775807 9223372036854775807, js_4 49 1, js_5 204 9223372036854775807 9223372036854775807])
noncomputable def con_2406 : Con2 := ((yX12_numberAt, cX12_numberAt, 3, (some .long)), (0, 0), ([(6, 0, 0), (0, 0, 0), (0, 35, 0)], gi_1801, [ac_1100, ac_1330], []), [((4, 48, 0), gi_1802, [(false, ac_1100), (false, ac_1330)], [], [1])])
theorem hd_2406 : con_2406.1 = (yX12_numberAt, cX12_numberAt, 3, (some .long)) := rfl
noncomputable def cu_2406 : List CUT2 := []
theorem ch_2406 : staG tb_X12_numberAt 1 bt_RX12 [] ct_2 [] [] cu_2406 11 con_2406 = true := by decide +kernel
theorem vl_2406 (l : Launch) : Vld2 l vwCl gTbl con_2406 := conR_ok3 gT_all (hd_2406) rfl pn_RX12 tk_X12_numberAt bo_RX12 xo_RX12 (cto_2 l) ch_2406 cut_nil
/-- RookHustingModel numberAt -/
noncomputable def ac_1331 : AC := .inr (2, jl_n [js_5 36 9223372036854775807 9223372036854775807, js_4 49 1, js_5 203 9223372036854775807 9223372036854775807])
noncomputable def con_2407 : Con2 := ((yX12_numberAt, cX12_numberAt, 3, (some .long)), (0, 0), ([(6, 0, 0), (0, 0, 0), (0, 36, 0)], gi_1801, [ac_1100, ac_1331], []), [((4, 48, 0), gi_1802, [(false, ac_1100), (false, ac_1331)], [], [1])])
theorem hd_2407 : con_2407.1 = (yX12_numberAt, cX12_numberAt, 3, (some .long)) := rfl
noncomputable def cu_2407 : List CUT2 := []
theorem ch_2407 : staG tb_X12_numberAt 1 bt_RX12 [] ct_2 [] [] cu_2407 11 con_2407 = true := by decide +kernel
theorem vl_2407 (l : Launch) : Vld2 l vwCl gTbl con_2407 := conR_ok3 gT_all (hd_2407) rfl pn_RX12 tk_X12_numberAt bo_RX12 xo_RX12 (cto_2 l) ch_2407 cut_nil
/-- RookHustingModel numberAt -/
noncomputable def ac_1332 : AC := .inr (2, jl_n [js_5 37 9223372036854775807 9223372036854775807, js_4 49 1, js_5 202 9223372036854775807 9223372036854775807])
noncomputable def con_2408 : Con2 := ((yX12_numberAt, cX12_numberAt, 3, (some .long)), (0, 0), ([(6, 0, 0), (0, 0, 0), (0, 37, 0)], gi_1801, [ac_1100, ac_1332], []), [((4, 48, 0), gi_1802, [(false, ac_1100), (false, ac_1332)], [], [1])])
theorem hd_2408 : con_2408.1 = (yX12_numberAt, cX12_numberAt, 3, (some .long)) := rfl
noncomputable def cu_2408 : List CUT2 := []
theorem ch_2408 : staG tb_X12_numberAt 1 bt_RX12 [] ct_2 [] [] cu_2408 11 con_2408 = true := by decide +kernel
theorem vl_2408 (l : Launch) : Vld2 l vwCl gTbl con_2408 := conR_ok3 gT_all (hd_2408) rfl pn_RX12 tk_X12_numberAt bo_RX12 xo_RX12 (cto_2 l) ch_2408 cut_nil
/-- RookHustingModel numberAt -/
noncomputable def ac_1333 : AC := .inr (2, jl_n [js_5 38 9223372036854775807 9223372036854775807, js_4 49 1, js_5 201 9223372036854775807 9223372036854775807])
noncomputable def con_2409 : Con2 := ((yX12_numberAt, cX12_numberAt, 3, (some .long)), (0, 0), ([(6, 0, 0), (0, 0, 0), (0, 38, 0)], gi_1801, [ac_1100, ac_1333], []), [((4, 48, 0), gi_1802, [(false, ac_1100), (false, ac_1333)], [], [1])])
theorem hd_2409 : con_2409.1 = (yX12_numberAt, cX12_numberAt, 3, (some .long)) := rfl
noncomputable def cu_2409 : List CUT2 := []
theorem ch_2409 : staG tb_X12_numberAt 1 bt_RX12 [] ct_2 [] [] cu_2409 11 con_2409 = true := by decide +kernel
theorem vl_2409 (l : Launch) : Vld2 l vwCl gTbl con_2409 := conR_ok3 gT_all (hd_2409) rfl pn_RX12 tk_X12_numberAt bo_RX12 xo_RX12 (cto_2 l) ch_2409 cut_nil
/-- RookHustingModel numberAt -/
noncomputable def ac_1334 : AC := .inr (2, jl_n [js_5 39 9223372036854775807 9223372036854775807, js_4 49 1, js_5 200 9223372036854775807 9223372036854775807])
noncomputable def con_2410 : Con2 := ((yX12_numberAt, cX12_numberAt, 3, (some .long)), (0, 0), ([(6, 0, 0), (0, 0, 0), (0, 39, 0)], gi_1801, [ac_1100, ac_1334], []), [((4, 48, 0), gi_1802, [(false, ac_1100), (false, ac_1334)], [], [1])])
theorem hd_2410 : con_2410.1 = (yX12_numberAt, cX12_numberAt, 3, (some .long)) := rfl
noncomputable def cu_2410 : List CUT2 := []
theorem ch_2410 : staG tb_X12_numberAt 1 bt_RX12 [] ct_2 [] [] cu_2410 11 con_2410 = true := by decide +kernel
theorem vl_2410 (l : Launch) : Vld2 l vwCl gTbl con_2410 := conR_ok3 gT_all (hd_2410) rfl pn_RX12 tk_X12_numberAt bo_RX12 xo_RX12 (cto_2 l) ch_2410 cut_nil
/-- RookHustingModel numberAt -/
noncomputable def ac_1335 : AC := .inr (2, jl_n [js_5 40 9223372036854775807 9223372036854775807, js_4 49 1, js_5 199 9223372036854775807 9223372036854775807])
noncomputable def con_2411 : Con2 := ((yX12_numberAt, cX12_numberAt, 3, (some .long)), (0, 0), ([(6, 0, 0), (0, 0, 0), (0, 40, 0)], gi_1801, [ac_1100, ac_1335], []), [((4, 48, 0), gi_1802, [(false, ac_1100), (false, ac_1335)], [], [1])])
theorem hd_2411 : con_2411.1 = (yX12_numberAt, cX12_numberAt, 3, (some .long)) := rfl
noncomputable def cu_2411 : List CUT2 := []
theorem ch_2411 : staG tb_X12_numberAt 1 bt_RX12 [] ct_2 [] [] cu_2411 11 con_2411 = true := by decide +kernel
theorem vl_2411 (l : Launch) : Vld2 l vwCl gTbl con_2411 := conR_ok3 gT_all (hd_2411) rfl pn_RX12 tk_X12_numberAt bo_RX12 xo_RX12 (cto_2 l) ch_2411 cut_nil
/-- RookHustingModel numberAt -/
noncomputable def ac_1336 : AC := .inr (2, jl_n [js_5 41 9223372036854775807 9223372036854775807, js_4 49 1, js_5 198 9223372036854775807 9223372036854775807])
noncomputable def con_2412 : Con2 := ((yX12_numberAt, cX12_numberAt, 3, (some .long)), (0, 0), ([(6, 0, 0), (0, 0, 0), (0, 41, 0)], gi_1801, [ac_1100, ac_1336], []), [((4, 48, 0), gi_1802, [(false, ac_1100), (false, ac_1336)], [], [1])])
theorem hd_2412 : con_2412.1 = (yX12_numberAt, cX12_numberAt, 3, (some .long)) := rfl
noncomputable def cu_2412 : List CUT2 := []
theorem ch_2412 : staG tb_X12_numberAt 1 bt_RX12 [] ct_2 [] [] cu_2412 11 con_2412 = true := by decide +kernel
theorem vl_2412 (l : Launch) : Vld2 l vwCl gTbl con_2412 := conR_ok3 gT_all (hd_2412) rfl pn_RX12 tk_X12_numberAt bo_RX12 xo_RX12 (cto_2 l) ch_2412 cut_nil
/-- RookHustingModel numberAt -/
noncomputable def ac_1337 : AC := .inr (2, jl_n [js_5 42 9223372036854775807 9223372036854775807, js_4 49 1, js_5 197 9223372036854775807 9223372036854775807])
noncomputable def con_2413 : Con2 := ((yX12_numberAt, cX12_numberAt, 3, (some .long)), (0, 0), ([(6, 0, 0), (0, 0, 0), (0, 42, 0)], gi_1801, [ac_1100, ac_1337], []), [((4, 48, 0), gi_1802, [(false, ac_1100), (false, ac_1337)], [], [1])])
theorem hd_2413 : con_2413.1 = (yX12_numberAt, cX12_numberAt, 3, (some .long)) := rfl
noncomputable def cu_2413 : List CUT2 := []
theorem ch_2413 : staG tb_X12_numberAt 1 bt_RX12 [] ct_2 [] [] cu_2413 11 con_2413 = true := by decide +kernel
theorem vl_2413 (l : Launch) : Vld2 l vwCl gTbl con_2413 := conR_ok3 gT_all (hd_2413) rfl pn_RX12 tk_X12_numberAt bo_RX12 xo_RX12 (cto_2 l) ch_2413 cut_nil
/-- RookHustingModel numberAt -/
noncomputable def ac_1338 : AC := .inr (2, jl_n [js_5 43 9223372036854775807 9223372036854775807, js_4 49 1, js_5 196 9223372036854775807 9223372036854775807])
noncomputable def con_2414 : Con2 := ((yX12_numberAt, cX12_numberAt, 3, (some .long)), (0, 0), ([(6, 0, 0), (0, 0, 0), (0, 43, 0)], gi_1801, [ac_1100, ac_1338], []), [((4, 48, 0), gi_1802, [(false, ac_1100), (false, ac_1338)], [], [1])])
theorem hd_2414 : con_2414.1 = (yX12_numberAt, cX12_numberAt, 3, (some .long)) := rfl
noncomputable def cu_2414 : List CUT2 := []
theorem ch_2414 : staG tb_X12_numberAt 1 bt_RX12 [] ct_2 [] [] cu_2414 11 con_2414 = true := by decide +kernel
theorem vl_2414 (l : Launch) : Vld2 l vwCl gTbl con_2414 := conR_ok3 gT_all (hd_2414) rfl pn_RX12 tk_X12_numberAt bo_RX12 xo_RX12 (cto_2 l) ch_2414 cut_nil
/-- RookHustingModel numberAt -/
noncomputable def ac_1339 : AC := .inr (2, jl_n [js_5 44 9223372036854775807 9223372036854775807, js_4 49 1, js_5 195 9223372036854775807 9223372036854775807])
noncomputable def con_2415 : Con2 := ((yX12_numberAt, cX12_numberAt, 3, (some .long)), (0, 0), ([(6, 0, 0), (0, 0, 0), (0, 44, 0)], gi_1801, [ac_1100, ac_1339], []), [((4, 48, 0), gi_1802, [(false, ac_1100), (false, ac_1339)], [], [1])])
theorem hd_2415 : con_2415.1 = (yX12_numberAt, cX12_numberAt, 3, (some .long)) := rfl
noncomputable def cu_2415 : List CUT2 := []
theorem ch_2415 : staG tb_X12_numberAt 1 bt_RX12 [] ct_2 [] [] cu_2415 11 con_2415 = true := by decide +kernel
theorem vl_2415 (l : Launch) : Vld2 l vwCl gTbl con_2415 := conR_ok3 gT_all (hd_2415) rfl pn_RX12 tk_X12_numberAt bo_RX12 xo_RX12 (cto_2 l) ch_2415 cut_nil
/-- RookHustingModel numberAt -/
noncomputable def ac_1340 : AC := .inr (2, jl_n [js_5 45 9223372036854775807 9223372036854775807, js_4 49 1, js_5 194 9223372036854775807 9223372036854775807])
noncomputable def con_2416 : Con2 := ((yX12_numberAt, cX12_numberAt, 3, (some .long)), (0, 0), ([(6, 0, 0), (0, 0, 0), (0, 45, 0)], gi_1801, [ac_1100, ac_1340], []), [((4, 48, 0), gi_1802, [(false, ac_1100), (false, ac_1340)], [], [1])])
theorem hd_2416 : con_2416.1 = (yX12_numberAt, cX12_numberAt, 3, (some .long)) := rfl
noncomputable def cu_2416 : List CUT2 := []
theorem ch_2416 : staG tb_X12_numberAt 1 bt_RX12 [] ct_2 [] [] cu_2416 11 con_2416 = true := by decide +kernel
theorem vl_2416 (l : Launch) : Vld2 l vwCl gTbl con_2416 := conR_ok3 gT_all (hd_2416) rfl pn_RX12 tk_X12_numberAt bo_RX12 xo_RX12 (cto_2 l) ch_2416 cut_nil
/-- RookHustingModel numberAt -/
noncomputable def ac_1341 : AC := .inr (2, jl_n [js_5 46 9223372036854775807 9223372036854775807, js_4 49 1, js_5 193 9223372036854775807 9223372036854775807])
noncomputable def con_2417 : Con2 := ((yX12_numberAt, cX12_numberAt, 3, (some .long)), (0, 0), ([(6, 0, 0), (0, 0, 0), (0, 46, 0)], gi_1801, [ac_1100, ac_1341], []), [((4, 48, 0), gi_1802, [(false, ac_1100), (false, ac_1341)], [], [1])])
theorem hd_2417 : con_2417.1 = (yX12_numberAt, cX12_numberAt, 3, (some .long)) := rfl
noncomputable def cu_2417 : List CUT2 := []
theorem ch_2417 : staG tb_X12_numberAt 1 bt_RX12 [] ct_2 [] [] cu_2417 11 con_2417 = true := by decide +kernel
theorem vl_2417 (l : Launch) : Vld2 l vwCl gTbl con_2417 := conR_ok3 gT_all (hd_2417) rfl pn_RX12 tk_X12_numberAt bo_RX12 xo_RX12 (cto_2 l) ch_2417 cut_nil
/-- RookHustingModel numberAt -/
noncomputable def ac_1342 : AC := .inr (2, jl_n [js_5 47 9223372036854775807 9223372036854775807, js_4 49 1, js_5 192 9223372036854775807 9223372036854775807])
noncomputable def con_2418 : Con2 := ((yX12_numberAt, cX12_numberAt, 3, (some .long)), (0, 0), ([(6, 0, 0), (0, 0, 0), (0, 47, 0)], gi_1801, [ac_1100, ac_1342], []), [((4, 48, 0), gi_1802, [(false, ac_1100), (false, ac_1342)], [], [1])])
theorem hd_2418 : con_2418.1 = (yX12_numberAt, cX12_numberAt, 3, (some .long)) := rfl
noncomputable def cu_2418 : List CUT2 := []
theorem ch_2418 : staG tb_X12_numberAt 1 bt_RX12 [] ct_2 [] [] cu_2418 11 con_2418 = true := by decide +kernel
theorem vl_2418 (l : Launch) : Vld2 l vwCl gTbl con_2418 := conR_ok3 gT_all (hd_2418) rfl pn_RX12 tk_X12_numberAt bo_RX12 xo_RX12 (cto_2 l) ch_2418 cut_nil
/-- RookHustingModel numberAt -/
noncomputable def ac_1343 : AC := .inr (2, jl_n [js_5 48 9223372036854775807 9223372036854775807, js_4 49 1, js_5 191 9223372036854775807 9223372036854775807])
noncomputable def con_2419 : Con2 := ((yX12_numberAt, cX12_numberAt, 3, (some .long)), (0, 0), ([(6, 0, 0), (0, 0, 0), (0, 48, 0)], gi_1801, [ac_1100, ac_1343], []), [((4, 48, 0), gi_1802, [(false, ac_1100), (false, ac_1343)], [], [1])])
theorem hd_2419 : con_2419.1 = (yX12_numberAt, cX12_numberAt, 3, (some .long)) := rfl
noncomputable def cu_2419 : List CUT2 := []
theorem ch_2419 : staG tb_X12_numberAt 1 bt_RX12 [] ct_2 [] [] cu_2419 11 con_2419 = true := by decide +kernel
theorem vl_2419 (l : Launch) : Vld2 l vwCl gTbl con_2419 := conR_ok3 gT_all (hd_2419) rfl pn_RX12 tk_X12_numberAt bo_RX12 xo_RX12 (cto_2 l) ch_2419 cut_nil
/-- RookHustingModel numberAt -/
noncomputable def ac_1344 : AC := .inr (2, jl_n [js_5 49 9223372036854775807 9223372036854775807, js_4 49 1, js_5 190 9223372036854775807 9223372036854775807])
noncomputable def con_2420 : Con2 := ((yX12_numberAt, cX12_numberAt, 3, (some .long)), (0, 0), ([(6, 0, 0), (0, 0, 0), (0, 49, 0)], gi_1801, [ac_1100, ac_1344], []), [((4, 48, 0), gi_1802, [(false, ac_1100), (false, ac_1344)], [], [1])])
theorem hd_2420 : con_2420.1 = (yX12_numberAt, cX12_numberAt, 3, (some .long)) := rfl
noncomputable def cu_2420 : List CUT2 := []
theorem ch_2420 : staG tb_X12_numberAt 1 bt_RX12 [] ct_2 [] [] cu_2420 11 con_2420 = true := by decide +kernel
theorem vl_2420 (l : Launch) : Vld2 l vwCl gTbl con_2420 := conR_ok3 gT_all (hd_2420) rfl pn_RX12 tk_X12_numberAt bo_RX12 xo_RX12 (cto_2 l) ch_2420 cut_nil
/-- RookHustingModel numberAt -/
noncomputable def ac_1345 : AC := .inr (2, jl_n [js_5 50 9223372036854775807 9223372036854775807, js_4 49 1, js_5 189 9223372036854775807 9223372036854775807])
noncomputable def con_2421 : Con2 := ((yX12_numberAt, cX12_numberAt, 3, (some .long)), (0, 0), ([(6, 0, 0), (0, 0, 0), (0, 50, 0)], gi_1801, [ac_1100, ac_1345], []), [((4, 48, 0), gi_1802, [(false, ac_1100), (false, ac_1345)], [], [1])])
theorem hd_2421 : con_2421.1 = (yX12_numberAt, cX12_numberAt, 3, (some .long)) := rfl
noncomputable def cu_2421 : List CUT2 := []
theorem ch_2421 : staG tb_X12_numberAt 1 bt_RX12 [] ct_2 [] [] cu_2421 11 con_2421 = true := by decide +kernel
theorem vl_2421 (l : Launch) : Vld2 l vwCl gTbl con_2421 := conR_ok3 gT_all (hd_2421) rfl pn_RX12 tk_X12_numberAt bo_RX12 xo_RX12 (cto_2 l) ch_2421 cut_nil
/-- RookHustingModel numberAt -/
noncomputable def ac_1346 : AC := .inr (2, jl_n [js_5 51 9223372036854775807 9223372036854775807, js_4 49 1, js_5 188 9223372036854775807 9223372036854775807])
noncomputable def con_2422 : Con2 := ((yX12_numberAt, cX12_numberAt, 3, (some .long)), (0, 0), ([(6, 0, 0), (0, 0, 0), (0, 51, 0)], gi_1801, [ac_1100, ac_1346], []), [((4, 48, 0), gi_1802, [(false, ac_1100), (false, ac_1346)], [], [1])])
theorem hd_2422 : con_2422.1 = (yX12_numberAt, cX12_numberAt, 3, (some .long)) := rfl
noncomputable def cu_2422 : List CUT2 := []
theorem ch_2422 : staG tb_X12_numberAt 1 bt_RX12 [] ct_2 [] [] cu_2422 11 con_2422 = true := by decide +kernel
theorem vl_2422 (l : Launch) : Vld2 l vwCl gTbl con_2422 := conR_ok3 gT_all (hd_2422) rfl pn_RX12 tk_X12_numberAt bo_RX12 xo_RX12 (cto_2 l) ch_2422 cut_nil
/-- RookHustingModel numberAt -/
noncomputable def ac_1347 : AC := .inr (2, jl_n [js_5 52 9223372036854775807 9223372036854775807, js_4 49 1, js_5 187 9223372036854775807 9223372036854775807])
noncomputable def con_2423 : Con2 := ((yX12_numberAt, cX12_numberAt, 3, (some .long)), (0, 0), ([(6, 0, 0), (0, 0, 0), (0, 52, 0)], gi_1801, [ac_1100, ac_1347], []), [((4, 48, 0), gi_1802, [(false, ac_1100), (false, ac_1347)], [], [1])])
theorem hd_2423 : con_2423.1 = (yX12_numberAt, cX12_numberAt, 3, (some .long)) := rfl
noncomputable def cu_2423 : List CUT2 := []
theorem ch_2423 : staG tb_X12_numberAt 1 bt_RX12 [] ct_2 [] [] cu_2423 11 con_2423 = true := by decide +kernel
theorem vl_2423 (l : Launch) : Vld2 l vwCl gTbl con_2423 := conR_ok3 gT_all (hd_2423) rfl pn_RX12 tk_X12_numberAt bo_RX12 xo_RX12 (cto_2 l) ch_2423 cut_nil
/-- RookHustingModel numberAt -/
noncomputable def ac_1348 : AC := .inr (2, jl_n [js_5 53 9223372036854775807 9223372036854775807, js_4 49 1, js_5 186 9223372036854775807 9223372036854775807])
noncomputable def con_2424 : Con2 := ((yX12_numberAt, cX12_numberAt, 3, (some .long)), (0, 0), ([(6, 0, 0), (0, 0, 0), (0, 53, 0)], gi_1801, [ac_1100, ac_1348], []), [((4, 48, 0), gi_1802, [(false, ac_1100), (false, ac_1348)], [], [1])])
theorem hd_2424 : con_2424.1 = (yX12_numberAt, cX12_numberAt, 3, (some .long)) := rfl
noncomputable def cu_2424 : List CUT2 := []
theorem ch_2424 : staG tb_X12_numberAt 1 bt_RX12 [] ct_2 [] [] cu_2424 11 con_2424 = true := by decide +kernel
theorem vl_2424 (l : Launch) : Vld2 l vwCl gTbl con_2424 := conR_ok3 gT_all (hd_2424) rfl pn_RX12 tk_X12_numberAt bo_RX12 xo_RX12 (cto_2 l) ch_2424 cut_nil
/-- RookHustingModel numberAt -/
noncomputable def ac_1349 : AC := .inr (2, jl_n [js_5 54 9223372036854775807 9223372036854775807, js_4 49 1, js_5 185 9223372036854775807 9223372036854775807])
noncomputable def con_2425 : Con2 := ((yX12_numberAt, cX12_numberAt, 3, (some .long)), (0, 0), ([(6, 0, 0), (0, 0, 0), (0, 54, 0)], gi_1801, [ac_1100, ac_1349], []), [((4, 48, 0), gi_1802, [(false, ac_1100), (false, ac_1349)], [], [1])])
theorem hd_2425 : con_2425.1 = (yX12_numberAt, cX12_numberAt, 3, (some .long)) := rfl
noncomputable def cu_2425 : List CUT2 := []
theorem ch_2425 : staG tb_X12_numberAt 1 bt_RX12 [] ct_2 [] [] cu_2425 11 con_2425 = true := by decide +kernel
theorem vl_2425 (l : Launch) : Vld2 l vwCl gTbl con_2425 := conR_ok3 gT_all (hd_2425) rfl pn_RX12 tk_X12_numberAt bo_RX12 xo_RX12 (cto_2 l) ch_2425 cut_nil
/-- RookHustingModel numberAt -/
noncomputable def ac_1350 : AC := .inr (2, jl_n [js_5 55 9223372036854775807 9223372036854775807, js_4 49 1, js_5 184 9223372036854775807 9223372036854775807])
noncomputable def con_2426 : Con2 := ((yX12_numberAt, cX12_numberAt, 3, (some .long)), (0, 0), ([(6, 0, 0), (0, 0, 0), (0, 55, 0)], gi_1801, [ac_1100, ac_1350], []), [((4, 48, 0), gi_1802, [(false, ac_1100), (false, ac_1350)], [], [1])])
theorem hd_2426 : con_2426.1 = (yX12_numberAt, cX12_numberAt, 3, (some .long)) := rfl
noncomputable def cu_2426 : List CUT2 := []
theorem ch_2426 : staG tb_X12_numberAt 1 bt_RX12 [] ct_2 [] [] cu_2426 11 con_2426 = true := by decide +kernel
theorem vl_2426 (l : Launch) : Vld2 l vwCl gTbl con_2426 := conR_ok3 gT_all (hd_2426) rfl pn_RX12 tk_X12_numberAt bo_RX12 xo_RX12 (cto_2 l) ch_2426 cut_nil
/-- RookHustingModel numberAt -/
noncomputable def ac_1351 : AC := .inr (2, jl_n [js_5 56 9223372036854775807 9223372036854775807, js_4 49 1, js_5 183 9223372036854775807 9223372036854775807])
noncomputable def con_2427 : Con2 := ((yX12_numberAt, cX12_numberAt, 3, (some .long)), (0, 0), ([(6, 0, 0), (0, 0, 0), (0, 56, 0)], gi_1801, [ac_1100, ac_1351], []), [((4, 48, 0), gi_1802, [(false, ac_1100), (false, ac_1351)], [], [1])])
theorem hd_2427 : con_2427.1 = (yX12_numberAt, cX12_numberAt, 3, (some .long)) := rfl
noncomputable def cu_2427 : List CUT2 := []
theorem ch_2427 : staG tb_X12_numberAt 1 bt_RX12 [] ct_2 [] [] cu_2427 11 con_2427 = true := by decide +kernel
theorem vl_2427 (l : Launch) : Vld2 l vwCl gTbl con_2427 := conR_ok3 gT_all (hd_2427) rfl pn_RX12 tk_X12_numberAt bo_RX12 xo_RX12 (cto_2 l) ch_2427 cut_nil
/-- RookHustingModel numberAt -/
noncomputable def ac_1352 : AC := .inr (2, jl_n [js_5 57 9223372036854775807 9223372036854775807, js_4 49 1, js_5 182 9223372036854775807 9223372036854775807])
noncomputable def con_2428 : Con2 := ((yX12_numberAt, cX12_numberAt, 3, (some .long)), (0, 0), ([(6, 0, 0), (0, 0, 0), (0, 57, 0)], gi_1801, [ac_1100, ac_1352], []), [((4, 48, 0), gi_1802, [(false, ac_1100), (false, ac_1352)], [], [1])])
theorem hd_2428 : con_2428.1 = (yX12_numberAt, cX12_numberAt, 3, (some .long)) := rfl
noncomputable def cu_2428 : List CUT2 := []
theorem ch_2428 : staG tb_X12_numberAt 1 bt_RX12 [] ct_2 [] [] cu_2428 11 con_2428 = true := by decide +kernel
theorem vl_2428 (l : Launch) : Vld2 l vwCl gTbl con_2428 := conR_ok3 gT_all (hd_2428) rfl pn_RX12 tk_X12_numberAt bo_RX12 xo_RX12 (cto_2 l) ch_2428 cut_nil
/-- RookHustingModel numberAt -/
noncomputable def ac_1353 : AC := .inr (2, jl_n [js_5 58 9223372036854775807 9223372036854775807, js_4 49 1, js_5 181 9223372036854775807 9223372036854775807])
noncomputable def con_2429 : Con2 := ((yX12_numberAt, cX12_numberAt, 3, (some .long)), (0, 0), ([(6, 0, 0), (0, 0, 0), (0, 58, 0)], gi_1801, [ac_1100, ac_1353], []), [((4, 48, 0), gi_1802, [(false, ac_1100), (false, ac_1353)], [], [1])])
theorem hd_2429 : con_2429.1 = (yX12_numberAt, cX12_numberAt, 3, (some .long)) := rfl
noncomputable def cu_2429 : List CUT2 := []
theorem ch_2429 : staG tb_X12_numberAt 1 bt_RX12 [] ct_2 [] [] cu_2429 11 con_2429 = true := by decide +kernel
theorem vl_2429 (l : Launch) : Vld2 l vwCl gTbl con_2429 := conR_ok3 gT_all (hd_2429) rfl pn_RX12 tk_X12_numberAt bo_RX12 xo_RX12 (cto_2 l) ch_2429 cut_nil
/-- RookHustingModel numberAt -/
noncomputable def ac_1354 : AC := .inr (2, jl_n [js_5 59 9223372036854775807 9223372036854775807, js_4 49 1, js_5 180 9223372036854775807 9223372036854775807])
noncomputable def con_2430 : Con2 := ((yX12_numberAt, cX12_numberAt, 3, (some .long)), (0, 0), ([(6, 0, 0), (0, 0, 0), (0, 59, 0)], gi_1801, [ac_1100, ac_1354], []), [((4, 48, 0), gi_1802, [(false, ac_1100), (false, ac_1354)], [], [1])])
theorem hd_2430 : con_2430.1 = (yX12_numberAt, cX12_numberAt, 3, (some .long)) := rfl
noncomputable def cu_2430 : List CUT2 := []
theorem ch_2430 : staG tb_X12_numberAt 1 bt_RX12 [] ct_2 [] [] cu_2430 11 con_2430 = true := by decide +kernel
theorem vl_2430 (l : Launch) : Vld2 l vwCl gTbl con_2430 := conR_ok3 gT_all (hd_2430) rfl pn_RX12 tk_X12_numberAt bo_RX12 xo_RX12 (cto_2 l) ch_2430 cut_nil
/-- RookHustingModel askSeen -/
noncomputable def ac_1355 : AC := .inr (2, jl_n [js_4 135 60, js_5 180 9223372036854775807 9223372036854775807])
noncomputable def hq_935 : HP := [(false, ac_1097), (false, ac_440), (false, ac_1098), (false, ac_1355)]
noncomputable def gi_2396 : GI := jl_n [gp_739, jl_k 0 0, gp_583]
noncomputable def gi_2397 : GI := jl_n [gp_327, gp_169, gp_583]
noncomputable def gi_2398 : GI := jl_n [gp_742, gp_585, jl_z 1]
noncomputable def gi_2399 : GI := jl_n [gp_742, gp_587, jl_z 1]
noncomputable def gi_2400 : GI := jl_n [gp_742, gp_589, jl_z 1]
noncomputable def gi_2401 : GI := jl_n [gp_742, gp_591, jl_z 1]
noncomputable def gi_2402 : GI := jl_n [gp_742, gp_594, jl_z 1]
noncomputable def gi_2403 : GI := jl_n [gp_742, gp_596, jl_z 1]
noncomputable def gi_2404 : GI := jl_n [gp_742, gp_598, jl_z 1]
noncomputable def gi_2405 : GI := jl_n [gp_742, gp_600, jl_z 1]
noncomputable def gi_2406 : GI := jl_n [gp_742, gp_602, jl_z 1]
noncomputable def gi_2407 : GI := jl_n [gp_742, gp_604, jl_z 1]
noncomputable def gi_2408 : GI := jl_n [gp_742, gp_606, jl_z 1]
noncomputable def gi_2409 : GI := jl_n [gp_742, gp_608, jl_z 1]
noncomputable def gi_2410 : GI := jl_n [gp_742, gp_610, jl_z 1]
noncomputable def gi_2411 : GI := jl_n [gp_742, gp_612, jl_z 1]
noncomputable def gi_2412 : GI := jl_n [gp_742, gp_614, jl_z 1]
noncomputable def gi_2413 : GI := jl_n [gp_742, gp_616, jl_z 1]
noncomputable def gi_2414 : GI := jl_n [gp_742, gp_618, jl_z 1]
noncomputable def gi_2415 : GI := jl_n [gp_742, gp_620, jl_z 1]
noncomputable def gi_2416 : GI := jl_n [gp_742, gp_621, jl_z 1]
noncomputable def gi_2417 : GI := jl_n [gp_742, gp_623, jl_z 1]
noncomputable def con_2431 : Con2 := ((yX12_askSeen, cX12_askSeen, 4, (some .int)), (2, 47), ([(6, 0, 0), (0, 0, 0), (1, 2, 0)], gi_1806, [ac_1097, ac_440, ac_1098, ac_1355], []), [((0, (-2), 0), gi_1807, hq_935, [], [1]), ((0, (-6), 0), gi_2396, hq_935, [], [1]), ((0, 0, 0), gi_2397, hq_935, [], [1]), ((0, 0, 0), gi_2398, hq_935, [], [1]), ((0, 0, 0), gi_2399, hq_935, [], [1]), ((0, 0, 0), gi_2400, hq_935, [], [1]), ((0, 0, 0), gi_2401, hq_935, [], [1]), ((0, 0, 0), gi_2402, hq_935, [], [1]), ((0, 0, 0), gi_2403, hq_935, [], [1]), ((0, 0, 0), gi_2404, hq_935, [], [1]), ((0, 0, 0), gi_2405, hq_935, [], [1]), ((0, 0, 0), gi_2406, hq_935, [], [1]), ((0, 0, 0), gi_2407, hq_935, [], [1]), ((0, 0, 0), gi_2408, hq_935, [], [1]), ((0, 0, 0), gi_2409, hq_935, [], [1]), ((0, 0, 0), gi_2410, hq_935, [], [1]), ((0, 0, 0), gi_2411, hq_935, [], [1]), ((0, 0, 0), gi_2412, hq_935, [], [1]), ((0, 0, 0), gi_2413, hq_935, [], [1]), ((0, 0, 0), gi_2414, hq_935, [], [1]), ((0, 0, 0), gi_2415, hq_935, [], [1]), ((0, 0, 0), gi_2416, hq_935, [], [1]), ((0, 0, 0), gi_2417, hq_935, [], [1])])
theorem hd_2431 : con_2431.1 = (yX12_askSeen, cX12_askSeen, 4, (some .int)) := rfl
theorem ck_RX12_417_2373 : COK2 RX12 vwCl gTbl 417 0 con_2373 := ⟨wd_2061, wd_137, mh_X12_numberAt, .inr (.inr ⟨rfl, wd_2058, wd_2060, wd_114, ⟨_, rfl, pd_X12_numberAt⟩, 12, _, TX12, 45, rfl, rfl⟩)⟩
theorem ck_RX12_417_2376 : COK2 RX12 vwCl gTbl 417 0 con_2376 := ⟨wd_2061, wd_137, mh_X12_numberAt, .inr (.inr ⟨rfl, wd_2058, wd_2060, wd_114, ⟨_, rfl, pd_X12_numberAt⟩, 12, _, TX12, 45, rfl, rfl⟩)⟩
theorem ck_RX12_417_2379 : COK2 RX12 vwCl gTbl 417 0 con_2379 := ⟨wd_2061, wd_137, mh_X12_numberAt, .inr (.inr ⟨rfl, wd_2058, wd_2060, wd_114, ⟨_, rfl, pd_X12_numberAt⟩, 12, _, TX12, 45, rfl, rfl⟩)⟩
theorem ck_RX12_417_2382 : COK2 RX12 vwCl gTbl 417 0 con_2382 := ⟨wd_2061, wd_137, mh_X12_numberAt, .inr (.inr ⟨rfl, wd_2058, wd_2060, wd_114, ⟨_, rfl, pd_X12_numberAt⟩, 12, _, TX12, 45, rfl, rfl⟩)⟩
theorem ck_RX12_417_2385 : COK2 RX12 vwCl gTbl 417 0 con_2385 := ⟨wd_2061, wd_137, mh_X12_numberAt, .inr (.inr ⟨rfl, wd_2058, wd_2060, wd_114, ⟨_, rfl, pd_X12_numberAt⟩, 12, _, TX12, 45, rfl, rfl⟩)⟩
theorem ck_RX12_417_2388 : COK2 RX12 vwCl gTbl 417 0 con_2388 := ⟨wd_2061, wd_137, mh_X12_numberAt, .inr (.inr ⟨rfl, wd_2058, wd_2060, wd_114, ⟨_, rfl, pd_X12_numberAt⟩, 12, _, TX12, 45, rfl, rfl⟩)⟩
theorem ck_RX12_417_2391 : COK2 RX12 vwCl gTbl 417 0 con_2391 := ⟨wd_2061, wd_137, mh_X12_numberAt, .inr (.inr ⟨rfl, wd_2058, wd_2060, wd_114, ⟨_, rfl, pd_X12_numberAt⟩, 12, _, TX12, 45, rfl, rfl⟩)⟩
theorem ck_RX12_417_2394 : COK2 RX12 vwCl gTbl 417 0 con_2394 := ⟨wd_2061, wd_137, mh_X12_numberAt, .inr (.inr ⟨rfl, wd_2058, wd_2060, wd_114, ⟨_, rfl, pd_X12_numberAt⟩, 12, _, TX12, 45, rfl, rfl⟩)⟩
theorem ck_RX12_417_2397 : COK2 RX12 vwCl gTbl 417 0 con_2397 := ⟨wd_2061, wd_137, mh_X12_numberAt, .inr (.inr ⟨rfl, wd_2058, wd_2060, wd_114, ⟨_, rfl, pd_X12_numberAt⟩, 12, _, TX12, 45, rfl, rfl⟩)⟩
theorem ck_RX12_417_2400 : COK2 RX12 vwCl gTbl 417 0 con_2400 := ⟨wd_2061, wd_137, mh_X12_numberAt, .inr (.inr ⟨rfl, wd_2058, wd_2060, wd_114, ⟨_, rfl, pd_X12_numberAt⟩, 12, _, TX12, 45, rfl, rfl⟩)⟩
theorem ck_RX12_417_2403 : COK2 RX12 vwCl gTbl 417 0 con_2403 := ⟨wd_2061, wd_137, mh_X12_numberAt, .inr (.inr ⟨rfl, wd_2058, wd_2060, wd_114, ⟨_, rfl, pd_X12_numberAt⟩, 12, _, TX12, 45, rfl, rfl⟩)⟩
theorem ck_RX12_417_2406 : COK2 RX12 vwCl gTbl 417 0 con_2406 := ⟨wd_2061, wd_137, mh_X12_numberAt, .inr (.inr ⟨rfl, wd_2058, wd_2060, wd_114, ⟨_, rfl, pd_X12_numberAt⟩, 12, _, TX12, 45, rfl, rfl⟩)⟩
theorem ck_RX12_417_2409 : COK2 RX12 vwCl gTbl 417 0 con_2409 := ⟨wd_2061, wd_137, mh_X12_numberAt, .inr (.inr ⟨rfl, wd_2058, wd_2060, wd_114, ⟨_, rfl, pd_X12_numberAt⟩, 12, _, TX12, 45, rfl, rfl⟩)⟩
theorem ck_RX12_417_2412 : COK2 RX12 vwCl gTbl 417 0 con_2412 := ⟨wd_2061, wd_137, mh_X12_numberAt, .inr (.inr ⟨rfl, wd_2058, wd_2060, wd_114, ⟨_, rfl, pd_X12_numberAt⟩, 12, _, TX12, 45, rfl, rfl⟩)⟩
theorem ck_RX12_417_2415 : COK2 RX12 vwCl gTbl 417 0 con_2415 := ⟨wd_2061, wd_137, mh_X12_numberAt, .inr (.inr ⟨rfl, wd_2058, wd_2060, wd_114, ⟨_, rfl, pd_X12_numberAt⟩, 12, _, TX12, 45, rfl, rfl⟩)⟩
theorem ck_RX12_417_2418 : COK2 RX12 vwCl gTbl 417 0 con_2418 := ⟨wd_2061, wd_137, mh_X12_numberAt, .inr (.inr ⟨rfl, wd_2058, wd_2060, wd_114, ⟨_, rfl, pd_X12_numberAt⟩, 12, _, TX12, 45, rfl, rfl⟩)⟩
theorem ck_RX12_417_2421 : COK2 RX12 vwCl gTbl 417 0 con_2421 := ⟨wd_2061, wd_137, mh_X12_numberAt, .inr (.inr ⟨rfl, wd_2058, wd_2060, wd_114, ⟨_, rfl, pd_X12_numberAt⟩, 12, _, TX12, 45, rfl, rfl⟩)⟩
theorem ck_RX12_417_2424 : COK2 RX12 vwCl gTbl 417 0 con_2424 := ⟨wd_2061, wd_137, mh_X12_numberAt, .inr (.inr ⟨rfl, wd_2058, wd_2060, wd_114, ⟨_, rfl, pd_X12_numberAt⟩, 12, _, TX12, 45, rfl, rfl⟩)⟩
theorem ck_RX12_417_2427 : COK2 RX12 vwCl gTbl 417 0 con_2427 := ⟨wd_2061, wd_137, mh_X12_numberAt, .inr (.inr ⟨rfl, wd_2058, wd_2060, wd_114, ⟨_, rfl, pd_X12_numberAt⟩, 12, _, TX12, 45, rfl, rfl⟩)⟩
theorem ck_RX12_417_2430 : COK2 RX12 vwCl gTbl 417 0 con_2430 := ⟨wd_2061, wd_137, mh_X12_numberAt, .inr (.inr ⟨rfl, wd_2058, wd_2060, wd_114, ⟨_, rfl, pd_X12_numberAt⟩, 12, _, TX12, 45, rfl, rfl⟩)⟩
theorem ck_RX12_417_2372 : COK2 RX12 vwCl gTbl 417 0 con_2372 := ⟨wd_2061, wd_137, mh_X12_numberAt, .inr (.inr ⟨rfl, wd_2058, wd_2060, wd_114, ⟨_, rfl, pd_X12_numberAt⟩, 12, _, TX12, 45, rfl, rfl⟩)⟩
theorem ck_RX12_417_2375 : COK2 RX12 vwCl gTbl 417 0 con_2375 := ⟨wd_2061, wd_137, mh_X12_numberAt, .inr (.inr ⟨rfl, wd_2058, wd_2060, wd_114, ⟨_, rfl, pd_X12_numberAt⟩, 12, _, TX12, 45, rfl, rfl⟩)⟩
theorem ck_RX12_417_2378 : COK2 RX12 vwCl gTbl 417 0 con_2378 := ⟨wd_2061, wd_137, mh_X12_numberAt, .inr (.inr ⟨rfl, wd_2058, wd_2060, wd_114, ⟨_, rfl, pd_X12_numberAt⟩, 12, _, TX12, 45, rfl, rfl⟩)⟩
theorem ck_RX12_417_2381 : COK2 RX12 vwCl gTbl 417 0 con_2381 := ⟨wd_2061, wd_137, mh_X12_numberAt, .inr (.inr ⟨rfl, wd_2058, wd_2060, wd_114, ⟨_, rfl, pd_X12_numberAt⟩, 12, _, TX12, 45, rfl, rfl⟩)⟩
theorem ck_RX12_417_2384 : COK2 RX12 vwCl gTbl 417 0 con_2384 := ⟨wd_2061, wd_137, mh_X12_numberAt, .inr (.inr ⟨rfl, wd_2058, wd_2060, wd_114, ⟨_, rfl, pd_X12_numberAt⟩, 12, _, TX12, 45, rfl, rfl⟩)⟩
theorem ck_RX12_417_2387 : COK2 RX12 vwCl gTbl 417 0 con_2387 := ⟨wd_2061, wd_137, mh_X12_numberAt, .inr (.inr ⟨rfl, wd_2058, wd_2060, wd_114, ⟨_, rfl, pd_X12_numberAt⟩, 12, _, TX12, 45, rfl, rfl⟩)⟩
theorem ck_RX12_417_2390 : COK2 RX12 vwCl gTbl 417 0 con_2390 := ⟨wd_2061, wd_137, mh_X12_numberAt, .inr (.inr ⟨rfl, wd_2058, wd_2060, wd_114, ⟨_, rfl, pd_X12_numberAt⟩, 12, _, TX12, 45, rfl, rfl⟩)⟩
theorem ck_RX12_417_2393 : COK2 RX12 vwCl gTbl 417 0 con_2393 := ⟨wd_2061, wd_137, mh_X12_numberAt, .inr (.inr ⟨rfl, wd_2058, wd_2060, wd_114, ⟨_, rfl, pd_X12_numberAt⟩, 12, _, TX12, 45, rfl, rfl⟩)⟩
theorem ck_RX12_417_2396 : COK2 RX12 vwCl gTbl 417 0 con_2396 := ⟨wd_2061, wd_137, mh_X12_numberAt, .inr (.inr ⟨rfl, wd_2058, wd_2060, wd_114, ⟨_, rfl, pd_X12_numberAt⟩, 12, _, TX12, 45, rfl, rfl⟩)⟩
theorem ck_RX12_417_2399 : COK2 RX12 vwCl gTbl 417 0 con_2399 := ⟨wd_2061, wd_137, mh_X12_numberAt, .inr (.inr ⟨rfl, wd_2058, wd_2060, wd_114, ⟨_, rfl, pd_X12_numberAt⟩, 12, _, TX12, 45, rfl, rfl⟩)⟩
theorem ck_RX12_417_2402 : COK2 RX12 vwCl gTbl 417 0 con_2402 := ⟨wd_2061, wd_137, mh_X12_numberAt, .inr (.inr ⟨rfl, wd_2058, wd_2060, wd_114, ⟨_, rfl, pd_X12_numberAt⟩, 12, _, TX12, 45, rfl, rfl⟩)⟩
theorem ck_RX12_417_2405 : COK2 RX12 vwCl gTbl 417 0 con_2405 := ⟨wd_2061, wd_137, mh_X12_numberAt, .inr (.inr ⟨rfl, wd_2058, wd_2060, wd_114, ⟨_, rfl, pd_X12_numberAt⟩, 12, _, TX12, 45, rfl, rfl⟩)⟩
theorem ck_RX12_417_2408 : COK2 RX12 vwCl gTbl 417 0 con_2408 := ⟨wd_2061, wd_137, mh_X12_numberAt, .inr (.inr ⟨rfl, wd_2058, wd_2060, wd_114, ⟨_, rfl, pd_X12_numberAt⟩, 12, _, TX12, 45, rfl, rfl⟩)⟩
theorem ck_RX12_417_2411 : COK2 RX12 vwCl gTbl 417 0 con_2411 := ⟨wd_2061, wd_137, mh_X12_numberAt, .inr (.inr ⟨rfl, wd_2058, wd_2060, wd_114, ⟨_, rfl, pd_X12_numberAt⟩, 12, _, TX12, 45, rfl, rfl⟩)⟩
theorem ck_RX12_417_2414 : COK2 RX12 vwCl gTbl 417 0 con_2414 := ⟨wd_2061, wd_137, mh_X12_numberAt, .inr (.inr ⟨rfl, wd_2058, wd_2060, wd_114, ⟨_, rfl, pd_X12_numberAt⟩, 12, _, TX12, 45, rfl, rfl⟩)⟩
theorem ck_RX12_417_2417 : COK2 RX12 vwCl gTbl 417 0 con_2417 := ⟨wd_2061, wd_137, mh_X12_numberAt, .inr (.inr ⟨rfl, wd_2058, wd_2060, wd_114, ⟨_, rfl, pd_X12_numberAt⟩, 12, _, TX12, 45, rfl, rfl⟩)⟩
theorem ck_RX12_417_2420 : COK2 RX12 vwCl gTbl 417 0 con_2420 := ⟨wd_2061, wd_137, mh_X12_numberAt, .inr (.inr ⟨rfl, wd_2058, wd_2060, wd_114, ⟨_, rfl, pd_X12_numberAt⟩, 12, _, TX12, 45, rfl, rfl⟩)⟩
theorem ck_RX12_417_2423 : COK2 RX12 vwCl gTbl 417 0 con_2423 := ⟨wd_2061, wd_137, mh_X12_numberAt, .inr (.inr ⟨rfl, wd_2058, wd_2060, wd_114, ⟨_, rfl, pd_X12_numberAt⟩, 12, _, TX12, 45, rfl, rfl⟩)⟩
theorem ck_RX12_417_2426 : COK2 RX12 vwCl gTbl 417 0 con_2426 := ⟨wd_2061, wd_137, mh_X12_numberAt, .inr (.inr ⟨rfl, wd_2058, wd_2060, wd_114, ⟨_, rfl, pd_X12_numberAt⟩, 12, _, TX12, 45, rfl, rfl⟩)⟩
theorem ck_RX12_417_2429 : COK2 RX12 vwCl gTbl 417 0 con_2429 := ⟨wd_2061, wd_137, mh_X12_numberAt, .inr (.inr ⟨rfl, wd_2058, wd_2060, wd_114, ⟨_, rfl, pd_X12_numberAt⟩, 12, _, TX12, 45, rfl, rfl⟩)⟩
theorem ck_RX12_417_2371 : COK2 RX12 vwCl gTbl 417 0 con_2371 := ⟨wd_2061, wd_137, mh_X12_numberAt, .inr (.inr ⟨rfl, wd_2058, wd_2060, wd_114, ⟨_, rfl, pd_X12_numberAt⟩, 12, _, TX12, 45, rfl, rfl⟩)⟩
theorem ck_RX12_417_2374 : COK2 RX12 vwCl gTbl 417 0 con_2374 := ⟨wd_2061, wd_137, mh_X12_numberAt, .inr (.inr ⟨rfl, wd_2058, wd_2060, wd_114, ⟨_, rfl, pd_X12_numberAt⟩, 12, _, TX12, 45, rfl, rfl⟩)⟩
theorem ck_RX12_417_2377 : COK2 RX12 vwCl gTbl 417 0 con_2377 := ⟨wd_2061, wd_137, mh_X12_numberAt, .inr (.inr ⟨rfl, wd_2058, wd_2060, wd_114, ⟨_, rfl, pd_X12_numberAt⟩, 12, _, TX12, 45, rfl, rfl⟩)⟩
theorem ck_RX12_417_2380 : COK2 RX12 vwCl gTbl 417 0 con_2380 := ⟨wd_2061, wd_137, mh_X12_numberAt, .inr (.inr ⟨rfl, wd_2058, wd_2060, wd_114, ⟨_, rfl, pd_X12_numberAt⟩, 12, _, TX12, 45, rfl, rfl⟩)⟩
theorem ck_RX12_417_2383 : COK2 RX12 vwCl gTbl 417 0 con_2383 := ⟨wd_2061, wd_137, mh_X12_numberAt, .inr (.inr ⟨rfl, wd_2058, wd_2060, wd_114, ⟨_, rfl, pd_X12_numberAt⟩, 12, _, TX12, 45, rfl, rfl⟩)⟩
theorem ck_RX12_417_2386 : COK2 RX12 vwCl gTbl 417 0 con_2386 := ⟨wd_2061, wd_137, mh_X12_numberAt, .inr (.inr ⟨rfl, wd_2058, wd_2060, wd_114, ⟨_, rfl, pd_X12_numberAt⟩, 12, _, TX12, 45, rfl, rfl⟩)⟩
theorem ck_RX12_417_2389 : COK2 RX12 vwCl gTbl 417 0 con_2389 := ⟨wd_2061, wd_137, mh_X12_numberAt, .inr (.inr ⟨rfl, wd_2058, wd_2060, wd_114, ⟨_, rfl, pd_X12_numberAt⟩, 12, _, TX12, 45, rfl, rfl⟩)⟩
theorem ck_RX12_417_2392 : COK2 RX12 vwCl gTbl 417 0 con_2392 := ⟨wd_2061, wd_137, mh_X12_numberAt, .inr (.inr ⟨rfl, wd_2058, wd_2060, wd_114, ⟨_, rfl, pd_X12_numberAt⟩, 12, _, TX12, 45, rfl, rfl⟩)⟩
theorem ck_RX12_417_2395 : COK2 RX12 vwCl gTbl 417 0 con_2395 := ⟨wd_2061, wd_137, mh_X12_numberAt, .inr (.inr ⟨rfl, wd_2058, wd_2060, wd_114, ⟨_, rfl, pd_X12_numberAt⟩, 12, _, TX12, 45, rfl, rfl⟩)⟩
theorem ck_RX12_417_2398 : COK2 RX12 vwCl gTbl 417 0 con_2398 := ⟨wd_2061, wd_137, mh_X12_numberAt, .inr (.inr ⟨rfl, wd_2058, wd_2060, wd_114, ⟨_, rfl, pd_X12_numberAt⟩, 12, _, TX12, 45, rfl, rfl⟩)⟩
theorem ck_RX12_417_2401 : COK2 RX12 vwCl gTbl 417 0 con_2401 := ⟨wd_2061, wd_137, mh_X12_numberAt, .inr (.inr ⟨rfl, wd_2058, wd_2060, wd_114, ⟨_, rfl, pd_X12_numberAt⟩, 12, _, TX12, 45, rfl, rfl⟩)⟩
theorem ck_RX12_417_2404 : COK2 RX12 vwCl gTbl 417 0 con_2404 := ⟨wd_2061, wd_137, mh_X12_numberAt, .inr (.inr ⟨rfl, wd_2058, wd_2060, wd_114, ⟨_, rfl, pd_X12_numberAt⟩, 12, _, TX12, 45, rfl, rfl⟩)⟩
theorem ck_RX12_417_2407 : COK2 RX12 vwCl gTbl 417 0 con_2407 := ⟨wd_2061, wd_137, mh_X12_numberAt, .inr (.inr ⟨rfl, wd_2058, wd_2060, wd_114, ⟨_, rfl, pd_X12_numberAt⟩, 12, _, TX12, 45, rfl, rfl⟩)⟩
theorem ck_RX12_417_2410 : COK2 RX12 vwCl gTbl 417 0 con_2410 := ⟨wd_2061, wd_137, mh_X12_numberAt, .inr (.inr ⟨rfl, wd_2058, wd_2060, wd_114, ⟨_, rfl, pd_X12_numberAt⟩, 12, _, TX12, 45, rfl, rfl⟩)⟩
theorem ck_RX12_417_2413 : COK2 RX12 vwCl gTbl 417 0 con_2413 := ⟨wd_2061, wd_137, mh_X12_numberAt, .inr (.inr ⟨rfl, wd_2058, wd_2060, wd_114, ⟨_, rfl, pd_X12_numberAt⟩, 12, _, TX12, 45, rfl, rfl⟩)⟩
theorem ck_RX12_417_2416 : COK2 RX12 vwCl gTbl 417 0 con_2416 := ⟨wd_2061, wd_137, mh_X12_numberAt, .inr (.inr ⟨rfl, wd_2058, wd_2060, wd_114, ⟨_, rfl, pd_X12_numberAt⟩, 12, _, TX12, 45, rfl, rfl⟩)⟩
theorem ck_RX12_417_2419 : COK2 RX12 vwCl gTbl 417 0 con_2419 := ⟨wd_2061, wd_137, mh_X12_numberAt, .inr (.inr ⟨rfl, wd_2058, wd_2060, wd_114, ⟨_, rfl, pd_X12_numberAt⟩, 12, _, TX12, 45, rfl, rfl⟩)⟩
theorem ck_RX12_417_2422 : COK2 RX12 vwCl gTbl 417 0 con_2422 := ⟨wd_2061, wd_137, mh_X12_numberAt, .inr (.inr ⟨rfl, wd_2058, wd_2060, wd_114, ⟨_, rfl, pd_X12_numberAt⟩, 12, _, TX12, 45, rfl, rfl⟩)⟩
theorem ck_RX12_417_2425 : COK2 RX12 vwCl gTbl 417 0 con_2425 := ⟨wd_2061, wd_137, mh_X12_numberAt, .inr (.inr ⟨rfl, wd_2058, wd_2060, wd_114, ⟨_, rfl, pd_X12_numberAt⟩, 12, _, TX12, 45, rfl, rfl⟩)⟩
theorem ck_RX12_417_2428 : COK2 RX12 vwCl gTbl 417 0 con_2428 := ⟨wd_2061, wd_137, mh_X12_numberAt, .inr (.inr ⟨rfl, wd_2058, wd_2060, wd_114, ⟨_, rfl, pd_X12_numberAt⟩, 12, _, TX12, 45, rfl, rfl⟩)⟩
theorem ck_RX12_414_2370 : COK2 RX12 vwCl gTbl 414 1 con_2370 := ⟨wd_2057, wd_137, mh_X12_isSlot, .inl ⟨rfl, wd_2055, wd_2056, pd_X12_isSlot⟩⟩
noncomputable def ct_2431 : CTB2 := [(1, 414, 1, con_2370, []), (10, 109, 0, con_647, [0, 1]), (62, 417, 0, con_2428, [0, 3]), (62, 417, 0, con_2425, [0, 3]), (62, 417, 0, con_2422, [0, 3]), (62, 417, 0, con_2419, [0, 3]), (62, 417, 0, con_2416, [0, 3]), (62, 417, 0, con_2413, [0, 3]), (62, 417, 0, con_2410, [0, 3]), (62, 417, 0, con_2407, [0, 3]), (62, 417, 0, con_2404, [0, 3]), (62, 417, 0, con_2401, [0, 3]), (62, 417, 0, con_2398, [0, 3]), (62, 417, 0, con_2395, [0, 3]), (62, 417, 0, con_2392, [0, 3]), (62, 417, 0, con_2389, [0, 3]), (62, 417, 0, con_2386, [0, 3]), (62, 417, 0, con_2383, [0, 3]), (62, 417, 0, con_2380, [0, 3]), (62, 417, 0, con_2377, [0, 3]), (62, 417, 0, con_2374, [0, 3]), (62, 417, 0, con_2371, [0, 3]), (65, 109, 0, con_1932, [0, 1]), (77, 417, 0, con_2429, [0, 3]), (77, 417, 0, con_2426, [0, 3]), (77, 417, 0, con_2423, [0, 3]), (77, 417, 0, con_2420, [0, 3]), (77, 417, 0, con_2417, [0, 3]), (77, 417, 0, con_2414, [0, 3]), (77, 417, 0, con_2411, [0, 3]), (77, 417, 0, con_2408, [0, 3]), (77, 417, 0, con_2405, [0, 3]), (77, 417, 0, con_2402, [0, 3]), (77, 417, 0, con_2399, [0, 3]), (77, 417, 0, con_2396, [0, 3]), (77, 417, 0, con_2393, [0, 3]), (77, 417, 0, con_2390, [0, 3]), (77, 417, 0, con_2387, [0, 3]), (77, 417, 0, con_2384, [0, 3]), (77, 417, 0, con_2381, [0, 3]), (77, 417, 0, con_2378, [0, 3]), (77, 417, 0, con_2375, [0, 3]), (77, 417, 0, con_2372, [0, 3]), (80, 369, 0, con_1934, [0, 1]), (91, 417, 0, con_2430, [0, 3]), (91, 417, 0, con_2427, [0, 3]), (91, 417, 0, con_2424, [0, 3]), (91, 417, 0, con_2421, [0, 3]), (91, 417, 0, con_2418, [0, 3]), (91, 417, 0, con_2415, [0, 3]), (91, 417, 0, con_2412, [0, 3]), (91, 417, 0, con_2409, [0, 3]), (91, 417, 0, con_2406, [0, 3]), (91, 417, 0, con_2403, [0, 3]), (91, 417, 0, con_2400, [0, 3]), (91, 417, 0, con_2397, [0, 3]), (91, 417, 0, con_2394, [0, 3]), (91, 417, 0, con_2391, [0, 3]), (91, 417, 0, con_2388, [0, 3]), (91, 417, 0, con_2385, [0, 3]), (91, 417, 0, con_2382, [0, 3]), (91, 417, 0, con_2379, [0, 3]), (91, 417, 0, con_2376, [0, 3]), (91, 417, 0, con_2373, [0, 3]), (98, 91, 1, con_1936, [])]
noncomputable def gi_2418 : GI := jl_n [gp_739, jl_i 0 60, gp_582, jl_z 4]
noncomputable def gi_2419 : GI := jl_n [gp_742, jl_i 1 60, jl_r 3 (jl_m 0 60), gp_452, jl_z 4]
noncomputable def gi_2420 : GI := jl_n [gp_742, jl_i 4 60, jl_r 3 (jl_m 0 60), gp_484, jl_z 4]
noncomputable def gi_2421 : GI := jl_n [gp_742, jl_i 7 60, jl_r 3 (jl_m 0 60), gp_488, jl_z 4]
noncomputable def gi_2422 : GI := jl_n [gp_742, jl_i 10 60, jl_r 3 (jl_m 0 60), gp_435, jl_z 4]
noncomputable def gi_2423 : GI := jl_n [gp_742, jl_i 13 60, jl_r 3 (jl_m 0 60), gp_438, jl_z 4]
noncomputable def gi_2424 : GI := jl_n [gp_742, jl_i 16 60, jl_r 3 (jl_m 0 60), gp_441, jl_z 4]
noncomputable def gi_2425 : GI := jl_n [gp_742, jl_i 19 60, jl_r 3 (jl_m 0 60), gp_444, jl_z 4]
noncomputable def gi_2426 : GI := jl_n [gp_742, jl_i 22 60, gp_592, jl_r 36 (jl_u), jl_z 4]
noncomputable def gi_2427 : GI := jl_n [gp_742, jl_i 25 60, gp_592, gp_449, jl_z 4]
noncomputable def gi_2428 : GI := jl_n [gp_742, jl_i 28 60, gp_592, gp_454, jl_z 4]
noncomputable def gi_2429 : GI := jl_n [gp_742, jl_i 31 60, gp_592, gp_457, jl_z 4]
noncomputable def gi_2430 : GI := jl_n [gp_742, jl_i 34 60, jl_r 3 (jl_m 0 60), gp_461, jl_z 4]
noncomputable def gi_2431 : GI := jl_n [gp_742, jl_i 37 60, jl_r 3 (jl_m 0 60), gp_464, jl_z 4]
noncomputable def gi_2432 : GI := jl_n [gp_742, jl_i 40 60, jl_r 3 (jl_m 0 60), gp_467, jl_z 4]
noncomputable def gi_2433 : GI := jl_n [gp_742, jl_i 43 60, jl_r 3 (jl_m 0 60), gp_470, jl_z 4]
noncomputable def gi_2434 : GI := jl_n [gp_742, jl_i 46 60, jl_r 3 (jl_m 0 60), gp_473, jl_z 4]
noncomputable def gi_2435 : GI := jl_n [gp_742, jl_i 49 60, jl_r 3 (jl_m 0 60), gp_476, jl_z 4]
noncomputable def gi_2436 : GI := jl_n [gp_742, jl_i 52 60, jl_r 3 (jl_m 0 60), gp_479, jl_z 4]
noncomputable def gi_2437 : GI := jl_n [gp_742, jl_i 55 60, jl_r 3 (jl_m 0 60), gp_745]
noncomputable def gi_2438 : GI := jl_n [gp_742, gp_621, jl_z 4]
noncomputable def cu_2431_0 : List CUT2 := [((48, [lq 0 6 0, lq 1 0 0, lq 2 1 2, lq 3 0 0], [], gi_2418, hq_935), [], ([], 60)), ((48, [lq 0 6 0, lq 1 0 0, lq 2 1 2, lq 3 0 3], [], gi_2419, hq_935), [], ([], 57)), ((48, [lq 0 6 0, lq 1 0 0, lq 2 1 2, lq 3 0 6], [], gi_2420, hq_935), [], ([], 54)), ((48, [lq 0 6 0, lq 1 0 0, lq 2 1 2, lq 3 0 9], [], gi_2421, hq_935), [], ([], 51)), ((48, [lq 0 6 0, lq 1 0 0, lq 2 1 2, lq 3 0 12], [], gi_2422, hq_935), [], ([], 48)), ((48, [lq 0 6 0, lq 1 0 0, lq 2 1 2, lq 3 0 15], [], gi_2423, hq_935), [], ([], 45)), ((48, [lq 0 6 0, lq 1 0 0, lq 2 1 2, lq 3 0 18], [], gi_2424, hq_935), [], ([], 42)), ((48, [lq 0 6 0, lq 1 0 0, lq 2 1 2, lq 3 0 21], [], gi_2425, hq_935), [], ([], 39)), ((48, [lq 0 6 0, lq 1 0 0, lq 2 1 2, lq 3 0 24], [], gi_2426, hq_935), [], ([], 36)), ((48, [lq 0 6 0, lq 1 0 0, lq 2 1 2, lq 3 0 27], [], gi_2427, hq_935), [], ([], 33)), ((48, [lq 0 6 0, lq 1 0 0, lq 2 1 2, lq 3 0 30], [], gi_2428, hq_935), [], ([], 30)), ((48, [lq 0 6 0, lq 1 0 0, lq 2 1 2, lq 3 0 33], [], gi_2429, hq_935), [], ([], 27)), ((48, [lq 0 6 0, lq 1 0 0, lq 2 1 2, lq 3 0 36], [], gi_2430, hq_935), [], ([], 24))]
noncomputable def cu_2431_1 : List CUT2 := [((48, [lq 0 6 0, lq 1 0 0, lq 2 1 2, lq 3 0 39], [], gi_2431, hq_935), [], ([], 21)), ((48, [lq 0 6 0, lq 1 0 0, lq 2 1 2, lq 3 0 42], [], gi_2432, hq_935), [], ([], 18)), ((48, [lq 0 6 0, lq 1 0 0, lq 2 1 2, lq 3 0 45], [], gi_2433, hq_935), [], ([], 15)), ((48, [lq 0 6 0, lq 1 0 0, lq 2 1 2, lq 3 0 48], [], gi_2434, hq_935), [], ([], 12)), ((48, [lq 0 6 0, lq 1 0 0, lq 2 1 2, lq 3 0 51], [], gi_2435, hq_935), [], ([], 9)), ((48, [lq 0 6 0, lq 1 0 0, lq 2 1 2, lq 3 0 54], [], gi_2436, hq_935), [], ([], 6)), ((48, [lq 0 6 0, lq 1 0 0, lq 2 1 2, lq 3 0 57], [], gi_2437, hq_935), [], ([], 3)), ((48, [lq 0 6 0, lq 1 0 0, lq 2 1 2, lq 3 0 60], [], gi_2438, hq_935), [], ([], 0))]
noncomputable def cu_2431 : List CUT2 := cu_2431_0 ++ (cu_2431_1)
theorem ch_2431 : staG tb_X12_askSeen 1 bt_RX12 [] ct_2431 [] [] cu_2431 37 con_2431 = true := by decide +kernel
theorem cc_2431_0 : cu_2431_0.all (cutG tb_X12_askSeen 1 bt_RX12 [] ct_2431 [] [] cu_2431 37 con_2431) = true := by decide +kernel
theorem cc_2431_1 : cu_2431_1.all (cutG tb_X12_askSeen 1 bt_RX12 [] ct_2431 [] [] cu_2431 37 con_2431) = true := by decide +kernel
theorem cto_2431 (l : Launch) : CTOK2 l RX12 vwCl gTbl ct_2431 := ct2_cons (vl_2370 l) ck_RX12_414_2370 (ct2_cons (vl_647 l) ck_RX12_109_647 (ct2_cons (vl_2428 l) ck_RX12_417_2428 (ct2_cons (vl_2425 l) ck_RX12_417_2425 (ct2_cons (vl_2422 l) ck_RX12_417_2422 (ct2_cons (vl_2419 l) ck_RX12_417_2419 (ct2_cons (vl_2416 l) ck_RX12_417_2416 (ct2_cons (vl_2413 l) ck_RX12_417_2413 (ct2_cons (vl_2410 l) ck_RX12_417_2410 (ct2_cons (vl_2407 l) ck_RX12_417_2407 (ct2_cons (vl_2404 l) ck_RX12_417_2404 (ct2_cons (vl_2401 l) ck_RX12_417_2401 (ct2_cons (vl_2398 l) ck_RX12_417_2398 (ct2_cons (vl_2395 l) ck_RX12_417_2395 (ct2_cons (vl_2392 l) ck_RX12_417_2392 (ct2_cons (vl_2389 l) ck_RX12_417_2389 (ct2_cons (vl_2386 l) ck_RX12_417_2386 (ct2_cons (vl_2383 l) ck_RX12_417_2383 (ct2_cons (vl_2380 l) ck_RX12_417_2380 (ct2_cons (vl_2377 l) ck_RX12_417_2377 (ct2_cons (vl_2374 l) ck_RX12_417_2374 (ct2_cons (vl_2371 l) ck_RX12_417_2371 (ct2_cons (vl_1932 l) ck_RX12_109_1932 (ct2_cons (vl_2429 l) ck_RX12_417_2429 (ct2_cons (vl_2426 l) ck_RX12_417_2426 (ct2_cons (vl_2423 l) ck_RX12_417_2423 (ct2_cons (vl_2420 l) ck_RX12_417_2420 (ct2_cons (vl_2417 l) ck_RX12_417_2417 (ct2_cons (vl_2414 l) ck_RX12_417_2414 (ct2_cons (vl_2411 l) ck_RX12_417_2411 (ct2_cons (vl_2408 l) ck_RX12_417_2408 (ct2_cons (vl_2405 l) ck_RX12_417_2405 (ct2_cons (vl_2402 l) ck_RX12_417_2402 (ct2_cons (vl_2399 l) ck_RX12_417_2399 (ct2_cons (vl_2396 l) ck_RX12_417_2396 (ct2_cons (vl_2393 l) ck_RX12_417_2393 (ct2_cons (vl_2390 l) ck_RX12_417_2390 (ct2_cons (vl_2387 l) ck_RX12_417_2387 (ct2_cons (vl_2384 l) ck_RX12_417_2384 (ct2_cons (vl_2381 l) ck_RX12_417_2381 (ct2_cons (vl_2378 l) ck_RX12_417_2378 (ct2_cons (vl_2375 l) ck_RX12_417_2375 (ct2_cons (vl_2372 l) ck_RX12_417_2372 (ct2_cons (vl_1934 l) ck_RX12_369_1934 (ct2_cons (vl_2430 l) ck_RX12_417_2430 (ct2_cons (vl_2427 l) ck_RX12_417_2427 (ct2_cons (vl_2424 l) ck_RX12_417_2424 (ct2_cons (vl_2421 l) ck_RX12_417_2421 (ct2_cons (vl_2418 l) ck_RX12_417_2418 (ct2_cons (vl_2415 l) ck_RX12_417_2415 (ct2_cons (vl_2412 l) ck_RX12_417_2412 (ct2_cons (vl_2409 l) ck_RX12_417_2409 (ct2_cons (vl_2406 l) ck_RX12_417_2406 (ct2_cons (vl_2403 l) ck_RX12_417_2403 (ct2_cons (vl_2400 l) ck_RX12_417_2400 (ct2_cons (vl_2397 l) ck_RX12_417_2397 (ct2_cons (vl_2394 l) ck_RX12_417_2394 (ct2_cons (vl_2391 l) ck_RX12_417_2391 (ct2_cons (vl_2388 l) ck_RX12_417_2388 (ct2_cons (vl_2385 l) ck_RX12_417_2385 (ct2_cons (vl_2382 l) ck_RX12_417_2382 (ct2_cons (vl_2379 l) ck_RX12_417_2379 (ct2_cons (vl_2376 l) ck_RX12_417_2376 (ct2_cons (vl_2373 l) ck_RX12_417_2373 (ct2_cons (vl_1936 l) ck_RX12_91_1936 (ct2_nil)))))))))))))))))))))))))))))))))))))))))))))))))))))))))))))))))
theorem vl_2431 (l : Launch) : Vld2 l vwCl gTbl con_2431 := conR_ok3 gT_all (hd_2431) rfl pn_RX12 tk_X12_askSeen bo_RX12 xo_RX12 (cto_2431 l) ch_2431 (cut_app (cut_all cc_2431_0) (cut_all cc_2431_1))
/-- RookHustingModel numberAt -/
noncomputable def gi_2439 : GI := jl_n [jl_z 49, jl_i 0 16]
noncomputable def gi_2440 : GI := jl_n [jl_z 49, gp_361]
noncomputable def con_2432 : Con2 := ((yX12_numberAt, cX12_numberAt, 3, (some .long)), (0, 0), ([(6, 0, 0), (0, 0, 0), (0, 1, 0)], gi_2439, [ac_1100, ac_1296], []), [((4, 49, 0), gi_2440, [(false, ac_1100), (false, ac_1296)], [], [1])])
theorem hd_2432 : con_2432.1 = (yX12_numberAt, cX12_numberAt, 3, (some .long)) := rfl
noncomputable def cu_2432 : List CUT2 := []
theorem ch_2432 : staG tb_X12_numberAt 1 bt_RX12 [] ct_2 [] [] cu_2432 11 con_2432 = true := by decide +kernel
theorem vl_2432 (l : Launch) : Vld2 l vwCl gTbl con_2432 := conR_ok3 gT_all (hd_2432) rfl pn_RX12 tk_X12_numberAt bo_RX12 xo_RX12 (cto_2 l) ch_2432 cut_nil
/-- RookHustingModel numberAt -/
noncomputable def con_2433 : Con2 := ((yX12_numberAt, cX12_numberAt, 3, (some .long)), (0, 0), ([(6, 0, 0), (0, 0, 0), (0, 0, 0)], gi_1853, [ac_1100, ac_1295], []), [((4, 48, 0), gi_1854, [(false, ac_1100), (false, ac_1295)], [], [1])])
theorem hd_2433 : con_2433.1 = (yX12_numberAt, cX12_numberAt, 3, (some .long)) := rfl
noncomputable def cu_2433 : List CUT2 := []
theorem ch_2433 : staG tb_X12_numberAt 1 bt_RX12 [] ct_2 [] [] cu_2433 11 con_2433 = true := by decide +kernel
theorem vl_2433 (l : Launch) : Vld2 l vwCl gTbl con_2433 := conR_ok3 gT_all (hd_2433) rfl pn_RX12 tk_X12_numberAt bo_RX12 xo_RX12 (cto_2 l) ch_2433 cut_nil
/-- RookHustingModel numberAt -/
noncomputable def con_2434 : Con2 := ((yX12_numberAt, cX12_numberAt, 3, (some .long)), (0, 0), ([(6, 0, 0), (0, 0, 0), (0, 2, 0)], gi_1855, [ac_1100, ac_1297], []), [((4, 48, 0), gi_1856, [(false, ac_1100), (false, ac_1297)], [], [1])])
theorem hd_2434 : con_2434.1 = (yX12_numberAt, cX12_numberAt, 3, (some .long)) := rfl
noncomputable def cu_2434 : List CUT2 := []
theorem ch_2434 : staG tb_X12_numberAt 1 bt_RX12 [] ct_2 [] [] cu_2434 11 con_2434 = true := by decide +kernel
theorem vl_2434 (l : Launch) : Vld2 l vwCl gTbl con_2434 := conR_ok3 gT_all (hd_2434) rfl pn_RX12 tk_X12_numberAt bo_RX12 xo_RX12 (cto_2 l) ch_2434 cut_nil
/-- RookHustingModel numberAt -/
noncomputable def con_2435 : Con2 := ((yX12_numberAt, cX12_numberAt, 3, (some .long)), (0, 0), ([(6, 0, 0), (0, 0, 0), (0, 4, 0)], gi_1851, [ac_1100, ac_1299], []), [((4, 48, 0), gi_1852, [(false, ac_1100), (false, ac_1299)], [], [1])])
theorem hd_2435 : con_2435.1 = (yX12_numberAt, cX12_numberAt, 3, (some .long)) := rfl
noncomputable def cu_2435 : List CUT2 := []
theorem ch_2435 : staG tb_X12_numberAt 1 bt_RX12 [] ct_2 [] [] cu_2435 11 con_2435 = true := by decide +kernel
theorem vl_2435 (l : Launch) : Vld2 l vwCl gTbl con_2435 := conR_ok3 gT_all (hd_2435) rfl pn_RX12 tk_X12_numberAt bo_RX12 xo_RX12 (cto_2 l) ch_2435 cut_nil
/-- RookHustingModel numberAt -/
noncomputable def con_2436 : Con2 := ((yX12_numberAt, cX12_numberAt, 3, (some .long)), (0, 0), ([(6, 0, 0), (0, 0, 0), (0, 3, 0)], gi_1853, [ac_1100, ac_1298], []), [((4, 48, 0), gi_1854, [(false, ac_1100), (false, ac_1298)], [], [1])])
theorem hd_2436 : con_2436.1 = (yX12_numberAt, cX12_numberAt, 3, (some .long)) := rfl
noncomputable def cu_2436 : List CUT2 := []
theorem ch_2436 : staG tb_X12_numberAt 1 bt_RX12 [] ct_2 [] [] cu_2436 11 con_2436 = true := by decide +kernel
theorem vl_2436 (l : Launch) : Vld2 l vwCl gTbl con_2436 := conR_ok3 gT_all (hd_2436) rfl pn_RX12 tk_X12_numberAt bo_RX12 xo_RX12 (cto_2 l) ch_2436 cut_nil
/-- RookHustingModel numberAt -/
noncomputable def con_2437 : Con2 := ((yX12_numberAt, cX12_numberAt, 3, (some .long)), (0, 0), ([(6, 0, 0), (0, 0, 0), (0, 5, 0)], gi_1855, [ac_1100, ac_1300], []), [((4, 48, 0), gi_1856, [(false, ac_1100), (false, ac_1300)], [], [1])])
theorem hd_2437 : con_2437.1 = (yX12_numberAt, cX12_numberAt, 3, (some .long)) := rfl
noncomputable def cu_2437 : List CUT2 := []
theorem ch_2437 : staG tb_X12_numberAt 1 bt_RX12 [] ct_2 [] [] cu_2437 11 con_2437 = true := by decide +kernel
theorem vl_2437 (l : Launch) : Vld2 l vwCl gTbl con_2437 := conR_ok3 gT_all (hd_2437) rfl pn_RX12 tk_X12_numberAt bo_RX12 xo_RX12 (cto_2 l) ch_2437 cut_nil
/-- RookHustingModel numberAt -/
noncomputable def con_2438 : Con2 := ((yX12_numberAt, cX12_numberAt, 3, (some .long)), (0, 0), ([(6, 0, 0), (0, 0, 0), (0, 7, 0)], gi_1851, [ac_1100, ac_1302], []), [((4, 48, 0), gi_1852, [(false, ac_1100), (false, ac_1302)], [], [1])])
theorem hd_2438 : con_2438.1 = (yX12_numberAt, cX12_numberAt, 3, (some .long)) := rfl
noncomputable def cu_2438 : List CUT2 := []
theorem ch_2438 : staG tb_X12_numberAt 1 bt_RX12 [] ct_2 [] [] cu_2438 11 con_2438 = true := by decide +kernel
theorem vl_2438 (l : Launch) : Vld2 l vwCl gTbl con_2438 := conR_ok3 gT_all (hd_2438) rfl pn_RX12 tk_X12_numberAt bo_RX12 xo_RX12 (cto_2 l) ch_2438 cut_nil
/-- RookHustingModel numberAt -/
noncomputable def con_2439 : Con2 := ((yX12_numberAt, cX12_numberAt, 3, (some .long)), (0, 0), ([(6, 0, 0), (0, 0, 0), (0, 6, 0)], gi_1853, [ac_1100, ac_1301], []), [((4, 48, 0), gi_1854, [(false, ac_1100), (false, ac_1301)], [], [1])])
theorem hd_2439 : con_2439.1 = (yX12_numberAt, cX12_numberAt, 3, (some .long)) := rfl
noncomputable def cu_2439 : List CUT2 := []
theorem ch_2439 : staG tb_X12_numberAt 1 bt_RX12 [] ct_2 [] [] cu_2439 11 con_2439 = true := by decide +kernel
theorem vl_2439 (l : Launch) : Vld2 l vwCl gTbl con_2439 := conR_ok3 gT_all (hd_2439) rfl pn_RX12 tk_X12_numberAt bo_RX12 xo_RX12 (cto_2 l) ch_2439 cut_nil
/-- RookHustingModel numberAt -/
noncomputable def con_2440 : Con2 := ((yX12_numberAt, cX12_numberAt, 3, (some .long)), (0, 0), ([(6, 0, 0), (0, 0, 0), (0, 8, 0)], gi_1855, [ac_1100, ac_1303], []), [((4, 48, 0), gi_1856, [(false, ac_1100), (false, ac_1303)], [], [1])])
theorem hd_2440 : con_2440.1 = (yX12_numberAt, cX12_numberAt, 3, (some .long)) := rfl
noncomputable def cu_2440 : List CUT2 := []
theorem ch_2440 : staG tb_X12_numberAt 1 bt_RX12 [] ct_2 [] [] cu_2440 11 con_2440 = true := by decide +kernel
theorem vl_2440 (l : Launch) : Vld2 l vwCl gTbl con_2440 := conR_ok3 gT_all (hd_2440) rfl pn_RX12 tk_X12_numberAt bo_RX12 xo_RX12 (cto_2 l) ch_2440 cut_nil
/-- RookHustingModel isSeen -/
noncomputable def gi_2441 : GI := jl_n [jl_z 47, gp_623]
noncomputable def ac_1356 : AC := .inr (2, jl_n [js_4 111 60, js_5 180 9223372036854775807 9223372036854775807])
noncomputable def hc_224 : List AC := [ac_1162, ac_1163, ac_1356, am_0]
noncomputable def gi_2442 : GI := jl_n [jl_z 47, gp_623, jl_z 1]
noncomputable def hq_936 : HP := [(false, ac_1162), (false, ac_1163), (false, ac_1356), (false, am_0)]
noncomputable def con_2441 : Con2 := ((yX12_isSeen, cX12_isSeen, 3, (some .boolean)), (1, 22), ([(6, 0, 0), (0, 0, 0)], gi_2441, hc_224, []), [((0, 0, 0), gi_2442, hq_936, [], [1]), ((0, 1, 0), gi_2442, hq_936, [], [1])])
theorem hd_2441 : con_2441.1 = (yX12_isSeen, cX12_isSeen, 3, (some .boolean)) := rfl
theorem ck_RX12_417_2434 : COK2 RX12 vwCl gTbl 417 0 con_2434 := ⟨wd_2061, wd_137, mh_X12_numberAt, .inr (.inr ⟨rfl, wd_2058, wd_2060, wd_114, ⟨_, rfl, pd_X12_numberAt⟩, 12, _, TX12, 45, rfl, rfl⟩)⟩
theorem ck_RX12_417_2437 : COK2 RX12 vwCl gTbl 417 0 con_2437 := ⟨wd_2061, wd_137, mh_X12_numberAt, .inr (.inr ⟨rfl, wd_2058, wd_2060, wd_114, ⟨_, rfl, pd_X12_numberAt⟩, 12, _, TX12, 45, rfl, rfl⟩)⟩
theorem ck_RX12_417_2440 : COK2 RX12 vwCl gTbl 417 0 con_2440 := ⟨wd_2061, wd_137, mh_X12_numberAt, .inr (.inr ⟨rfl, wd_2058, wd_2060, wd_114, ⟨_, rfl, pd_X12_numberAt⟩, 12, _, TX12, 45, rfl, rfl⟩)⟩
theorem ck_RX12_417_2433 : COK2 RX12 vwCl gTbl 417 0 con_2433 := ⟨wd_2061, wd_137, mh_X12_numberAt, .inr (.inr ⟨rfl, wd_2058, wd_2060, wd_114, ⟨_, rfl, pd_X12_numberAt⟩, 12, _, TX12, 45, rfl, rfl⟩)⟩
theorem ck_RX12_417_2436 : COK2 RX12 vwCl gTbl 417 0 con_2436 := ⟨wd_2061, wd_137, mh_X12_numberAt, .inr (.inr ⟨rfl, wd_2058, wd_2060, wd_114, ⟨_, rfl, pd_X12_numberAt⟩, 12, _, TX12, 45, rfl, rfl⟩)⟩
theorem ck_RX12_417_2439 : COK2 RX12 vwCl gTbl 417 0 con_2439 := ⟨wd_2061, wd_137, mh_X12_numberAt, .inr (.inr ⟨rfl, wd_2058, wd_2060, wd_114, ⟨_, rfl, pd_X12_numberAt⟩, 12, _, TX12, 45, rfl, rfl⟩)⟩
theorem ck_RX12_417_2432 : COK2 RX12 vwCl gTbl 417 0 con_2432 := ⟨wd_2061, wd_137, mh_X12_numberAt, .inr (.inr ⟨rfl, wd_2058, wd_2060, wd_114, ⟨_, rfl, pd_X12_numberAt⟩, 12, _, TX12, 45, rfl, rfl⟩)⟩
theorem ck_RX12_417_2435 : COK2 RX12 vwCl gTbl 417 0 con_2435 := ⟨wd_2061, wd_137, mh_X12_numberAt, .inr (.inr ⟨rfl, wd_2058, wd_2060, wd_114, ⟨_, rfl, pd_X12_numberAt⟩, 12, _, TX12, 45, rfl, rfl⟩)⟩
theorem ck_RX12_417_2438 : COK2 RX12 vwCl gTbl 417 0 con_2438 := ⟨wd_2061, wd_137, mh_X12_numberAt, .inr (.inr ⟨rfl, wd_2058, wd_2060, wd_114, ⟨_, rfl, pd_X12_numberAt⟩, 12, _, TX12, 45, rfl, rfl⟩)⟩
noncomputable def ct_2441 : CTB2 := [(22, 417, 0, con_2438, [0, 2]), (22, 417, 0, con_2435, [0, 2]), (22, 417, 0, con_2432, [0, 2]), (30, 417, 0, con_2439, [0, 2]), (30, 417, 0, con_2436, [0, 2]), (30, 417, 0, con_2433, [0, 2]), (42, 417, 0, con_2440, [0, 2]), (42, 417, 0, con_2437, [0, 2]), (42, 417, 0, con_2434, [0, 2])]
noncomputable def gi_2443 : GI := jl_n [jl_z 47, gp_623, jl_z 3]
noncomputable def cu_2441 : List CUT2 := [((2, [lq 0 6 0, lq 1 0 0, lq 2 0 0], [], gi_2443, hq_936), [], ([], 9)), ((2, [lq 0 6 0, lq 1 0 0, lq 2 0 3], [], gi_2443, hq_936), [], ([], 6)), ((2, [lq 0 6 0, lq 1 0 0, lq 2 0 6], [], gi_2443, hq_936), [], ([], 3)), ((2, [lq 0 6 0, lq 1 0 0, lq 2 0 9], [], gi_2443, hq_936), [], ([], 0))]
theorem ch_2441 : staG tb_X12_isSeen 1 bt_RX12 [] ct_2441 [] [] cu_2441 37 con_2441 = true := by decide +kernel
theorem cc_2441 : cu_2441.all (cutG tb_X12_isSeen 1 bt_RX12 [] ct_2441 [] [] cu_2441 37 con_2441) = true := by decide +kernel
theorem cto_2441 (l : Launch) : CTOK2 l RX12 vwCl gTbl ct_2441 := ct2_cons (vl_2438 l) ck_RX12_417_2438 (ct2_cons (vl_2435 l) ck_RX12_417_2435 (ct2_cons (vl_2432 l) ck_RX12_417_2432 (ct2_cons (vl_2439 l) ck_RX12_417_2439 (ct2_cons (vl_2436 l) ck_RX12_417_2436 (ct2_cons (vl_2433 l) ck_RX12_417_2433 (ct2_cons (vl_2440 l) ck_RX12_417_2440 (ct2_cons (vl_2437 l) ck_RX12_417_2437 (ct2_cons (vl_2434 l) ck_RX12_417_2434 (ct2_nil)))))))))
theorem vl_2441 (l : Launch) : Vld2 l vwCl gTbl con_2441 := conR_ok3 gT_all (hd_2441) rfl pn_RX12 tk_X12_isSeen bo_RX12 xo_RX12 (cto_2441 l) ch_2441 (cut_all cc_2441)
/-- RookHustingModel numberAt -/
noncomputable def con_2442 : Con2 := ((yX12_numberAt, cX12_numberAt, 3, (some .long)), (0, 0), ([(6, 0, 0), (0, 0, 0), (0, 10, 0)], gi_1851, [ac_1100, ac_1305], []), [((4, 48, 0), gi_1852, [(false, ac_1100), (false, ac_1305)], [], [1])])
theorem hd_2442 : con_2442.1 = (yX12_numberAt, cX12_numberAt, 3, (some .long)) := rfl
noncomputable def cu_2442 : List CUT2 := []
theorem ch_2442 : staG tb_X12_numberAt 1 bt_RX12 [] ct_2 [] [] cu_2442 11 con_2442 = true := by decide +kernel
theorem vl_2442 (l : Launch) : Vld2 l vwCl gTbl con_2442 := conR_ok3 gT_all (hd_2442) rfl pn_RX12 tk_X12_numberAt bo_RX12 xo_RX12 (cto_2 l) ch_2442 cut_nil
/-- RookHustingModel numberAt -/
noncomputable def con_2443 : Con2 := ((yX12_numberAt, cX12_numberAt, 3, (some .long)), (0, 0), ([(6, 0, 0), (0, 0, 0), (0, 9, 0)], gi_1853, [ac_1100, ac_1304], []), [((4, 48, 0), gi_1854, [(false, ac_1100), (false, ac_1304)], [], [1])])
theorem hd_2443 : con_2443.1 = (yX12_numberAt, cX12_numberAt, 3, (some .long)) := rfl
noncomputable def cu_2443 : List CUT2 := []
theorem ch_2443 : staG tb_X12_numberAt 1 bt_RX12 [] ct_2 [] [] cu_2443 11 con_2443 = true := by decide +kernel
theorem vl_2443 (l : Launch) : Vld2 l vwCl gTbl con_2443 := conR_ok3 gT_all (hd_2443) rfl pn_RX12 tk_X12_numberAt bo_RX12 xo_RX12 (cto_2 l) ch_2443 cut_nil
/-- RookHustingModel numberAt -/
noncomputable def con_2444 : Con2 := ((yX12_numberAt, cX12_numberAt, 3, (some .long)), (0, 0), ([(6, 0, 0), (0, 0, 0), (0, 11, 0)], gi_1855, [ac_1100, ac_1306], []), [((4, 48, 0), gi_1856, [(false, ac_1100), (false, ac_1306)], [], [1])])
theorem hd_2444 : con_2444.1 = (yX12_numberAt, cX12_numberAt, 3, (some .long)) := rfl
noncomputable def cu_2444 : List CUT2 := []
theorem ch_2444 : staG tb_X12_numberAt 1 bt_RX12 [] ct_2 [] [] cu_2444 11 con_2444 = true := by decide +kernel
theorem vl_2444 (l : Launch) : Vld2 l vwCl gTbl con_2444 := conR_ok3 gT_all (hd_2444) rfl pn_RX12 tk_X12_numberAt bo_RX12 xo_RX12 (cto_2 l) ch_2444 cut_nil
/-- RookHustingModel numberAt -/
noncomputable def con_2445 : Con2 := ((yX12_numberAt, cX12_numberAt, 3, (some .long)), (0, 0), ([(6, 0, 0), (0, 0, 0), (0, 13, 0)], gi_1851, [ac_1100, ac_1308], []), [((4, 48, 0), gi_1852, [(false, ac_1100), (false, ac_1308)], [], [1])])
theorem hd_2445 : con_2445.1 = (yX12_numberAt, cX12_numberAt, 3, (some .long)) := rfl
noncomputable def cu_2445 : List CUT2 := []
theorem ch_2445 : staG tb_X12_numberAt 1 bt_RX12 [] ct_2 [] [] cu_2445 11 con_2445 = true := by decide +kernel
theorem vl_2445 (l : Launch) : Vld2 l vwCl gTbl con_2445 := conR_ok3 gT_all (hd_2445) rfl pn_RX12 tk_X12_numberAt bo_RX12 xo_RX12 (cto_2 l) ch_2445 cut_nil
/-- RookHustingModel numberAt -/
noncomputable def con_2446 : Con2 := ((yX12_numberAt, cX12_numberAt, 3, (some .long)), (0, 0), ([(6, 0, 0), (0, 0, 0), (0, 12, 0)], gi_1853, [ac_1100, ac_1307], []), [((4, 48, 0), gi_1854, [(false, ac_1100), (false, ac_1307)], [], [1])])
theorem hd_2446 : con_2446.1 = (yX12_numberAt, cX12_numberAt, 3, (some .long)) := rfl
noncomputable def cu_2446 : List CUT2 := []
theorem ch_2446 : staG tb_X12_numberAt 1 bt_RX12 [] ct_2 [] [] cu_2446 11 con_2446 = true := by decide +kernel
theorem vl_2446 (l : Launch) : Vld2 l vwCl gTbl con_2446 := conR_ok3 gT_all (hd_2446) rfl pn_RX12 tk_X12_numberAt bo_RX12 xo_RX12 (cto_2 l) ch_2446 cut_nil
/-- RookHustingModel numberAt -/
noncomputable def con_2447 : Con2 := ((yX12_numberAt, cX12_numberAt, 3, (some .long)), (0, 0), ([(6, 0, 0), (0, 0, 0), (0, 14, 0)], gi_1855, [ac_1100, ac_1309], []), [((4, 48, 0), gi_1856, [(false, ac_1100), (false, ac_1309)], [], [1])])
theorem hd_2447 : con_2447.1 = (yX12_numberAt, cX12_numberAt, 3, (some .long)) := rfl
noncomputable def cu_2447 : List CUT2 := []
theorem ch_2447 : staG tb_X12_numberAt 1 bt_RX12 [] ct_2 [] [] cu_2447 11 con_2447 = true := by decide +kernel
theorem vl_2447 (l : Launch) : Vld2 l vwCl gTbl con_2447 := conR_ok3 gT_all (hd_2447) rfl pn_RX12 tk_X12_numberAt bo_RX12 xo_RX12 (cto_2 l) ch_2447 cut_nil
/-- RookHustingModel numberAt -/
noncomputable def con_2448 : Con2 := ((yX12_numberAt, cX12_numberAt, 3, (some .long)), (0, 0), ([(6, 0, 0), (0, 0, 0), (0, 16, 0)], gi_1851, [ac_1100, ac_1311], []), [((4, 48, 0), gi_1852, [(false, ac_1100), (false, ac_1311)], [], [1])])
theorem hd_2448 : con_2448.1 = (yX12_numberAt, cX12_numberAt, 3, (some .long)) := rfl
noncomputable def cu_2448 : List CUT2 := []
theorem ch_2448 : staG tb_X12_numberAt 1 bt_RX12 [] ct_2 [] [] cu_2448 11 con_2448 = true := by decide +kernel
theorem vl_2448 (l : Launch) : Vld2 l vwCl gTbl con_2448 := conR_ok3 gT_all (hd_2448) rfl pn_RX12 tk_X12_numberAt bo_RX12 xo_RX12 (cto_2 l) ch_2448 cut_nil
/-- RookHustingModel numberAt -/
noncomputable def con_2449 : Con2 := ((yX12_numberAt, cX12_numberAt, 3, (some .long)), (0, 0), ([(6, 0, 0), (0, 0, 0), (0, 15, 0)], gi_1853, [ac_1100, ac_1310], []), [((4, 48, 0), gi_1854, [(false, ac_1100), (false, ac_1310)], [], [1])])
theorem hd_2449 : con_2449.1 = (yX12_numberAt, cX12_numberAt, 3, (some .long)) := rfl
noncomputable def cu_2449 : List CUT2 := []
theorem ch_2449 : staG tb_X12_numberAt 1 bt_RX12 [] ct_2 [] [] cu_2449 11 con_2449 = true := by decide +kernel
theorem vl_2449 (l : Launch) : Vld2 l vwCl gTbl con_2449 := conR_ok3 gT_all (hd_2449) rfl pn_RX12 tk_X12_numberAt bo_RX12 xo_RX12 (cto_2 l) ch_2449 cut_nil
/-- RookHustingModel numberAt -/
noncomputable def con_2450 : Con2 := ((yX12_numberAt, cX12_numberAt, 3, (some .long)), (0, 0), ([(6, 0, 0), (0, 0, 0), (0, 17, 0)], gi_1855, [ac_1100, ac_1312], []), [((4, 48, 0), gi_1856, [(false, ac_1100), (false, ac_1312)], [], [1])])
theorem hd_2450 : con_2450.1 = (yX12_numberAt, cX12_numberAt, 3, (some .long)) := rfl
noncomputable def cu_2450 : List CUT2 := []
theorem ch_2450 : staG tb_X12_numberAt 1 bt_RX12 [] ct_2 [] [] cu_2450 11 con_2450 = true := by decide +kernel
theorem vl_2450 (l : Launch) : Vld2 l vwCl gTbl con_2450 := conR_ok3 gT_all (hd_2450) rfl pn_RX12 tk_X12_numberAt bo_RX12 xo_RX12 (cto_2 l) ch_2450 cut_nil
/-- RookHustingModel numberAt -/
noncomputable def con_2451 : Con2 := ((yX12_numberAt, cX12_numberAt, 3, (some .long)), (0, 0), ([(6, 0, 0), (0, 0, 0), (0, 19, 0)], gi_1851, [ac_1100, ac_1314], []), [((4, 48, 0), gi_1852, [(false, ac_1100), (false, ac_1314)], [], [1])])
theorem hd_2451 : con_2451.1 = (yX12_numberAt, cX12_numberAt, 3, (some .long)) := rfl
noncomputable def cu_2451 : List CUT2 := []
theorem ch_2451 : staG tb_X12_numberAt 1 bt_RX12 [] ct_2 [] [] cu_2451 11 con_2451 = true := by decide +kernel
theorem vl_2451 (l : Launch) : Vld2 l vwCl gTbl con_2451 := conR_ok3 gT_all (hd_2451) rfl pn_RX12 tk_X12_numberAt bo_RX12 xo_RX12 (cto_2 l) ch_2451 cut_nil
/-- RookHustingModel numberAt -/
noncomputable def con_2452 : Con2 := ((yX12_numberAt, cX12_numberAt, 3, (some .long)), (0, 0), ([(6, 0, 0), (0, 0, 0), (0, 18, 0)], gi_1853, [ac_1100, ac_1313], []), [((4, 48, 0), gi_1854, [(false, ac_1100), (false, ac_1313)], [], [1])])
theorem hd_2452 : con_2452.1 = (yX12_numberAt, cX12_numberAt, 3, (some .long)) := rfl
noncomputable def cu_2452 : List CUT2 := []
theorem ch_2452 : staG tb_X12_numberAt 1 bt_RX12 [] ct_2 [] [] cu_2452 11 con_2452 = true := by decide +kernel
theorem vl_2452 (l : Launch) : Vld2 l vwCl gTbl con_2452 := conR_ok3 gT_all (hd_2452) rfl pn_RX12 tk_X12_numberAt bo_RX12 xo_RX12 (cto_2 l) ch_2452 cut_nil
/-- RookHustingModel numberAt -/
noncomputable def con_2453 : Con2 := ((yX12_numberAt, cX12_numberAt, 3, (some .long)), (0, 0), ([(6, 0, 0), (0, 0, 0), (0, 20, 0)], gi_1855, [ac_1100, ac_1315], []), [((4, 48, 0), gi_1856, [(false, ac_1100), (false, ac_1315)], [], [1])])
theorem hd_2453 : con_2453.1 = (yX12_numberAt, cX12_numberAt, 3, (some .long)) := rfl
noncomputable def cu_2453 : List CUT2 := []
theorem ch_2453 : staG tb_X12_numberAt 1 bt_RX12 [] ct_2 [] [] cu_2453 11 con_2453 = true := by decide +kernel
theorem vl_2453 (l : Launch) : Vld2 l vwCl gTbl con_2453 := conR_ok3 gT_all (hd_2453) rfl pn_RX12 tk_X12_numberAt bo_RX12 xo_RX12 (cto_2 l) ch_2453 cut_nil
/-- RookHustingModel numberAt -/
noncomputable def con_2454 : Con2 := ((yX12_numberAt, cX12_numberAt, 3, (some .long)), (0, 0), ([(6, 0, 0), (0, 0, 0), (0, 22, 0)], gi_1851, [ac_1100, ac_1317], []), [((4, 48, 0), gi_1852, [(false, ac_1100), (false, ac_1317)], [], [1])])
theorem hd_2454 : con_2454.1 = (yX12_numberAt, cX12_numberAt, 3, (some .long)) := rfl
noncomputable def cu_2454 : List CUT2 := []
theorem ch_2454 : staG tb_X12_numberAt 1 bt_RX12 [] ct_2 [] [] cu_2454 11 con_2454 = true := by decide +kernel
theorem vl_2454 (l : Launch) : Vld2 l vwCl gTbl con_2454 := conR_ok3 gT_all (hd_2454) rfl pn_RX12 tk_X12_numberAt bo_RX12 xo_RX12 (cto_2 l) ch_2454 cut_nil
/-- RookHustingModel numberAt -/
noncomputable def con_2455 : Con2 := ((yX12_numberAt, cX12_numberAt, 3, (some .long)), (0, 0), ([(6, 0, 0), (0, 0, 0), (0, 21, 0)], gi_1853, [ac_1100, ac_1316], []), [((4, 48, 0), gi_1854, [(false, ac_1100), (false, ac_1316)], [], [1])])
theorem hd_2455 : con_2455.1 = (yX12_numberAt, cX12_numberAt, 3, (some .long)) := rfl
noncomputable def cu_2455 : List CUT2 := []
theorem ch_2455 : staG tb_X12_numberAt 1 bt_RX12 [] ct_2 [] [] cu_2455 11 con_2455 = true := by decide +kernel
theorem vl_2455 (l : Launch) : Vld2 l vwCl gTbl con_2455 := conR_ok3 gT_all (hd_2455) rfl pn_RX12 tk_X12_numberAt bo_RX12 xo_RX12 (cto_2 l) ch_2455 cut_nil
/-- RookHustingModel numberAt -/
noncomputable def con_2456 : Con2 := ((yX12_numberAt, cX12_numberAt, 3, (some .long)), (0, 0), ([(6, 0, 0), (0, 0, 0), (0, 23, 0)], gi_1855, [ac_1100, ac_1318], []), [((4, 48, 0), gi_1856, [(false, ac_1100), (false, ac_1318)], [], [1])])
theorem hd_2456 : con_2456.1 = (yX12_numberAt, cX12_numberAt, 3, (some .long)) := rfl
noncomputable def cu_2456 : List CUT2 := []
theorem ch_2456 : staG tb_X12_numberAt 1 bt_RX12 [] ct_2 [] [] cu_2456 11 con_2456 = true := by decide +kernel
theorem vl_2456 (l : Launch) : Vld2 l vwCl gTbl con_2456 := conR_ok3 gT_all (hd_2456) rfl pn_RX12 tk_X12_numberAt bo_RX12 xo_RX12 (cto_2 l) ch_2456 cut_nil
/-- RookHustingModel numberAt -/
noncomputable def con_2457 : Con2 := ((yX12_numberAt, cX12_numberAt, 3, (some .long)), (0, 0), ([(6, 0, 0), (0, 0, 0), (0, 25, 0)], gi_1851, [ac_1100, ac_1320], []), [((4, 48, 0), gi_1852, [(false, ac_1100), (false, ac_1320)], [], [1])])
theorem hd_2457 : con_2457.1 = (yX12_numberAt, cX12_numberAt, 3, (some .long)) := rfl
noncomputable def cu_2457 : List CUT2 := []
theorem ch_2457 : staG tb_X12_numberAt 1 bt_RX12 [] ct_2 [] [] cu_2457 11 con_2457 = true := by decide +kernel
theorem vl_2457 (l : Launch) : Vld2 l vwCl gTbl con_2457 := conR_ok3 gT_all (hd_2457) rfl pn_RX12 tk_X12_numberAt bo_RX12 xo_RX12 (cto_2 l) ch_2457 cut_nil
/-- RookHustingModel numberAt -/
noncomputable def con_2458 : Con2 := ((yX12_numberAt, cX12_numberAt, 3, (some .long)), (0, 0), ([(6, 0, 0), (0, 0, 0), (0, 24, 0)], gi_1853, [ac_1100, ac_1319], []), [((4, 48, 0), gi_1854, [(false, ac_1100), (false, ac_1319)], [], [1])])
theorem hd_2458 : con_2458.1 = (yX12_numberAt, cX12_numberAt, 3, (some .long)) := rfl
noncomputable def cu_2458 : List CUT2 := []
theorem ch_2458 : staG tb_X12_numberAt 1 bt_RX12 [] ct_2 [] [] cu_2458 11 con_2458 = true := by decide +kernel
theorem vl_2458 (l : Launch) : Vld2 l vwCl gTbl con_2458 := conR_ok3 gT_all (hd_2458) rfl pn_RX12 tk_X12_numberAt bo_RX12 xo_RX12 (cto_2 l) ch_2458 cut_nil
/-- RookHustingModel numberAt -/
noncomputable def con_2459 : Con2 := ((yX12_numberAt, cX12_numberAt, 3, (some .long)), (0, 0), ([(6, 0, 0), (0, 0, 0), (0, 26, 0)], gi_1855, [ac_1100, ac_1321], []), [((4, 48, 0), gi_1856, [(false, ac_1100), (false, ac_1321)], [], [1])])
theorem hd_2459 : con_2459.1 = (yX12_numberAt, cX12_numberAt, 3, (some .long)) := rfl
noncomputable def cu_2459 : List CUT2 := []
theorem ch_2459 : staG tb_X12_numberAt 1 bt_RX12 [] ct_2 [] [] cu_2459 11 con_2459 = true := by decide +kernel
theorem vl_2459 (l : Launch) : Vld2 l vwCl gTbl con_2459 := conR_ok3 gT_all (hd_2459) rfl pn_RX12 tk_X12_numberAt bo_RX12 xo_RX12 (cto_2 l) ch_2459 cut_nil
/-- RookHustingModel numberAt -/
noncomputable def con_2460 : Con2 := ((yX12_numberAt, cX12_numberAt, 3, (some .long)), (0, 0), ([(6, 0, 0), (0, 0, 0), (0, 28, 0)], gi_1851, [ac_1100, ac_1323], []), [((4, 48, 0), gi_1852, [(false, ac_1100), (false, ac_1323)], [], [1])])
theorem hd_2460 : con_2460.1 = (yX12_numberAt, cX12_numberAt, 3, (some .long)) := rfl
noncomputable def cu_2460 : List CUT2 := []
theorem ch_2460 : staG tb_X12_numberAt 1 bt_RX12 [] ct_2 [] [] cu_2460 11 con_2460 = true := by decide +kernel
theorem vl_2460 (l : Launch) : Vld2 l vwCl gTbl con_2460 := conR_ok3 gT_all (hd_2460) rfl pn_RX12 tk_X12_numberAt bo_RX12 xo_RX12 (cto_2 l) ch_2460 cut_nil
/-- RookHustingModel numberAt -/
noncomputable def con_2461 : Con2 := ((yX12_numberAt, cX12_numberAt, 3, (some .long)), (0, 0), ([(6, 0, 0), (0, 0, 0), (0, 27, 0)], gi_1853, [ac_1100, ac_1322], []), [((4, 48, 0), gi_1854, [(false, ac_1100), (false, ac_1322)], [], [1])])
theorem hd_2461 : con_2461.1 = (yX12_numberAt, cX12_numberAt, 3, (some .long)) := rfl
noncomputable def cu_2461 : List CUT2 := []
theorem ch_2461 : staG tb_X12_numberAt 1 bt_RX12 [] ct_2 [] [] cu_2461 11 con_2461 = true := by decide +kernel
theorem vl_2461 (l : Launch) : Vld2 l vwCl gTbl con_2461 := conR_ok3 gT_all (hd_2461) rfl pn_RX12 tk_X12_numberAt bo_RX12 xo_RX12 (cto_2 l) ch_2461 cut_nil
/-- RookHustingModel numberAt -/
noncomputable def con_2462 : Con2 := ((yX12_numberAt, cX12_numberAt, 3, (some .long)), (0, 0), ([(6, 0, 0), (0, 0, 0), (0, 29, 0)], gi_1855, [ac_1100, ac_1324], []), [((4, 48, 0), gi_1856, [(false, ac_1100), (false, ac_1324)], [], [1])])
theorem hd_2462 : con_2462.1 = (yX12_numberAt, cX12_numberAt, 3, (some .long)) := rfl
noncomputable def cu_2462 : List CUT2 := []
theorem ch_2462 : staG tb_X12_numberAt 1 bt_RX12 [] ct_2 [] [] cu_2462 11 con_2462 = true := by decide +kernel
theorem vl_2462 (l : Launch) : Vld2 l vwCl gTbl con_2462 := conR_ok3 gT_all (hd_2462) rfl pn_RX12 tk_X12_numberAt bo_RX12 xo_RX12 (cto_2 l) ch_2462 cut_nil
/-- RookHustingModel numberAt -/
noncomputable def con_2463 : Con2 := ((yX12_numberAt, cX12_numberAt, 3, (some .long)), (0, 0), ([(6, 0, 0), (0, 0, 0), (0, 31, 0)], gi_1851, [ac_1100, ac_1326], []), [((4, 48, 0), gi_1852, [(false, ac_1100), (false, ac_1326)], [], [1])])
theorem hd_2463 : con_2463.1 = (yX12_numberAt, cX12_numberAt, 3, (some .long)) := rfl
noncomputable def cu_2463 : List CUT2 := []
theorem ch_2463 : staG tb_X12_numberAt 1 bt_RX12 [] ct_2 [] [] cu_2463 11 con_2463 = true := by decide +kernel
theorem vl_2463 (l : Launch) : Vld2 l vwCl gTbl con_2463 := conR_ok3 gT_all (hd_2463) rfl pn_RX12 tk_X12_numberAt bo_RX12 xo_RX12 (cto_2 l) ch_2463 cut_nil
/-- RookHustingModel numberAt -/
noncomputable def con_2464 : Con2 := ((yX12_numberAt, cX12_numberAt, 3, (some .long)), (0, 0), ([(6, 0, 0), (0, 0, 0), (0, 30, 0)], gi_1853, [ac_1100, ac_1325], []), [((4, 48, 0), gi_1854, [(false, ac_1100), (false, ac_1325)], [], [1])])
theorem hd_2464 : con_2464.1 = (yX12_numberAt, cX12_numberAt, 3, (some .long)) := rfl
noncomputable def cu_2464 : List CUT2 := []
theorem ch_2464 : staG tb_X12_numberAt 1 bt_RX12 [] ct_2 [] [] cu_2464 11 con_2464 = true := by decide +kernel
theorem vl_2464 (l : Launch) : Vld2 l vwCl gTbl con_2464 := conR_ok3 gT_all (hd_2464) rfl pn_RX12 tk_X12_numberAt bo_RX12 xo_RX12 (cto_2 l) ch_2464 cut_nil
/-- RookHustingModel numberAt -/
noncomputable def con_2465 : Con2 := ((yX12_numberAt, cX12_numberAt, 3, (some .long)), (0, 0), ([(6, 0, 0), (0, 0, 0), (0, 32, 0)], gi_1855, [ac_1100, ac_1327], []), [((4, 48, 0), gi_1856, [(false, ac_1100), (false, ac_1327)], [], [1])])
theorem hd_2465 : con_2465.1 = (yX12_numberAt, cX12_numberAt, 3, (some .long)) := rfl
noncomputable def cu_2465 : List CUT2 := []
theorem ch_2465 : staG tb_X12_numberAt 1 bt_RX12 [] ct_2 [] [] cu_2465 11 con_2465 = true := by decide +kernel
theorem vl_2465 (l : Launch) : Vld2 l vwCl gTbl con_2465 := conR_ok3 gT_all (hd_2465) rfl pn_RX12 tk_X12_numberAt bo_RX12 xo_RX12 (cto_2 l) ch_2465 cut_nil
/-- RookHustingModel numberAt -/
noncomputable def con_2466 : Con2 := ((yX12_numberAt, cX12_numberAt, 3, (some .long)), (0, 0), ([(6, 0, 0), (0, 0, 0), (0, 34, 0)], gi_1851, [ac_1100, ac_1329], []), [((4, 48, 0), gi_1852, [(false, ac_1100), (false, ac_1329)], [], [1])])
theorem hd_2466 : con_2466.1 = (yX12_numberAt, cX12_numberAt, 3, (some .long)) := rfl
noncomputable def cu_2466 : List CUT2 := []
theorem ch_2466 : staG tb_X12_numberAt 1 bt_RX12 [] ct_2 [] [] cu_2466 11 con_2466 = true := by decide +kernel
theorem vl_2466 (l : Launch) : Vld2 l vwCl gTbl con_2466 := conR_ok3 gT_all (hd_2466) rfl pn_RX12 tk_X12_numberAt bo_RX12 xo_RX12 (cto_2 l) ch_2466 cut_nil
/-- RookHustingModel numberAt -/
noncomputable def con_2467 : Con2 := ((yX12_numberAt, cX12_numberAt, 3, (some .long)), (0, 0), ([(6, 0, 0), (0, 0, 0), (0, 33, 0)], gi_1853, [ac_1100, ac_1328], []), [((4, 48, 0), gi_1854, [(false, ac_1100), (false, ac_1328)], [], [1])])
theorem hd_2467 : con_2467.1 = (yX12_numberAt, cX12_numberAt, 3, (some .long)) := rfl
noncomputable def cu_2467 : List CUT2 := []
theorem ch_2467 : staG tb_X12_numberAt 1 bt_RX12 [] ct_2 [] [] cu_2467 11 con_2467 = true := by decide +kernel
theorem vl_2467 (l : Launch) : Vld2 l vwCl gTbl con_2467 := conR_ok3 gT_all (hd_2467) rfl pn_RX12 tk_X12_numberAt bo_RX12 xo_RX12 (cto_2 l) ch_2467 cut_nil
/-- RookHustingModel numberAt -/
noncomputable def con_2468 : Con2 := ((yX12_numberAt, cX12_numberAt, 3, (some .long)), (0, 0), ([(6, 0, 0), (0, 0, 0), (0, 35, 0)], gi_1855, [ac_1100, ac_1330], []), [((4, 48, 0), gi_1856, [(false, ac_1100), (false, ac_1330)], [], [1])])
theorem hd_2468 : con_2468.1 = (yX12_numberAt, cX12_numberAt, 3, (some .long)) := rfl
noncomputable def cu_2468 : List CUT2 := []
theorem ch_2468 : staG tb_X12_numberAt 1 bt_RX12 [] ct_2 [] [] cu_2468 11 con_2468 = true := by decide +kernel
theorem vl_2468 (l : Launch) : Vld2 l vwCl gTbl con_2468 := conR_ok3 gT_all (hd_2468) rfl pn_RX12 tk_X12_numberAt bo_RX12 xo_RX12 (cto_2 l) ch_2468 cut_nil
/-- RookHustingModel numberAt -/
noncomputable def con_2469 : Con2 := ((yX12_numberAt, cX12_numberAt, 3, (some .long)), (0, 0), ([(6, 0, 0), (0, 0, 0), (0, 37, 0)], gi_1851, [ac_1100, ac_1332], []), [((4, 48, 0), gi_1852, [(false, ac_1100), (false, ac_1332)], [], [1])])
theorem hd_2469 : con_2469.1 = (yX12_numberAt, cX12_numberAt, 3, (some .long)) := rfl
noncomputable def cu_2469 : List CUT2 := []
theorem ch_2469 : staG tb_X12_numberAt 1 bt_RX12 [] ct_2 [] [] cu_2469 11 con_2469 = true := by decide +kernel
theorem vl_2469 (l : Launch) : Vld2 l vwCl gTbl con_2469 := conR_ok3 gT_all (hd_2469) rfl pn_RX12 tk_X12_numberAt bo_RX12 xo_RX12 (cto_2 l) ch_2469 cut_nil
/-- RookHustingModel numberAt -/
noncomputable def con_2470 : Con2 := ((yX12_numberAt, cX12_numberAt, 3, (some .long)), (0, 0), ([(6, 0, 0), (0, 0, 0), (0, 36, 0)], gi_1853, [ac_1100, ac_1331], []), [((4, 48, 0), gi_1854, [(false, ac_1100), (false, ac_1331)], [], [1])])
theorem hd_2470 : con_2470.1 = (yX12_numberAt, cX12_numberAt, 3, (some .long)) := rfl
noncomputable def cu_2470 : List CUT2 := []
theorem ch_2470 : staG tb_X12_numberAt 1 bt_RX12 [] ct_2 [] [] cu_2470 11 con_2470 = true := by decide +kernel
theorem vl_2470 (l : Launch) : Vld2 l vwCl gTbl con_2470 := conR_ok3 gT_all (hd_2470) rfl pn_RX12 tk_X12_numberAt bo_RX12 xo_RX12 (cto_2 l) ch_2470 cut_nil
/-- RookHustingModel numberAt -/
noncomputable def con_2471 : Con2 := ((yX12_numberAt, cX12_numberAt, 3, (some .long)), (0, 0), ([(6, 0, 0), (0, 0, 0), (0, 38, 0)], gi_1855, [ac_1100, ac_1333], []), [((4, 48, 0), gi_1856, [(false, ac_1100), (false, ac_1333)], [], [1])])
theorem hd_2471 : con_2471.1 = (yX12_numberAt, cX12_numberAt, 3, (some .long)) := rfl
noncomputable def cu_2471 : List CUT2 := []
theorem ch_2471 : staG tb_X12_numberAt 1 bt_RX12 [] ct_2 [] [] cu_2471 11 con_2471 = true := by decide +kernel
theorem vl_2471 (l : Launch) : Vld2 l vwCl gTbl con_2471 := conR_ok3 gT_all (hd_2471) rfl pn_RX12 tk_X12_numberAt bo_RX12 xo_RX12 (cto_2 l) ch_2471 cut_nil
/-- RookHustingModel numberAt -/
noncomputable def con_2472 : Con2 := ((yX12_numberAt, cX12_numberAt, 3, (some .long)), (0, 0), ([(6, 0, 0), (0, 0, 0), (0, 40, 0)], gi_1851, [ac_1100, ac_1335], []), [((4, 48, 0), gi_1852, [(false, ac_1100), (false, ac_1335)], [], [1])])
theorem hd_2472 : con_2472.1 = (yX12_numberAt, cX12_numberAt, 3, (some .long)) := rfl
noncomputable def cu_2472 : List CUT2 := []
theorem ch_2472 : staG tb_X12_numberAt 1 bt_RX12 [] ct_2 [] [] cu_2472 11 con_2472 = true := by decide +kernel
theorem vl_2472 (l : Launch) : Vld2 l vwCl gTbl con_2472 := conR_ok3 gT_all (hd_2472) rfl pn_RX12 tk_X12_numberAt bo_RX12 xo_RX12 (cto_2 l) ch_2472 cut_nil
/-- RookHustingModel numberAt -/
noncomputable def con_2473 : Con2 := ((yX12_numberAt, cX12_numberAt, 3, (some .long)), (0, 0), ([(6, 0, 0), (0, 0, 0), (0, 39, 0)], gi_1853, [ac_1100, ac_1334], []), [((4, 48, 0), gi_1854, [(false, ac_1100), (false, ac_1334)], [], [1])])
theorem hd_2473 : con_2473.1 = (yX12_numberAt, cX12_numberAt, 3, (some .long)) := rfl
noncomputable def cu_2473 : List CUT2 := []
theorem ch_2473 : staG tb_X12_numberAt 1 bt_RX12 [] ct_2 [] [] cu_2473 11 con_2473 = true := by decide +kernel
theorem vl_2473 (l : Launch) : Vld2 l vwCl gTbl con_2473 := conR_ok3 gT_all (hd_2473) rfl pn_RX12 tk_X12_numberAt bo_RX12 xo_RX12 (cto_2 l) ch_2473 cut_nil
/-- RookHustingModel numberAt -/
noncomputable def con_2474 : Con2 := ((yX12_numberAt, cX12_numberAt, 3, (some .long)), (0, 0), ([(6, 0, 0), (0, 0, 0), (0, 41, 0)], gi_1855, [ac_1100, ac_1336], []), [((4, 48, 0), gi_1856, [(false, ac_1100), (false, ac_1336)], [], [1])])
theorem hd_2474 : con_2474.1 = (yX12_numberAt, cX12_numberAt, 3, (some .long)) := rfl
noncomputable def cu_2474 : List CUT2 := []
theorem ch_2474 : staG tb_X12_numberAt 1 bt_RX12 [] ct_2 [] [] cu_2474 11 con_2474 = true := by decide +kernel
theorem vl_2474 (l : Launch) : Vld2 l vwCl gTbl con_2474 := conR_ok3 gT_all (hd_2474) rfl pn_RX12 tk_X12_numberAt bo_RX12 xo_RX12 (cto_2 l) ch_2474 cut_nil
/-- RookHustingModel numberAt -/
noncomputable def con_2475 : Con2 := ((yX12_numberAt, cX12_numberAt, 3, (some .long)), (0, 0), ([(6, 0, 0), (0, 0, 0), (0, 43, 0)], gi_1851, [ac_1100, ac_1338], []), [((4, 48, 0), gi_1852, [(false, ac_1100), (false, ac_1338)], [], [1])])
theorem hd_2475 : con_2475.1 = (yX12_numberAt, cX12_numberAt, 3, (some .long)) := rfl
noncomputable def cu_2475 : List CUT2 := []
theorem ch_2475 : staG tb_X12_numberAt 1 bt_RX12 [] ct_2 [] [] cu_2475 11 con_2475 = true := by decide +kernel
theorem vl_2475 (l : Launch) : Vld2 l vwCl gTbl con_2475 := conR_ok3 gT_all (hd_2475) rfl pn_RX12 tk_X12_numberAt bo_RX12 xo_RX12 (cto_2 l) ch_2475 cut_nil
/-- RookHustingModel numberAt -/
noncomputable def con_2476 : Con2 := ((yX12_numberAt, cX12_numberAt, 3, (some .long)), (0, 0), ([(6, 0, 0), (0, 0, 0), (0, 42, 0)], gi_1853, [ac_1100, ac_1337], []), [((4, 48, 0), gi_1854, [(false, ac_1100), (false, ac_1337)], [], [1])])
theorem hd_2476 : con_2476.1 = (yX12_numberAt, cX12_numberAt, 3, (some .long)) := rfl
noncomputable def cu_2476 : List CUT2 := []
theorem ch_2476 : staG tb_X12_numberAt 1 bt_RX12 [] ct_2 [] [] cu_2476 11 con_2476 = true := by decide +kernel
theorem vl_2476 (l : Launch) : Vld2 l vwCl gTbl con_2476 := conR_ok3 gT_all (hd_2476) rfl pn_RX12 tk_X12_numberAt bo_RX12 xo_RX12 (cto_2 l) ch_2476 cut_nil
/-- RookHustingModel numberAt -/
noncomputable def con_2477 : Con2 := ((yX12_numberAt, cX12_numberAt, 3, (some .long)), (0, 0), ([(6, 0, 0), (0, 0, 0), (0, 44, 0)], gi_1855, [ac_1100, ac_1339], []), [((4, 48, 0), gi_1856, [(false, ac_1100), (false, ac_1339)], [], [1])])
theorem hd_2477 : con_2477.1 = (yX12_numberAt, cX12_numberAt, 3, (some .long)) := rfl
noncomputable def cu_2477 : List CUT2 := []
theorem ch_2477 : staG tb_X12_numberAt 1 bt_RX12 [] ct_2 [] [] cu_2477 11 con_2477 = true := by decide +kernel
theorem vl_2477 (l : Launch) : Vld2 l vwCl gTbl con_2477 := conR_ok3 gT_all (hd_2477) rfl pn_RX12 tk_X12_numberAt bo_RX12 xo_RX12 (cto_2 l) ch_2477 cut_nil
/-- RookHustingModel numberAt -/
noncomputable def con_2478 : Con2 := ((yX12_numberAt, cX12_numberAt, 3, (some .long)), (0, 0), ([(6, 0, 0), (0, 0, 0), (0, 46, 0)], gi_1851, [ac_1100, ac_1341], []), [((4, 48, 0), gi_1852, [(false, ac_1100), (false, ac_1341)], [], [1])])
theorem hd_2478 : con_2478.1 = (yX12_numberAt, cX12_numberAt, 3, (some .long)) := rfl
noncomputable def cu_2478 : List CUT2 := []
theorem ch_2478 : staG tb_X12_numberAt 1 bt_RX12 [] ct_2 [] [] cu_2478 11 con_2478 = true := by decide +kernel
theorem vl_2478 (l : Launch) : Vld2 l vwCl gTbl con_2478 := conR_ok3 gT_all (hd_2478) rfl pn_RX12 tk_X12_numberAt bo_RX12 xo_RX12 (cto_2 l) ch_2478 cut_nil
/-- RookHustingModel numberAt -/
noncomputable def con_2479 : Con2 := ((yX12_numberAt, cX12_numberAt, 3, (some .long)), (0, 0), ([(6, 0, 0), (0, 0, 0), (0, 45, 0)], gi_1853, [ac_1100, ac_1340], []), [((4, 48, 0), gi_1854, [(false, ac_1100), (false, ac_1340)], [], [1])])
theorem hd_2479 : con_2479.1 = (yX12_numberAt, cX12_numberAt, 3, (some .long)) := rfl
noncomputable def cu_2479 : List CUT2 := []
theorem ch_2479 : staG tb_X12_numberAt 1 bt_RX12 [] ct_2 [] [] cu_2479 11 con_2479 = true := by decide +kernel
theorem vl_2479 (l : Launch) : Vld2 l vwCl gTbl con_2479 := conR_ok3 gT_all (hd_2479) rfl pn_RX12 tk_X12_numberAt bo_RX12 xo_RX12 (cto_2 l) ch_2479 cut_nil
/-- RookHustingModel numberAt -/
noncomputable def con_2480 : Con2 := ((yX12_numberAt, cX12_numberAt, 3, (some .long)), (0, 0), ([(6, 0, 0), (0, 0, 0), (0, 47, 0)], gi_1855, [ac_1100, ac_1342], []), [((4, 48, 0), gi_1856, [(false, ac_1100), (false, ac_1342)], [], [1])])
theorem hd_2480 : con_2480.1 = (yX12_numberAt, cX12_numberAt, 3, (some .long)) := rfl
noncomputable def cu_2480 : List CUT2 := []
theorem ch_2480 : staG tb_X12_numberAt 1 bt_RX12 [] ct_2 [] [] cu_2480 11 con_2480 = true := by decide +kernel
theorem vl_2480 (l : Launch) : Vld2 l vwCl gTbl con_2480 := conR_ok3 gT_all (hd_2480) rfl pn_RX12 tk_X12_numberAt bo_RX12 xo_RX12 (cto_2 l) ch_2480 cut_nil
/-- RookHustingModel numberAt -/
noncomputable def con_2481 : Con2 := ((yX12_numberAt, cX12_numberAt, 3, (some .long)), (0, 0), ([(6, 0, 0), (0, 0, 0), (0, 49, 0)], gi_1851, [ac_1100, ac_1344], []), [((4, 48, 0), gi_1852, [(false, ac_1100), (false, ac_1344)], [], [1])])
theorem hd_2481 : con_2481.1 = (yX12_numberAt, cX12_numberAt, 3, (some .long)) := rfl
noncomputable def cu_2481 : List CUT2 := []
theorem ch_2481 : staG tb_X12_numberAt 1 bt_RX12 [] ct_2 [] [] cu_2481 11 con_2481 = true := by decide +kernel
theorem vl_2481 (l : Launch) : Vld2 l vwCl gTbl con_2481 := conR_ok3 gT_all (hd_2481) rfl pn_RX12 tk_X12_numberAt bo_RX12 xo_RX12 (cto_2 l) ch_2481 cut_nil
/-- RookHustingModel numberAt -/
noncomputable def con_2482 : Con2 := ((yX12_numberAt, cX12_numberAt, 3, (some .long)), (0, 0), ([(6, 0, 0), (0, 0, 0), (0, 48, 0)], gi_1853, [ac_1100, ac_1343], []), [((4, 48, 0), gi_1854, [(false, ac_1100), (false, ac_1343)], [], [1])])
theorem hd_2482 : con_2482.1 = (yX12_numberAt, cX12_numberAt, 3, (some .long)) := rfl
noncomputable def cu_2482 : List CUT2 := []
theorem ch_2482 : staG tb_X12_numberAt 1 bt_RX12 [] ct_2 [] [] cu_2482 11 con_2482 = true := by decide +kernel
theorem vl_2482 (l : Launch) : Vld2 l vwCl gTbl con_2482 := conR_ok3 gT_all (hd_2482) rfl pn_RX12 tk_X12_numberAt bo_RX12 xo_RX12 (cto_2 l) ch_2482 cut_nil
/-- RookHustingModel numberAt -/
noncomputable def con_2483 : Con2 := ((yX12_numberAt, cX12_numberAt, 3, (some .long)), (0, 0), ([(6, 0, 0), (0, 0, 0), (0, 50, 0)], gi_1855, [ac_1100, ac_1345], []), [((4, 48, 0), gi_1856, [(false, ac_1100), (false, ac_1345)], [], [1])])
theorem hd_2483 : con_2483.1 = (yX12_numberAt, cX12_numberAt, 3, (some .long)) := rfl
noncomputable def cu_2483 : List CUT2 := []
theorem ch_2483 : staG tb_X12_numberAt 1 bt_RX12 [] ct_2 [] [] cu_2483 11 con_2483 = true := by decide +kernel
theorem vl_2483 (l : Launch) : Vld2 l vwCl gTbl con_2483 := conR_ok3 gT_all (hd_2483) rfl pn_RX12 tk_X12_numberAt bo_RX12 xo_RX12 (cto_2 l) ch_2483 cut_nil
/-- RookHustingModel numberAt -/
noncomputable def con_2484 : Con2 := ((yX12_numberAt, cX12_numberAt, 3, (some .long)), (0, 0), ([(6, 0, 0), (0, 0, 0), (0, 52, 0)], gi_1851, [ac_1100, ac_1347], []), [((4, 48, 0), gi_1852, [(false, ac_1100), (false, ac_1347)], [], [1])])
theorem hd_2484 : con_2484.1 = (yX12_numberAt, cX12_numberAt, 3, (some .long)) := rfl
noncomputable def cu_2484 : List CUT2 := []
theorem ch_2484 : staG tb_X12_numberAt 1 bt_RX12 [] ct_2 [] [] cu_2484 11 con_2484 = true := by decide +kernel
theorem vl_2484 (l : Launch) : Vld2 l vwCl gTbl con_2484 := conR_ok3 gT_all (hd_2484) rfl pn_RX12 tk_X12_numberAt bo_RX12 xo_RX12 (cto_2 l) ch_2484 cut_nil
/-- RookHustingModel numberAt -/
noncomputable def con_2485 : Con2 := ((yX12_numberAt, cX12_numberAt, 3, (some .long)), (0, 0), ([(6, 0, 0), (0, 0, 0), (0, 51, 0)], gi_1853, [ac_1100, ac_1346], []), [((4, 48, 0), gi_1854, [(false, ac_1100), (false, ac_1346)], [], [1])])
theorem hd_2485 : con_2485.1 = (yX12_numberAt, cX12_numberAt, 3, (some .long)) := rfl
noncomputable def cu_2485 : List CUT2 := []
theorem ch_2485 : staG tb_X12_numberAt 1 bt_RX12 [] ct_2 [] [] cu_2485 11 con_2485 = true := by decide +kernel
theorem vl_2485 (l : Launch) : Vld2 l vwCl gTbl con_2485 := conR_ok3 gT_all (hd_2485) rfl pn_RX12 tk_X12_numberAt bo_RX12 xo_RX12 (cto_2 l) ch_2485 cut_nil
/-- RookHustingModel numberAt -/
noncomputable def con_2486 : Con2 := ((yX12_numberAt, cX12_numberAt, 3, (some .long)), (0, 0), ([(6, 0, 0), (0, 0, 0), (0, 53, 0)], gi_1855, [ac_1100, ac_1348], []), [((4, 48, 0), gi_1856, [(false, ac_1100), (false, ac_1348)], [], [1])])
theorem hd_2486 : con_2486.1 = (yX12_numberAt, cX12_numberAt, 3, (some .long)) := rfl
noncomputable def cu_2486 : List CUT2 := []
theorem ch_2486 : staG tb_X12_numberAt 1 bt_RX12 [] ct_2 [] [] cu_2486 11 con_2486 = true := by decide +kernel
theorem vl_2486 (l : Launch) : Vld2 l vwCl gTbl con_2486 := conR_ok3 gT_all (hd_2486) rfl pn_RX12 tk_X12_numberAt bo_RX12 xo_RX12 (cto_2 l) ch_2486 cut_nil
/-- RookHustingModel numberAt -/
noncomputable def con_2487 : Con2 := ((yX12_numberAt, cX12_numberAt, 3, (some .long)), (0, 0), ([(6, 0, 0), (0, 0, 0), (0, 55, 0)], gi_1851, [ac_1100, ac_1350], []), [((4, 48, 0), gi_1852, [(false, ac_1100), (false, ac_1350)], [], [1])])
theorem hd_2487 : con_2487.1 = (yX12_numberAt, cX12_numberAt, 3, (some .long)) := rfl
noncomputable def cu_2487 : List CUT2 := []
theorem ch_2487 : staG tb_X12_numberAt 1 bt_RX12 [] ct_2 [] [] cu_2487 11 con_2487 = true := by decide +kernel
theorem vl_2487 (l : Launch) : Vld2 l vwCl gTbl con_2487 := conR_ok3 gT_all (hd_2487) rfl pn_RX12 tk_X12_numberAt bo_RX12 xo_RX12 (cto_2 l) ch_2487 cut_nil
/-- RookHustingModel numberAt -/
noncomputable def con_2488 : Con2 := ((yX12_numberAt, cX12_numberAt, 3, (some .long)), (0, 0), ([(6, 0, 0), (0, 0, 0), (0, 54, 0)], gi_1853, [ac_1100, ac_1349], []), [((4, 48, 0), gi_1854, [(false, ac_1100), (false, ac_1349)], [], [1])])
theorem hd_2488 : con_2488.1 = (yX12_numberAt, cX12_numberAt, 3, (some .long)) := rfl
noncomputable def cu_2488 : List CUT2 := []
theorem ch_2488 : staG tb_X12_numberAt 1 bt_RX12 [] ct_2 [] [] cu_2488 11 con_2488 = true := by decide +kernel
theorem vl_2488 (l : Launch) : Vld2 l vwCl gTbl con_2488 := conR_ok3 gT_all (hd_2488) rfl pn_RX12 tk_X12_numberAt bo_RX12 xo_RX12 (cto_2 l) ch_2488 cut_nil
/-- RookHustingModel numberAt -/
noncomputable def con_2489 : Con2 := ((yX12_numberAt, cX12_numberAt, 3, (some .long)), (0, 0), ([(6, 0, 0), (0, 0, 0), (0, 56, 0)], gi_1855, [ac_1100, ac_1351], []), [((4, 48, 0), gi_1856, [(false, ac_1100), (false, ac_1351)], [], [1])])
theorem hd_2489 : con_2489.1 = (yX12_numberAt, cX12_numberAt, 3, (some .long)) := rfl
noncomputable def cu_2489 : List CUT2 := []
theorem ch_2489 : staG tb_X12_numberAt 1 bt_RX12 [] ct_2 [] [] cu_2489 11 con_2489 = true := by decide +kernel
theorem vl_2489 (l : Launch) : Vld2 l vwCl gTbl con_2489 := conR_ok3 gT_all (hd_2489) rfl pn_RX12 tk_X12_numberAt bo_RX12 xo_RX12 (cto_2 l) ch_2489 cut_nil
/-- RookHustingModel numberAt -/
noncomputable def con_2490 : Con2 := ((yX12_numberAt, cX12_numberAt, 3, (some .long)), (0, 0), ([(6, 0, 0), (0, 0, 0), (0, 58, 0)], gi_1851, [ac_1100, ac_1353], []), [((4, 48, 0), gi_1852, [(false, ac_1100), (false, ac_1353)], [], [1])])
theorem hd_2490 : con_2490.1 = (yX12_numberAt, cX12_numberAt, 3, (some .long)) := rfl
noncomputable def cu_2490 : List CUT2 := []
theorem ch_2490 : staG tb_X12_numberAt 1 bt_RX12 [] ct_2 [] [] cu_2490 11 con_2490 = true := by decide +kernel
theorem vl_2490 (l : Launch) : Vld2 l vwCl gTbl con_2490 := conR_ok3 gT_all (hd_2490) rfl pn_RX12 tk_X12_numberAt bo_RX12 xo_RX12 (cto_2 l) ch_2490 cut_nil
/-- RookHustingModel numberAt -/
noncomputable def con_2491 : Con2 := ((yX12_numberAt, cX12_numberAt, 3, (some .long)), (0, 0), ([(6, 0, 0), (0, 0, 0), (0, 57, 0)], gi_1853, [ac_1100, ac_1352], []), [((4, 48, 0), gi_1854, [(false, ac_1100), (false, ac_1352)], [], [1])])
theorem hd_2491 : con_2491.1 = (yX12_numberAt, cX12_numberAt, 3, (some .long)) := rfl
noncomputable def cu_2491 : List CUT2 := []
theorem ch_2491 : staG tb_X12_numberAt 1 bt_RX12 [] ct_2 [] [] cu_2491 11 con_2491 = true := by decide +kernel
theorem vl_2491 (l : Launch) : Vld2 l vwCl gTbl con_2491 := conR_ok3 gT_all (hd_2491) rfl pn_RX12 tk_X12_numberAt bo_RX12 xo_RX12 (cto_2 l) ch_2491 cut_nil
/-- RookHustingModel numberAt -/
noncomputable def con_2492 : Con2 := ((yX12_numberAt, cX12_numberAt, 3, (some .long)), (0, 0), ([(6, 0, 0), (0, 0, 0), (0, 59, 0)], gi_1855, [ac_1100, ac_1354], []), [((4, 48, 0), gi_1856, [(false, ac_1100), (false, ac_1354)], [], [1])])
theorem hd_2492 : con_2492.1 = (yX12_numberAt, cX12_numberAt, 3, (some .long)) := rfl
noncomputable def cu_2492 : List CUT2 := []
theorem ch_2492 : staG tb_X12_numberAt 1 bt_RX12 [] ct_2 [] [] cu_2492 11 con_2492 = true := by decide +kernel
theorem vl_2492 (l : Launch) : Vld2 l vwCl gTbl con_2492 := conR_ok3 gT_all (hd_2492) rfl pn_RX12 tk_X12_numberAt bo_RX12 xo_RX12 (cto_2 l) ch_2492 cut_nil
/-- RookHustingModel isSeen -/
noncomputable def gi_2444 : GI := jl_n [jl_z 47, gp_621]
noncomputable def gi_2445 : GI := jl_n [jl_z 47, gp_621, jl_z 1]
noncomputable def con_2493 : Con2 := ((yX12_isSeen, cX12_isSeen, 3, (some .boolean)), (1, 22), ([(6, 0, 0), (0, 0, 0)], gi_2444, hc_224, []), [((0, 0, 0), gi_2445, hq_936, [], [1]), ((0, 1, 0), gi_2445, hq_936, [], [1])])
theorem hd_2493 : con_2493.1 = (yX12_isSeen, cX12_isSeen, 3, (some .boolean)) := rfl
theorem ck_RX12_417_2444 : COK2 RX12 vwCl gTbl 417 0 con_2444 := ⟨wd_2061, wd_137, mh_X12_numberAt, .inr (.inr ⟨rfl, wd_2058, wd_2060, wd_114, ⟨_, rfl, pd_X12_numberAt⟩, 12, _, TX12, 45, rfl, rfl⟩)⟩
theorem ck_RX12_417_2447 : COK2 RX12 vwCl gTbl 417 0 con_2447 := ⟨wd_2061, wd_137, mh_X12_numberAt, .inr (.inr ⟨rfl, wd_2058, wd_2060, wd_114, ⟨_, rfl, pd_X12_numberAt⟩, 12, _, TX12, 45, rfl, rfl⟩)⟩
theorem ck_RX12_417_2450 : COK2 RX12 vwCl gTbl 417 0 con_2450 := ⟨wd_2061, wd_137, mh_X12_numberAt, .inr (.inr ⟨rfl, wd_2058, wd_2060, wd_114, ⟨_, rfl, pd_X12_numberAt⟩, 12, _, TX12, 45, rfl, rfl⟩)⟩
theorem ck_RX12_417_2453 : COK2 RX12 vwCl gTbl 417 0 con_2453 := ⟨wd_2061, wd_137, mh_X12_numberAt, .inr (.inr ⟨rfl, wd_2058, wd_2060, wd_114, ⟨_, rfl, pd_X12_numberAt⟩, 12, _, TX12, 45, rfl, rfl⟩)⟩
theorem ck_RX12_417_2456 : COK2 RX12 vwCl gTbl 417 0 con_2456 := ⟨wd_2061, wd_137, mh_X12_numberAt, .inr (.inr ⟨rfl, wd_2058, wd_2060, wd_114, ⟨_, rfl, pd_X12_numberAt⟩, 12, _, TX12, 45, rfl, rfl⟩)⟩
theorem ck_RX12_417_2459 : COK2 RX12 vwCl gTbl 417 0 con_2459 := ⟨wd_2061, wd_137, mh_X12_numberAt, .inr (.inr ⟨rfl, wd_2058, wd_2060, wd_114, ⟨_, rfl, pd_X12_numberAt⟩, 12, _, TX12, 45, rfl, rfl⟩)⟩
theorem ck_RX12_417_2462 : COK2 RX12 vwCl gTbl 417 0 con_2462 := ⟨wd_2061, wd_137, mh_X12_numberAt, .inr (.inr ⟨rfl, wd_2058, wd_2060, wd_114, ⟨_, rfl, pd_X12_numberAt⟩, 12, _, TX12, 45, rfl, rfl⟩)⟩
theorem ck_RX12_417_2465 : COK2 RX12 vwCl gTbl 417 0 con_2465 := ⟨wd_2061, wd_137, mh_X12_numberAt, .inr (.inr ⟨rfl, wd_2058, wd_2060, wd_114, ⟨_, rfl, pd_X12_numberAt⟩, 12, _, TX12, 45, rfl, rfl⟩)⟩
theorem ck_RX12_417_2468 : COK2 RX12 vwCl gTbl 417 0 con_2468 := ⟨wd_2061, wd_137, mh_X12_numberAt, .inr (.inr ⟨rfl, wd_2058, wd_2060, wd_114, ⟨_, rfl, pd_X12_numberAt⟩, 12, _, TX12, 45, rfl, rfl⟩)⟩
theorem ck_RX12_417_2471 : COK2 RX12 vwCl gTbl 417 0 con_2471 := ⟨wd_2061, wd_137, mh_X12_numberAt, .inr (.inr ⟨rfl, wd_2058, wd_2060, wd_114, ⟨_, rfl, pd_X12_numberAt⟩, 12, _, TX12, 45, rfl, rfl⟩)⟩
theorem ck_RX12_417_2474 : COK2 RX12 vwCl gTbl 417 0 con_2474 := ⟨wd_2061, wd_137, mh_X12_numberAt, .inr (.inr ⟨rfl, wd_2058, wd_2060, wd_114, ⟨_, rfl, pd_X12_numberAt⟩, 12, _, TX12, 45, rfl, rfl⟩)⟩
theorem ck_RX12_417_2477 : COK2 RX12 vwCl gTbl 417 0 con_2477 := ⟨wd_2061, wd_137, mh_X12_numberAt, .inr (.inr ⟨rfl, wd_2058, wd_2060, wd_114, ⟨_, rfl, pd_X12_numberAt⟩, 12, _, TX12, 45, rfl, rfl⟩)⟩
theorem ck_RX12_417_2480 : COK2 RX12 vwCl gTbl 417 0 con_2480 := ⟨wd_2061, wd_137, mh_X12_numberAt, .inr (.inr ⟨rfl, wd_2058, wd_2060, wd_114, ⟨_, rfl, pd_X12_numberAt⟩, 12, _, TX12, 45, rfl, rfl⟩)⟩
theorem ck_RX12_417_2483 : COK2 RX12 vwCl gTbl 417 0 con_2483 := ⟨wd_2061, wd_137, mh_X12_numberAt, .inr (.inr ⟨rfl, wd_2058, wd_2060, wd_114, ⟨_, rfl, pd_X12_numberAt⟩, 12, _, TX12, 45, rfl, rfl⟩)⟩
theorem ck_RX12_417_2486 : COK2 RX12 vwCl gTbl 417 0 con_2486 := ⟨wd_2061, wd_137, mh_X12_numberAt, .inr (.inr ⟨rfl, wd_2058, wd_2060, wd_114, ⟨_, rfl, pd_X12_numberAt⟩, 12, _, TX12, 45, rfl, rfl⟩)⟩
theorem ck_RX12_417_2489 : COK2 RX12 vwCl gTbl 417 0 con_2489 := ⟨wd_2061, wd_137, mh_X12_numberAt, .inr (.inr ⟨rfl, wd_2058, wd_2060, wd_114, ⟨_, rfl, pd_X12_numberAt⟩, 12, _, TX12, 45, rfl, rfl⟩)⟩
theorem ck_RX12_417_2492 : COK2 RX12 vwCl gTbl 417 0 con_2492 := ⟨wd_2061, wd_137, mh_X12_numberAt, .inr (.inr ⟨rfl, wd_2058, wd_2060, wd_114, ⟨_, rfl, pd_X12_numberAt⟩, 12, _, TX12, 45, rfl, rfl⟩)⟩
theorem ck_RX12_417_2443 : COK2 RX12 vwCl gTbl 417 0 con_2443 := ⟨wd_2061, wd_137, mh_X12_numberAt, .inr (.inr ⟨rfl, wd_2058, wd_2060, wd_114, ⟨_, rfl, pd_X12_numberAt⟩, 12, _, TX12, 45, rfl, rfl⟩)⟩
theorem ck_RX12_417_2446 : COK2 RX12 vwCl gTbl 417 0 con_2446 := ⟨wd_2061, wd_137, mh_X12_numberAt, .inr (.inr ⟨rfl, wd_2058, wd_2060, wd_114, ⟨_, rfl, pd_X12_numberAt⟩, 12, _, TX12, 45, rfl, rfl⟩)⟩
theorem ck_RX12_417_2449 : COK2 RX12 vwCl gTbl 417 0 con_2449 := ⟨wd_2061, wd_137, mh_X12_numberAt, .inr (.inr ⟨rfl, wd_2058, wd_2060, wd_114, ⟨_, rfl, pd_X12_numberAt⟩, 12, _, TX12, 45, rfl, rfl⟩)⟩
theorem ck_RX12_417_2452 : COK2 RX12 vwCl gTbl 417 0 con_2452 := ⟨wd_2061, wd_137, mh_X12_numberAt, .inr (.inr ⟨rfl, wd_2058, wd_2060, wd_114, ⟨_, rfl, pd_X12_numberAt⟩, 12, _, TX12, 45, rfl, rfl⟩)⟩
theorem ck_RX12_417_2455 : COK2 RX12 vwCl gTbl 417 0 con_2455 := ⟨wd_2061, wd_137, mh_X12_numberAt, .inr (.inr ⟨rfl, wd_2058, wd_2060, wd_114, ⟨_, rfl, pd_X12_numberAt⟩, 12, _, TX12, 45, rfl, rfl⟩)⟩
theorem ck_RX12_417_2458 : COK2 RX12 vwCl gTbl 417 0 con_2458 := ⟨wd_2061, wd_137, mh_X12_numberAt, .inr (.inr ⟨rfl, wd_2058, wd_2060, wd_114, ⟨_, rfl, pd_X12_numberAt⟩, 12, _, TX12, 45, rfl, rfl⟩)⟩
theorem ck_RX12_417_2461 : COK2 RX12 vwCl gTbl 417 0 con_2461 := ⟨wd_2061, wd_137, mh_X12_numberAt, .inr (.inr ⟨rfl, wd_2058, wd_2060, wd_114, ⟨_, rfl, pd_X12_numberAt⟩, 12, _, TX12, 45, rfl, rfl⟩)⟩
theorem ck_RX12_417_2464 : COK2 RX12 vwCl gTbl 417 0 con_2464 := ⟨wd_2061, wd_137, mh_X12_numberAt, .inr (.inr ⟨rfl, wd_2058, wd_2060, wd_114, ⟨_, rfl, pd_X12_numberAt⟩, 12, _, TX12, 45, rfl, rfl⟩)⟩
theorem ck_RX12_417_2467 : COK2 RX12 vwCl gTbl 417 0 con_2467 := ⟨wd_2061, wd_137, mh_X12_numberAt, .inr (.inr ⟨rfl, wd_2058, wd_2060, wd_114, ⟨_, rfl, pd_X12_numberAt⟩, 12, _, TX12, 45, rfl, rfl⟩)⟩
theorem ck_RX12_417_2470 : COK2 RX12 vwCl gTbl 417 0 con_2470 := ⟨wd_2061, wd_137, mh_X12_numberAt, .inr (.inr ⟨rfl, wd_2058, wd_2060, wd_114, ⟨_, rfl, pd_X12_numberAt⟩, 12, _, TX12, 45, rfl, rfl⟩)⟩
theorem ck_RX12_417_2473 : COK2 RX12 vwCl gTbl 417 0 con_2473 := ⟨wd_2061, wd_137, mh_X12_numberAt, .inr (.inr ⟨rfl, wd_2058, wd_2060, wd_114, ⟨_, rfl, pd_X12_numberAt⟩, 12, _, TX12, 45, rfl, rfl⟩)⟩
theorem ck_RX12_417_2476 : COK2 RX12 vwCl gTbl 417 0 con_2476 := ⟨wd_2061, wd_137, mh_X12_numberAt, .inr (.inr ⟨rfl, wd_2058, wd_2060, wd_114, ⟨_, rfl, pd_X12_numberAt⟩, 12, _, TX12, 45, rfl, rfl⟩)⟩
theorem ck_RX12_417_2479 : COK2 RX12 vwCl gTbl 417 0 con_2479 := ⟨wd_2061, wd_137, mh_X12_numberAt, .inr (.inr ⟨rfl, wd_2058, wd_2060, wd_114, ⟨_, rfl, pd_X12_numberAt⟩, 12, _, TX12, 45, rfl, rfl⟩)⟩
theorem ck_RX12_417_2482 : COK2 RX12 vwCl gTbl 417 0 con_2482 := ⟨wd_2061, wd_137, mh_X12_numberAt, .inr (.inr ⟨rfl, wd_2058, wd_2060, wd_114, ⟨_, rfl, pd_X12_numberAt⟩, 12, _, TX12, 45, rfl, rfl⟩)⟩
theorem ck_RX12_417_2485 : COK2 RX12 vwCl gTbl 417 0 con_2485 := ⟨wd_2061, wd_137, mh_X12_numberAt, .inr (.inr ⟨rfl, wd_2058, wd_2060, wd_114, ⟨_, rfl, pd_X12_numberAt⟩, 12, _, TX12, 45, rfl, rfl⟩)⟩
theorem ck_RX12_417_2488 : COK2 RX12 vwCl gTbl 417 0 con_2488 := ⟨wd_2061, wd_137, mh_X12_numberAt, .inr (.inr ⟨rfl, wd_2058, wd_2060, wd_114, ⟨_, rfl, pd_X12_numberAt⟩, 12, _, TX12, 45, rfl, rfl⟩)⟩
theorem ck_RX12_417_2491 : COK2 RX12 vwCl gTbl 417 0 con_2491 := ⟨wd_2061, wd_137, mh_X12_numberAt, .inr (.inr ⟨rfl, wd_2058, wd_2060, wd_114, ⟨_, rfl, pd_X12_numberAt⟩, 12, _, TX12, 45, rfl, rfl⟩)⟩
theorem ck_RX12_417_2442 : COK2 RX12 vwCl gTbl 417 0 con_2442 := ⟨wd_2061, wd_137, mh_X12_numberAt, .inr (.inr ⟨rfl, wd_2058, wd_2060, wd_114, ⟨_, rfl, pd_X12_numberAt⟩, 12, _, TX12, 45, rfl, rfl⟩)⟩
theorem ck_RX12_417_2445 : COK2 RX12 vwCl gTbl 417 0 con_2445 := ⟨wd_2061, wd_137, mh_X12_numberAt, .inr (.inr ⟨rfl, wd_2058, wd_2060, wd_114, ⟨_, rfl, pd_X12_numberAt⟩, 12, _, TX12, 45, rfl, rfl⟩)⟩
theorem ck_RX12_417_2448 : COK2 RX12 vwCl gTbl 417 0 con_2448 := ⟨wd_2061, wd_137, mh_X12_numberAt, .inr (.inr ⟨rfl, wd_2058, wd_2060, wd_114, ⟨_, rfl, pd_X12_numberAt⟩, 12, _, TX12, 45, rfl, rfl⟩)⟩
theorem ck_RX12_417_2451 : COK2 RX12 vwCl gTbl 417 0 con_2451 := ⟨wd_2061, wd_137, mh_X12_numberAt, .inr (.inr ⟨rfl, wd_2058, wd_2060, wd_114, ⟨_, rfl, pd_X12_numberAt⟩, 12, _, TX12, 45, rfl, rfl⟩)⟩
theorem ck_RX12_417_2454 : COK2 RX12 vwCl gTbl 417 0 con_2454 := ⟨wd_2061, wd_137, mh_X12_numberAt, .inr (.inr ⟨rfl, wd_2058, wd_2060, wd_114, ⟨_, rfl, pd_X12_numberAt⟩, 12, _, TX12, 45, rfl, rfl⟩)⟩
theorem ck_RX12_417_2457 : COK2 RX12 vwCl gTbl 417 0 con_2457 := ⟨wd_2061, wd_137, mh_X12_numberAt, .inr (.inr ⟨rfl, wd_2058, wd_2060, wd_114, ⟨_, rfl, pd_X12_numberAt⟩, 12, _, TX12, 45, rfl, rfl⟩)⟩
theorem ck_RX12_417_2460 : COK2 RX12 vwCl gTbl 417 0 con_2460 := ⟨wd_2061, wd_137, mh_X12_numberAt, .inr (.inr ⟨rfl, wd_2058, wd_2060, wd_114, ⟨_, rfl, pd_X12_numberAt⟩, 12, _, TX12, 45, rfl, rfl⟩)⟩
theorem ck_RX12_417_2463 : COK2 RX12 vwCl gTbl 417 0 con_2463 := ⟨wd_2061, wd_137, mh_X12_numberAt, .inr (.inr ⟨rfl, wd_2058, wd_2060, wd_114, ⟨_, rfl, pd_X12_numberAt⟩, 12, _, TX12, 45, rfl, rfl⟩)⟩
theorem ck_RX12_417_2466 : COK2 RX12 vwCl gTbl 417 0 con_2466 := ⟨wd_2061, wd_137, mh_X12_numberAt, .inr (.inr ⟨rfl, wd_2058, wd_2060, wd_114, ⟨_, rfl, pd_X12_numberAt⟩, 12, _, TX12, 45, rfl, rfl⟩)⟩
theorem ck_RX12_417_2469 : COK2 RX12 vwCl gTbl 417 0 con_2469 := ⟨wd_2061, wd_137, mh_X12_numberAt, .inr (.inr ⟨rfl, wd_2058, wd_2060, wd_114, ⟨_, rfl, pd_X12_numberAt⟩, 12, _, TX12, 45, rfl, rfl⟩)⟩
theorem ck_RX12_417_2472 : COK2 RX12 vwCl gTbl 417 0 con_2472 := ⟨wd_2061, wd_137, mh_X12_numberAt, .inr (.inr ⟨rfl, wd_2058, wd_2060, wd_114, ⟨_, rfl, pd_X12_numberAt⟩, 12, _, TX12, 45, rfl, rfl⟩)⟩
theorem ck_RX12_417_2475 : COK2 RX12 vwCl gTbl 417 0 con_2475 := ⟨wd_2061, wd_137, mh_X12_numberAt, .inr (.inr ⟨rfl, wd_2058, wd_2060, wd_114, ⟨_, rfl, pd_X12_numberAt⟩, 12, _, TX12, 45, rfl, rfl⟩)⟩
theorem ck_RX12_417_2478 : COK2 RX12 vwCl gTbl 417 0 con_2478 := ⟨wd_2061, wd_137, mh_X12_numberAt, .inr (.inr ⟨rfl, wd_2058, wd_2060, wd_114, ⟨_, rfl, pd_X12_numberAt⟩, 12, _, TX12, 45, rfl, rfl⟩)⟩
theorem ck_RX12_417_2481 : COK2 RX12 vwCl gTbl 417 0 con_2481 := ⟨wd_2061, wd_137, mh_X12_numberAt, .inr (.inr ⟨rfl, wd_2058, wd_2060, wd_114, ⟨_, rfl, pd_X12_numberAt⟩, 12, _, TX12, 45, rfl, rfl⟩)⟩
theorem ck_RX12_417_2484 : COK2 RX12 vwCl gTbl 417 0 con_2484 := ⟨wd_2061, wd_137, mh_X12_numberAt, .inr (.inr ⟨rfl, wd_2058, wd_2060, wd_114, ⟨_, rfl, pd_X12_numberAt⟩, 12, _, TX12, 45, rfl, rfl⟩)⟩
theorem ck_RX12_417_2487 : COK2 RX12 vwCl gTbl 417 0 con_2487 := ⟨wd_2061, wd_137, mh_X12_numberAt, .inr (.inr ⟨rfl, wd_2058, wd_2060, wd_114, ⟨_, rfl, pd_X12_numberAt⟩, 12, _, TX12, 45, rfl, rfl⟩)⟩
theorem ck_RX12_417_2490 : COK2 RX12 vwCl gTbl 417 0 con_2490 := ⟨wd_2061, wd_137, mh_X12_numberAt, .inr (.inr ⟨rfl, wd_2058, wd_2060, wd_114, ⟨_, rfl, pd_X12_numberAt⟩, 12, _, TX12, 45, rfl, rfl⟩)⟩
noncomputable def ct_2493 : CTB2 := [(22, 417, 0, con_2490, [0, 2]), (22, 417, 0, con_2487, [0, 2]), (22, 417, 0, con_2484, [0, 2]), (22, 417, 0, con_2481, [0, 2]), (22, 417, 0, con_2478, [0, 2]), (22, 417, 0, con_2475, [0, 2]), (22, 417, 0, con_2472, [0, 2]), (22, 417, 0, con_2469, [0, 2]), (22, 417, 0, con_2466, [0, 2]), (22, 417, 0, con_2463, [0, 2]), (22, 417, 0, con_2460, [0, 2]), (22, 417, 0, con_2457, [0, 2]), (22, 417, 0, con_2454, [0, 2]), (22, 417, 0, con_2451, [0, 2]), (22, 417, 0, con_2448, [0, 2]), (22, 417, 0, con_2445, [0, 2]), (22, 417, 0, con_2442, [0, 2]), (22, 417, 0, con_2438, [0, 2]), (22, 417, 0, con_2435, [0, 2]), (22, 417, 0, con_2432, [0, 2]), (30, 417, 0, con_2491, [0, 2]), (30, 417, 0, con_2488, [0, 2]), (30, 417, 0, con_2485, [0, 2]), (30, 417, 0, con_2482, [0, 2]), (30, 417, 0, con_2479, [0, 2]), (30, 417, 0, con_2476, [0, 2]), (30, 417, 0, con_2473, [0, 2]), (30, 417, 0, con_2470, [0, 2]), (30, 417, 0, con_2467, [0, 2]), (30, 417, 0, con_2464, [0, 2]), (30, 417, 0, con_2461, [0, 2]), (30, 417, 0, con_2458, [0, 2]), (30, 417, 0, con_2455, [0, 2]), (30, 417, 0, con_2452, [0, 2]), (30, 417, 0, con_2449, [0, 2]), (30, 417, 0, con_2446, [0, 2]), (30, 417, 0, con_2443, [0, 2]), (30, 417, 0, con_2439, [0, 2]), (30, 417, 0, con_2436, [0, 2]), (30, 417, 0, con_2433, [0, 2]), (42, 417, 0, con_2492, [0, 2]), (42, 417, 0, con_2489, [0, 2]), (42, 417, 0, con_2486, [0, 2]), (42, 417, 0, con_2483, [0, 2]), (42, 417, 0, con_2480, [0, 2]), (42, 417, 0, con_2477, [0, 2]), (42, 417, 0, con_2474, [0, 2]), (42, 417, 0, con_2471, [0, 2]), (42, 417, 0, con_2468, [0, 2]), (42, 417, 0, con_2465, [0, 2]), (42, 417, 0, con_2462, [0, 2]), (42, 417, 0, con_2459, [0, 2]), (42, 417, 0, con_2456, [0, 2]), (42, 417, 0, con_2453, [0, 2]), (42, 417, 0, con_2450, [0, 2]), (42, 417, 0, con_2447, [0, 2]), (42, 417, 0, con_2444, [0, 2]), (42, 417, 0, con_2440, [0, 2]), (42, 417, 0, con_2437, [0, 2]), (42, 417, 0, con_2434, [0, 2])]
noncomputable def gi_2446 : GI := jl_n [jl_z 47, gp_621, jl_z 3]
noncomputable def cu_2493_0 : List CUT2 := [((2, [lq 0 6 0, lq 1 0 0, lq 2 0 0], [], gi_2446, hq_936), [], ([], 60)), ((2, [lq 0 6 0, lq 1 0 0, lq 2 0 3], [], gi_2446, hq_936), [], ([], 57)), ((2, [lq 0 6 0, lq 1 0 0, lq 2 0 6], [], gi_2446, hq_936), [], ([], 54)), ((2, [lq 0 6 0, lq 1 0 0, lq 2 0 9], [], gi_2446, hq_936), [], ([], 51)), ((2, [lq 0 6 0, lq 1 0 0, lq 2 0 12], [], gi_2446, hq_936), [], ([], 48)), ((2, [lq 0 6 0, lq 1 0 0, lq 2 0 15], [], gi_2446, hq_936), [], ([], 45)), ((2, [lq 0 6 0, lq 1 0 0, lq 2 0 18], [], gi_2446, hq_936), [], ([], 42)), ((2, [lq 0 6 0, lq 1 0 0, lq 2 0 21], [], gi_2446, hq_936), [], ([], 39)), ((2, [lq 0 6 0, lq 1 0 0, lq 2 0 24], [], gi_2446, hq_936), [], ([], 36)), ((2, [lq 0 6 0, lq 1 0 0, lq 2 0 27], [], gi_2446, hq_936), [], ([], 33)), ((2, [lq 0 6 0, lq 1 0 0, lq 2 0 30], [], gi_2446, hq_936), [], ([], 30)), ((2, [lq 0 6 0, lq 1 0 0, lq 2 0 33], [], gi_2446, hq_936), [], ([], 27)), ((2, [lq 0 6 0, lq 1 0 0, lq 2 0 36], [], gi_2446, hq_936), [], ([], 24)), ((2, [lq 0 6 0, lq 1 0 0, lq 2 0 39], [], gi_2446, hq_936), [], ([], 21)), ((2, [lq 0 6 0, lq 1 0 0, lq 2 0 42], [], gi_2446, hq_936), [], ([], 18)), ((2, [lq 0 6 0, lq 1 0 0, lq 2 0 45], [], gi_2446, hq_936), [], ([], 15)), ((2, [lq 0 6 0, lq 1 0 0, lq 2 0 48], [], gi_2446, hq_936), [], ([], 12)), ((2, [lq 0 6 0, lq 1 0 0, lq 2 0 51], [], gi_2446, hq_936), [], ([], 9))]
noncomputable def cu_2493_1 : List CUT2 := [((2, [lq 0 6 0, lq 1 0 0, lq 2 0 54], [], gi_2446, hq_936), [], ([], 6)), ((2, [lq 0 6 0, lq 1 0 0, lq 2 0 57], [], gi_2446, hq_936), [], ([], 3)), ((2, [lq 0 6 0, lq 1 0 0, lq 2 0 60], [], gi_2446, hq_936), [], ([], 0))]
noncomputable def cu_2493 : List CUT2 := cu_2493_0 ++ (cu_2493_1)
theorem ch_2493 : staG tb_X12_isSeen 1 bt_RX12 [] ct_2493 [] [] cu_2493 37 con_2493 = true := by decide +kernel
theorem cc_2493_0 : cu_2493_0.all (cutG tb_X12_isSeen 1 bt_RX12 [] ct_2493 [] [] cu_2493 37 con_2493) = true := by decide +kernel
theorem cc_2493_1 : cu_2493_1.all (cutG tb_X12_isSeen 1 bt_RX12 [] ct_2493 [] [] cu_2493 37 con_2493) = true := by decide +kernel
theorem cto_2493 (l : Launch) : CTOK2 l RX12 vwCl gTbl ct_2493 := ct2_cons (vl_2490 l) ck_RX12_417_2490 (ct2_cons (vl_2487 l) ck_RX12_417_2487 (ct2_cons (vl_2484 l) ck_RX12_417_2484 (ct2_cons (vl_2481 l) ck_RX12_417_2481 (ct2_cons (vl_2478 l) ck_RX12_417_2478 (ct2_cons (vl_2475 l) ck_RX12_417_2475 (ct2_cons (vl_2472 l) ck_RX12_417_2472 (ct2_cons (vl_2469 l) ck_RX12_417_2469 (ct2_cons (vl_2466 l) ck_RX12_417_2466 (ct2_cons (vl_2463 l) ck_RX12_417_2463 (ct2_cons (vl_2460 l) ck_RX12_417_2460 (ct2_cons (vl_2457 l) ck_RX12_417_2457 (ct2_cons (vl_2454 l) ck_RX12_417_2454 (ct2_cons (vl_2451 l) ck_RX12_417_2451 (ct2_cons (vl_2448 l) ck_RX12_417_2448 (ct2_cons (vl_2445 l) ck_RX12_417_2445 (ct2_cons (vl_2442 l) ck_RX12_417_2442 (ct2_cons (vl_2438 l) ck_RX12_417_2438 (ct2_cons (vl_2435 l) ck_RX12_417_2435 (ct2_cons (vl_2432 l) ck_RX12_417_2432 (ct2_cons (vl_2491 l) ck_RX12_417_2491 (ct2_cons (vl_2488 l) ck_RX12_417_2488 (ct2_cons (vl_2485 l) ck_RX12_417_2485 (ct2_cons (vl_2482 l) ck_RX12_417_2482 (ct2_cons (vl_2479 l) ck_RX12_417_2479 (ct2_cons (vl_2476 l) ck_RX12_417_2476 (ct2_cons (vl_2473 l) ck_RX12_417_2473 (ct2_cons (vl_2470 l) ck_RX12_417_2470 (ct2_cons (vl_2467 l) ck_RX12_417_2467 (ct2_cons (vl_2464 l) ck_RX12_417_2464 (ct2_cons (vl_2461 l) ck_RX12_417_2461 (ct2_cons (vl_2458 l) ck_RX12_417_2458 (ct2_cons (vl_2455 l) ck_RX12_417_2455 (ct2_cons (vl_2452 l) ck_RX12_417_2452 (ct2_cons (vl_2449 l) ck_RX12_417_2449 (ct2_cons (vl_2446 l) ck_RX12_417_2446 (ct2_cons (vl_2443 l) ck_RX12_417_2443 (ct2_cons (vl_2439 l) ck_RX12_417_2439 (ct2_cons (vl_2436 l) ck_RX12_417_2436 (ct2_cons (vl_2433 l) ck_RX12_417_2433 (ct2_cons (vl_2492 l) ck_RX12_417_2492 (ct2_cons (vl_2489 l) ck_RX12_417_2489 (ct2_cons (vl_2486 l) ck_RX12_417_2486 (ct2_cons (vl_2483 l) ck_RX12_417_2483 (ct2_cons (vl_2480 l) ck_RX12_417_2480 (ct2_cons (vl_2477 l) ck_RX12_417_2477 (ct2_cons (vl_2474 l) ck_RX12_417_2474 (ct2_cons (vl_2471 l) ck_RX12_417_2471 (ct2_cons (vl_2468 l) ck_RX12_417_2468 (ct2_cons (vl_2465 l) ck_RX12_417_2465 (ct2_cons (vl_2462 l) ck_RX12_417_2462 (ct2_cons (vl_2459 l) ck_RX12_417_2459 (ct2_cons (vl_2456 l) ck_RX12_417_2456 (ct2_cons (vl_2453 l) ck_RX12_417_2453 (ct2_cons (vl_2450 l) ck_RX12_417_2450 (ct2_cons (vl_2447 l) ck_RX12_417_2447 (ct2_cons (vl_2444 l) ck_RX12_417_2444 (ct2_cons (vl_2440 l) ck_RX12_417_2440 (ct2_cons (vl_2437 l) ck_RX12_417_2437 (ct2_cons (vl_2434 l) ck_RX12_417_2434 (ct2_nil))))))))))))))))))))))))))))))))))))))))))))))))))))))))))))
theorem vl_2493 (l : Launch) : Vld2 l vwCl gTbl con_2493 := conR_ok3 gT_all (hd_2493) rfl pn_RX12 tk_X12_isSeen bo_RX12 xo_RX12 (cto_2493 l) ch_2493 (cut_app (cut_all cc_2493_0) (cut_all cc_2493_1))
/-- RookHustingModel isSeen -/
noncomputable def gi_2447 : GI := jl_n [jl_z 47, gp_620]
noncomputable def gi_2448 : GI := jl_n [jl_z 47, gp_620, jl_z 1]
noncomputable def con_2494 : Con2 := ((yX12_isSeen, cX12_isSeen, 3, (some .boolean)), (1, 22), ([(6, 0, 0), (0, 0, 0)], gi_2447, hc_224, []), [((0, 0, 0), gi_2448, hq_936, [], [1]), ((0, 1, 0), gi_2448, hq_936, [], [1])])
theorem hd_2494 : con_2494.1 = (yX12_isSeen, cX12_isSeen, 3, (some .boolean)) := rfl
noncomputable def ct_2494 : CTB2 := [(22, 417, 0, con_2435, [0, 2]), (22, 417, 0, con_2432, [0, 2]), (30, 417, 0, con_2436, [0, 2]), (30, 417, 0, con_2433, [0, 2]), (42, 417, 0, con_2437, [0, 2]), (42, 417, 0, con_2434, [0, 2])]
noncomputable def gi_2449 : GI := jl_n [jl_z 47, gp_620, jl_z 3]
noncomputable def cu_2494 : List CUT2 := [((2, [lq 0 6 0, lq 1 0 0, lq 2 0 0], [], gi_2449, hq_936), [], ([], 6)), ((2, [lq 0 6 0, lq 1 0 0, lq 2 0 3], [], gi_2449, hq_936), [], ([], 3)), ((2, [lq 0 6 0, lq 1 0 0, lq 2 0 6], [], gi_2449, hq_936), [], ([], 0))]
theorem ch_2494 : staG tb_X12_isSeen 1 bt_RX12 [] ct_2494 [] [] cu_2494 37 con_2494 = true := by decide +kernel
theorem cc_2494 : cu_2494.all (cutG tb_X12_isSeen 1 bt_RX12 [] ct_2494 [] [] cu_2494 37 con_2494) = true := by decide +kernel
theorem cto_2494 (l : Launch) : CTOK2 l RX12 vwCl gTbl ct_2494 := ct2_cons (vl_2435 l) ck_RX12_417_2435 (ct2_cons (vl_2432 l) ck_RX12_417_2432 (ct2_cons (vl_2436 l) ck_RX12_417_2436 (ct2_cons (vl_2433 l) ck_RX12_417_2433 (ct2_cons (vl_2437 l) ck_RX12_417_2437 (ct2_cons (vl_2434 l) ck_RX12_417_2434 (ct2_nil))))))
theorem vl_2494 (l : Launch) : Vld2 l vwCl gTbl con_2494 := conR_ok3 gT_all (hd_2494) rfl pn_RX12 tk_X12_isSeen bo_RX12 xo_RX12 (cto_2494 l) ch_2494 (cut_all cc_2494)
/-- RookHustingModel isSeen -/
noncomputable def gi_2450 : GI := jl_n [jl_z 47, gp_618]
noncomputable def gi_2451 : GI := jl_n [jl_z 47, gp_618, jl_z 1]
noncomputable def con_2495 : Con2 := ((yX12_isSeen, cX12_isSeen, 3, (some .boolean)), (1, 22), ([(6, 0, 0), (0, 0, 0)], gi_2450, hc_224, []), [((0, 0, 0), gi_2451, hq_936, [], [1]), ((0, 1, 0), gi_2451, hq_936, [], [1])])
theorem hd_2495 : con_2495.1 = (yX12_isSeen, cX12_isSeen, 3, (some .boolean)) := rfl
noncomputable def ct_2495 : CTB2 := [(22, 417, 0, con_2487, [0, 2]), (22, 417, 0, con_2484, [0, 2]), (22, 417, 0, con_2481, [0, 2]), (22, 417, 0, con_2478, [0, 2]), (22, 417, 0, con_2475, [0, 2]), (22, 417, 0, con_2472, [0, 2]), (22, 417, 0, con_2469, [0, 2]), (22, 417, 0, con_2466, [0, 2]), (22, 417, 0, con_2463, [0, 2]), (22, 417, 0, con_2460, [0, 2]), (22, 417, 0, con_2457, [0, 2]), (22, 417, 0, con_2454, [0, 2]), (22, 417, 0, con_2451, [0, 2]), (22, 417, 0, con_2448, [0, 2]), (22, 417, 0, con_2445, [0, 2]), (22, 417, 0, con_2442, [0, 2]), (22, 417, 0, con_2438, [0, 2]), (22, 417, 0, con_2435, [0, 2]), (22, 417, 0, con_2432, [0, 2]), (30, 417, 0, con_2488, [0, 2]), (30, 417, 0, con_2485, [0, 2]), (30, 417, 0, con_2482, [0, 2]), (30, 417, 0, con_2479, [0, 2]), (30, 417, 0, con_2476, [0, 2]), (30, 417, 0, con_2473, [0, 2]), (30, 417, 0, con_2470, [0, 2]), (30, 417, 0, con_2467, [0, 2]), (30, 417, 0, con_2464, [0, 2]), (30, 417, 0, con_2461, [0, 2]), (30, 417, 0, con_2458, [0, 2]), (30, 417, 0, con_2455, [0, 2]), (30, 417, 0, con_2452, [0, 2]), (30, 417, 0, con_2449, [0, 2]), (30, 417, 0, con_2446, [0, 2]), (30, 417, 0, con_2443, [0, 2]), (30, 417, 0, con_2439, [0, 2]), (30, 417, 0, con_2436, [0, 2]), (30, 417, 0, con_2433, [0, 2]), (42, 417, 0, con_2489, [0, 2]), (42, 417, 0, con_2486, [0, 2]), (42, 417, 0, con_2483, [0, 2]), (42, 417, 0, con_2480, [0, 2]), (42, 417, 0, con_2477, [0, 2]), (42, 417, 0, con_2474, [0, 2]), (42, 417, 0, con_2471, [0, 2]), (42, 417, 0, con_2468, [0, 2]), (42, 417, 0, con_2465, [0, 2]), (42, 417, 0, con_2462, [0, 2]), (42, 417, 0, con_2459, [0, 2]), (42, 417, 0, con_2456, [0, 2]), (42, 417, 0, con_2453, [0, 2]), (42, 417, 0, con_2450, [0, 2]), (42, 417, 0, con_2447, [0, 2]), (42, 417, 0, con_2444, [0, 2]), (42, 417, 0, con_2440, [0, 2]), (42, 417, 0, con_2437, [0, 2]), (42, 417, 0, con_2434, [0, 2])]
noncomputable def gi_2452 : GI := jl_n [jl_z 47, gp_618, jl_z 3]
noncomputable def cu_2495_0 : List CUT2 := [((2, [lq 0 6 0, lq 1 0 0, lq 2 0 0], [], gi_2452, hq_936), [], ([], 57)), ((2, [lq 0 6 0, lq 1 0 0, lq 2 0 3], [], gi_2452, hq_936), [], ([], 54)), ((2, [lq 0 6 0, lq 1 0 0, lq 2 0 6], [], gi_2452, hq_936), [], ([], 51)), ((2, [lq 0 6 0, lq 1 0 0, lq 2 0 9], [], gi_2452, hq_936), [], ([], 48)), ((2, [lq 0 6 0, lq 1 0 0, lq 2 0 12], [], gi_2452, hq_936), [], ([], 45)), ((2, [lq 0 6 0, lq 1 0 0, lq 2 0 15], [], gi_2452, hq_936), [], ([], 42)), ((2, [lq 0 6 0, lq 1 0 0, lq 2 0 18], [], gi_2452, hq_936), [], ([], 39)), ((2, [lq 0 6 0, lq 1 0 0, lq 2 0 21], [], gi_2452, hq_936), [], ([], 36)), ((2, [lq 0 6 0, lq 1 0 0, lq 2 0 24], [], gi_2452, hq_936), [], ([], 33)), ((2, [lq 0 6 0, lq 1 0 0, lq 2 0 27], [], gi_2452, hq_936), [], ([], 30)), ((2, [lq 0 6 0, lq 1 0 0, lq 2 0 30], [], gi_2452, hq_936), [], ([], 27)), ((2, [lq 0 6 0, lq 1 0 0, lq 2 0 33], [], gi_2452, hq_936), [], ([], 24)), ((2, [lq 0 6 0, lq 1 0 0, lq 2 0 36], [], gi_2452, hq_936), [], ([], 21)), ((2, [lq 0 6 0, lq 1 0 0, lq 2 0 39], [], gi_2452, hq_936), [], ([], 18)), ((2, [lq 0 6 0, lq 1 0 0, lq 2 0 42], [], gi_2452, hq_936), [], ([], 15)), ((2, [lq 0 6 0, lq 1 0 0, lq 2 0 45], [], gi_2452, hq_936), [], ([], 12)), ((2, [lq 0 6 0, lq 1 0 0, lq 2 0 48], [], gi_2452, hq_936), [], ([], 9)), ((2, [lq 0 6 0, lq 1 0 0, lq 2 0 51], [], gi_2452, hq_936), [], ([], 6))]
noncomputable def cu_2495_1 : List CUT2 := [((2, [lq 0 6 0, lq 1 0 0, lq 2 0 54], [], gi_2452, hq_936), [], ([], 3)), ((2, [lq 0 6 0, lq 1 0 0, lq 2 0 57], [], gi_2452, hq_936), [], ([], 0))]
noncomputable def cu_2495 : List CUT2 := cu_2495_0 ++ (cu_2495_1)
theorem ch_2495 : staG tb_X12_isSeen 1 bt_RX12 [] ct_2495 [] [] cu_2495 37 con_2495 = true := by decide +kernel
theorem cc_2495_0 : cu_2495_0.all (cutG tb_X12_isSeen 1 bt_RX12 [] ct_2495 [] [] cu_2495 37 con_2495) = true := by decide +kernel
theorem cc_2495_1 : cu_2495_1.all (cutG tb_X12_isSeen 1 bt_RX12 [] ct_2495 [] [] cu_2495 37 con_2495) = true := by decide +kernel
theorem cto_2495 (l : Launch) : CTOK2 l RX12 vwCl gTbl ct_2495 := ct2_cons (vl_2487 l) ck_RX12_417_2487 (ct2_cons (vl_2484 l) ck_RX12_417_2484 (ct2_cons (vl_2481 l) ck_RX12_417_2481 (ct2_cons (vl_2478 l) ck_RX12_417_2478 (ct2_cons (vl_2475 l) ck_RX12_417_2475 (ct2_cons (vl_2472 l) ck_RX12_417_2472 (ct2_cons (vl_2469 l) ck_RX12_417_2469 (ct2_cons (vl_2466 l) ck_RX12_417_2466 (ct2_cons (vl_2463 l) ck_RX12_417_2463 (ct2_cons (vl_2460 l) ck_RX12_417_2460 (ct2_cons (vl_2457 l) ck_RX12_417_2457 (ct2_cons (vl_2454 l) ck_RX12_417_2454 (ct2_cons (vl_2451 l) ck_RX12_417_2451 (ct2_cons (vl_2448 l) ck_RX12_417_2448 (ct2_cons (vl_2445 l) ck_RX12_417_2445 (ct2_cons (vl_2442 l) ck_RX12_417_2442 (ct2_cons (vl_2438 l) ck_RX12_417_2438 (ct2_cons (vl_2435 l) ck_RX12_417_2435 (ct2_cons (vl_2432 l) ck_RX12_417_2432 (ct2_cons (vl_2488 l) ck_RX12_417_2488 (ct2_cons (vl_2485 l) ck_RX12_417_2485 (ct2_cons (vl_2482 l) ck_RX12_417_2482 (ct2_cons (vl_2479 l) ck_RX12_417_2479 (ct2_cons (vl_2476 l) ck_RX12_417_2476 (ct2_cons (vl_2473 l) ck_RX12_417_2473 (ct2_cons (vl_2470 l) ck_RX12_417_2470 (ct2_cons (vl_2467 l) ck_RX12_417_2467 (ct2_cons (vl_2464 l) ck_RX12_417_2464 (ct2_cons (vl_2461 l) ck_RX12_417_2461 (ct2_cons (vl_2458 l) ck_RX12_417_2458 (ct2_cons (vl_2455 l) ck_RX12_417_2455 (ct2_cons (vl_2452 l) ck_RX12_417_2452 (ct2_cons (vl_2449 l) ck_RX12_417_2449 (ct2_cons (vl_2446 l) ck_RX12_417_2446 (ct2_cons (vl_2443 l) ck_RX12_417_2443 (ct2_cons (vl_2439 l) ck_RX12_417_2439 (ct2_cons (vl_2436 l) ck_RX12_417_2436 (ct2_cons (vl_2433 l) ck_RX12_417_2433 (ct2_cons (vl_2489 l) ck_RX12_417_2489 (ct2_cons (vl_2486 l) ck_RX12_417_2486 (ct2_cons (vl_2483 l) ck_RX12_417_2483 (ct2_cons (vl_2480 l) ck_RX12_417_2480 (ct2_cons (vl_2477 l) ck_RX12_417_2477 (ct2_cons (vl_2474 l) ck_RX12_417_2474 (ct2_cons (vl_2471 l) ck_RX12_417_2471 (ct2_cons (vl_2468 l) ck_RX12_417_2468 (ct2_cons (vl_2465 l) ck_RX12_417_2465 (ct2_cons (vl_2462 l) ck_RX12_417_2462 (ct2_cons (vl_2459 l) ck_RX12_417_2459 (ct2_cons (vl_2456 l) ck_RX12_417_2456 (ct2_cons (vl_2453 l) ck_RX12_417_2453 (ct2_cons (vl_2450 l) ck_RX12_417_2450 (ct2_cons (vl_2447 l) ck_RX12_417_2447 (ct2_cons (vl_2444 l) ck_RX12_417_2444 (ct2_cons (vl_2440 l) ck_RX12_417_2440 (ct2_cons (vl_2437 l) ck_RX12_417_2437 (ct2_cons (vl_2434 l) ck_RX12_417_2434 (ct2_nil)))))))))))))))))))))))))))))))))))))))))))))))))))))))))
theorem vl_2495 (l : Launch) : Vld2 l vwCl gTbl con_2495 := conR_ok3 gT_all (hd_2495) rfl pn_RX12 tk_X12_isSeen bo_RX12 xo_RX12 (cto_2495 l) ch_2495 (cut_app (cut_all cc_2495_0) (cut_all cc_2495_1))
/-- RookHustingModel isSeen -/
noncomputable def gi_2453 : GI := jl_n [jl_z 47, gp_616]
noncomputable def gi_2454 : GI := jl_n [jl_z 47, gp_616, jl_z 1]
noncomputable def con_2496 : Con2 := ((yX12_isSeen, cX12_isSeen, 3, (some .boolean)), (1, 22), ([(6, 0, 0), (0, 0, 0)], gi_2453, hc_224, []), [((0, 0, 0), gi_2454, hq_936, [], [1]), ((0, 1, 0), gi_2454, hq_936, [], [1])])
theorem hd_2496 : con_2496.1 = (yX12_isSeen, cX12_isSeen, 3, (some .boolean)) := rfl
noncomputable def ct_2496 : CTB2 := [(22, 417, 0, con_2484, [0, 2]), (22, 417, 0, con_2481, [0, 2]), (22, 417, 0, con_2478, [0, 2]), (22, 417, 0, con_2475, [0, 2]), (22, 417, 0, con_2472, [0, 2]), (22, 417, 0, con_2469, [0, 2]), (22, 417, 0, con_2466, [0, 2]), (22, 417, 0, con_2463, [0, 2]), (22, 417, 0, con_2460, [0, 2]), (22, 417, 0, con_2457, [0, 2]), (22, 417, 0, con_2454, [0, 2]), (22, 417, 0, con_2451, [0, 2]), (22, 417, 0, con_2448, [0, 2]), (22, 417, 0, con_2445, [0, 2]), (22, 417, 0, con_2442, [0, 2]), (22, 417, 0, con_2438, [0, 2]), (22, 417, 0, con_2435, [0, 2]), (22, 417, 0, con_2432, [0, 2]), (30, 417, 0, con_2485, [0, 2]), (30, 417, 0, con_2482, [0, 2]), (30, 417, 0, con_2479, [0, 2]), (30, 417, 0, con_2476, [0, 2]), (30, 417, 0, con_2473, [0, 2]), (30, 417, 0, con_2470, [0, 2]), (30, 417, 0, con_2467, [0, 2]), (30, 417, 0, con_2464, [0, 2]), (30, 417, 0, con_2461, [0, 2]), (30, 417, 0, con_2458, [0, 2]), (30, 417, 0, con_2455, [0, 2]), (30, 417, 0, con_2452, [0, 2]), (30, 417, 0, con_2449, [0, 2]), (30, 417, 0, con_2446, [0, 2]), (30, 417, 0, con_2443, [0, 2]), (30, 417, 0, con_2439, [0, 2]), (30, 417, 0, con_2436, [0, 2]), (30, 417, 0, con_2433, [0, 2]), (42, 417, 0, con_2486, [0, 2]), (42, 417, 0, con_2483, [0, 2]), (42, 417, 0, con_2480, [0, 2]), (42, 417, 0, con_2477, [0, 2]), (42, 417, 0, con_2474, [0, 2]), (42, 417, 0, con_2471, [0, 2]), (42, 417, 0, con_2468, [0, 2]), (42, 417, 0, con_2465, [0, 2]), (42, 417, 0, con_2462, [0, 2]), (42, 417, 0, con_2459, [0, 2]), (42, 417, 0, con_2456, [0, 2]), (42, 417, 0, con_2453, [0, 2]), (42, 417, 0, con_2450, [0, 2]), (42, 417, 0, con_2447, [0, 2]), (42, 417, 0, con_2444, [0, 2]), (42, 417, 0, con_2440, [0, 2]), (42, 417, 0, con_2437, [0, 2]), (42, 417, 0, con_2434, [0, 2])]
noncomputable def gi_2455 : GI := jl_n [jl_z 47, gp_616, jl_z 3]
noncomputable def cu_2496 : List CUT2 := [((2, [lq 0 6 0, lq 1 0 0, lq 2 0 0], [], gi_2455, hq_936), [], ([], 54)), ((2, [lq 0 6 0, lq 1 0 0, lq 2 0 3], [], gi_2455, hq_936), [], ([], 51)), ((2, [lq 0 6 0, lq 1 0 0, lq 2 0 6], [], gi_2455, hq_936), [], ([], 48)), ((2, [lq 0 6 0, lq 1 0 0, lq 2 0 9], [], gi_2455, hq_936), [], ([], 45)), ((2, [lq 0 6 0, lq 1 0 0, lq 2 0 12], [], gi_2455, hq_936), [], ([], 42)), ((2, [lq 0 6 0, lq 1 0 0, lq 2 0 15], [], gi_2455, hq_936), [], ([], 39)), ((2, [lq 0 6 0, lq 1 0 0, lq 2 0 18], [], gi_2455, hq_936), [], ([], 36)), ((2, [lq 0 6 0, lq 1 0 0, lq 2 0 21], [], gi_2455, hq_936), [], ([], 33)), ((2, [lq 0 6 0, lq 1 0 0, lq 2 0 24], [], gi_2455, hq_936), [], ([], 30)), ((2, [lq 0 6 0, lq 1 0 0, lq 2 0 27], [], gi_2455, hq_936), [], ([], 27)), ((2, [lq 0 6 0, lq 1 0 0, lq 2 0 30], [], gi_2455, hq_936), [], ([], 24)), ((2, [lq 0 6 0, lq 1 0 0, lq 2 0 33], [], gi_2455, hq_936), [], ([], 21)), ((2, [lq 0 6 0, lq 1 0 0, lq 2 0 36], [], gi_2455, hq_936), [], ([], 18)), ((2, [lq 0 6 0, lq 1 0 0, lq 2 0 39], [], gi_2455, hq_936), [], ([], 15)), ((2, [lq 0 6 0, lq 1 0 0, lq 2 0 42], [], gi_2455, hq_936), [], ([], 12)), ((2, [lq 0 6 0, lq 1 0 0, lq 2 0 45], [], gi_2455, hq_936), [], ([], 9)), ((2, [lq 0 6 0, lq 1 0 0, lq 2 0 48], [], gi_2455, hq_936), [], ([], 6)), ((2, [lq 0 6 0, lq 1 0 0, lq 2 0 51], [], gi_2455, hq_936), [], ([], 3)), ((2, [lq 0 6 0, lq 1 0 0, lq 2 0 54], [], gi_2455, hq_936), [], ([], 0))]
theorem ch_2496 : staG tb_X12_isSeen 1 bt_RX12 [] ct_2496 [] [] cu_2496 37 con_2496 = true := by decide +kernel
theorem cc_2496 : cu_2496.all (cutG tb_X12_isSeen 1 bt_RX12 [] ct_2496 [] [] cu_2496 37 con_2496) = true := by decide +kernel
theorem cto_2496 (l : Launch) : CTOK2 l RX12 vwCl gTbl ct_2496 := ct2_cons (vl_2484 l) ck_RX12_417_2484 (ct2_cons (vl_2481 l) ck_RX12_417_2481 (ct2_cons (vl_2478 l) ck_RX12_417_2478 (ct2_cons (vl_2475 l) ck_RX12_417_2475 (ct2_cons (vl_2472 l) ck_RX12_417_2472 (ct2_cons (vl_2469 l) ck_RX12_417_2469 (ct2_cons (vl_2466 l) ck_RX12_417_2466 (ct2_cons (vl_2463 l) ck_RX12_417_2463 (ct2_cons (vl_2460 l) ck_RX12_417_2460 (ct2_cons (vl_2457 l) ck_RX12_417_2457 (ct2_cons (vl_2454 l) ck_RX12_417_2454 (ct2_cons (vl_2451 l) ck_RX12_417_2451 (ct2_cons (vl_2448 l) ck_RX12_417_2448 (ct2_cons (vl_2445 l) ck_RX12_417_2445 (ct2_cons (vl_2442 l) ck_RX12_417_2442 (ct2_cons (vl_2438 l) ck_RX12_417_2438 (ct2_cons (vl_2435 l) ck_RX12_417_2435 (ct2_cons (vl_2432 l) ck_RX12_417_2432 (ct2_cons (vl_2485 l) ck_RX12_417_2485 (ct2_cons (vl_2482 l) ck_RX12_417_2482 (ct2_cons (vl_2479 l) ck_RX12_417_2479 (ct2_cons (vl_2476 l) ck_RX12_417_2476 (ct2_cons (vl_2473 l) ck_RX12_417_2473 (ct2_cons (vl_2470 l) ck_RX12_417_2470 (ct2_cons (vl_2467 l) ck_RX12_417_2467 (ct2_cons (vl_2464 l) ck_RX12_417_2464 (ct2_cons (vl_2461 l) ck_RX12_417_2461 (ct2_cons (vl_2458 l) ck_RX12_417_2458 (ct2_cons (vl_2455 l) ck_RX12_417_2455 (ct2_cons (vl_2452 l) ck_RX12_417_2452 (ct2_cons (vl_2449 l) ck_RX12_417_2449 (ct2_cons (vl_2446 l) ck_RX12_417_2446 (ct2_cons (vl_2443 l) ck_RX12_417_2443 (ct2_cons (vl_2439 l) ck_RX12_417_2439 (ct2_cons (vl_2436 l) ck_RX12_417_2436 (ct2_cons (vl_2433 l) ck_RX12_417_2433 (ct2_cons (vl_2486 l) ck_RX12_417_2486 (ct2_cons (vl_2483 l) ck_RX12_417_2483 (ct2_cons (vl_2480 l) ck_RX12_417_2480 (ct2_cons (vl_2477 l) ck_RX12_417_2477 (ct2_cons (vl_2474 l) ck_RX12_417_2474 (ct2_cons (vl_2471 l) ck_RX12_417_2471 (ct2_cons (vl_2468 l) ck_RX12_417_2468 (ct2_cons (vl_2465 l) ck_RX12_417_2465 (ct2_cons (vl_2462 l) ck_RX12_417_2462 (ct2_cons (vl_2459 l) ck_RX12_417_2459 (ct2_cons (vl_2456 l) ck_RX12_417_2456 (ct2_cons (vl_2453 l) ck_RX12_417_2453 (ct2_cons (vl_2450 l) ck_RX12_417_2450 (ct2_cons (vl_2447 l) ck_RX12_417_2447 (ct2_cons (vl_2444 l) ck_RX12_417_2444 (ct2_cons (vl_2440 l) ck_RX12_417_2440 (ct2_cons (vl_2437 l) ck_RX12_417_2437 (ct2_cons (vl_2434 l) ck_RX12_417_2434 (ct2_nil))))))))))))))))))))))))))))))))))))))))))))))))))))))
theorem vl_2496 (l : Launch) : Vld2 l vwCl gTbl con_2496 := conR_ok3 gT_all (hd_2496) rfl pn_RX12 tk_X12_isSeen bo_RX12 xo_RX12 (cto_2496 l) ch_2496 (cut_all cc_2496)
