/-! ===== contracts, 28 ===== -/
/-- RookHusting$Slots at -/
noncomputable def ac_891 : AC := .inr (2, jl_n [js_5 141 9223372036854775807 9223372036854775807, js_4 7 1, js_5 98 9223372036854775807 9223372036854775807])
noncomputable def hq_723 : HP := [(false, .inl (8, [(6, 1, 0), (8, 4, 0), (8, 5, 0)])), (false, ac_891)]
noncomputable def con_1344 : Con2 := ((yX8_at, cX8_at, 3, (some .long)), (0, 0), ([(6, 0, 0), (0, 2, 0), (0, 21, 0)], gi_928, [.inl (8, [(6, 1, 0), (8, 4, 0), (8, 5, 0)]), ac_891], []), [((4, 6, 0), gi_929, hq_723, [], [1])])
theorem hd_1344 : con_1344.1 = (yX8_at, cX8_at, 3, (some .long)) := rfl
noncomputable def cu_1344 : List CUT2 := []
theorem ch_1344 : staG tb_X8_at 1 bt_RX8 [] ct_1253 [] [] cu_1344 11 con_1344 = true := by decide +kernel
theorem vl_1344 (l : Launch) : Vld2 l vwCl gTbl con_1344 := conR_ok3 gT_all (hd_1344) rfl pn_RX8 tk_X8_at bo_RX8 xo_RX8 (cto_1253 l) ch_1344 cut_nil
/-- RookHusting$Slots at -/
noncomputable def ac_892 : AC := .inr (2, jl_n [js_5 142 9223372036854775807 9223372036854775807, js_4 7 1, js_5 97 9223372036854775807 9223372036854775807])
noncomputable def hq_724 : HP := [(false, .inl (8, [(6, 1, 0), (8, 4, 0), (8, 5, 0)])), (false, ac_892)]
noncomputable def con_1345 : Con2 := ((yX8_at, cX8_at, 3, (some .long)), (0, 0), ([(6, 0, 0), (0, 2, 0), (0, 22, 0)], gi_928, [.inl (8, [(6, 1, 0), (8, 4, 0), (8, 5, 0)]), ac_892], []), [((4, 6, 0), gi_929, hq_724, [], [1])])
theorem hd_1345 : con_1345.1 = (yX8_at, cX8_at, 3, (some .long)) := rfl
noncomputable def cu_1345 : List CUT2 := []
theorem ch_1345 : staG tb_X8_at 1 bt_RX8 [] ct_1253 [] [] cu_1345 11 con_1345 = true := by decide +kernel
theorem vl_1345 (l : Launch) : Vld2 l vwCl gTbl con_1345 := conR_ok3 gT_all (hd_1345) rfl pn_RX8 tk_X8_at bo_RX8 xo_RX8 (cto_1253 l) ch_1345 cut_nil
/-- RookHusting$Slots at -/
noncomputable def ac_893 : AC := .inr (2, jl_n [js_5 143 9223372036854775807 9223372036854775807, js_4 7 1, js_5 96 9223372036854775807 9223372036854775807])
noncomputable def hq_725 : HP := [(false, .inl (8, [(6, 1, 0), (8, 4, 0), (8, 5, 0)])), (false, ac_893)]
noncomputable def con_1346 : Con2 := ((yX8_at, cX8_at, 3, (some .long)), (0, 0), ([(6, 0, 0), (0, 2, 0), (0, 23, 0)], gi_928, [.inl (8, [(6, 1, 0), (8, 4, 0), (8, 5, 0)]), ac_893], []), [((4, 6, 0), gi_929, hq_725, [], [1])])
theorem hd_1346 : con_1346.1 = (yX8_at, cX8_at, 3, (some .long)) := rfl
noncomputable def cu_1346 : List CUT2 := []
theorem ch_1346 : staG tb_X8_at 1 bt_RX8 [] ct_1253 [] [] cu_1346 11 con_1346 = true := by decide +kernel
theorem vl_1346 (l : Launch) : Vld2 l vwCl gTbl con_1346 := conR_ok3 gT_all (hd_1346) rfl pn_RX8 tk_X8_at bo_RX8 xo_RX8 (cto_1253 l) ch_1346 cut_nil
/-- RookHusting$Slots at -/
noncomputable def ac_894 : AC := .inr (2, jl_n [js_5 144 9223372036854775807 9223372036854775807, js_4 7 1, js_5 95 9223372036854775807 9223372036854775807])
noncomputable def hq_726 : HP := [(false, .inl (8, [(6, 1, 0), (8, 4, 0), (8, 5, 0)])), (false, ac_894)]
noncomputable def con_1347 : Con2 := ((yX8_at, cX8_at, 3, (some .long)), (0, 0), ([(6, 0, 0), (0, 2, 0), (0, 24, 0)], gi_928, [.inl (8, [(6, 1, 0), (8, 4, 0), (8, 5, 0)]), ac_894], []), [((4, 6, 0), gi_929, hq_726, [], [1])])
theorem hd_1347 : con_1347.1 = (yX8_at, cX8_at, 3, (some .long)) := rfl
noncomputable def cu_1347 : List CUT2 := []
theorem ch_1347 : staG tb_X8_at 1 bt_RX8 [] ct_1253 [] [] cu_1347 11 con_1347 = true := by decide +kernel
theorem vl_1347 (l : Launch) : Vld2 l vwCl gTbl con_1347 := conR_ok3 gT_all (hd_1347) rfl pn_RX8 tk_X8_at bo_RX8 xo_RX8 (cto_1253 l) ch_1347 cut_nil
/-- RookHusting$Slots at -/
noncomputable def ac_895 : AC := .inr (2, jl_n [js_5 145 9223372036854775807 9223372036854775807, js_4 7 1, js_5 94 9223372036854775807 9223372036854775807])
noncomputable def hq_727 : HP := [(false, .inl (8, [(6, 1, 0), (8, 4, 0), (8, 5, 0)])), (false, ac_895)]
noncomputable def con_1348 : Con2 := ((yX8_at, cX8_at, 3, (some .long)), (0, 0), ([(6, 0, 0), (0, 2, 0), (0, 25, 0)], gi_928, [.inl (8, [(6, 1, 0), (8, 4, 0), (8, 5, 0)]), ac_895], []), [((4, 6, 0), gi_929, hq_727, [], [1])])
theorem hd_1348 : con_1348.1 = (yX8_at, cX8_at, 3, (some .long)) := rfl
noncomputable def cu_1348 : List CUT2 := []
theorem ch_1348 : staG tb_X8_at 1 bt_RX8 [] ct_1253 [] [] cu_1348 11 con_1348 = true := by decide +kernel
theorem vl_1348 (l : Launch) : Vld2 l vwCl gTbl con_1348 := conR_ok3 gT_all (hd_1348) rfl pn_RX8 tk_X8_at bo_RX8 xo_RX8 (cto_1253 l) ch_1348 cut_nil
/-- RookHusting$Slots at -/
noncomputable def ac_896 : AC := .inr (2, jl_n [js_5 146 9223372036854775807 9223372036854775807, js_4 7 1, js_5 93 9223372036854775807 9223372036854775807])
noncomputable def hq_728 : HP := [(false, .inl (8, [(6, 1, 0), (8, 4, 0), (8, 5, 0)])), (false, ac_896)]
noncomputable def con_1349 : Con2 := ((yX8_at, cX8_at, 3, (some .long)), (0, 0), ([(6, 0, 0), (0, 2, 0), (0, 26, 0)], gi_928, [.inl (8, [(6, 1, 0), (8, 4, 0), (8, 5, 0)]), ac_896], []), [((4, 6, 0), gi_929, hq_728, [], [1])])
theorem hd_1349 : con_1349.1 = (yX8_at, cX8_at, 3, (some .long)) := rfl
noncomputable def cu_1349 : List CUT2 := []
theorem ch_1349 : staG tb_X8_at 1 bt_RX8 [] ct_1253 [] [] cu_1349 11 con_1349 = true := by decide +kernel
theorem vl_1349 (l : Launch) : Vld2 l vwCl gTbl con_1349 := conR_ok3 gT_all (hd_1349) rfl pn_RX8 tk_X8_at bo_RX8 xo_RX8 (cto_1253 l) ch_1349 cut_nil
/-- RookHusting$Slots at -/
noncomputable def ac_897 : AC := .inr (2, jl_n [js_5 147 9223372036854775807 9223372036854775807, js_4 7 1, js_5 92 9223372036854775807 9223372036854775807])
noncomputable def hq_729 : HP := [(false, .inl (8, [(6, 1, 0), (8, 4, 0), (8, 5, 0)])), (false, ac_897)]
noncomputable def con_1350 : Con2 := ((yX8_at, cX8_at, 3, (some .long)), (0, 0), ([(6, 0, 0), (0, 2, 0), (0, 27, 0)], gi_928, [.inl (8, [(6, 1, 0), (8, 4, 0), (8, 5, 0)]), ac_897], []), [((4, 6, 0), gi_929, hq_729, [], [1])])
theorem hd_1350 : con_1350.1 = (yX8_at, cX8_at, 3, (some .long)) := rfl
noncomputable def cu_1350 : List CUT2 := []
theorem ch_1350 : staG tb_X8_at 1 bt_RX8 [] ct_1253 [] [] cu_1350 11 con_1350 = true := by decide +kernel
theorem vl_1350 (l : Launch) : Vld2 l vwCl gTbl con_1350 := conR_ok3 gT_all (hd_1350) rfl pn_RX8 tk_X8_at bo_RX8 xo_RX8 (cto_1253 l) ch_1350 cut_nil
/-- RookHusting$Slots at -/
noncomputable def ac_898 : AC := .inr (2, jl_n [js_5 148 9223372036854775807 9223372036854775807, js_4 7 1, js_5 91 9223372036854775807 9223372036854775807])
noncomputable def hq_730 : HP := [(false, .inl (8, [(6, 1, 0), (8, 4, 0), (8, 5, 0)])), (false, ac_898)]
noncomputable def con_1351 : Con2 := ((yX8_at, cX8_at, 3, (some .long)), (0, 0), ([(6, 0, 0), (0, 2, 0), (0, 28, 0)], gi_928, [.inl (8, [(6, 1, 0), (8, 4, 0), (8, 5, 0)]), ac_898], []), [((4, 6, 0), gi_929, hq_730, [], [1])])
theorem hd_1351 : con_1351.1 = (yX8_at, cX8_at, 3, (some .long)) := rfl
noncomputable def cu_1351 : List CUT2 := []
theorem ch_1351 : staG tb_X8_at 1 bt_RX8 [] ct_1253 [] [] cu_1351 11 con_1351 = true := by decide +kernel
theorem vl_1351 (l : Launch) : Vld2 l vwCl gTbl con_1351 := conR_ok3 gT_all (hd_1351) rfl pn_RX8 tk_X8_at bo_RX8 xo_RX8 (cto_1253 l) ch_1351 cut_nil
/-- RookHusting$Slots at -/
noncomputable def ac_899 : AC := .inr (2, jl_n [js_5 149 9223372036854775807 9223372036854775807, js_4 7 1, js_5 90 9223372036854775807 9223372036854775807])
noncomputable def hq_731 : HP := [(false, .inl (8, [(6, 1, 0), (8, 4, 0), (8, 5, 0)])), (false, ac_899)]
noncomputable def con_1352 : Con2 := ((yX8_at, cX8_at, 3, (some .long)), (0, 0), ([(6, 0, 0), (0, 2, 0), (0, 29, 0)], gi_928, [.inl (8, [(6, 1, 0), (8, 4, 0), (8, 5, 0)]), ac_899], []), [((4, 6, 0), gi_929, hq_731, [], [1])])
theorem hd_1352 : con_1352.1 = (yX8_at, cX8_at, 3, (some .long)) := rfl
noncomputable def cu_1352 : List CUT2 := []
theorem ch_1352 : staG tb_X8_at 1 bt_RX8 [] ct_1253 [] [] cu_1352 11 con_1352 = true := by decide +kernel
theorem vl_1352 (l : Launch) : Vld2 l vwCl gTbl con_1352 := conR_ok3 gT_all (hd_1352) rfl pn_RX8 tk_X8_at bo_RX8 xo_RX8 (cto_1253 l) ch_1352 cut_nil
/-- RookHusting$Slots at -/
noncomputable def ac_900 : AC := .inr (2, jl_n [js_5 150 9223372036854775807 9223372036854775807, js_4 7 1, js_5 89 9223372036854775807 9223372036854775807])
noncomputable def hq_732 : HP := [(false, .inl (8, [(6, 1, 0), (8, 4, 0), (8, 5, 0)])), (false, ac_900)]
noncomputable def con_1353 : Con2 := ((yX8_at, cX8_at, 3, (some .long)), (0, 0), ([(6, 0, 0), (0, 2, 0), (0, 30, 0)], gi_928, [.inl (8, [(6, 1, 0), (8, 4, 0), (8, 5, 0)]), ac_900], []), [((4, 6, 0), gi_929, hq_732, [], [1])])
theorem hd_1353 : con_1353.1 = (yX8_at, cX8_at, 3, (some .long)) := rfl
noncomputable def cu_1353 : List CUT2 := []
theorem ch_1353 : staG tb_X8_at 1 bt_RX8 [] ct_1253 [] [] cu_1353 11 con_1353 = true := by decide +kernel
theorem vl_1353 (l : Launch) : Vld2 l vwCl gTbl con_1353 := conR_ok3 gT_all (hd_1353) rfl pn_RX8 tk_X8_at bo_RX8 xo_RX8 (cto_1253 l) ch_1353 cut_nil
/-- RookHusting$Slots at -/
noncomputable def ac_901 : AC := .inr (2, jl_n [js_5 151 9223372036854775807 9223372036854775807, js_4 7 1, js_5 88 9223372036854775807 9223372036854775807])
noncomputable def hq_733 : HP := [(false, .inl (8, [(6, 1, 0), (8, 4, 0), (8, 5, 0)])), (false, ac_901)]
noncomputable def con_1354 : Con2 := ((yX8_at, cX8_at, 3, (some .long)), (0, 0), ([(6, 0, 0), (0, 2, 0), (0, 31, 0)], gi_928, [.inl (8, [(6, 1, 0), (8, 4, 0), (8, 5, 0)]), ac_901], []), [((4, 6, 0), gi_929, hq_733, [], [1])])
theorem hd_1354 : con_1354.1 = (yX8_at, cX8_at, 3, (some .long)) := rfl
noncomputable def cu_1354 : List CUT2 := []
theorem ch_1354 : staG tb_X8_at 1 bt_RX8 [] ct_1253 [] [] cu_1354 11 con_1354 = true := by decide +kernel
theorem vl_1354 (l : Launch) : Vld2 l vwCl gTbl con_1354 := conR_ok3 gT_all (hd_1354) rfl pn_RX8 tk_X8_at bo_RX8 xo_RX8 (cto_1253 l) ch_1354 cut_nil
/-- RookHusting$Slots at -/
noncomputable def ac_902 : AC := .inr (2, jl_n [js_5 152 9223372036854775807 9223372036854775807, js_4 7 1, js_5 87 9223372036854775807 9223372036854775807])
noncomputable def hq_734 : HP := [(false, .inl (8, [(6, 1, 0), (8, 4, 0), (8, 5, 0)])), (false, ac_902)]
noncomputable def con_1355 : Con2 := ((yX8_at, cX8_at, 3, (some .long)), (0, 0), ([(6, 0, 0), (0, 2, 0), (0, 32, 0)], gi_928, [.inl (8, [(6, 1, 0), (8, 4, 0), (8, 5, 0)]), ac_902], []), [((4, 6, 0), gi_929, hq_734, [], [1])])
theorem hd_1355 : con_1355.1 = (yX8_at, cX8_at, 3, (some .long)) := rfl
noncomputable def cu_1355 : List CUT2 := []
theorem ch_1355 : staG tb_X8_at 1 bt_RX8 [] ct_1253 [] [] cu_1355 11 con_1355 = true := by decide +kernel
theorem vl_1355 (l : Launch) : Vld2 l vwCl gTbl con_1355 := conR_ok3 gT_all (hd_1355) rfl pn_RX8 tk_X8_at bo_RX8 xo_RX8 (cto_1253 l) ch_1355 cut_nil
/-- RookHusting$Slots at -/
noncomputable def ac_903 : AC := .inr (2, jl_n [js_5 153 9223372036854775807 9223372036854775807, js_4 7 1, js_5 86 9223372036854775807 9223372036854775807])
noncomputable def hq_735 : HP := [(false, .inl (8, [(6, 1, 0), (8, 4, 0), (8, 5, 0)])), (false, ac_903)]
noncomputable def con_1356 : Con2 := ((yX8_at, cX8_at, 3, (some .long)), (0, 0), ([(6, 0, 0), (0, 2, 0), (0, 33, 0)], gi_928, [.inl (8, [(6, 1, 0), (8, 4, 0), (8, 5, 0)]), ac_903], []), [((4, 6, 0), gi_929, hq_735, [], [1])])
theorem hd_1356 : con_1356.1 = (yX8_at, cX8_at, 3, (some .long)) := rfl
noncomputable def cu_1356 : List CUT2 := []
theorem ch_1356 : staG tb_X8_at 1 bt_RX8 [] ct_1253 [] [] cu_1356 11 con_1356 = true := by decide +kernel
theorem vl_1356 (l : Launch) : Vld2 l vwCl gTbl con_1356 := conR_ok3 gT_all (hd_1356) rfl pn_RX8 tk_X8_at bo_RX8 xo_RX8 (cto_1253 l) ch_1356 cut_nil
/-- RookHusting$Slots at -/
noncomputable def ac_904 : AC := .inr (2, jl_n [js_5 154 9223372036854775807 9223372036854775807, js_4 7 1, js_5 85 9223372036854775807 9223372036854775807])
noncomputable def hq_736 : HP := [(false, .inl (8, [(6, 1, 0), (8, 4, 0), (8, 5, 0)])), (false, ac_904)]
noncomputable def con_1357 : Con2 := ((yX8_at, cX8_at, 3, (some .long)), (0, 0), ([(6, 0, 0), (0, 2, 0), (0, 34, 0)], gi_928, [.inl (8, [(6, 1, 0), (8, 4, 0), (8, 5, 0)]), ac_904], []), [((4, 6, 0), gi_929, hq_736, [], [1])])
theorem hd_1357 : con_1357.1 = (yX8_at, cX8_at, 3, (some .long)) := rfl
noncomputable def cu_1357 : List CUT2 := []
theorem ch_1357 : staG tb_X8_at 1 bt_RX8 [] ct_1253 [] [] cu_1357 11 con_1357 = true := by decide +kernel
theorem vl_1357 (l : Launch) : Vld2 l vwCl gTbl con_1357 := conR_ok3 gT_all (hd_1357) rfl pn_RX8 tk_X8_at bo_RX8 xo_RX8 (cto_1253 l) ch_1357 cut_nil
/-- RookHusting$Slots at -/
noncomputable def ac_905 : AC := .inr (2, jl_n [js_5 155 9223372036854775807 9223372036854775807, js_4 7 1, js_5 84 9223372036854775807 9223372036854775807])
noncomputable def hq_737 : HP := [(false, .inl (8, [(6, 1, 0), (8, 4, 0), (8, 5, 0)])), (false, ac_905)]
noncomputable def con_1358 : Con2 := ((yX8_at, cX8_at, 3, (some .long)), (0, 0), ([(6, 0, 0), (0, 2, 0), (0, 35, 0)], gi_928, [.inl (8, [(6, 1, 0), (8, 4, 0), (8, 5, 0)]), ac_905], []), [((4, 6, 0), gi_929, hq_737, [], [1])])
theorem hd_1358 : con_1358.1 = (yX8_at, cX8_at, 3, (some .long)) := rfl
noncomputable def cu_1358 : List CUT2 := []
theorem ch_1358 : staG tb_X8_at 1 bt_RX8 [] ct_1253 [] [] cu_1358 11 con_1358 = true := by decide +kernel
theorem vl_1358 (l : Launch) : Vld2 l vwCl gTbl con_1358 := conR_ok3 gT_all (hd_1358) rfl pn_RX8 tk_X8_at bo_RX8 xo_RX8 (cto_1253 l) ch_1358 cut_nil
/-- RookHusting$Slots at -/
noncomputable def ac_906 : AC := .inr (2, jl_n [js_5 156 9223372036854775807 9223372036854775807, js_4 7 1, js_5 83 9223372036854775807 9223372036854775807])
noncomputable def hq_738 : HP := [(false, .inl (8, [(6, 1, 0), (8, 4, 0), (8, 5, 0)])), (false, ac_906)]
noncomputable def con_1359 : Con2 := ((yX8_at, cX8_at, 3, (some .long)), (0, 0), ([(6, 0, 0), (0, 2, 0), (0, 36, 0)], gi_928, [.inl (8, [(6, 1, 0), (8, 4, 0), (8, 5, 0)]), ac_906], []), [((4, 6, 0), gi_929, hq_738, [], [1])])
theorem hd_1359 : con_1359.1 = (yX8_at, cX8_at, 3, (some .long)) := rfl
noncomputable def cu_1359 : List CUT2 := []
theorem ch_1359 : staG tb_X8_at 1 bt_RX8 [] ct_1253 [] [] cu_1359 11 con_1359 = true := by decide +kernel
theorem vl_1359 (l : Launch) : Vld2 l vwCl gTbl con_1359 := conR_ok3 gT_all (hd_1359) rfl pn_RX8 tk_X8_at bo_RX8 xo_RX8 (cto_1253 l) ch_1359 cut_nil
/-- RookHusting$Slots at -/
noncomputable def ac_907 : AC := .inr (2, jl_n [js_5 157 9223372036854775807 9223372036854775807, js_4 7 1, js_5 82 9223372036854775807 9223372036854775807])
noncomputable def hq_739 : HP := [(false, .inl (8, [(6, 1, 0), (8, 4, 0), (8, 5, 0)])), (false, ac_907)]
noncomputable def con_1360 : Con2 := ((yX8_at, cX8_at, 3, (some .long)), (0, 0), ([(6, 0, 0), (0, 2, 0), (0, 37, 0)], gi_928, [.inl (8, [(6, 1, 0), (8, 4, 0), (8, 5, 0)]), ac_907], []), [((4, 6, 0), gi_929, hq_739, [], [1])])
theorem hd_1360 : con_1360.1 = (yX8_at, cX8_at, 3, (some .long)) := rfl
noncomputable def cu_1360 : List CUT2 := []
theorem ch_1360 : staG tb_X8_at 1 bt_RX8 [] ct_1253 [] [] cu_1360 11 con_1360 = true := by decide +kernel
theorem vl_1360 (l : Launch) : Vld2 l vwCl gTbl con_1360 := conR_ok3 gT_all (hd_1360) rfl pn_RX8 tk_X8_at bo_RX8 xo_RX8 (cto_1253 l) ch_1360 cut_nil
/-- RookHusting$Slots at -/
noncomputable def ac_908 : AC := .inr (2, jl_n [js_5 158 9223372036854775807 9223372036854775807, js_4 7 1, js_5 81 9223372036854775807 9223372036854775807])
noncomputable def hq_740 : HP := [(false, .inl (8, [(6, 1, 0), (8, 4, 0), (8, 5, 0)])), (false, ac_908)]
noncomputable def con_1361 : Con2 := ((yX8_at, cX8_at, 3, (some .long)), (0, 0), ([(6, 0, 0), (0, 2, 0), (0, 38, 0)], gi_928, [.inl (8, [(6, 1, 0), (8, 4, 0), (8, 5, 0)]), ac_908], []), [((4, 6, 0), gi_929, hq_740, [], [1])])
theorem hd_1361 : con_1361.1 = (yX8_at, cX8_at, 3, (some .long)) := rfl
noncomputable def cu_1361 : List CUT2 := []
theorem ch_1361 : staG tb_X8_at 1 bt_RX8 [] ct_1253 [] [] cu_1361 11 con_1361 = true := by decide +kernel
theorem vl_1361 (l : Launch) : Vld2 l vwCl gTbl con_1361 := conR_ok3 gT_all (hd_1361) rfl pn_RX8 tk_X8_at bo_RX8 xo_RX8 (cto_1253 l) ch_1361 cut_nil
/-- RookHusting$Slots at -/
noncomputable def ac_909 : AC := .inr (2, jl_n [js_5 159 9223372036854775807 9223372036854775807, js_4 7 1, js_5 80 9223372036854775807 9223372036854775807])
noncomputable def hq_741 : HP := [(false, .inl (8, [(6, 1, 0), (8, 4, 0), (8, 5, 0)])), (false, ac_909)]
noncomputable def con_1362 : Con2 := ((yX8_at, cX8_at, 3, (some .long)), (0, 0), ([(6, 0, 0), (0, 2, 0), (0, 39, 0)], gi_928, [.inl (8, [(6, 1, 0), (8, 4, 0), (8, 5, 0)]), ac_909], []), [((4, 6, 0), gi_929, hq_741, [], [1])])
theorem hd_1362 : con_1362.1 = (yX8_at, cX8_at, 3, (some .long)) := rfl
noncomputable def cu_1362 : List CUT2 := []
theorem ch_1362 : staG tb_X8_at 1 bt_RX8 [] ct_1253 [] [] cu_1362 11 con_1362 = true := by decide +kernel
theorem vl_1362 (l : Launch) : Vld2 l vwCl gTbl con_1362 := conR_ok3 gT_all (hd_1362) rfl pn_RX8 tk_X8_at bo_RX8 xo_RX8 (cto_1253 l) ch_1362 cut_nil
/-- RookHusting$Slots at -/
noncomputable def ac_910 : AC := .inr (2, jl_n [js_5 160 9223372036854775807 9223372036854775807, js_4 7 1, js_5 79 9223372036854775807 9223372036854775807])
noncomputable def hq_742 : HP := [(false, .inl (8, [(6, 1, 0), (8, 4, 0), (8, 5, 0)])), (false, ac_910)]
noncomputable def con_1363 : Con2 := ((yX8_at, cX8_at, 3, (some .long)), (0, 0), ([(6, 0, 0), (0, 2, 0), (0, 40, 0)], gi_928, [.inl (8, [(6, 1, 0), (8, 4, 0), (8, 5, 0)]), ac_910], []), [((4, 6, 0), gi_929, hq_742, [], [1])])
theorem hd_1363 : con_1363.1 = (yX8_at, cX8_at, 3, (some .long)) := rfl
noncomputable def cu_1363 : List CUT2 := []
theorem ch_1363 : staG tb_X8_at 1 bt_RX8 [] ct_1253 [] [] cu_1363 11 con_1363 = true := by decide +kernel
theorem vl_1363 (l : Launch) : Vld2 l vwCl gTbl con_1363 := conR_ok3 gT_all (hd_1363) rfl pn_RX8 tk_X8_at bo_RX8 xo_RX8 (cto_1253 l) ch_1363 cut_nil
/-- RookHusting$Slots at -/
noncomputable def ac_911 : AC := .inr (2, jl_n [js_5 161 9223372036854775807 9223372036854775807, js_4 7 1, js_5 78 9223372036854775807 9223372036854775807])
noncomputable def hq_743 : HP := [(false, .inl (8, [(6, 1, 0), (8, 4, 0), (8, 5, 0)])), (false, ac_911)]
noncomputable def con_1364 : Con2 := ((yX8_at, cX8_at, 3, (some .long)), (0, 0), ([(6, 0, 0), (0, 2, 0), (0, 41, 0)], gi_928, [.inl (8, [(6, 1, 0), (8, 4, 0), (8, 5, 0)]), ac_911], []), [((4, 6, 0), gi_929, hq_743, [], [1])])
theorem hd_1364 : con_1364.1 = (yX8_at, cX8_at, 3, (some .long)) := rfl
noncomputable def cu_1364 : List CUT2 := []
theorem ch_1364 : staG tb_X8_at 1 bt_RX8 [] ct_1253 [] [] cu_1364 11 con_1364 = true := by decide +kernel
theorem vl_1364 (l : Launch) : Vld2 l vwCl gTbl con_1364 := conR_ok3 gT_all (hd_1364) rfl pn_RX8 tk_X8_at bo_RX8 xo_RX8 (cto_1253 l) ch_1364 cut_nil
/-- RookHusting$Slots at -/
noncomputable def ac_912 : AC := .inr (2, jl_n [js_5 162 9223372036854775807 9223372036854775807, js_4 7 1, js_5 77 9223372036854775807 9223372036854775807])
noncomputable def hq_744 : HP := [(false, .inl (8, [(6, 1, 0), (8, 4, 0), (8, 5, 0)])), (false, ac_912)]
noncomputable def con_1365 : Con2 := ((yX8_at, cX8_at, 3, (some .long)), (0, 0), ([(6, 0, 0), (0, 2, 0), (0, 42, 0)], gi_928, [.inl (8, [(6, 1, 0), (8, 4, 0), (8, 5, 0)]), ac_912], []), [((4, 6, 0), gi_929, hq_744, [], [1])])
theorem hd_1365 : con_1365.1 = (yX8_at, cX8_at, 3, (some .long)) := rfl
noncomputable def cu_1365 : List CUT2 := []
theorem ch_1365 : staG tb_X8_at 1 bt_RX8 [] ct_1253 [] [] cu_1365 11 con_1365 = true := by decide +kernel
theorem vl_1365 (l : Launch) : Vld2 l vwCl gTbl con_1365 := conR_ok3 gT_all (hd_1365) rfl pn_RX8 tk_X8_at bo_RX8 xo_RX8 (cto_1253 l) ch_1365 cut_nil
/-- RookHusting$Slots at -/
noncomputable def ac_913 : AC := .inr (2, jl_n [js_5 163 9223372036854775807 9223372036854775807, js_4 7 1, js_5 76 9223372036854775807 9223372036854775807])
noncomputable def hq_745 : HP := [(false, .inl (8, [(6, 1, 0), (8, 4, 0), (8, 5, 0)])), (false, ac_913)]
noncomputable def con_1366 : Con2 := ((yX8_at, cX8_at, 3, (some .long)), (0, 0), ([(6, 0, 0), (0, 2, 0), (0, 43, 0)], gi_928, [.inl (8, [(6, 1, 0), (8, 4, 0), (8, 5, 0)]), ac_913], []), [((4, 6, 0), gi_929, hq_745, [], [1])])
theorem hd_1366 : con_1366.1 = (yX8_at, cX8_at, 3, (some .long)) := rfl
noncomputable def cu_1366 : List CUT2 := []
theorem ch_1366 : staG tb_X8_at 1 bt_RX8 [] ct_1253 [] [] cu_1366 11 con_1366 = true := by decide +kernel
theorem vl_1366 (l : Launch) : Vld2 l vwCl gTbl con_1366 := conR_ok3 gT_all (hd_1366) rfl pn_RX8 tk_X8_at bo_RX8 xo_RX8 (cto_1253 l) ch_1366 cut_nil
/-- RookHusting$Slots at -/
noncomputable def ac_914 : AC := .inr (2, jl_n [js_5 164 9223372036854775807 9223372036854775807, js_4 7 1, js_5 75 9223372036854775807 9223372036854775807])
noncomputable def hq_746 : HP := [(false, .inl (8, [(6, 1, 0), (8, 4, 0), (8, 5, 0)])), (false, ac_914)]
noncomputable def con_1367 : Con2 := ((yX8_at, cX8_at, 3, (some .long)), (0, 0), ([(6, 0, 0), (0, 2, 0), (0, 44, 0)], gi_928, [.inl (8, [(6, 1, 0), (8, 4, 0), (8, 5, 0)]), ac_914], []), [((4, 6, 0), gi_929, hq_746, [], [1])])
theorem hd_1367 : con_1367.1 = (yX8_at, cX8_at, 3, (some .long)) := rfl
noncomputable def cu_1367 : List CUT2 := []
theorem ch_1367 : staG tb_X8_at 1 bt_RX8 [] ct_1253 [] [] cu_1367 11 con_1367 = true := by decide +kernel
theorem vl_1367 (l : Launch) : Vld2 l vwCl gTbl con_1367 := conR_ok3 gT_all (hd_1367) rfl pn_RX8 tk_X8_at bo_RX8 xo_RX8 (cto_1253 l) ch_1367 cut_nil
/-- RookHusting$Slots at -/
noncomputable def ac_915 : AC := .inr (2, jl_n [js_5 165 9223372036854775807 9223372036854775807, js_4 7 1, js_5 74 9223372036854775807 9223372036854775807])
noncomputable def hq_747 : HP := [(false, .inl (8, [(6, 1, 0), (8, 4, 0), (8, 5, 0)])), (false, ac_915)]
noncomputable def con_1368 : Con2 := ((yX8_at, cX8_at, 3, (some .long)), (0, 0), ([(6, 0, 0), (0, 2, 0), (0, 45, 0)], gi_928, [.inl (8, [(6, 1, 0), (8, 4, 0), (8, 5, 0)]), ac_915], []), [((4, 6, 0), gi_929, hq_747, [], [1])])
theorem hd_1368 : con_1368.1 = (yX8_at, cX8_at, 3, (some .long)) := rfl
noncomputable def cu_1368 : List CUT2 := []
theorem ch_1368 : staG tb_X8_at 1 bt_RX8 [] ct_1253 [] [] cu_1368 11 con_1368 = true := by decide +kernel
theorem vl_1368 (l : Launch) : Vld2 l vwCl gTbl con_1368 := conR_ok3 gT_all (hd_1368) rfl pn_RX8 tk_X8_at bo_RX8 xo_RX8 (cto_1253 l) ch_1368 cut_nil
/-- RookHusting$Slots at -/
noncomputable def ac_916 : AC := .inr (2, jl_n [js_5 166 9223372036854775807 9223372036854775807, js_4 7 1, js_5 73 9223372036854775807 9223372036854775807])
noncomputable def hq_748 : HP := [(false, .inl (8, [(6, 1, 0), (8, 4, 0), (8, 5, 0)])), (false, ac_916)]
noncomputable def con_1369 : Con2 := ((yX8_at, cX8_at, 3, (some .long)), (0, 0), ([(6, 0, 0), (0, 2, 0), (0, 46, 0)], gi_928, [.inl (8, [(6, 1, 0), (8, 4, 0), (8, 5, 0)]), ac_916], []), [((4, 6, 0), gi_929, hq_748, [], [1])])
theorem hd_1369 : con_1369.1 = (yX8_at, cX8_at, 3, (some .long)) := rfl
noncomputable def cu_1369 : List CUT2 := []
theorem ch_1369 : staG tb_X8_at 1 bt_RX8 [] ct_1253 [] [] cu_1369 11 con_1369 = true := by decide +kernel
theorem vl_1369 (l : Launch) : Vld2 l vwCl gTbl con_1369 := conR_ok3 gT_all (hd_1369) rfl pn_RX8 tk_X8_at bo_RX8 xo_RX8 (cto_1253 l) ch_1369 cut_nil
/-- RookHusting$Slots at -/
noncomputable def ac_917 : AC := .inr (2, jl_n [js_5 167 9223372036854775807 9223372036854775807, js_4 7 1, js_5 72 9223372036854775807 9223372036854775807])
noncomputable def hq_749 : HP := [(false, .inl (8, [(6, 1, 0), (8, 4, 0), (8, 5, 0)])), (false, ac_917)]
noncomputable def con_1370 : Con2 := ((yX8_at, cX8_at, 3, (some .long)), (0, 0), ([(6, 0, 0), (0, 2, 0), (0, 47, 0)], gi_928, [.inl (8, [(6, 1, 0), (8, 4, 0), (8, 5, 0)]), ac_917], []), [((4, 6, 0), gi_929, hq_749, [], [1])])
theorem hd_1370 : con_1370.1 = (yX8_at, cX8_at, 3, (some .long)) := rfl
noncomputable def cu_1370 : List CUT2 := []
theorem ch_1370 : staG tb_X8_at 1 bt_RX8 [] ct_1253 [] [] cu_1370 11 con_1370 = true := by decide +kernel
theorem vl_1370 (l : Launch) : Vld2 l vwCl gTbl con_1370 := conR_ok3 gT_all (hd_1370) rfl pn_RX8 tk_X8_at bo_RX8 xo_RX8 (cto_1253 l) ch_1370 cut_nil
/-- RookHusting$Slots at -/
noncomputable def ac_918 : AC := .inr (2, jl_n [js_5 168 9223372036854775807 9223372036854775807, js_4 7 1, js_5 71 9223372036854775807 9223372036854775807])
noncomputable def hq_750 : HP := [(false, .inl (8, [(6, 1, 0), (8, 4, 0), (8, 5, 0)])), (false, ac_918)]
noncomputable def con_1371 : Con2 := ((yX8_at, cX8_at, 3, (some .long)), (0, 0), ([(6, 0, 0), (0, 2, 0), (0, 48, 0)], gi_928, [.inl (8, [(6, 1, 0), (8, 4, 0), (8, 5, 0)]), ac_918], []), [((4, 6, 0), gi_929, hq_750, [], [1])])
theorem hd_1371 : con_1371.1 = (yX8_at, cX8_at, 3, (some .long)) := rfl
noncomputable def cu_1371 : List CUT2 := []
theorem ch_1371 : staG tb_X8_at 1 bt_RX8 [] ct_1253 [] [] cu_1371 11 con_1371 = true := by decide +kernel
theorem vl_1371 (l : Launch) : Vld2 l vwCl gTbl con_1371 := conR_ok3 gT_all (hd_1371) rfl pn_RX8 tk_X8_at bo_RX8 xo_RX8 (cto_1253 l) ch_1371 cut_nil
/-- RookHusting$Slots at -/
noncomputable def ac_919 : AC := .inr (2, jl_n [js_5 169 9223372036854775807 9223372036854775807, js_4 7 1, js_5 70 9223372036854775807 9223372036854775807])
noncomputable def hq_751 : HP := [(false, .inl (8, [(6, 1, 0), (8, 4, 0), (8, 5, 0)])), (false, ac_919)]
noncomputable def con_1372 : Con2 := ((yX8_at, cX8_at, 3, (some .long)), (0, 0), ([(6, 0, 0), (0, 2, 0), (0, 49, 0)], gi_928, [.inl (8, [(6, 1, 0), (8, 4, 0), (8, 5, 0)]), ac_919], []), [((4, 6, 0), gi_929, hq_751, [], [1])])
theorem hd_1372 : con_1372.1 = (yX8_at, cX8_at, 3, (some .long)) := rfl
noncomputable def cu_1372 : List CUT2 := []
theorem ch_1372 : staG tb_X8_at 1 bt_RX8 [] ct_1253 [] [] cu_1372 11 con_1372 = true := by decide +kernel
theorem vl_1372 (l : Launch) : Vld2 l vwCl gTbl con_1372 := conR_ok3 gT_all (hd_1372) rfl pn_RX8 tk_X8_at bo_RX8 xo_RX8 (cto_1253 l) ch_1372 cut_nil
/-- RookHusting$Slots at -/
noncomputable def ac_920 : AC := .inr (2, jl_n [js_5 170 9223372036854775807 9223372036854775807, js_4 7 1, js_5 69 9223372036854775807 9223372036854775807])
noncomputable def hq_752 : HP := [(false, .inl (8, [(6, 1, 0), (8, 4, 0), (8, 5, 0)])), (false, ac_920)]
noncomputable def con_1373 : Con2 := ((yX8_at, cX8_at, 3, (some .long)), (0, 0), ([(6, 0, 0), (0, 2, 0), (0, 50, 0)], gi_928, [.inl (8, [(6, 1, 0), (8, 4, 0), (8, 5, 0)]), ac_920], []), [((4, 6, 0), gi_929, hq_752, [], [1])])
theorem hd_1373 : con_1373.1 = (yX8_at, cX8_at, 3, (some .long)) := rfl
noncomputable def cu_1373 : List CUT2 := []
theorem ch_1373 : staG tb_X8_at 1 bt_RX8 [] ct_1253 [] [] cu_1373 11 con_1373 = true := by decide +kernel
theorem vl_1373 (l : Launch) : Vld2 l vwCl gTbl con_1373 := conR_ok3 gT_all (hd_1373) rfl pn_RX8 tk_X8_at bo_RX8 xo_RX8 (cto_1253 l) ch_1373 cut_nil
/-- RookHusting$Slots at -/
noncomputable def ac_921 : AC := .inr (2, jl_n [js_5 171 9223372036854775807 9223372036854775807, js_4 7 1, js_5 68 9223372036854775807 9223372036854775807])
noncomputable def hq_753 : HP := [(false, .inl (8, [(6, 1, 0), (8, 4, 0), (8, 5, 0)])), (false, ac_921)]
noncomputable def con_1374 : Con2 := ((yX8_at, cX8_at, 3, (some .long)), (0, 0), ([(6, 0, 0), (0, 2, 0), (0, 51, 0)], gi_928, [.inl (8, [(6, 1, 0), (8, 4, 0), (8, 5, 0)]), ac_921], []), [((4, 6, 0), gi_929, hq_753, [], [1])])
theorem hd_1374 : con_1374.1 = (yX8_at, cX8_at, 3, (some .long)) := rfl
noncomputable def cu_1374 : List CUT2 := []
theorem ch_1374 : staG tb_X8_at 1 bt_RX8 [] ct_1253 [] [] cu_1374 11 con_1374 = true := by decide +kernel
theorem vl_1374 (l : Launch) : Vld2 l vwCl gTbl con_1374 := conR_ok3 gT_all (hd_1374) rfl pn_RX8 tk_X8_at bo_RX8 xo_RX8 (cto_1253 l) ch_1374 cut_nil
/-- RookHusting$Slots at -/
noncomputable def ac_922 : AC := .inr (2, jl_n [js_5 172 9223372036854775807 9223372036854775807, js_4 7 1, js_5 67 9223372036854775807 9223372036854775807])
noncomputable def hq_754 : HP := [(false, .inl (8, [(6, 1, 0), (8, 4, 0), (8, 5, 0)])), (false, ac_922)]
noncomputable def con_1375 : Con2 := ((yX8_at, cX8_at, 3, (some .long)), (0, 0), ([(6, 0, 0), (0, 2, 0), (0, 52, 0)], gi_928, [.inl (8, [(6, 1, 0), (8, 4, 0), (8, 5, 0)]), ac_922], []), [((4, 6, 0), gi_929, hq_754, [], [1])])
theorem hd_1375 : con_1375.1 = (yX8_at, cX8_at, 3, (some .long)) := rfl
noncomputable def cu_1375 : List CUT2 := []
theorem ch_1375 : staG tb_X8_at 1 bt_RX8 [] ct_1253 [] [] cu_1375 11 con_1375 = true := by decide +kernel
theorem vl_1375 (l : Launch) : Vld2 l vwCl gTbl con_1375 := conR_ok3 gT_all (hd_1375) rfl pn_RX8 tk_X8_at bo_RX8 xo_RX8 (cto_1253 l) ch_1375 cut_nil
/-- RookHusting$Slots at -/
noncomputable def ac_923 : AC := .inr (2, jl_n [js_5 173 9223372036854775807 9223372036854775807, js_4 7 1, js_5 66 9223372036854775807 9223372036854775807])
noncomputable def hq_755 : HP := [(false, .inl (8, [(6, 1, 0), (8, 4, 0), (8, 5, 0)])), (false, ac_923)]
noncomputable def con_1376 : Con2 := ((yX8_at, cX8_at, 3, (some .long)), (0, 0), ([(6, 0, 0), (0, 2, 0), (0, 53, 0)], gi_928, [.inl (8, [(6, 1, 0), (8, 4, 0), (8, 5, 0)]), ac_923], []), [((4, 6, 0), gi_929, hq_755, [], [1])])
theorem hd_1376 : con_1376.1 = (yX8_at, cX8_at, 3, (some .long)) := rfl
noncomputable def cu_1376 : List CUT2 := []
theorem ch_1376 : staG tb_X8_at 1 bt_RX8 [] ct_1253 [] [] cu_1376 11 con_1376 = true := by decide +kernel
theorem vl_1376 (l : Launch) : Vld2 l vwCl gTbl con_1376 := conR_ok3 gT_all (hd_1376) rfl pn_RX8 tk_X8_at bo_RX8 xo_RX8 (cto_1253 l) ch_1376 cut_nil
/-- RookHusting$Slots at -/
noncomputable def ac_924 : AC := .inr (2, jl_n [js_5 174 9223372036854775807 9223372036854775807, js_4 7 1, js_5 65 9223372036854775807 9223372036854775807])
noncomputable def hq_756 : HP := [(false, .inl (8, [(6, 1, 0), (8, 4, 0), (8, 5, 0)])), (false, ac_924)]
noncomputable def con_1377 : Con2 := ((yX8_at, cX8_at, 3, (some .long)), (0, 0), ([(6, 0, 0), (0, 2, 0), (0, 54, 0)], gi_928, [.inl (8, [(6, 1, 0), (8, 4, 0), (8, 5, 0)]), ac_924], []), [((4, 6, 0), gi_929, hq_756, [], [1])])
theorem hd_1377 : con_1377.1 = (yX8_at, cX8_at, 3, (some .long)) := rfl
noncomputable def cu_1377 : List CUT2 := []
theorem ch_1377 : staG tb_X8_at 1 bt_RX8 [] ct_1253 [] [] cu_1377 11 con_1377 = true := by decide +kernel
theorem vl_1377 (l : Launch) : Vld2 l vwCl gTbl con_1377 := conR_ok3 gT_all (hd_1377) rfl pn_RX8 tk_X8_at bo_RX8 xo_RX8 (cto_1253 l) ch_1377 cut_nil
/-- RookHusting$Slots at -/
noncomputable def ac_925 : AC := .inr (2, jl_n [js_5 175 9223372036854775807 9223372036854775807, js_4 7 1, js_5 64 9223372036854775807 9223372036854775807])
noncomputable def hq_757 : HP := [(false, .inl (8, [(6, 1, 0), (8, 4, 0), (8, 5, 0)])), (false, ac_925)]
noncomputable def con_1378 : Con2 := ((yX8_at, cX8_at, 3, (some .long)), (0, 0), ([(6, 0, 0), (0, 2, 0), (0, 55, 0)], gi_928, [.inl (8, [(6, 1, 0), (8, 4, 0), (8, 5, 0)]), ac_925], []), [((4, 6, 0), gi_929, hq_757, [], [1])])
theorem hd_1378 : con_1378.1 = (yX8_at, cX8_at, 3, (some .long)) := rfl
noncomputable def cu_1378 : List CUT2 := []
theorem ch_1378 : staG tb_X8_at 1 bt_RX8 [] ct_1253 [] [] cu_1378 11 con_1378 = true := by decide +kernel
theorem vl_1378 (l : Launch) : Vld2 l vwCl gTbl con_1378 := conR_ok3 gT_all (hd_1378) rfl pn_RX8 tk_X8_at bo_RX8 xo_RX8 (cto_1253 l) ch_1378 cut_nil
/-- RookHusting$Slots at -/
noncomputable def ac_926 : AC := .inr (2, jl_n [js_5 176 9223372036854775807 9223372036854775807, js_4 7 1, js_5 63 9223372036854775807 9223372036854775807])
noncomputable def hq_758 : HP := [(false, .inl (8, [(6, 1, 0), (8, 4, 0), (8, 5, 0)])), (false, ac_926)]
noncomputable def con_1379 : Con2 := ((yX8_at, cX8_at, 3, (some .long)), (0, 0), ([(6, 0, 0), (0, 2, 0), (0, 56, 0)], gi_928, [.inl (8, [(6, 1, 0), (8, 4, 0), (8, 5, 0)]), ac_926], []), [((4, 6, 0), gi_929, hq_758, [], [1])])
theorem hd_1379 : con_1379.1 = (yX8_at, cX8_at, 3, (some .long)) := rfl
noncomputable def cu_1379 : List CUT2 := []
theorem ch_1379 : staG tb_X8_at 1 bt_RX8 [] ct_1253 [] [] cu_1379 11 con_1379 = true := by decide +kernel
theorem vl_1379 (l : Launch) : Vld2 l vwCl gTbl con_1379 := conR_ok3 gT_all (hd_1379) rfl pn_RX8 tk_X8_at bo_RX8 xo_RX8 (cto_1253 l) ch_1379 cut_nil
/-- RookHusting$Slots at -/
noncomputable def ac_927 : AC := .inr (2, jl_n [js_5 177 9223372036854775807 9223372036854775807, js_4 7 1, js_5 62 9223372036854775807 9223372036854775807])
noncomputable def hq_759 : HP := [(false, .inl (8, [(6, 1, 0), (8, 4, 0), (8, 5, 0)])), (false, ac_927)]
noncomputable def con_1380 : Con2 := ((yX8_at, cX8_at, 3, (some .long)), (0, 0), ([(6, 0, 0), (0, 2, 0), (0, 57, 0)], gi_928, [.inl (8, [(6, 1, 0), (8, 4, 0), (8, 5, 0)]), ac_927], []), [((4, 6, 0), gi_929, hq_759, [], [1])])
theorem hd_1380 : con_1380.1 = (yX8_at, cX8_at, 3, (some .long)) := rfl
noncomputable def cu_1380 : List CUT2 := []
theorem ch_1380 : staG tb_X8_at 1 bt_RX8 [] ct_1253 [] [] cu_1380 11 con_1380 = true := by decide +kernel
theorem vl_1380 (l : Launch) : Vld2 l vwCl gTbl con_1380 := conR_ok3 gT_all (hd_1380) rfl pn_RX8 tk_X8_at bo_RX8 xo_RX8 (cto_1253 l) ch_1380 cut_nil
/-- RookHusting$Slots at -/
noncomputable def ac_928 : AC := .inr (2, jl_n [js_5 178 9223372036854775807 9223372036854775807, js_4 7 1, js_5 61 9223372036854775807 9223372036854775807])
noncomputable def hq_760 : HP := [(false, .inl (8, [(6, 1, 0), (8, 4, 0), (8, 5, 0)])), (false, ac_928)]
noncomputable def con_1381 : Con2 := ((yX8_at, cX8_at, 3, (some .long)), (0, 0), ([(6, 0, 0), (0, 2, 0), (0, 58, 0)], gi_928, [.inl (8, [(6, 1, 0), (8, 4, 0), (8, 5, 0)]), ac_928], []), [((4, 6, 0), gi_929, hq_760, [], [1])])
theorem hd_1381 : con_1381.1 = (yX8_at, cX8_at, 3, (some .long)) := rfl
noncomputable def cu_1381 : List CUT2 := []
theorem ch_1381 : staG tb_X8_at 1 bt_RX8 [] ct_1253 [] [] cu_1381 11 con_1381 = true := by decide +kernel
theorem vl_1381 (l : Launch) : Vld2 l vwCl gTbl con_1381 := conR_ok3 gT_all (hd_1381) rfl pn_RX8 tk_X8_at bo_RX8 xo_RX8 (cto_1253 l) ch_1381 cut_nil
/-- RookHusting$Slots at -/
noncomputable def ac_929 : AC := .inr (2, jl_n [js_5 179 9223372036854775807 9223372036854775807, js_4 7 1, js_5 60 9223372036854775807 9223372036854775807])
noncomputable def hq_761 : HP := [(false, .inl (8, [(6, 1, 0), (8, 4, 0), (8, 5, 0)])), (false, ac_929)]
noncomputable def con_1382 : Con2 := ((yX8_at, cX8_at, 3, (some .long)), (0, 0), ([(6, 0, 0), (0, 2, 0), (0, 59, 0)], gi_928, [.inl (8, [(6, 1, 0), (8, 4, 0), (8, 5, 0)]), ac_929], []), [((4, 6, 0), gi_929, hq_761, [], [1])])
theorem hd_1382 : con_1382.1 = (yX8_at, cX8_at, 3, (some .long)) := rfl
noncomputable def cu_1382 : List CUT2 := []
theorem ch_1382 : staG tb_X8_at 1 bt_RX8 [] ct_1253 [] [] cu_1382 11 con_1382 = true := by decide +kernel
theorem vl_1382 (l : Launch) : Vld2 l vwCl gTbl con_1382 := conR_ok3 gT_all (hd_1382) rfl pn_RX8 tk_X8_at bo_RX8 xo_RX8 (cto_1253 l) ch_1382 cut_nil
/-- RookHusting wrongSeen -/
noncomputable def ac_930 : AC := .inr (2, jl_n [js_5 120 9223372036854775807 9223372036854775807, js_4 105 60, js_5 60 9223372036854775807 9223372036854775807])
noncomputable def hc_193 : List AC := [ac_804, .inl (9, [(6, 2, 0), (8, 20, 0)]), ac_805, .inl (8, [(6, 5, 0), (8, 39, 0), (6, 4, 0)]), ac_806, ac_930]
noncomputable def hq_762 : HP := [(false, ac_804), (false, .inl (9, [(6, 2, 0), (8, 20, 0)])), (false, ac_805), (false, .inl (8, [(6, 5, 0), (8, 39, 0), (6, 4, 0)])), (false, ac_806), (false, ac_930)]
noncomputable def gi_980 : GI := jl_n [gp_494, jl_k 0 0, gp_495, jl_z 1]
noncomputable def gi_981 : GI := jl_n [gp_494, gp_496, jl_z 1]
noncomputable def gi_982 : GI := jl_n [gp_494, gp_498, jl_z 1]
noncomputable def gi_983 : GI := jl_n [gp_494, gp_500, jl_z 1]
noncomputable def gi_984 : GI := jl_n [gp_494, gp_502, jl_z 1]
noncomputable def gi_985 : GI := jl_n [gp_494, gp_504, jl_z 1]
noncomputable def gi_986 : GI := jl_n [gp_494, gp_507, jl_z 1]
noncomputable def gi_987 : GI := jl_n [gp_494, gp_509, jl_z 1]
noncomputable def gi_988 : GI := jl_n [gp_494, gp_511, jl_z 1]
noncomputable def gi_989 : GI := jl_n [gp_494, gp_513, jl_z 1]
noncomputable def gi_990 : GI := jl_n [gp_494, gp_515, jl_z 1]
noncomputable def gi_991 : GI := jl_n [gp_494, gp_517, jl_z 1]
noncomputable def gi_992 : GI := jl_n [gp_494, gp_519, jl_z 1]
noncomputable def gi_993 : GI := jl_n [gp_494, gp_521, jl_z 1]
noncomputable def gi_994 : GI := jl_n [gp_494, gp_523, jl_z 1]
noncomputable def gi_995 : GI := jl_n [gp_494, gp_525, jl_z 1]
noncomputable def gi_996 : GI := jl_n [gp_494, gp_527, jl_z 1]
noncomputable def gi_997 : GI := jl_n [gp_494, gp_529, jl_z 1]
noncomputable def gi_998 : GI := jl_n [gp_494, gp_531, jl_z 1]
noncomputable def gi_999 : GI := jl_n [gp_494, gp_533, jl_z 1]
noncomputable def gi_1000 : GI := jl_n [gp_494, gp_534, jl_z 1]
noncomputable def gi_1001 : GI := jl_n [gp_494, gp_536, jl_z 1]
noncomputable def con_1383 : Con2 := ((yX11_wrongSeen, cX11_wrongSeen, 5, (some .int)), (1, 22), ([(6, 0, 0), (0, 2, 0), (1, 2, 0)], gi_933, hc_193, []), [((0, (-2), 0), gi_934, hq_762, [], [1]), ((0, (-6), 0), gi_980, hq_762, [], [1]), ((0, 0, 0), gi_981, hq_762, [], [1]), ((0, 0, 0), gi_982, hq_762, [], [1]), ((0, 0, 0), gi_983, hq_762, [], [1]), ((0, 0, 0), gi_984, hq_762, [], [1]), ((0, 0, 0), gi_985, hq_762, [], [1]), ((0, 0, 0), gi_986, hq_762, [], [1]), ((0, 0, 0), gi_987, hq_762, [], [1]), ((0, 0, 0), gi_988, hq_762, [], [1]), ((0, 0, 0), gi_989, hq_762, [], [1]), ((0, 0, 0), gi_990, hq_762, [], [1]), ((0, 0, 0), gi_991, hq_762, [], [1]), ((0, 0, 0), gi_992, hq_762, [], [1]), ((0, 0, 0), gi_993, hq_762, [], [1]), ((0, 0, 0), gi_994, hq_762, [], [1]), ((0, 0, 0), gi_995, hq_762, [], [1]), ((0, 0, 0), gi_996, hq_762, [], [1]), ((0, 0, 0), gi_997, hq_762, [], [1]), ((0, 0, 0), gi_998, hq_762, [], [1]), ((0, 0, 0), gi_999, hq_762, [], [1]), ((0, 0, 0), gi_1000, hq_762, [], [1]), ((0, 0, 0), gi_1001, hq_762, [], [1])])
theorem hd_1383 : con_1383.1 = (yX11_wrongSeen, cX11_wrongSeen, 5, (some .int)) := rfl
theorem ck_RX11_473_1325 : COK2 RX11 vwCl gTbl 473 0 con_1325 := ⟨wd_1218, wd_131, mh_X8_at, .inr (.inr ⟨rfl, wd_1215, wd_1216, wd_1217, ⟨_, rfl, pd_X8_at⟩, 8, _, TX8, 3, rfl, rfl⟩)⟩
theorem ck_RX11_473_1328 : COK2 RX11 vwCl gTbl 473 0 con_1328 := ⟨wd_1218, wd_131, mh_X8_at, .inr (.inr ⟨rfl, wd_1215, wd_1216, wd_1217, ⟨_, rfl, pd_X8_at⟩, 8, _, TX8, 3, rfl, rfl⟩)⟩
theorem ck_RX11_473_1331 : COK2 RX11 vwCl gTbl 473 0 con_1331 := ⟨wd_1218, wd_131, mh_X8_at, .inr (.inr ⟨rfl, wd_1215, wd_1216, wd_1217, ⟨_, rfl, pd_X8_at⟩, 8, _, TX8, 3, rfl, rfl⟩)⟩
theorem ck_RX11_473_1334 : COK2 RX11 vwCl gTbl 473 0 con_1334 := ⟨wd_1218, wd_131, mh_X8_at, .inr (.inr ⟨rfl, wd_1215, wd_1216, wd_1217, ⟨_, rfl, pd_X8_at⟩, 8, _, TX8, 3, rfl, rfl⟩)⟩
theorem ck_RX11_473_1337 : COK2 RX11 vwCl gTbl 473 0 con_1337 := ⟨wd_1218, wd_131, mh_X8_at, .inr (.inr ⟨rfl, wd_1215, wd_1216, wd_1217, ⟨_, rfl, pd_X8_at⟩, 8, _, TX8, 3, rfl, rfl⟩)⟩
theorem ck_RX11_473_1340 : COK2 RX11 vwCl gTbl 473 0 con_1340 := ⟨wd_1218, wd_131, mh_X8_at, .inr (.inr ⟨rfl, wd_1215, wd_1216, wd_1217, ⟨_, rfl, pd_X8_at⟩, 8, _, TX8, 3, rfl, rfl⟩)⟩
theorem ck_RX11_473_1343 : COK2 RX11 vwCl gTbl 473 0 con_1343 := ⟨wd_1218, wd_131, mh_X8_at, .inr (.inr ⟨rfl, wd_1215, wd_1216, wd_1217, ⟨_, rfl, pd_X8_at⟩, 8, _, TX8, 3, rfl, rfl⟩)⟩
theorem ck_RX11_473_1346 : COK2 RX11 vwCl gTbl 473 0 con_1346 := ⟨wd_1218, wd_131, mh_X8_at, .inr (.inr ⟨rfl, wd_1215, wd_1216, wd_1217, ⟨_, rfl, pd_X8_at⟩, 8, _, TX8, 3, rfl, rfl⟩)⟩
theorem ck_RX11_473_1349 : COK2 RX11 vwCl gTbl 473 0 con_1349 := ⟨wd_1218, wd_131, mh_X8_at, .inr (.inr ⟨rfl, wd_1215, wd_1216, wd_1217, ⟨_, rfl, pd_X8_at⟩, 8, _, TX8, 3, rfl, rfl⟩)⟩
theorem ck_RX11_473_1352 : COK2 RX11 vwCl gTbl 473 0 con_1352 := ⟨wd_1218, wd_131, mh_X8_at, .inr (.inr ⟨rfl, wd_1215, wd_1216, wd_1217, ⟨_, rfl, pd_X8_at⟩, 8, _, TX8, 3, rfl, rfl⟩)⟩
theorem ck_RX11_473_1355 : COK2 RX11 vwCl gTbl 473 0 con_1355 := ⟨wd_1218, wd_131, mh_X8_at, .inr (.inr ⟨rfl, wd_1215, wd_1216, wd_1217, ⟨_, rfl, pd_X8_at⟩, 8, _, TX8, 3, rfl, rfl⟩)⟩
theorem ck_RX11_473_1358 : COK2 RX11 vwCl gTbl 473 0 con_1358 := ⟨wd_1218, wd_131, mh_X8_at, .inr (.inr ⟨rfl, wd_1215, wd_1216, wd_1217, ⟨_, rfl, pd_X8_at⟩, 8, _, TX8, 3, rfl, rfl⟩)⟩
theorem ck_RX11_473_1361 : COK2 RX11 vwCl gTbl 473 0 con_1361 := ⟨wd_1218, wd_131, mh_X8_at, .inr (.inr ⟨rfl, wd_1215, wd_1216, wd_1217, ⟨_, rfl, pd_X8_at⟩, 8, _, TX8, 3, rfl, rfl⟩)⟩
theorem ck_RX11_473_1364 : COK2 RX11 vwCl gTbl 473 0 con_1364 := ⟨wd_1218, wd_131, mh_X8_at, .inr (.inr ⟨rfl, wd_1215, wd_1216, wd_1217, ⟨_, rfl, pd_X8_at⟩, 8, _, TX8, 3, rfl, rfl⟩)⟩
theorem ck_RX11_473_1367 : COK2 RX11 vwCl gTbl 473 0 con_1367 := ⟨wd_1218, wd_131, mh_X8_at, .inr (.inr ⟨rfl, wd_1215, wd_1216, wd_1217, ⟨_, rfl, pd_X8_at⟩, 8, _, TX8, 3, rfl, rfl⟩)⟩
theorem ck_RX11_473_1370 : COK2 RX11 vwCl gTbl 473 0 con_1370 := ⟨wd_1218, wd_131, mh_X8_at, .inr (.inr ⟨rfl, wd_1215, wd_1216, wd_1217, ⟨_, rfl, pd_X8_at⟩, 8, _, TX8, 3, rfl, rfl⟩)⟩
theorem ck_RX11_473_1373 : COK2 RX11 vwCl gTbl 473 0 con_1373 := ⟨wd_1218, wd_131, mh_X8_at, .inr (.inr ⟨rfl, wd_1215, wd_1216, wd_1217, ⟨_, rfl, pd_X8_at⟩, 8, _, TX8, 3, rfl, rfl⟩)⟩
theorem ck_RX11_473_1376 : COK2 RX11 vwCl gTbl 473 0 con_1376 := ⟨wd_1218, wd_131, mh_X8_at, .inr (.inr ⟨rfl, wd_1215, wd_1216, wd_1217, ⟨_, rfl, pd_X8_at⟩, 8, _, TX8, 3, rfl, rfl⟩)⟩
theorem ck_RX11_473_1379 : COK2 RX11 vwCl gTbl 473 0 con_1379 := ⟨wd_1218, wd_131, mh_X8_at, .inr (.inr ⟨rfl, wd_1215, wd_1216, wd_1217, ⟨_, rfl, pd_X8_at⟩, 8, _, TX8, 3, rfl, rfl⟩)⟩
theorem ck_RX11_473_1382 : COK2 RX11 vwCl gTbl 473 0 con_1382 := ⟨wd_1218, wd_131, mh_X8_at, .inr (.inr ⟨rfl, wd_1215, wd_1216, wd_1217, ⟨_, rfl, pd_X8_at⟩, 8, _, TX8, 3, rfl, rfl⟩)⟩
theorem ck_RX11_473_1324 : COK2 RX11 vwCl gTbl 473 0 con_1324 := ⟨wd_1218, wd_131, mh_X8_at, .inr (.inr ⟨rfl, wd_1215, wd_1216, wd_1217, ⟨_, rfl, pd_X8_at⟩, 8, _, TX8, 3, rfl, rfl⟩)⟩
theorem ck_RX11_473_1327 : COK2 RX11 vwCl gTbl 473 0 con_1327 := ⟨wd_1218, wd_131, mh_X8_at, .inr (.inr ⟨rfl, wd_1215, wd_1216, wd_1217, ⟨_, rfl, pd_X8_at⟩, 8, _, TX8, 3, rfl, rfl⟩)⟩
theorem ck_RX11_473_1330 : COK2 RX11 vwCl gTbl 473 0 con_1330 := ⟨wd_1218, wd_131, mh_X8_at, .inr (.inr ⟨rfl, wd_1215, wd_1216, wd_1217, ⟨_, rfl, pd_X8_at⟩, 8, _, TX8, 3, rfl, rfl⟩)⟩
theorem ck_RX11_473_1333 : COK2 RX11 vwCl gTbl 473 0 con_1333 := ⟨wd_1218, wd_131, mh_X8_at, .inr (.inr ⟨rfl, wd_1215, wd_1216, wd_1217, ⟨_, rfl, pd_X8_at⟩, 8, _, TX8, 3, rfl, rfl⟩)⟩
theorem ck_RX11_473_1336 : COK2 RX11 vwCl gTbl 473 0 con_1336 := ⟨wd_1218, wd_131, mh_X8_at, .inr (.inr ⟨rfl, wd_1215, wd_1216, wd_1217, ⟨_, rfl, pd_X8_at⟩, 8, _, TX8, 3, rfl, rfl⟩)⟩
theorem ck_RX11_473_1339 : COK2 RX11 vwCl gTbl 473 0 con_1339 := ⟨wd_1218, wd_131, mh_X8_at, .inr (.inr ⟨rfl, wd_1215, wd_1216, wd_1217, ⟨_, rfl, pd_X8_at⟩, 8, _, TX8, 3, rfl, rfl⟩)⟩
theorem ck_RX11_473_1342 : COK2 RX11 vwCl gTbl 473 0 con_1342 := ⟨wd_1218, wd_131, mh_X8_at, .inr (.inr ⟨rfl, wd_1215, wd_1216, wd_1217, ⟨_, rfl, pd_X8_at⟩, 8, _, TX8, 3, rfl, rfl⟩)⟩
theorem ck_RX11_473_1345 : COK2 RX11 vwCl gTbl 473 0 con_1345 := ⟨wd_1218, wd_131, mh_X8_at, .inr (.inr ⟨rfl, wd_1215, wd_1216, wd_1217, ⟨_, rfl, pd_X8_at⟩, 8, _, TX8, 3, rfl, rfl⟩)⟩
theorem ck_RX11_473_1348 : COK2 RX11 vwCl gTbl 473 0 con_1348 := ⟨wd_1218, wd_131, mh_X8_at, .inr (.inr ⟨rfl, wd_1215, wd_1216, wd_1217, ⟨_, rfl, pd_X8_at⟩, 8, _, TX8, 3, rfl, rfl⟩)⟩
theorem ck_RX11_473_1351 : COK2 RX11 vwCl gTbl 473 0 con_1351 := ⟨wd_1218, wd_131, mh_X8_at, .inr (.inr ⟨rfl, wd_1215, wd_1216, wd_1217, ⟨_, rfl, pd_X8_at⟩, 8, _, TX8, 3, rfl, rfl⟩)⟩
theorem ck_RX11_473_1354 : COK2 RX11 vwCl gTbl 473 0 con_1354 := ⟨wd_1218, wd_131, mh_X8_at, .inr (.inr ⟨rfl, wd_1215, wd_1216, wd_1217, ⟨_, rfl, pd_X8_at⟩, 8, _, TX8, 3, rfl, rfl⟩)⟩
theorem ck_RX11_473_1357 : COK2 RX11 vwCl gTbl 473 0 con_1357 := ⟨wd_1218, wd_131, mh_X8_at, .inr (.inr ⟨rfl, wd_1215, wd_1216, wd_1217, ⟨_, rfl, pd_X8_at⟩, 8, _, TX8, 3, rfl, rfl⟩)⟩
theorem ck_RX11_473_1360 : COK2 RX11 vwCl gTbl 473 0 con_1360 := ⟨wd_1218, wd_131, mh_X8_at, .inr (.inr ⟨rfl, wd_1215, wd_1216, wd_1217, ⟨_, rfl, pd_X8_at⟩, 8, _, TX8, 3, rfl, rfl⟩)⟩
theorem ck_RX11_473_1363 : COK2 RX11 vwCl gTbl 473 0 con_1363 := ⟨wd_1218, wd_131, mh_X8_at, .inr (.inr ⟨rfl, wd_1215, wd_1216, wd_1217, ⟨_, rfl, pd_X8_at⟩, 8, _, TX8, 3, rfl, rfl⟩)⟩
theorem ck_RX11_473_1366 : COK2 RX11 vwCl gTbl 473 0 con_1366 := ⟨wd_1218, wd_131, mh_X8_at, .inr (.inr ⟨rfl, wd_1215, wd_1216, wd_1217, ⟨_, rfl, pd_X8_at⟩, 8, _, TX8, 3, rfl, rfl⟩)⟩
theorem ck_RX11_473_1369 : COK2 RX11 vwCl gTbl 473 0 con_1369 := ⟨wd_1218, wd_131, mh_X8_at, .inr (.inr ⟨rfl, wd_1215, wd_1216, wd_1217, ⟨_, rfl, pd_X8_at⟩, 8, _, TX8, 3, rfl, rfl⟩)⟩
theorem ck_RX11_473_1372 : COK2 RX11 vwCl gTbl 473 0 con_1372 := ⟨wd_1218, wd_131, mh_X8_at, .inr (.inr ⟨rfl, wd_1215, wd_1216, wd_1217, ⟨_, rfl, pd_X8_at⟩, 8, _, TX8, 3, rfl, rfl⟩)⟩
theorem ck_RX11_473_1375 : COK2 RX11 vwCl gTbl 473 0 con_1375 := ⟨wd_1218, wd_131, mh_X8_at, .inr (.inr ⟨rfl, wd_1215, wd_1216, wd_1217, ⟨_, rfl, pd_X8_at⟩, 8, _, TX8, 3, rfl, rfl⟩)⟩
theorem ck_RX11_473_1378 : COK2 RX11 vwCl gTbl 473 0 con_1378 := ⟨wd_1218, wd_131, mh_X8_at, .inr (.inr ⟨rfl, wd_1215, wd_1216, wd_1217, ⟨_, rfl, pd_X8_at⟩, 8, _, TX8, 3, rfl, rfl⟩)⟩
theorem ck_RX11_473_1381 : COK2 RX11 vwCl gTbl 473 0 con_1381 := ⟨wd_1218, wd_131, mh_X8_at, .inr (.inr ⟨rfl, wd_1215, wd_1216, wd_1217, ⟨_, rfl, pd_X8_at⟩, 8, _, TX8, 3, rfl, rfl⟩)⟩
theorem ck_RX11_473_1323 : COK2 RX11 vwCl gTbl 473 0 con_1323 := ⟨wd_1218, wd_131, mh_X8_at, .inr (.inr ⟨rfl, wd_1215, wd_1216, wd_1217, ⟨_, rfl, pd_X8_at⟩, 8, _, TX8, 3, rfl, rfl⟩)⟩
theorem ck_RX11_473_1326 : COK2 RX11 vwCl gTbl 473 0 con_1326 := ⟨wd_1218, wd_131, mh_X8_at, .inr (.inr ⟨rfl, wd_1215, wd_1216, wd_1217, ⟨_, rfl, pd_X8_at⟩, 8, _, TX8, 3, rfl, rfl⟩)⟩
theorem ck_RX11_473_1329 : COK2 RX11 vwCl gTbl 473 0 con_1329 := ⟨wd_1218, wd_131, mh_X8_at, .inr (.inr ⟨rfl, wd_1215, wd_1216, wd_1217, ⟨_, rfl, pd_X8_at⟩, 8, _, TX8, 3, rfl, rfl⟩)⟩
theorem ck_RX11_473_1332 : COK2 RX11 vwCl gTbl 473 0 con_1332 := ⟨wd_1218, wd_131, mh_X8_at, .inr (.inr ⟨rfl, wd_1215, wd_1216, wd_1217, ⟨_, rfl, pd_X8_at⟩, 8, _, TX8, 3, rfl, rfl⟩)⟩
theorem ck_RX11_473_1335 : COK2 RX11 vwCl gTbl 473 0 con_1335 := ⟨wd_1218, wd_131, mh_X8_at, .inr (.inr ⟨rfl, wd_1215, wd_1216, wd_1217, ⟨_, rfl, pd_X8_at⟩, 8, _, TX8, 3, rfl, rfl⟩)⟩
theorem ck_RX11_473_1338 : COK2 RX11 vwCl gTbl 473 0 con_1338 := ⟨wd_1218, wd_131, mh_X8_at, .inr (.inr ⟨rfl, wd_1215, wd_1216, wd_1217, ⟨_, rfl, pd_X8_at⟩, 8, _, TX8, 3, rfl, rfl⟩)⟩
theorem ck_RX11_473_1341 : COK2 RX11 vwCl gTbl 473 0 con_1341 := ⟨wd_1218, wd_131, mh_X8_at, .inr (.inr ⟨rfl, wd_1215, wd_1216, wd_1217, ⟨_, rfl, pd_X8_at⟩, 8, _, TX8, 3, rfl, rfl⟩)⟩
theorem ck_RX11_473_1344 : COK2 RX11 vwCl gTbl 473 0 con_1344 := ⟨wd_1218, wd_131, mh_X8_at, .inr (.inr ⟨rfl, wd_1215, wd_1216, wd_1217, ⟨_, rfl, pd_X8_at⟩, 8, _, TX8, 3, rfl, rfl⟩)⟩
theorem ck_RX11_473_1347 : COK2 RX11 vwCl gTbl 473 0 con_1347 := ⟨wd_1218, wd_131, mh_X8_at, .inr (.inr ⟨rfl, wd_1215, wd_1216, wd_1217, ⟨_, rfl, pd_X8_at⟩, 8, _, TX8, 3, rfl, rfl⟩)⟩
theorem ck_RX11_473_1350 : COK2 RX11 vwCl gTbl 473 0 con_1350 := ⟨wd_1218, wd_131, mh_X8_at, .inr (.inr ⟨rfl, wd_1215, wd_1216, wd_1217, ⟨_, rfl, pd_X8_at⟩, 8, _, TX8, 3, rfl, rfl⟩)⟩
theorem ck_RX11_473_1353 : COK2 RX11 vwCl gTbl 473 0 con_1353 := ⟨wd_1218, wd_131, mh_X8_at, .inr (.inr ⟨rfl, wd_1215, wd_1216, wd_1217, ⟨_, rfl, pd_X8_at⟩, 8, _, TX8, 3, rfl, rfl⟩)⟩
theorem ck_RX11_473_1356 : COK2 RX11 vwCl gTbl 473 0 con_1356 := ⟨wd_1218, wd_131, mh_X8_at, .inr (.inr ⟨rfl, wd_1215, wd_1216, wd_1217, ⟨_, rfl, pd_X8_at⟩, 8, _, TX8, 3, rfl, rfl⟩)⟩
theorem ck_RX11_473_1359 : COK2 RX11 vwCl gTbl 473 0 con_1359 := ⟨wd_1218, wd_131, mh_X8_at, .inr (.inr ⟨rfl, wd_1215, wd_1216, wd_1217, ⟨_, rfl, pd_X8_at⟩, 8, _, TX8, 3, rfl, rfl⟩)⟩
theorem ck_RX11_473_1362 : COK2 RX11 vwCl gTbl 473 0 con_1362 := ⟨wd_1218, wd_131, mh_X8_at, .inr (.inr ⟨rfl, wd_1215, wd_1216, wd_1217, ⟨_, rfl, pd_X8_at⟩, 8, _, TX8, 3, rfl, rfl⟩)⟩
theorem ck_RX11_473_1365 : COK2 RX11 vwCl gTbl 473 0 con_1365 := ⟨wd_1218, wd_131, mh_X8_at, .inr (.inr ⟨rfl, wd_1215, wd_1216, wd_1217, ⟨_, rfl, pd_X8_at⟩, 8, _, TX8, 3, rfl, rfl⟩)⟩
theorem ck_RX11_473_1368 : COK2 RX11 vwCl gTbl 473 0 con_1368 := ⟨wd_1218, wd_131, mh_X8_at, .inr (.inr ⟨rfl, wd_1215, wd_1216, wd_1217, ⟨_, rfl, pd_X8_at⟩, 8, _, TX8, 3, rfl, rfl⟩)⟩
theorem ck_RX11_473_1371 : COK2 RX11 vwCl gTbl 473 0 con_1371 := ⟨wd_1218, wd_131, mh_X8_at, .inr (.inr ⟨rfl, wd_1215, wd_1216, wd_1217, ⟨_, rfl, pd_X8_at⟩, 8, _, TX8, 3, rfl, rfl⟩)⟩
theorem ck_RX11_473_1374 : COK2 RX11 vwCl gTbl 473 0 con_1374 := ⟨wd_1218, wd_131, mh_X8_at, .inr (.inr ⟨rfl, wd_1215, wd_1216, wd_1217, ⟨_, rfl, pd_X8_at⟩, 8, _, TX8, 3, rfl, rfl⟩)⟩
theorem ck_RX11_473_1377 : COK2 RX11 vwCl gTbl 473 0 con_1377 := ⟨wd_1218, wd_131, mh_X8_at, .inr (.inr ⟨rfl, wd_1215, wd_1216, wd_1217, ⟨_, rfl, pd_X8_at⟩, 8, _, TX8, 3, rfl, rfl⟩)⟩
theorem ck_RX11_473_1380 : COK2 RX11 vwCl gTbl 473 0 con_1380 := ⟨wd_1218, wd_131, mh_X8_at, .inr (.inr ⟨rfl, wd_1215, wd_1216, wd_1217, ⟨_, rfl, pd_X8_at⟩, 8, _, TX8, 3, rfl, rfl⟩)⟩
theorem ck_RX11_420_1322 : COK2 RX11 vwCl gTbl 420 0 con_1322 := ⟨wd_1214, wd_131, mh_X8_hasRow, .inr (.inr ⟨rfl, wd_1211, wd_1212, wd_1213, ⟨_, rfl, pd_X8_hasRow⟩, 8, _, TX8, 3, rfl, rfl⟩)⟩
theorem ck_RX11_414_1321 : COK2 RX11 vwCl gTbl 414 1 con_1321 := ⟨wd_1210, wd_131, mh_X8_isSlot, .inl ⟨rfl, wd_1208, wd_1209, pd_X8_isSlot⟩⟩
noncomputable def ct_1383 : CTB2 := [(1, 414, 1, con_1321, []), (9, 139, 0, con_643, [0, 1, 2]), (23, 420, 0, con_1322, [3, 4]), (67, 473, 0, con_1380, [3, 5]), (67, 473, 0, con_1377, [3, 5]), (67, 473, 0, con_1374, [3, 5]), (67, 473, 0, con_1371, [3, 5]), (67, 473, 0, con_1368, [3, 5]), (67, 473, 0, con_1365, [3, 5]), (67, 473, 0, con_1362, [3, 5]), (67, 473, 0, con_1359, [3, 5]), (67, 473, 0, con_1356, [3, 5]), (67, 473, 0, con_1353, [3, 5]), (67, 473, 0, con_1350, [3, 5]), (67, 473, 0, con_1347, [3, 5]), (67, 473, 0, con_1344, [3, 5]), (67, 473, 0, con_1341, [3, 5]), (67, 473, 0, con_1338, [3, 5]), (67, 473, 0, con_1335, [3, 5]), (67, 473, 0, con_1332, [3, 5]), (67, 473, 0, con_1329, [3, 5]), (67, 473, 0, con_1326, [3, 5]), (67, 473, 0, con_1323, [3, 5]), (82, 476, 1, con_1258, []), (97, 473, 0, con_1381, [3, 5]), (97, 473, 0, con_1378, [3, 5]), (97, 473, 0, con_1375, [3, 5]), (97, 473, 0, con_1372, [3, 5]), (97, 473, 0, con_1369, [3, 5]), (97, 473, 0, con_1366, [3, 5]), (97, 473, 0, con_1363, [3, 5]), (97, 473, 0, con_1360, [3, 5]), (97, 473, 0, con_1357, [3, 5]), (97, 473, 0, con_1354, [3, 5]), (97, 473, 0, con_1351, [3, 5]), (97, 473, 0, con_1348, [3, 5]), (97, 473, 0, con_1345, [3, 5]), (97, 473, 0, con_1342, [3, 5]), (97, 473, 0, con_1339, [3, 5]), (97, 473, 0, con_1336, [3, 5]), (97, 473, 0, con_1333, [3, 5]), (97, 473, 0, con_1330, [3, 5]), (97, 473, 0, con_1327, [3, 5]), (97, 473, 0, con_1324, [3, 5]), (110, 476, 1, con_1260, []), (125, 473, 0, con_1382, [3, 5]), (125, 473, 0, con_1379, [3, 5]), (125, 473, 0, con_1376, [3, 5]), (125, 473, 0, con_1373, [3, 5]), (125, 473, 0, con_1370, [3, 5]), (125, 473, 0, con_1367, [3, 5]), (125, 473, 0, con_1364, [3, 5]), (125, 473, 0, con_1361, [3, 5]), (125, 473, 0, con_1358, [3, 5]), (125, 473, 0, con_1355, [3, 5]), (125, 473, 0, con_1352, [3, 5]), (125, 473, 0, con_1349, [3, 5]), (125, 473, 0, con_1346, [3, 5]), (125, 473, 0, con_1343, [3, 5]), (125, 473, 0, con_1340, [3, 5]), (125, 473, 0, con_1337, [3, 5]), (125, 473, 0, con_1334, [3, 5]), (125, 473, 0, con_1331, [3, 5]), (125, 473, 0, con_1328, [3, 5]), (125, 473, 0, con_1325, [3, 5]), (131, 476, 1, con_1262, [])]
noncomputable def gi_1002 : GI := jl_n [gp_494, gp_492, jl_r 60 (jl_u), jl_z 5]
noncomputable def gi_1003 : GI := jl_n [gp_494, jl_i 1 60, gp_510, jl_z 5]
noncomputable def gi_1004 : GI := jl_n [gp_494, jl_i 4 60, gp_532, jl_z 5]
noncomputable def gi_1005 : GI := jl_n [gp_494, jl_i 7 60, gp_535, jl_z 5]
noncomputable def gi_1006 : GI := jl_n [gp_494, jl_i 10 60, gp_497, jl_z 5]
noncomputable def gi_1007 : GI := jl_n [gp_494, jl_i 13 60, gp_499, jl_z 5]
noncomputable def gi_1008 : GI := jl_n [gp_494, jl_i 16 60, gp_501, jl_z 5]
noncomputable def gi_1009 : GI := jl_n [gp_494, jl_i 19 60, gp_503, jl_z 5]
noncomputable def gi_1010 : GI := jl_n [gp_494, jl_i 22 60, gp_506, jl_z 5]
noncomputable def gi_1011 : GI := jl_n [gp_494, jl_i 25 60, gp_508, jl_z 5]
noncomputable def gi_1012 : GI := jl_n [gp_494, jl_i 28 60, gp_512, jl_z 5]
noncomputable def gi_1013 : GI := jl_n [gp_494, jl_i 31 60, gp_514, jl_z 5]
noncomputable def gi_1014 : GI := jl_n [gp_494, jl_i 34 60, gp_516, jl_z 5]
noncomputable def gi_1015 : GI := jl_n [gp_494, jl_i 37 60, gp_518, jl_z 5]
noncomputable def gi_1016 : GI := jl_n [gp_494, jl_i 40 60, gp_520, jl_z 5]
noncomputable def gi_1017 : GI := jl_n [gp_494, jl_i 43 60, gp_522, jl_z 5]
noncomputable def gi_1018 : GI := jl_n [gp_494, jl_i 46 60, gp_524, jl_z 5]
noncomputable def gi_1019 : GI := jl_n [gp_494, jl_i 49 60, gp_526, jl_z 5]
noncomputable def gi_1020 : GI := jl_n [gp_494, jl_i 52 60, gp_528, jl_z 5]
noncomputable def gi_1021 : GI := jl_n [gp_494, jl_i 55 60, jl_m 0 60, gp_490]
noncomputable def gi_1022 : GI := jl_n [gp_494, gp_534, jl_z 5]
noncomputable def cu_1383_0 : List CUT2 := [((54, [lq 0 6 0, lq 1 0 2, lq 2 1 2, lq 3 1 43, lq 4 0 0], [], gi_1002, hq_762), [], ([], 60)), ((54, [lq 0 6 0, lq 1 0 2, lq 2 1 2, lq 3 1 43, lq 4 0 3], [], gi_1003, hq_762), [], ([], 57)), ((54, [lq 0 6 0, lq 1 0 2, lq 2 1 2, lq 3 1 43, lq 4 0 6], [], gi_1004, hq_762), [], ([], 54)), ((54, [lq 0 6 0, lq 1 0 2, lq 2 1 2, lq 3 1 43, lq 4 0 9], [], gi_1005, hq_762), [], ([], 51)), ((54, [lq 0 6 0, lq 1 0 2, lq 2 1 2, lq 3 1 43, lq 4 0 12], [], gi_1006, hq_762), [], ([], 48)), ((54, [lq 0 6 0, lq 1 0 2, lq 2 1 2, lq 3 1 43, lq 4 0 15], [], gi_1007, hq_762), [], ([], 45)), ((54, [lq 0 6 0, lq 1 0 2, lq 2 1 2, lq 3 1 43, lq 4 0 18], [], gi_1008, hq_762), [], ([], 42)), ((54, [lq 0 6 0, lq 1 0 2, lq 2 1 2, lq 3 1 43, lq 4 0 21], [], gi_1009, hq_762), [], ([], 39)), ((54, [lq 0 6 0, lq 1 0 2, lq 2 1 2, lq 3 1 43, lq 4 0 24], [], gi_1010, hq_762), [], ([], 36)), ((54, [lq 0 6 0, lq 1 0 2, lq 2 1 2, lq 3 1 43, lq 4 0 27], [], gi_1011, hq_762), [], ([], 33)), ((54, [lq 0 6 0, lq 1 0 2, lq 2 1 2, lq 3 1 43, lq 4 0 30], [], gi_1012, hq_762), [], ([], 30)), ((54, [lq 0 6 0, lq 1 0 2, lq 2 1 2, lq 3 1 43, lq 4 0 33], [], gi_1013, hq_762), [], ([], 27)), ((54, [lq 0 6 0, lq 1 0 2, lq 2 1 2, lq 3 1 43, lq 4 0 36], [], gi_1014, hq_762), [], ([], 24))]
noncomputable def cu_1383_1 : List CUT2 := [((54, [lq 0 6 0, lq 1 0 2, lq 2 1 2, lq 3 1 43, lq 4 0 39], [], gi_1015, hq_762), [], ([], 21)), ((54, [lq 0 6 0, lq 1 0 2, lq 2 1 2, lq 3 1 43, lq 4 0 42], [], gi_1016, hq_762), [], ([], 18)), ((54, [lq 0 6 0, lq 1 0 2, lq 2 1 2, lq 3 1 43, lq 4 0 45], [], gi_1017, hq_762), [], ([], 15)), ((54, [lq 0 6 0, lq 1 0 2, lq 2 1 2, lq 3 1 43, lq 4 0 48], [], gi_1018, hq_762), [], ([], 12)), ((54, [lq 0 6 0, lq 1 0 2, lq 2 1 2, lq 3 1 43, lq 4 0 51], [], gi_1019, hq_762), [], ([], 9)), ((54, [lq 0 6 0, lq 1 0 2, lq 2 1 2, lq 3 1 43, lq 4 0 54], [], gi_1020, hq_762), [], ([], 6)), ((54, [lq 0 6 0, lq 1 0 2, lq 2 1 2, lq 3 1 43, lq 4 0 57], [], gi_1021, hq_762), [], ([], 3)), ((54, [lq 0 6 0, lq 1 0 2, lq 2 1 2, lq 3 1 43, lq 4 0 60], [], gi_1022, hq_762), [], ([], 0))]
noncomputable def cu_1383 : List CUT2 := cu_1383_0 ++ (cu_1383_1)
theorem ch_1383 : staG tb_X11_wrongSeen 1 bt_RX11 [] ct_1383 [] [] cu_1383 44 con_1383 = true := by decide +kernel
theorem cc_1383_0 : cu_1383_0.all (cutG tb_X11_wrongSeen 1 bt_RX11 [] ct_1383 [] [] cu_1383 44 con_1383) = true := by decide +kernel
theorem cc_1383_1 : cu_1383_1.all (cutG tb_X11_wrongSeen 1 bt_RX11 [] ct_1383 [] [] cu_1383 44 con_1383) = true := by decide +kernel
theorem cto_1383 (l : Launch) : CTOK2 l RX11 vwCl gTbl ct_1383 := ct2_cons (vl_1321 l) ck_RX11_414_1321 (ct2_cons (vl_643 l) ck_RX11_139_643 (ct2_cons (vl_1322 l) ck_RX11_420_1322 (ct2_cons (vl_1380 l) ck_RX11_473_1380 (ct2_cons (vl_1377 l) ck_RX11_473_1377 (ct2_cons (vl_1374 l) ck_RX11_473_1374 (ct2_cons (vl_1371 l) ck_RX11_473_1371 (ct2_cons (vl_1368 l) ck_RX11_473_1368 (ct2_cons (vl_1365 l) ck_RX11_473_1365 (ct2_cons (vl_1362 l) ck_RX11_473_1362 (ct2_cons (vl_1359 l) ck_RX11_473_1359 (ct2_cons (vl_1356 l) ck_RX11_473_1356 (ct2_cons (vl_1353 l) ck_RX11_473_1353 (ct2_cons (vl_1350 l) ck_RX11_473_1350 (ct2_cons (vl_1347 l) ck_RX11_473_1347 (ct2_cons (vl_1344 l) ck_RX11_473_1344 (ct2_cons (vl_1341 l) ck_RX11_473_1341 (ct2_cons (vl_1338 l) ck_RX11_473_1338 (ct2_cons (vl_1335 l) ck_RX11_473_1335 (ct2_cons (vl_1332 l) ck_RX11_473_1332 (ct2_cons (vl_1329 l) ck_RX11_473_1329 (ct2_cons (vl_1326 l) ck_RX11_473_1326 (ct2_cons (vl_1323 l) ck_RX11_473_1323 (ct2_cons (vl_1258 l) ck_RX11_476_1258 (ct2_cons (vl_1381 l) ck_RX11_473_1381 (ct2_cons (vl_1378 l) ck_RX11_473_1378 (ct2_cons (vl_1375 l) ck_RX11_473_1375 (ct2_cons (vl_1372 l) ck_RX11_473_1372 (ct2_cons (vl_1369 l) ck_RX11_473_1369 (ct2_cons (vl_1366 l) ck_RX11_473_1366 (ct2_cons (vl_1363 l) ck_RX11_473_1363 (ct2_cons (vl_1360 l) ck_RX11_473_1360 (ct2_cons (vl_1357 l) ck_RX11_473_1357 (ct2_cons (vl_1354 l) ck_RX11_473_1354 (ct2_cons (vl_1351 l) ck_RX11_473_1351 (ct2_cons (vl_1348 l) ck_RX11_473_1348 (ct2_cons (vl_1345 l) ck_RX11_473_1345 (ct2_cons (vl_1342 l) ck_RX11_473_1342 (ct2_cons (vl_1339 l) ck_RX11_473_1339 (ct2_cons (vl_1336 l) ck_RX11_473_1336 (ct2_cons (vl_1333 l) ck_RX11_473_1333 (ct2_cons (vl_1330 l) ck_RX11_473_1330 (ct2_cons (vl_1327 l) ck_RX11_473_1327 (ct2_cons (vl_1324 l) ck_RX11_473_1324 (ct2_cons (vl_1260 l) ck_RX11_476_1260 (ct2_cons (vl_1382 l) ck_RX11_473_1382 (ct2_cons (vl_1379 l) ck_RX11_473_1379 (ct2_cons (vl_1376 l) ck_RX11_473_1376 (ct2_cons (vl_1373 l) ck_RX11_473_1373 (ct2_cons (vl_1370 l) ck_RX11_473_1370 (ct2_cons (vl_1367 l) ck_RX11_473_1367 (ct2_cons (vl_1364 l) ck_RX11_473_1364 (ct2_cons (vl_1361 l) ck_RX11_473_1361 (ct2_cons (vl_1358 l) ck_RX11_473_1358 (ct2_cons (vl_1355 l) ck_RX11_473_1355 (ct2_cons (vl_1352 l) ck_RX11_473_1352 (ct2_cons (vl_1349 l) ck_RX11_473_1349 (ct2_cons (vl_1346 l) ck_RX11_473_1346 (ct2_cons (vl_1343 l) ck_RX11_473_1343 (ct2_cons (vl_1340 l) ck_RX11_473_1340 (ct2_cons (vl_1337 l) ck_RX11_473_1337 (ct2_cons (vl_1334 l) ck_RX11_473_1334 (ct2_cons (vl_1331 l) ck_RX11_473_1331 (ct2_cons (vl_1328 l) ck_RX11_473_1328 (ct2_cons (vl_1325 l) ck_RX11_473_1325 (ct2_cons (vl_1262 l) ck_RX11_476_1262 (ct2_nil))))))))))))))))))))))))))))))))))))))))))))))))))))))))))))))))))
theorem vl_1383 (l : Launch) : Vld2 l vwCl gTbl con_1383 := conR_ok3 gT_all (hd_1383) rfl pn_RX11 tk_X11_wrongSeen bo_RX11 xo_RX11 (cto_1383 l) ch_1383 (cut_app (cut_all cc_1383_0) (cut_all cc_1383_1))
/-- RookHusting$Slots isSlot -/
noncomputable def con_1384 : Con2 := ((yX8_isSlot, cX8_isSlot, 1, (some .boolean)), (0, 0), ([(0, 1, 0)], [(0, 0)], [], []), [((0, 1, 0), [(0, 0), (0, 0)], [], [], [1])])
theorem hd_1384 : con_1384.1 = (yX8_isSlot, cX8_isSlot, 1, (some .boolean)) := rfl
noncomputable def cu_1384 : List CUT2 := []
theorem ch_1384 : staG tb_X8_isSlot 1 bt_RX8 [] ct_1253 [] [] cu_1384 10 con_1384 = true := by decide +kernel
theorem vl_1384 (l : Launch) : Vld2 l vwCl gTbl con_1384 := conR_ok3 gT_all (hd_1384) rfl pn_RX8 tk_X8_isSlot bo_RX8 xo_RX8 (cto_1253 l) ch_1384 cut_nil
/-- RookHusting$Slots hasRow -/
noncomputable def gi_1023 : GI := jl_n [jl_z 5, gp_537, jl_r 2 (jl_m 0 60), jl_z 1]
noncomputable def gi_1024 : GI := jl_n [jl_z 5, jl_m 0 60, gp_538, jl_z 1]
noncomputable def con_1385 : Con2 := ((yX8_hasRow, cX8_hasRow, 2, (some .boolean)), (0, 0), ([(6, 0, 0), (0, 1, 0)], gi_925, [.inl (8, [(8, 2, 0), (8, 3, 0), (6, 1, 0)]), ac_808], []), [((0, 0, 0), gi_1023, hq_640, [], [1]), ((0, 1, 0), gi_1024, hq_640, [], [1])])
theorem hd_1385 : con_1385.1 = (yX8_hasRow, cX8_hasRow, 2, (some .boolean)) := rfl
noncomputable def cu_1385 : List CUT2 := []
theorem ch_1385 : staG tb_X8_hasRow 1 bt_RX8 [] ct_1253 [] [] cu_1385 11 con_1385 = true := by decide +kernel
theorem vl_1385 (l : Launch) : Vld2 l vwCl gTbl con_1385 := conR_ok3 gT_all (hd_1385) rfl pn_RX8 tk_X8_hasRow bo_RX8 xo_RX8 (cto_1253 l) ch_1385 cut_nil
/-- RookHusting$Slots at -/
noncomputable def ac_931 : AC := .inr (2, jl_n [js_5 60 9223372036854775807 9223372036854775807, js_4 7 1, js_5 179 9223372036854775807 9223372036854775807])
noncomputable def hq_763 : HP := [(false, .inl (8, [(6, 1, 0), (8, 4, 0), (8, 5, 0)])), (false, ac_931)]
noncomputable def con_1386 : Con2 := ((yX8_at, cX8_at, 3, (some .long)), (0, 0), ([(6, 0, 0), (0, 1, 0), (0, 0, 0)], gi_928, [.inl (8, [(6, 1, 0), (8, 4, 0), (8, 5, 0)]), ac_931], []), [((4, 6, 0), gi_929, hq_763, [], [1])])
theorem hd_1386 : con_1386.1 = (yX8_at, cX8_at, 3, (some .long)) := rfl
noncomputable def cu_1386 : List CUT2 := []
theorem ch_1386 : staG tb_X8_at 1 bt_RX8 [] ct_1253 [] [] cu_1386 11 con_1386 = true := by decide +kernel
theorem vl_1386 (l : Launch) : Vld2 l vwCl gTbl con_1386 := conR_ok3 gT_all (hd_1386) rfl pn_RX8 tk_X8_at bo_RX8 xo_RX8 (cto_1253 l) ch_1386 cut_nil
/-- RookHusting$Slots at -/
noncomputable def ac_932 : AC := .inr (2, jl_n [js_5 61 9223372036854775807 9223372036854775807, js_4 7 1, js_5 178 9223372036854775807 9223372036854775807])
noncomputable def hq_764 : HP := [(false, .inl (8, [(6, 1, 0), (8, 4, 0), (8, 5, 0)])), (false, ac_932)]
noncomputable def con_1387 : Con2 := ((yX8_at, cX8_at, 3, (some .long)), (0, 0), ([(6, 0, 0), (0, 1, 0), (0, 1, 0)], gi_928, [.inl (8, [(6, 1, 0), (8, 4, 0), (8, 5, 0)]), ac_932], []), [((4, 6, 0), gi_929, hq_764, [], [1])])
theorem hd_1387 : con_1387.1 = (yX8_at, cX8_at, 3, (some .long)) := rfl
noncomputable def cu_1387 : List CUT2 := []
theorem ch_1387 : staG tb_X8_at 1 bt_RX8 [] ct_1253 [] [] cu_1387 11 con_1387 = true := by decide +kernel
theorem vl_1387 (l : Launch) : Vld2 l vwCl gTbl con_1387 := conR_ok3 gT_all (hd_1387) rfl pn_RX8 tk_X8_at bo_RX8 xo_RX8 (cto_1253 l) ch_1387 cut_nil
/-- RookHusting$Slots at -/
noncomputable def ac_933 : AC := .inr (2, jl_n [js_5 62 9223372036854775807 9223372036854775807, js_4 7 1, js_5 177 9223372036854775807 9223372036854775807])
noncomputable def hq_765 : HP := [(false, .inl (8, [(6, 1, 0), (8, 4, 0), (8, 5, 0)])), (false, ac_933)]
noncomputable def con_1388 : Con2 := ((yX8_at, cX8_at, 3, (some .long)), (0, 0), ([(6, 0, 0), (0, 1, 0), (0, 2, 0)], gi_928, [.inl (8, [(6, 1, 0), (8, 4, 0), (8, 5, 0)]), ac_933], []), [((4, 6, 0), gi_929, hq_765, [], [1])])
theorem hd_1388 : con_1388.1 = (yX8_at, cX8_at, 3, (some .long)) := rfl
noncomputable def cu_1388 : List CUT2 := []
theorem ch_1388 : staG tb_X8_at 1 bt_RX8 [] ct_1253 [] [] cu_1388 11 con_1388 = true := by decide +kernel
theorem vl_1388 (l : Launch) : Vld2 l vwCl gTbl con_1388 := conR_ok3 gT_all (hd_1388) rfl pn_RX8 tk_X8_at bo_RX8 xo_RX8 (cto_1253 l) ch_1388 cut_nil
/-- RookHusting$Slots at -/
noncomputable def ac_934 : AC := .inr (2, jl_n [js_5 63 9223372036854775807 9223372036854775807, js_4 7 1, js_5 176 9223372036854775807 9223372036854775807])
noncomputable def hq_766 : HP := [(false, .inl (8, [(6, 1, 0), (8, 4, 0), (8, 5, 0)])), (false, ac_934)]
noncomputable def con_1389 : Con2 := ((yX8_at, cX8_at, 3, (some .long)), (0, 0), ([(6, 0, 0), (0, 1, 0), (0, 3, 0)], gi_928, [.inl (8, [(6, 1, 0), (8, 4, 0), (8, 5, 0)]), ac_934], []), [((4, 6, 0), gi_929, hq_766, [], [1])])
theorem hd_1389 : con_1389.1 = (yX8_at, cX8_at, 3, (some .long)) := rfl
noncomputable def cu_1389 : List CUT2 := []
theorem ch_1389 : staG tb_X8_at 1 bt_RX8 [] ct_1253 [] [] cu_1389 11 con_1389 = true := by decide +kernel
theorem vl_1389 (l : Launch) : Vld2 l vwCl gTbl con_1389 := conR_ok3 gT_all (hd_1389) rfl pn_RX8 tk_X8_at bo_RX8 xo_RX8 (cto_1253 l) ch_1389 cut_nil
/-- RookHusting$Slots at -/
noncomputable def ac_935 : AC := .inr (2, jl_n [js_5 64 9223372036854775807 9223372036854775807, js_4 7 1, js_5 175 9223372036854775807 9223372036854775807])
noncomputable def hq_767 : HP := [(false, .inl (8, [(6, 1, 0), (8, 4, 0), (8, 5, 0)])), (false, ac_935)]
noncomputable def con_1390 : Con2 := ((yX8_at, cX8_at, 3, (some .long)), (0, 0), ([(6, 0, 0), (0, 1, 0), (0, 4, 0)], gi_928, [.inl (8, [(6, 1, 0), (8, 4, 0), (8, 5, 0)]), ac_935], []), [((4, 6, 0), gi_929, hq_767, [], [1])])
theorem hd_1390 : con_1390.1 = (yX8_at, cX8_at, 3, (some .long)) := rfl
noncomputable def cu_1390 : List CUT2 := []
theorem ch_1390 : staG tb_X8_at 1 bt_RX8 [] ct_1253 [] [] cu_1390 11 con_1390 = true := by decide +kernel
theorem vl_1390 (l : Launch) : Vld2 l vwCl gTbl con_1390 := conR_ok3 gT_all (hd_1390) rfl pn_RX8 tk_X8_at bo_RX8 xo_RX8 (cto_1253 l) ch_1390 cut_nil
/-- RookHusting$Slots at -/
noncomputable def ac_936 : AC := .inr (2, jl_n [js_5 65 9223372036854775807 9223372036854775807, js_4 7 1, js_5 174 9223372036854775807 9223372036854775807])
noncomputable def hq_768 : HP := [(false, .inl (8, [(6, 1, 0), (8, 4, 0), (8, 5, 0)])), (false, ac_936)]
noncomputable def con_1391 : Con2 := ((yX8_at, cX8_at, 3, (some .long)), (0, 0), ([(6, 0, 0), (0, 1, 0), (0, 5, 0)], gi_928, [.inl (8, [(6, 1, 0), (8, 4, 0), (8, 5, 0)]), ac_936], []), [((4, 6, 0), gi_929, hq_768, [], [1])])
theorem hd_1391 : con_1391.1 = (yX8_at, cX8_at, 3, (some .long)) := rfl
noncomputable def cu_1391 : List CUT2 := []
theorem ch_1391 : staG tb_X8_at 1 bt_RX8 [] ct_1253 [] [] cu_1391 11 con_1391 = true := by decide +kernel
theorem vl_1391 (l : Launch) : Vld2 l vwCl gTbl con_1391 := conR_ok3 gT_all (hd_1391) rfl pn_RX8 tk_X8_at bo_RX8 xo_RX8 (cto_1253 l) ch_1391 cut_nil
/-- RookHusting$Slots at -/
noncomputable def ac_937 : AC := .inr (2, jl_n [js_5 66 9223372036854775807 9223372036854775807, js_4 7 1, js_5 173 9223372036854775807 9223372036854775807])
noncomputable def hq_769 : HP := [(false, .inl (8, [(6, 1, 0), (8, 4, 0), (8, 5, 0)])), (false, ac_937)]
noncomputable def con_1392 : Con2 := ((yX8_at, cX8_at, 3, (some .long)), (0, 0), ([(6, 0, 0), (0, 1, 0), (0, 6, 0)], gi_928, [.inl (8, [(6, 1, 0), (8, 4, 0), (8, 5, 0)]), ac_937], []), [((4, 6, 0), gi_929, hq_769, [], [1])])
theorem hd_1392 : con_1392.1 = (yX8_at, cX8_at, 3, (some .long)) := rfl
noncomputable def cu_1392 : List CUT2 := []
theorem ch_1392 : staG tb_X8_at 1 bt_RX8 [] ct_1253 [] [] cu_1392 11 con_1392 = true := by decide +kernel
theorem vl_1392 (l : Launch) : Vld2 l vwCl gTbl con_1392 := conR_ok3 gT_all (hd_1392) rfl pn_RX8 tk_X8_at bo_RX8 xo_RX8 (cto_1253 l) ch_1392 cut_nil
/-- RookHusting$Slots at -/
noncomputable def ac_938 : AC := .inr (2, jl_n [js_5 67 9223372036854775807 9223372036854775807, js_4 7 1, js_5 172 9223372036854775807 9223372036854775807])
noncomputable def hq_770 : HP := [(false, .inl (8, [(6, 1, 0), (8, 4, 0), (8, 5, 0)])), (false, ac_938)]
noncomputable def con_1393 : Con2 := ((yX8_at, cX8_at, 3, (some .long)), (0, 0), ([(6, 0, 0), (0, 1, 0), (0, 7, 0)], gi_928, [.inl (8, [(6, 1, 0), (8, 4, 0), (8, 5, 0)]), ac_938], []), [((4, 6, 0), gi_929, hq_770, [], [1])])
theorem hd_1393 : con_1393.1 = (yX8_at, cX8_at, 3, (some .long)) := rfl
noncomputable def cu_1393 : List CUT2 := []
theorem ch_1393 : staG tb_X8_at 1 bt_RX8 [] ct_1253 [] [] cu_1393 11 con_1393 = true := by decide +kernel
theorem vl_1393 (l : Launch) : Vld2 l vwCl gTbl con_1393 := conR_ok3 gT_all (hd_1393) rfl pn_RX8 tk_X8_at bo_RX8 xo_RX8 (cto_1253 l) ch_1393 cut_nil
/-- RookHusting$Slots at -/
noncomputable def ac_939 : AC := .inr (2, jl_n [js_5 68 9223372036854775807 9223372036854775807, js_4 7 1, js_5 171 9223372036854775807 9223372036854775807])
noncomputable def hq_771 : HP := [(false, .inl (8, [(6, 1, 0), (8, 4, 0), (8, 5, 0)])), (false, ac_939)]
noncomputable def con_1394 : Con2 := ((yX8_at, cX8_at, 3, (some .long)), (0, 0), ([(6, 0, 0), (0, 1, 0), (0, 8, 0)], gi_928, [.inl (8, [(6, 1, 0), (8, 4, 0), (8, 5, 0)]), ac_939], []), [((4, 6, 0), gi_929, hq_771, [], [1])])
theorem hd_1394 : con_1394.1 = (yX8_at, cX8_at, 3, (some .long)) := rfl
noncomputable def cu_1394 : List CUT2 := []
theorem ch_1394 : staG tb_X8_at 1 bt_RX8 [] ct_1253 [] [] cu_1394 11 con_1394 = true := by decide +kernel
theorem vl_1394 (l : Launch) : Vld2 l vwCl gTbl con_1394 := conR_ok3 gT_all (hd_1394) rfl pn_RX8 tk_X8_at bo_RX8 xo_RX8 (cto_1253 l) ch_1394 cut_nil
/-- RookHusting$Slots at -/
noncomputable def ac_940 : AC := .inr (2, jl_n [js_5 69 9223372036854775807 9223372036854775807, js_4 7 1, js_5 170 9223372036854775807 9223372036854775807])
noncomputable def hq_772 : HP := [(false, .inl (8, [(6, 1, 0), (8, 4, 0), (8, 5, 0)])), (false, ac_940)]
noncomputable def con_1395 : Con2 := ((yX8_at, cX8_at, 3, (some .long)), (0, 0), ([(6, 0, 0), (0, 1, 0), (0, 9, 0)], gi_928, [.inl (8, [(6, 1, 0), (8, 4, 0), (8, 5, 0)]), ac_940], []), [((4, 6, 0), gi_929, hq_772, [], [1])])
theorem hd_1395 : con_1395.1 = (yX8_at, cX8_at, 3, (some .long)) := rfl
noncomputable def cu_1395 : List CUT2 := []
theorem ch_1395 : staG tb_X8_at 1 bt_RX8 [] ct_1253 [] [] cu_1395 11 con_1395 = true := by decide +kernel
theorem vl_1395 (l : Launch) : Vld2 l vwCl gTbl con_1395 := conR_ok3 gT_all (hd_1395) rfl pn_RX8 tk_X8_at bo_RX8 xo_RX8 (cto_1253 l) ch_1395 cut_nil
/-- RookHusting$Slots at -/
noncomputable def ac_941 : AC := .inr (2, jl_n [js_5 70 9223372036854775807 9223372036854775807, js_4 7 1, js_5 169 9223372036854775807 9223372036854775807])
noncomputable def hq_773 : HP := [(false, .inl (8, [(6, 1, 0), (8, 4, 0), (8, 5, 0)])), (false, ac_941)]
noncomputable def con_1396 : Con2 := ((yX8_at, cX8_at, 3, (some .long)), (0, 0), ([(6, 0, 0), (0, 1, 0), (0, 10, 0)], gi_928, [.inl (8, [(6, 1, 0), (8, 4, 0), (8, 5, 0)]), ac_941], []), [((4, 6, 0), gi_929, hq_773, [], [1])])
theorem hd_1396 : con_1396.1 = (yX8_at, cX8_at, 3, (some .long)) := rfl
noncomputable def cu_1396 : List CUT2 := []
theorem ch_1396 : staG tb_X8_at 1 bt_RX8 [] ct_1253 [] [] cu_1396 11 con_1396 = true := by decide +kernel
theorem vl_1396 (l : Launch) : Vld2 l vwCl gTbl con_1396 := conR_ok3 gT_all (hd_1396) rfl pn_RX8 tk_X8_at bo_RX8 xo_RX8 (cto_1253 l) ch_1396 cut_nil
/-- RookHusting$Slots at -/
noncomputable def ac_942 : AC := .inr (2, jl_n [js_5 71 9223372036854775807 9223372036854775807, js_4 7 1, js_5 168 9223372036854775807 9223372036854775807])
noncomputable def hq_774 : HP := [(false, .inl (8, [(6, 1, 0), (8, 4, 0), (8, 5, 0)])), (false, ac_942)]
noncomputable def con_1397 : Con2 := ((yX8_at, cX8_at, 3, (some .long)), (0, 0), ([(6, 0, 0), (0, 1, 0), (0, 11, 0)], gi_928, [.inl (8, [(6, 1, 0), (8, 4, 0), (8, 5, 0)]), ac_942], []), [((4, 6, 0), gi_929, hq_774, [], [1])])
theorem hd_1397 : con_1397.1 = (yX8_at, cX8_at, 3, (some .long)) := rfl
noncomputable def cu_1397 : List CUT2 := []
theorem ch_1397 : staG tb_X8_at 1 bt_RX8 [] ct_1253 [] [] cu_1397 11 con_1397 = true := by decide +kernel
theorem vl_1397 (l : Launch) : Vld2 l vwCl gTbl con_1397 := conR_ok3 gT_all (hd_1397) rfl pn_RX8 tk_X8_at bo_RX8 xo_RX8 (cto_1253 l) ch_1397 cut_nil
/-- RookHusting$Slots at -/
noncomputable def ac_943 : AC := .inr (2, jl_n [js_5 72 9223372036854775807 9223372036854775807, js_4 7 1, js_5 167 9223372036854775807 9223372036854775807])
noncomputable def hq_775 : HP := [(false, .inl (8, [(6, 1, 0), (8, 4, 0), (8, 5, 0)])), (false, ac_943)]
noncomputable def con_1398 : Con2 := ((yX8_at, cX8_at, 3, (some .long)), (0, 0), ([(6, 0, 0), (0, 1, 0), (0, 12, 0)], gi_928, [.inl (8, [(6, 1, 0), (8, 4, 0), (8, 5, 0)]), ac_943], []), [((4, 6, 0), gi_929, hq_775, [], [1])])
theorem hd_1398 : con_1398.1 = (yX8_at, cX8_at, 3, (some .long)) := rfl
noncomputable def cu_1398 : List CUT2 := []
theorem ch_1398 : staG tb_X8_at 1 bt_RX8 [] ct_1253 [] [] cu_1398 11 con_1398 = true := by decide +kernel
theorem vl_1398 (l : Launch) : Vld2 l vwCl gTbl con_1398 := conR_ok3 gT_all (hd_1398) rfl pn_RX8 tk_X8_at bo_RX8 xo_RX8 (cto_1253 l) ch_1398 cut_nil
/-- RookHusting$Slots at -/
noncomputable def ac_944 : AC := .inr (2, jl_n [js_5 73 9223372036854775807 9223372036854775807, js_4 7 1, js_5 166 9223372036854775807 9223372036854775807])
noncomputable def hq_776 : HP := [(false, .inl (8, [(6, 1, 0), (8, 4, 0), (8, 5, 0)])), (false, ac_944)]
noncomputable def con_1399 : Con2 := ((yX8_at, cX8_at, 3, (some .long)), (0, 0), ([(6, 0, 0), (0, 1, 0), (0, 13, 0)], gi_928, [.inl (8, [(6, 1, 0), (8, 4, 0), (8, 5, 0)]), ac_944], []), [((4, 6, 0), gi_929, hq_776, [], [1])])
theorem hd_1399 : con_1399.1 = (yX8_at, cX8_at, 3, (some .long)) := rfl
noncomputable def cu_1399 : List CUT2 := []
theorem ch_1399 : staG tb_X8_at 1 bt_RX8 [] ct_1253 [] [] cu_1399 11 con_1399 = true := by decide +kernel
theorem vl_1399 (l : Launch) : Vld2 l vwCl gTbl con_1399 := conR_ok3 gT_all (hd_1399) rfl pn_RX8 tk_X8_at bo_RX8 xo_RX8 (cto_1253 l) ch_1399 cut_nil
/-- RookHusting$Slots at -/
noncomputable def ac_945 : AC := .inr (2, jl_n [js_5 74 9223372036854775807 9223372036854775807, js_4 7 1, js_5 165 9223372036854775807 9223372036854775807])
noncomputable def hq_777 : HP := [(false, .inl (8, [(6, 1, 0), (8, 4, 0), (8, 5, 0)])), (false, ac_945)]
noncomputable def con_1400 : Con2 := ((yX8_at, cX8_at, 3, (some .long)), (0, 0), ([(6, 0, 0), (0, 1, 0), (0, 14, 0)], gi_928, [.inl (8, [(6, 1, 0), (8, 4, 0), (8, 5, 0)]), ac_945], []), [((4, 6, 0), gi_929, hq_777, [], [1])])
theorem hd_1400 : con_1400.1 = (yX8_at, cX8_at, 3, (some .long)) := rfl
noncomputable def cu_1400 : List CUT2 := []
theorem ch_1400 : staG tb_X8_at 1 bt_RX8 [] ct_1253 [] [] cu_1400 11 con_1400 = true := by decide +kernel
theorem vl_1400 (l : Launch) : Vld2 l vwCl gTbl con_1400 := conR_ok3 gT_all (hd_1400) rfl pn_RX8 tk_X8_at bo_RX8 xo_RX8 (cto_1253 l) ch_1400 cut_nil
/-- RookHusting$Slots at -/
noncomputable def ac_946 : AC := .inr (2, jl_n [js_5 75 9223372036854775807 9223372036854775807, js_4 7 1, js_5 164 9223372036854775807 9223372036854775807])
noncomputable def hq_778 : HP := [(false, .inl (8, [(6, 1, 0), (8, 4, 0), (8, 5, 0)])), (false, ac_946)]
noncomputable def con_1401 : Con2 := ((yX8_at, cX8_at, 3, (some .long)), (0, 0), ([(6, 0, 0), (0, 1, 0), (0, 15, 0)], gi_928, [.inl (8, [(6, 1, 0), (8, 4, 0), (8, 5, 0)]), ac_946], []), [((4, 6, 0), gi_929, hq_778, [], [1])])
theorem hd_1401 : con_1401.1 = (yX8_at, cX8_at, 3, (some .long)) := rfl
noncomputable def cu_1401 : List CUT2 := []
theorem ch_1401 : staG tb_X8_at 1 bt_RX8 [] ct_1253 [] [] cu_1401 11 con_1401 = true := by decide +kernel
theorem vl_1401 (l : Launch) : Vld2 l vwCl gTbl con_1401 := conR_ok3 gT_all (hd_1401) rfl pn_RX8 tk_X8_at bo_RX8 xo_RX8 (cto_1253 l) ch_1401 cut_nil
/-- RookHusting$Slots at -/
noncomputable def ac_947 : AC := .inr (2, jl_n [js_5 76 9223372036854775807 9223372036854775807, js_4 7 1, js_5 163 9223372036854775807 9223372036854775807])
noncomputable def hq_779 : HP := [(false, .inl (8, [(6, 1, 0), (8, 4, 0), (8, 5, 0)])), (false, ac_947)]
noncomputable def con_1402 : Con2 := ((yX8_at, cX8_at, 3, (some .long)), (0, 0), ([(6, 0, 0), (0, 1, 0), (0, 16, 0)], gi_928, [.inl (8, [(6, 1, 0), (8, 4, 0), (8, 5, 0)]), ac_947], []), [((4, 6, 0), gi_929, hq_779, [], [1])])
theorem hd_1402 : con_1402.1 = (yX8_at, cX8_at, 3, (some .long)) := rfl
noncomputable def cu_1402 : List CUT2 := []
theorem ch_1402 : staG tb_X8_at 1 bt_RX8 [] ct_1253 [] [] cu_1402 11 con_1402 = true := by decide +kernel
theorem vl_1402 (l : Launch) : Vld2 l vwCl gTbl con_1402 := conR_ok3 gT_all (hd_1402) rfl pn_RX8 tk_X8_at bo_RX8 xo_RX8 (cto_1253 l) ch_1402 cut_nil
/-- RookHusting$Slots at -/
noncomputable def ac_948 : AC := .inr (2, jl_n [js_5 77 9223372036854775807 9223372036854775807, js_4 7 1, js_5 162 9223372036854775807 9223372036854775807])
noncomputable def hq_780 : HP := [(false, .inl (8, [(6, 1, 0), (8, 4, 0), (8, 5, 0)])), (false, ac_948)]
noncomputable def con_1403 : Con2 := ((yX8_at, cX8_at, 3, (some .long)), (0, 0), ([(6, 0, 0), (0, 1, 0), (0, 17, 0)], gi_928, [.inl (8, [(6, 1, 0), (8, 4, 0), (8, 5, 0)]), ac_948], []), [((4, 6, 0), gi_929, hq_780, [], [1])])
theorem hd_1403 : con_1403.1 = (yX8_at, cX8_at, 3, (some .long)) := rfl
noncomputable def cu_1403 : List CUT2 := []
theorem ch_1403 : staG tb_X8_at 1 bt_RX8 [] ct_1253 [] [] cu_1403 11 con_1403 = true := by decide +kernel
theorem vl_1403 (l : Launch) : Vld2 l vwCl gTbl con_1403 := conR_ok3 gT_all (hd_1403) rfl pn_RX8 tk_X8_at bo_RX8 xo_RX8 (cto_1253 l) ch_1403 cut_nil
/-- RookHusting$Slots at -/
noncomputable def ac_949 : AC := .inr (2, jl_n [js_5 78 9223372036854775807 9223372036854775807, js_4 7 1, js_5 161 9223372036854775807 9223372036854775807])
noncomputable def hq_781 : HP := [(false, .inl (8, [(6, 1, 0), (8, 4, 0), (8, 5, 0)])), (false, ac_949)]
noncomputable def con_1404 : Con2 := ((yX8_at, cX8_at, 3, (some .long)), (0, 0), ([(6, 0, 0), (0, 1, 0), (0, 18, 0)], gi_928, [.inl (8, [(6, 1, 0), (8, 4, 0), (8, 5, 0)]), ac_949], []), [((4, 6, 0), gi_929, hq_781, [], [1])])
theorem hd_1404 : con_1404.1 = (yX8_at, cX8_at, 3, (some .long)) := rfl
noncomputable def cu_1404 : List CUT2 := []
theorem ch_1404 : staG tb_X8_at 1 bt_RX8 [] ct_1253 [] [] cu_1404 11 con_1404 = true := by decide +kernel
theorem vl_1404 (l : Launch) : Vld2 l vwCl gTbl con_1404 := conR_ok3 gT_all (hd_1404) rfl pn_RX8 tk_X8_at bo_RX8 xo_RX8 (cto_1253 l) ch_1404 cut_nil
/-- RookHusting$Slots at -/
noncomputable def ac_950 : AC := .inr (2, jl_n [js_5 79 9223372036854775807 9223372036854775807, js_4 7 1, js_5 160 9223372036854775807 9223372036854775807])
noncomputable def hq_782 : HP := [(false, .inl (8, [(6, 1, 0), (8, 4, 0), (8, 5, 0)])), (false, ac_950)]
noncomputable def con_1405 : Con2 := ((yX8_at, cX8_at, 3, (some .long)), (0, 0), ([(6, 0, 0), (0, 1, 0), (0, 19, 0)], gi_928, [.inl (8, [(6, 1, 0), (8, 4, 0), (8, 5, 0)]), ac_950], []), [((4, 6, 0), gi_929, hq_782, [], [1])])
theorem hd_1405 : con_1405.1 = (yX8_at, cX8_at, 3, (some .long)) := rfl
noncomputable def cu_1405 : List CUT2 := []
theorem ch_1405 : staG tb_X8_at 1 bt_RX8 [] ct_1253 [] [] cu_1405 11 con_1405 = true := by decide +kernel
theorem vl_1405 (l : Launch) : Vld2 l vwCl gTbl con_1405 := conR_ok3 gT_all (hd_1405) rfl pn_RX8 tk_X8_at bo_RX8 xo_RX8 (cto_1253 l) ch_1405 cut_nil
/-- RookHusting$Slots at -/
noncomputable def ac_951 : AC := .inr (2, jl_n [js_5 80 9223372036854775807 9223372036854775807, js_4 7 1, js_5 159 9223372036854775807 9223372036854775807])
noncomputable def hq_783 : HP := [(false, .inl (8, [(6, 1, 0), (8, 4, 0), (8, 5, 0)])), (false, ac_951)]
noncomputable def con_1406 : Con2 := ((yX8_at, cX8_at, 3, (some .long)), (0, 0), ([(6, 0, 0), (0, 1, 0), (0, 20, 0)], gi_928, [.inl (8, [(6, 1, 0), (8, 4, 0), (8, 5, 0)]), ac_951], []), [((4, 6, 0), gi_929, hq_783, [], [1])])
theorem hd_1406 : con_1406.1 = (yX8_at, cX8_at, 3, (some .long)) := rfl
noncomputable def cu_1406 : List CUT2 := []
theorem ch_1406 : staG tb_X8_at 1 bt_RX8 [] ct_1253 [] [] cu_1406 11 con_1406 = true := by decide +kernel
theorem vl_1406 (l : Launch) : Vld2 l vwCl gTbl con_1406 := conR_ok3 gT_all (hd_1406) rfl pn_RX8 tk_X8_at bo_RX8 xo_RX8 (cto_1253 l) ch_1406 cut_nil
/-- RookHusting$Slots at -/
noncomputable def ac_952 : AC := .inr (2, jl_n [js_5 81 9223372036854775807 9223372036854775807, js_4 7 1, js_5 158 9223372036854775807 9223372036854775807])
noncomputable def hq_784 : HP := [(false, .inl (8, [(6, 1, 0), (8, 4, 0), (8, 5, 0)])), (false, ac_952)]
noncomputable def con_1407 : Con2 := ((yX8_at, cX8_at, 3, (some .long)), (0, 0), ([(6, 0, 0), (0, 1, 0), (0, 21, 0)], gi_928, [.inl (8, [(6, 1, 0), (8, 4, 0), (8, 5, 0)]), ac_952], []), [((4, 6, 0), gi_929, hq_784, [], [1])])
theorem hd_1407 : con_1407.1 = (yX8_at, cX8_at, 3, (some .long)) := rfl
noncomputable def cu_1407 : List CUT2 := []
theorem ch_1407 : staG tb_X8_at 1 bt_RX8 [] ct_1253 [] [] cu_1407 11 con_1407 = true := by decide +kernel
theorem vl_1407 (l : Launch) : Vld2 l vwCl gTbl con_1407 := conR_ok3 gT_all (hd_1407) rfl pn_RX8 tk_X8_at bo_RX8 xo_RX8 (cto_1253 l) ch_1407 cut_nil
/-- RookHusting$Slots at -/
noncomputable def ac_953 : AC := .inr (2, jl_n [js_5 82 9223372036854775807 9223372036854775807, js_4 7 1, js_5 157 9223372036854775807 9223372036854775807])
noncomputable def hq_785 : HP := [(false, .inl (8, [(6, 1, 0), (8, 4, 0), (8, 5, 0)])), (false, ac_953)]
noncomputable def con_1408 : Con2 := ((yX8_at, cX8_at, 3, (some .long)), (0, 0), ([(6, 0, 0), (0, 1, 0), (0, 22, 0)], gi_928, [.inl (8, [(6, 1, 0), (8, 4, 0), (8, 5, 0)]), ac_953], []), [((4, 6, 0), gi_929, hq_785, [], [1])])
theorem hd_1408 : con_1408.1 = (yX8_at, cX8_at, 3, (some .long)) := rfl
noncomputable def cu_1408 : List CUT2 := []
theorem ch_1408 : staG tb_X8_at 1 bt_RX8 [] ct_1253 [] [] cu_1408 11 con_1408 = true := by decide +kernel
theorem vl_1408 (l : Launch) : Vld2 l vwCl gTbl con_1408 := conR_ok3 gT_all (hd_1408) rfl pn_RX8 tk_X8_at bo_RX8 xo_RX8 (cto_1253 l) ch_1408 cut_nil
/-- RookHusting$Slots at -/
noncomputable def ac_954 : AC := .inr (2, jl_n [js_5 83 9223372036854775807 9223372036854775807, js_4 7 1, js_5 156 9223372036854775807 9223372036854775807])
noncomputable def hq_786 : HP := [(false, .inl (8, [(6, 1, 0), (8, 4, 0), (8, 5, 0)])), (false, ac_954)]
noncomputable def con_1409 : Con2 := ((yX8_at, cX8_at, 3, (some .long)), (0, 0), ([(6, 0, 0), (0, 1, 0), (0, 23, 0)], gi_928, [.inl (8, [(6, 1, 0), (8, 4, 0), (8, 5, 0)]), ac_954], []), [((4, 6, 0), gi_929, hq_786, [], [1])])
theorem hd_1409 : con_1409.1 = (yX8_at, cX8_at, 3, (some .long)) := rfl
noncomputable def cu_1409 : List CUT2 := []
theorem ch_1409 : staG tb_X8_at 1 bt_RX8 [] ct_1253 [] [] cu_1409 11 con_1409 = true := by decide +kernel
theorem vl_1409 (l : Launch) : Vld2 l vwCl gTbl con_1409 := conR_ok3 gT_all (hd_1409) rfl pn_RX8 tk_X8_at bo_RX8 xo_RX8 (cto_1253 l) ch_1409 cut_nil
/-- RookHusting$Slots at -/
noncomputable def ac_955 : AC := .inr (2, jl_n [js_5 84 9223372036854775807 9223372036854775807, js_4 7 1, js_5 155 9223372036854775807 9223372036854775807])
noncomputable def hq_787 : HP := [(false, .inl (8, [(6, 1, 0), (8, 4, 0), (8, 5, 0)])), (false, ac_955)]
noncomputable def con_1410 : Con2 := ((yX8_at, cX8_at, 3, (some .long)), (0, 0), ([(6, 0, 0), (0, 1, 0), (0, 24, 0)], gi_928, [.inl (8, [(6, 1, 0), (8, 4, 0), (8, 5, 0)]), ac_955], []), [((4, 6, 0), gi_929, hq_787, [], [1])])
theorem hd_1410 : con_1410.1 = (yX8_at, cX8_at, 3, (some .long)) := rfl
noncomputable def cu_1410 : List CUT2 := []
theorem ch_1410 : staG tb_X8_at 1 bt_RX8 [] ct_1253 [] [] cu_1410 11 con_1410 = true := by decide +kernel
theorem vl_1410 (l : Launch) : Vld2 l vwCl gTbl con_1410 := conR_ok3 gT_all (hd_1410) rfl pn_RX8 tk_X8_at bo_RX8 xo_RX8 (cto_1253 l) ch_1410 cut_nil
/-- RookHusting$Slots at -/
noncomputable def ac_956 : AC := .inr (2, jl_n [js_5 85 9223372036854775807 9223372036854775807, js_4 7 1, js_5 154 9223372036854775807 9223372036854775807])
noncomputable def hq_788 : HP := [(false, .inl (8, [(6, 1, 0), (8, 4, 0), (8, 5, 0)])), (false, ac_956)]
noncomputable def con_1411 : Con2 := ((yX8_at, cX8_at, 3, (some .long)), (0, 0), ([(6, 0, 0), (0, 1, 0), (0, 25, 0)], gi_928, [.inl (8, [(6, 1, 0), (8, 4, 0), (8, 5, 0)]), ac_956], []), [((4, 6, 0), gi_929, hq_788, [], [1])])
theorem hd_1411 : con_1411.1 = (yX8_at, cX8_at, 3, (some .long)) := rfl
noncomputable def cu_1411 : List CUT2 := []
theorem ch_1411 : staG tb_X8_at 1 bt_RX8 [] ct_1253 [] [] cu_1411 11 con_1411 = true := by decide +kernel
theorem vl_1411 (l : Launch) : Vld2 l vwCl gTbl con_1411 := conR_ok3 gT_all (hd_1411) rfl pn_RX8 tk_X8_at bo_RX8 xo_RX8 (cto_1253 l) ch_1411 cut_nil
/-- RookHusting$Slots at -/
noncomputable def ac_957 : AC := .inr (2, jl_n [js_5 86 9223372036854775807 9223372036854775807, js_4 7 1, js_5 153 9223372036854775807 9223372036854775807])
noncomputable def hq_789 : HP := [(false, .inl (8, [(6, 1, 0), (8, 4, 0), (8, 5, 0)])), (false, ac_957)]
noncomputable def con_1412 : Con2 := ((yX8_at, cX8_at, 3, (some .long)), (0, 0), ([(6, 0, 0), (0, 1, 0), (0, 26, 0)], gi_928, [.inl (8, [(6, 1, 0), (8, 4, 0), (8, 5, 0)]), ac_957], []), [((4, 6, 0), gi_929, hq_789, [], [1])])
theorem hd_1412 : con_1412.1 = (yX8_at, cX8_at, 3, (some .long)) := rfl
noncomputable def cu_1412 : List CUT2 := []
theorem ch_1412 : staG tb_X8_at 1 bt_RX8 [] ct_1253 [] [] cu_1412 11 con_1412 = true := by decide +kernel
theorem vl_1412 (l : Launch) : Vld2 l vwCl gTbl con_1412 := conR_ok3 gT_all (hd_1412) rfl pn_RX8 tk_X8_at bo_RX8 xo_RX8 (cto_1253 l) ch_1412 cut_nil
/-- RookHusting$Slots at -/
noncomputable def ac_958 : AC := .inr (2, jl_n [js_5 87 9223372036854775807 9223372036854775807, js_4 7 1, js_5 152 9223372036854775807 9223372036854775807])
noncomputable def hq_790 : HP := [(false, .inl (8, [(6, 1, 0), (8, 4, 0), (8, 5, 0)])), (false, ac_958)]
noncomputable def con_1413 : Con2 := ((yX8_at, cX8_at, 3, (some .long)), (0, 0), ([(6, 0, 0), (0, 1, 0), (0, 27, 0)], gi_928, [.inl (8, [(6, 1, 0), (8, 4, 0), (8, 5, 0)]), ac_958], []), [((4, 6, 0), gi_929, hq_790, [], [1])])
theorem hd_1413 : con_1413.1 = (yX8_at, cX8_at, 3, (some .long)) := rfl
noncomputable def cu_1413 : List CUT2 := []
theorem ch_1413 : staG tb_X8_at 1 bt_RX8 [] ct_1253 [] [] cu_1413 11 con_1413 = true := by decide +kernel
theorem vl_1413 (l : Launch) : Vld2 l vwCl gTbl con_1413 := conR_ok3 gT_all (hd_1413) rfl pn_RX8 tk_X8_at bo_RX8 xo_RX8 (cto_1253 l) ch_1413 cut_nil
/-- RookHusting$Slots at -/
noncomputable def ac_959 : AC := .inr (2, jl_n [js_5 88 9223372036854775807 9223372036854775807, js_4 7 1, js_5 151 9223372036854775807 9223372036854775807])
noncomputable def hq_791 : HP := [(false, .inl (8, [(6, 1, 0), (8, 4, 0), (8, 5, 0)])), (false, ac_959)]
noncomputable def con_1414 : Con2 := ((yX8_at, cX8_at, 3, (some .long)), (0, 0), ([(6, 0, 0), (0, 1, 0), (0, 28, 0)], gi_928, [.inl (8, [(6, 1, 0), (8, 4, 0), (8, 5, 0)]), ac_959], []), [((4, 6, 0), gi_929, hq_791, [], [1])])
theorem hd_1414 : con_1414.1 = (yX8_at, cX8_at, 3, (some .long)) := rfl
noncomputable def cu_1414 : List CUT2 := []
theorem ch_1414 : staG tb_X8_at 1 bt_RX8 [] ct_1253 [] [] cu_1414 11 con_1414 = true := by decide +kernel
theorem vl_1414 (l : Launch) : Vld2 l vwCl gTbl con_1414 := conR_ok3 gT_all (hd_1414) rfl pn_RX8 tk_X8_at bo_RX8 xo_RX8 (cto_1253 l) ch_1414 cut_nil
/-- RookHusting$Slots at -/
noncomputable def ac_960 : AC := .inr (2, jl_n [js_5 89 9223372036854775807 9223372036854775807, js_4 7 1, js_5 150 9223372036854775807 9223372036854775807])
noncomputable def hq_792 : HP := [(false, .inl (8, [(6, 1, 0), (8, 4, 0), (8, 5, 0)])), (false, ac_960)]
noncomputable def con_1415 : Con2 := ((yX8_at, cX8_at, 3, (some .long)), (0, 0), ([(6, 0, 0), (0, 1, 0), (0, 29, 0)], gi_928, [.inl (8, [(6, 1, 0), (8, 4, 0), (8, 5, 0)]), ac_960], []), [((4, 6, 0), gi_929, hq_792, [], [1])])
theorem hd_1415 : con_1415.1 = (yX8_at, cX8_at, 3, (some .long)) := rfl
noncomputable def cu_1415 : List CUT2 := []
theorem ch_1415 : staG tb_X8_at 1 bt_RX8 [] ct_1253 [] [] cu_1415 11 con_1415 = true := by decide +kernel
theorem vl_1415 (l : Launch) : Vld2 l vwCl gTbl con_1415 := conR_ok3 gT_all (hd_1415) rfl pn_RX8 tk_X8_at bo_RX8 xo_RX8 (cto_1253 l) ch_1415 cut_nil
/-- RookHusting$Slots at -/
noncomputable def ac_961 : AC := .inr (2, jl_n [js_5 90 9223372036854775807 9223372036854775807, js_4 7 1, js_5 149 9223372036854775807 9223372036854775807])
noncomputable def hq_793 : HP := [(false, .inl (8, [(6, 1, 0), (8, 4, 0), (8, 5, 0)])), (false, ac_961)]
noncomputable def con_1416 : Con2 := ((yX8_at, cX8_at, 3, (some .long)), (0, 0), ([(6, 0, 0), (0, 1, 0), (0, 30, 0)], gi_928, [.inl (8, [(6, 1, 0), (8, 4, 0), (8, 5, 0)]), ac_961], []), [((4, 6, 0), gi_929, hq_793, [], [1])])
theorem hd_1416 : con_1416.1 = (yX8_at, cX8_at, 3, (some .long)) := rfl
noncomputable def cu_1416 : List CUT2 := []
theorem ch_1416 : staG tb_X8_at 1 bt_RX8 [] ct_1253 [] [] cu_1416 11 con_1416 = true := by decide +kernel
theorem vl_1416 (l : Launch) : Vld2 l vwCl gTbl con_1416 := conR_ok3 gT_all (hd_1416) rfl pn_RX8 tk_X8_at bo_RX8 xo_RX8 (cto_1253 l) ch_1416 cut_nil
/-- RookHusting$Slots at -/
noncomputable def ac_962 : AC := .inr (2, jl_n [js_5 91 9223372036854775807 9223372036854775807, js_4 7 1, js_5 148 9223372036854775807 9223372036854775807])
noncomputable def hq_794 : HP := [(false, .inl (8, [(6, 1, 0), (8, 4, 0), (8, 5, 0)])), (false, ac_962)]
noncomputable def con_1417 : Con2 := ((yX8_at, cX8_at, 3, (some .long)), (0, 0), ([(6, 0, 0), (0, 1, 0), (0, 31, 0)], gi_928, [.inl (8, [(6, 1, 0), (8, 4, 0), (8, 5, 0)]), ac_962], []), [((4, 6, 0), gi_929, hq_794, [], [1])])
theorem hd_1417 : con_1417.1 = (yX8_at, cX8_at, 3, (some .long)) := rfl
noncomputable def cu_1417 : List CUT2 := []
theorem ch_1417 : staG tb_X8_at 1 bt_RX8 [] ct_1253 [] [] cu_1417 11 con_1417 = true := by decide +kernel
theorem vl_1417 (l : Launch) : Vld2 l vwCl gTbl con_1417 := conR_ok3 gT_all (hd_1417) rfl pn_RX8 tk_X8_at bo_RX8 xo_RX8 (cto_1253 l) ch_1417 cut_nil
/-- RookHusting$Slots at -/
noncomputable def ac_963 : AC := .inr (2, jl_n [js_5 92 9223372036854775807 9223372036854775807, js_4 7 1, js_5 147 9223372036854775807 9223372036854775807])
noncomputable def hq_795 : HP := [(false, .inl (8, [(6, 1, 0), (8, 4, 0), (8, 5, 0)])), (false, ac_963)]
noncomputable def con_1418 : Con2 := ((yX8_at, cX8_at, 3, (some .long)), (0, 0), ([(6, 0, 0), (0, 1, 0), (0, 32, 0)], gi_928, [.inl (8, [(6, 1, 0), (8, 4, 0), (8, 5, 0)]), ac_963], []), [((4, 6, 0), gi_929, hq_795, [], [1])])
theorem hd_1418 : con_1418.1 = (yX8_at, cX8_at, 3, (some .long)) := rfl
noncomputable def cu_1418 : List CUT2 := []
theorem ch_1418 : staG tb_X8_at 1 bt_RX8 [] ct_1253 [] [] cu_1418 11 con_1418 = true := by decide +kernel
theorem vl_1418 (l : Launch) : Vld2 l vwCl gTbl con_1418 := conR_ok3 gT_all (hd_1418) rfl pn_RX8 tk_X8_at bo_RX8 xo_RX8 (cto_1253 l) ch_1418 cut_nil
/-- RookHusting$Slots at -/
noncomputable def ac_964 : AC := .inr (2, jl_n [js_5 93 9223372036854775807 9223372036854775807, js_4 7 1, js_5 146 9223372036854775807 9223372036854775807])
noncomputable def hq_796 : HP := [(false, .inl (8, [(6, 1, 0), (8, 4, 0), (8, 5, 0)])), (false, ac_964)]
noncomputable def con_1419 : Con2 := ((yX8_at, cX8_at, 3, (some .long)), (0, 0), ([(6, 0, 0), (0, 1, 0), (0, 33, 0)], gi_928, [.inl (8, [(6, 1, 0), (8, 4, 0), (8, 5, 0)]), ac_964], []), [((4, 6, 0), gi_929, hq_796, [], [1])])
theorem hd_1419 : con_1419.1 = (yX8_at, cX8_at, 3, (some .long)) := rfl
noncomputable def cu_1419 : List CUT2 := []
theorem ch_1419 : staG tb_X8_at 1 bt_RX8 [] ct_1253 [] [] cu_1419 11 con_1419 = true := by decide +kernel
theorem vl_1419 (l : Launch) : Vld2 l vwCl gTbl con_1419 := conR_ok3 gT_all (hd_1419) rfl pn_RX8 tk_X8_at bo_RX8 xo_RX8 (cto_1253 l) ch_1419 cut_nil
/-- RookHusting$Slots at -/
noncomputable def ac_965 : AC := .inr (2, jl_n [js_5 94 9223372036854775807 9223372036854775807, js_4 7 1, js_5 145 9223372036854775807 9223372036854775807])
noncomputable def hq_797 : HP := [(false, .inl (8, [(6, 1, 0), (8, 4, 0), (8, 5, 0)])), (false, ac_965)]
noncomputable def con_1420 : Con2 := ((yX8_at, cX8_at, 3, (some .long)), (0, 0), ([(6, 0, 0), (0, 1, 0), (0, 34, 0)], gi_928, [.inl (8, [(6, 1, 0), (8, 4, 0), (8, 5, 0)]), ac_965], []), [((4, 6, 0), gi_929, hq_797, [], [1])])
theorem hd_1420 : con_1420.1 = (yX8_at, cX8_at, 3, (some .long)) := rfl
noncomputable def cu_1420 : List CUT2 := []
theorem ch_1420 : staG tb_X8_at 1 bt_RX8 [] ct_1253 [] [] cu_1420 11 con_1420 = true := by decide +kernel
theorem vl_1420 (l : Launch) : Vld2 l vwCl gTbl con_1420 := conR_ok3 gT_all (hd_1420) rfl pn_RX8 tk_X8_at bo_RX8 xo_RX8 (cto_1253 l) ch_1420 cut_nil
/-- RookHusting$Slots at -/
noncomputable def ac_966 : AC := .inr (2, jl_n [js_5 95 9223372036854775807 9223372036854775807, js_4 7 1, js_5 144 9223372036854775807 9223372036854775807])
noncomputable def hq_798 : HP := [(false, .inl (8, [(6, 1, 0), (8, 4, 0), (8, 5, 0)])), (false, ac_966)]
noncomputable def con_1421 : Con2 := ((yX8_at, cX8_at, 3, (some .long)), (0, 0), ([(6, 0, 0), (0, 1, 0), (0, 35, 0)], gi_928, [.inl (8, [(6, 1, 0), (8, 4, 0), (8, 5, 0)]), ac_966], []), [((4, 6, 0), gi_929, hq_798, [], [1])])
theorem hd_1421 : con_1421.1 = (yX8_at, cX8_at, 3, (some .long)) := rfl
noncomputable def cu_1421 : List CUT2 := []
theorem ch_1421 : staG tb_X8_at 1 bt_RX8 [] ct_1253 [] [] cu_1421 11 con_1421 = true := by decide +kernel
theorem vl_1421 (l : Launch) : Vld2 l vwCl gTbl con_1421 := conR_ok3 gT_all (hd_1421) rfl pn_RX8 tk_X8_at bo_RX8 xo_RX8 (cto_1253 l) ch_1421 cut_nil
/-- RookHusting$Slots at -/
noncomputable def ac_967 : AC := .inr (2, jl_n [js_5 96 9223372036854775807 9223372036854775807, js_4 7 1, js_5 143 9223372036854775807 9223372036854775807])
noncomputable def hq_799 : HP := [(false, .inl (8, [(6, 1, 0), (8, 4, 0), (8, 5, 0)])), (false, ac_967)]
noncomputable def con_1422 : Con2 := ((yX8_at, cX8_at, 3, (some .long)), (0, 0), ([(6, 0, 0), (0, 1, 0), (0, 36, 0)], gi_928, [.inl (8, [(6, 1, 0), (8, 4, 0), (8, 5, 0)]), ac_967], []), [((4, 6, 0), gi_929, hq_799, [], [1])])
theorem hd_1422 : con_1422.1 = (yX8_at, cX8_at, 3, (some .long)) := rfl
noncomputable def cu_1422 : List CUT2 := []
theorem ch_1422 : staG tb_X8_at 1 bt_RX8 [] ct_1253 [] [] cu_1422 11 con_1422 = true := by decide +kernel
theorem vl_1422 (l : Launch) : Vld2 l vwCl gTbl con_1422 := conR_ok3 gT_all (hd_1422) rfl pn_RX8 tk_X8_at bo_RX8 xo_RX8 (cto_1253 l) ch_1422 cut_nil
/-- RookHusting$Slots at -/
noncomputable def ac_968 : AC := .inr (2, jl_n [js_5 97 9223372036854775807 9223372036854775807, js_4 7 1, js_5 142 9223372036854775807 9223372036854775807])
noncomputable def hq_800 : HP := [(false, .inl (8, [(6, 1, 0), (8, 4, 0), (8, 5, 0)])), (false, ac_968)]
noncomputable def con_1423 : Con2 := ((yX8_at, cX8_at, 3, (some .long)), (0, 0), ([(6, 0, 0), (0, 1, 0), (0, 37, 0)], gi_928, [.inl (8, [(6, 1, 0), (8, 4, 0), (8, 5, 0)]), ac_968], []), [((4, 6, 0), gi_929, hq_800, [], [1])])
theorem hd_1423 : con_1423.1 = (yX8_at, cX8_at, 3, (some .long)) := rfl
noncomputable def cu_1423 : List CUT2 := []
theorem ch_1423 : staG tb_X8_at 1 bt_RX8 [] ct_1253 [] [] cu_1423 11 con_1423 = true := by decide +kernel
theorem vl_1423 (l : Launch) : Vld2 l vwCl gTbl con_1423 := conR_ok3 gT_all (hd_1423) rfl pn_RX8 tk_X8_at bo_RX8 xo_RX8 (cto_1253 l) ch_1423 cut_nil
/-- RookHusting$Slots at -/
noncomputable def ac_969 : AC := .inr (2, jl_n [js_5 98 9223372036854775807 9223372036854775807, js_4 7 1, js_5 141 9223372036854775807 9223372036854775807])
noncomputable def hq_801 : HP := [(false, .inl (8, [(6, 1, 0), (8, 4, 0), (8, 5, 0)])), (false, ac_969)]
noncomputable def con_1424 : Con2 := ((yX8_at, cX8_at, 3, (some .long)), (0, 0), ([(6, 0, 0), (0, 1, 0), (0, 38, 0)], gi_928, [.inl (8, [(6, 1, 0), (8, 4, 0), (8, 5, 0)]), ac_969], []), [((4, 6, 0), gi_929, hq_801, [], [1])])
theorem hd_1424 : con_1424.1 = (yX8_at, cX8_at, 3, (some .long)) := rfl
noncomputable def cu_1424 : List CUT2 := []
theorem ch_1424 : staG tb_X8_at 1 bt_RX8 [] ct_1253 [] [] cu_1424 11 con_1424 = true := by decide +kernel
theorem vl_1424 (l : Launch) : Vld2 l vwCl gTbl con_1424 := conR_ok3 gT_all (hd_1424) rfl pn_RX8 tk_X8_at bo_RX8 xo_RX8 (cto_1253 l) ch_1424 cut_nil
/-- RookHusting$Slots at -/
noncomputable def ac_970 : AC := .inr (2, jl_n [js_5 99 9223372036854775807 9223372036854775807, js_4 7 1, js_5 140 9223372036854775807 9223372036854775807])
noncomputable def hq_802 : HP := [(false, .inl (8, [(6, 1, 0), (8, 4, 0), (8, 5, 0)])), (false, ac_970)]
noncomputable def con_1425 : Con2 := ((yX8_at, cX8_at, 3, (some .long)), (0, 0), ([(6, 0, 0), (0, 1, 0), (0, 39, 0)], gi_928, [.inl (8, [(6, 1, 0), (8, 4, 0), (8, 5, 0)]), ac_970], []), [((4, 6, 0), gi_929, hq_802, [], [1])])
theorem hd_1425 : con_1425.1 = (yX8_at, cX8_at, 3, (some .long)) := rfl
noncomputable def cu_1425 : List CUT2 := []
theorem ch_1425 : staG tb_X8_at 1 bt_RX8 [] ct_1253 [] [] cu_1425 11 con_1425 = true := by decide +kernel
theorem vl_1425 (l : Launch) : Vld2 l vwCl gTbl con_1425 := conR_ok3 gT_all (hd_1425) rfl pn_RX8 tk_X8_at bo_RX8 xo_RX8 (cto_1253 l) ch_1425 cut_nil
/-- RookHusting$Slots at -/
noncomputable def ac_971 : AC := .inr (2, jl_n [js_5 100 9223372036854775807 9223372036854775807, js_4 7 1, js_5 139 9223372036854775807 9223372036854775807])
noncomputable def hq_803 : HP := [(false, .inl (8, [(6, 1, 0), (8, 4, 0), (8, 5, 0)])), (false, ac_971)]
noncomputable def con_1426 : Con2 := ((yX8_at, cX8_at, 3, (some .long)), (0, 0), ([(6, 0, 0), (0, 1, 0), (0, 40, 0)], gi_928, [.inl (8, [(6, 1, 0), (8, 4, 0), (8, 5, 0)]), ac_971], []), [((4, 6, 0), gi_929, hq_803, [], [1])])
theorem hd_1426 : con_1426.1 = (yX8_at, cX8_at, 3, (some .long)) := rfl
noncomputable def cu_1426 : List CUT2 := []
theorem ch_1426 : staG tb_X8_at 1 bt_RX8 [] ct_1253 [] [] cu_1426 11 con_1426 = true := by decide +kernel
theorem vl_1426 (l : Launch) : Vld2 l vwCl gTbl con_1426 := conR_ok3 gT_all (hd_1426) rfl pn_RX8 tk_X8_at bo_RX8 xo_RX8 (cto_1253 l) ch_1426 cut_nil
/-- RookHusting$Slots at -/
noncomputable def ac_972 : AC := .inr (2, jl_n [js_5 101 9223372036854775807 9223372036854775807, js_4 7 1, js_5 138 9223372036854775807 9223372036854775807])
noncomputable def hq_804 : HP := [(false, .inl (8, [(6, 1, 0), (8, 4, 0), (8, 5, 0)])), (false, ac_972)]
noncomputable def con_1427 : Con2 := ((yX8_at, cX8_at, 3, (some .long)), (0, 0), ([(6, 0, 0), (0, 1, 0), (0, 41, 0)], gi_928, [.inl (8, [(6, 1, 0), (8, 4, 0), (8, 5, 0)]), ac_972], []), [((4, 6, 0), gi_929, hq_804, [], [1])])
theorem hd_1427 : con_1427.1 = (yX8_at, cX8_at, 3, (some .long)) := rfl
noncomputable def cu_1427 : List CUT2 := []
theorem ch_1427 : staG tb_X8_at 1 bt_RX8 [] ct_1253 [] [] cu_1427 11 con_1427 = true := by decide +kernel
theorem vl_1427 (l : Launch) : Vld2 l vwCl gTbl con_1427 := conR_ok3 gT_all (hd_1427) rfl pn_RX8 tk_X8_at bo_RX8 xo_RX8 (cto_1253 l) ch_1427 cut_nil
/-- RookHusting$Slots at -/
noncomputable def ac_973 : AC := .inr (2, jl_n [js_5 102 9223372036854775807 9223372036854775807, js_4 7 1, js_5 137 9223372036854775807 9223372036854775807])
noncomputable def hq_805 : HP := [(false, .inl (8, [(6, 1, 0), (8, 4, 0), (8, 5, 0)])), (false, ac_973)]
noncomputable def con_1428 : Con2 := ((yX8_at, cX8_at, 3, (some .long)), (0, 0), ([(6, 0, 0), (0, 1, 0), (0, 42, 0)], gi_928, [.inl (8, [(6, 1, 0), (8, 4, 0), (8, 5, 0)]), ac_973], []), [((4, 6, 0), gi_929, hq_805, [], [1])])
theorem hd_1428 : con_1428.1 = (yX8_at, cX8_at, 3, (some .long)) := rfl
noncomputable def cu_1428 : List CUT2 := []
theorem ch_1428 : staG tb_X8_at 1 bt_RX8 [] ct_1253 [] [] cu_1428 11 con_1428 = true := by decide +kernel
theorem vl_1428 (l : Launch) : Vld2 l vwCl gTbl con_1428 := conR_ok3 gT_all (hd_1428) rfl pn_RX8 tk_X8_at bo_RX8 xo_RX8 (cto_1253 l) ch_1428 cut_nil
/-- RookHusting$Slots at -/
noncomputable def ac_974 : AC := .inr (2, jl_n [js_5 103 9223372036854775807 9223372036854775807, js_4 7 1, js_5 136 9223372036854775807 9223372036854775807])
noncomputable def hq_806 : HP := [(false, .inl (8, [(6, 1, 0), (8, 4, 0), (8, 5, 0)])), (false, ac_974)]
noncomputable def con_1429 : Con2 := ((yX8_at, cX8_at, 3, (some .long)), (0, 0), ([(6, 0, 0), (0, 1, 0), (0, 43, 0)], gi_928, [.inl (8, [(6, 1, 0), (8, 4, 0), (8, 5, 0)]), ac_974], []), [((4, 6, 0), gi_929, hq_806, [], [1])])
theorem hd_1429 : con_1429.1 = (yX8_at, cX8_at, 3, (some .long)) := rfl
noncomputable def cu_1429 : List CUT2 := []
theorem ch_1429 : staG tb_X8_at 1 bt_RX8 [] ct_1253 [] [] cu_1429 11 con_1429 = true := by decide +kernel
theorem vl_1429 (l : Launch) : Vld2 l vwCl gTbl con_1429 := conR_ok3 gT_all (hd_1429) rfl pn_RX8 tk_X8_at bo_RX8 xo_RX8 (cto_1253 l) ch_1429 cut_nil
/-- RookHusting$Slots at -/
noncomputable def ac_975 : AC := .inr (2, jl_n [js_5 104 9223372036854775807 9223372036854775807, js_4 7 1, js_5 135 9223372036854775807 9223372036854775807])
noncomputable def hq_807 : HP := [(false, .inl (8, [(6, 1, 0), (8, 4, 0), (8, 5, 0)])), (false, ac_975)]
noncomputable def con_1430 : Con2 := ((yX8_at, cX8_at, 3, (some .long)), (0, 0), ([(6, 0, 0), (0, 1, 0), (0, 44, 0)], gi_928, [.inl (8, [(6, 1, 0), (8, 4, 0), (8, 5, 0)]), ac_975], []), [((4, 6, 0), gi_929, hq_807, [], [1])])
theorem hd_1430 : con_1430.1 = (yX8_at, cX8_at, 3, (some .long)) := rfl
noncomputable def cu_1430 : List CUT2 := []
theorem ch_1430 : staG tb_X8_at 1 bt_RX8 [] ct_1253 [] [] cu_1430 11 con_1430 = true := by decide +kernel
theorem vl_1430 (l : Launch) : Vld2 l vwCl gTbl con_1430 := conR_ok3 gT_all (hd_1430) rfl pn_RX8 tk_X8_at bo_RX8 xo_RX8 (cto_1253 l) ch_1430 cut_nil
/-- RookHusting$Slots at -/
noncomputable def ac_976 : AC := .inr (2, jl_n [js_5 105 9223372036854775807 9223372036854775807, js_4 7 1, js_5 134 9223372036854775807 9223372036854775807])
noncomputable def hq_808 : HP := [(false, .inl (8, [(6, 1, 0), (8, 4, 0), (8, 5, 0)])), (false, ac_976)]
noncomputable def con_1431 : Con2 := ((yX8_at, cX8_at, 3, (some .long)), (0, 0), ([(6, 0, 0), (0, 1, 0), (0, 45, 0)], gi_928, [.inl (8, [(6, 1, 0), (8, 4, 0), (8, 5, 0)]), ac_976], []), [((4, 6, 0), gi_929, hq_808, [], [1])])
theorem hd_1431 : con_1431.1 = (yX8_at, cX8_at, 3, (some .long)) := rfl
noncomputable def cu_1431 : List CUT2 := []
theorem ch_1431 : staG tb_X8_at 1 bt_RX8 [] ct_1253 [] [] cu_1431 11 con_1431 = true := by decide +kernel
theorem vl_1431 (l : Launch) : Vld2 l vwCl gTbl con_1431 := conR_ok3 gT_all (hd_1431) rfl pn_RX8 tk_X8_at bo_RX8 xo_RX8 (cto_1253 l) ch_1431 cut_nil
/-- RookHusting$Slots at -/
noncomputable def ac_977 : AC := .inr (2, jl_n [js_5 106 9223372036854775807 9223372036854775807, js_4 7 1, js_5 133 9223372036854775807 9223372036854775807])
noncomputable def hq_809 : HP := [(false, .inl (8, [(6, 1, 0), (8, 4, 0), (8, 5, 0)])), (false, ac_977)]
noncomputable def con_1432 : Con2 := ((yX8_at, cX8_at, 3, (some .long)), (0, 0), ([(6, 0, 0), (0, 1, 0), (0, 46, 0)], gi_928, [.inl (8, [(6, 1, 0), (8, 4, 0), (8, 5, 0)]), ac_977], []), [((4, 6, 0), gi_929, hq_809, [], [1])])
theorem hd_1432 : con_1432.1 = (yX8_at, cX8_at, 3, (some .long)) := rfl
noncomputable def cu_1432 : List CUT2 := []
theorem ch_1432 : staG tb_X8_at 1 bt_RX8 [] ct_1253 [] [] cu_1432 11 con_1432 = true := by decide +kernel
theorem vl_1432 (l : Launch) : Vld2 l vwCl gTbl con_1432 := conR_ok3 gT_all (hd_1432) rfl pn_RX8 tk_X8_at bo_RX8 xo_RX8 (cto_1253 l) ch_1432 cut_nil
/-- RookHusting$Slots at -/
noncomputable def ac_978 : AC := .inr (2, jl_n [js_5 107 9223372036854775807 9223372036854775807, js_4 7 1, js_5 132 9223372036854775807 9223372036854775807])
noncomputable def hq_810 : HP := [(false, .inl (8, [(6, 1, 0), (8, 4, 0), (8, 5, 0)])), (false, ac_978)]
noncomputable def con_1433 : Con2 := ((yX8_at, cX8_at, 3, (some .long)), (0, 0), ([(6, 0, 0), (0, 1, 0), (0, 47, 0)], gi_928, [.inl (8, [(6, 1, 0), (8, 4, 0), (8, 5, 0)]), ac_978], []), [((4, 6, 0), gi_929, hq_810, [], [1])])
theorem hd_1433 : con_1433.1 = (yX8_at, cX8_at, 3, (some .long)) := rfl
noncomputable def cu_1433 : List CUT2 := []
theorem ch_1433 : staG tb_X8_at 1 bt_RX8 [] ct_1253 [] [] cu_1433 11 con_1433 = true := by decide +kernel
theorem vl_1433 (l : Launch) : Vld2 l vwCl gTbl con_1433 := conR_ok3 gT_all (hd_1433) rfl pn_RX8 tk_X8_at bo_RX8 xo_RX8 (cto_1253 l) ch_1433 cut_nil
/-- RookHusting$Slots at -/
noncomputable def ac_979 : AC := .inr (2, jl_n [js_5 108 9223372036854775807 9223372036854775807, js_4 7 1, js_5 131 9223372036854775807 9223372036854775807])
noncomputable def hq_811 : HP := [(false, .inl (8, [(6, 1, 0), (8, 4, 0), (8, 5, 0)])), (false, ac_979)]
noncomputable def con_1434 : Con2 := ((yX8_at, cX8_at, 3, (some .long)), (0, 0), ([(6, 0, 0), (0, 1, 0), (0, 48, 0)], gi_928, [.inl (8, [(6, 1, 0), (8, 4, 0), (8, 5, 0)]), ac_979], []), [((4, 6, 0), gi_929, hq_811, [], [1])])
theorem hd_1434 : con_1434.1 = (yX8_at, cX8_at, 3, (some .long)) := rfl
noncomputable def cu_1434 : List CUT2 := []
theorem ch_1434 : staG tb_X8_at 1 bt_RX8 [] ct_1253 [] [] cu_1434 11 con_1434 = true := by decide +kernel
theorem vl_1434 (l : Launch) : Vld2 l vwCl gTbl con_1434 := conR_ok3 gT_all (hd_1434) rfl pn_RX8 tk_X8_at bo_RX8 xo_RX8 (cto_1253 l) ch_1434 cut_nil
/-- RookHusting$Slots at -/
noncomputable def ac_980 : AC := .inr (2, jl_n [js_5 109 9223372036854775807 9223372036854775807, js_4 7 1, js_5 130 9223372036854775807 9223372036854775807])
noncomputable def hq_812 : HP := [(false, .inl (8, [(6, 1, 0), (8, 4, 0), (8, 5, 0)])), (false, ac_980)]
noncomputable def con_1435 : Con2 := ((yX8_at, cX8_at, 3, (some .long)), (0, 0), ([(6, 0, 0), (0, 1, 0), (0, 49, 0)], gi_928, [.inl (8, [(6, 1, 0), (8, 4, 0), (8, 5, 0)]), ac_980], []), [((4, 6, 0), gi_929, hq_812, [], [1])])
theorem hd_1435 : con_1435.1 = (yX8_at, cX8_at, 3, (some .long)) := rfl
noncomputable def cu_1435 : List CUT2 := []
theorem ch_1435 : staG tb_X8_at 1 bt_RX8 [] ct_1253 [] [] cu_1435 11 con_1435 = true := by decide +kernel
theorem vl_1435 (l : Launch) : Vld2 l vwCl gTbl con_1435 := conR_ok3 gT_all (hd_1435) rfl pn_RX8 tk_X8_at bo_RX8 xo_RX8 (cto_1253 l) ch_1435 cut_nil
/-- RookHusting$Slots at -/
noncomputable def ac_981 : AC := .inr (2, jl_n [js_5 110 9223372036854775807 9223372036854775807, js_4 7 1, js_5 129 9223372036854775807 9223372036854775807])
noncomputable def hq_813 : HP := [(false, .inl (8, [(6, 1, 0), (8, 4, 0), (8, 5, 0)])), (false, ac_981)]
noncomputable def con_1436 : Con2 := ((yX8_at, cX8_at, 3, (some .long)), (0, 0), ([(6, 0, 0), (0, 1, 0), (0, 50, 0)], gi_928, [.inl (8, [(6, 1, 0), (8, 4, 0), (8, 5, 0)]), ac_981], []), [((4, 6, 0), gi_929, hq_813, [], [1])])
theorem hd_1436 : con_1436.1 = (yX8_at, cX8_at, 3, (some .long)) := rfl
noncomputable def cu_1436 : List CUT2 := []
theorem ch_1436 : staG tb_X8_at 1 bt_RX8 [] ct_1253 [] [] cu_1436 11 con_1436 = true := by decide +kernel
theorem vl_1436 (l : Launch) : Vld2 l vwCl gTbl con_1436 := conR_ok3 gT_all (hd_1436) rfl pn_RX8 tk_X8_at bo_RX8 xo_RX8 (cto_1253 l) ch_1436 cut_nil
/-- RookHusting$Slots at -/
noncomputable def ac_982 : AC := .inr (2, jl_n [js_5 111 9223372036854775807 9223372036854775807, js_4 7 1, js_5 128 9223372036854775807 9223372036854775807])
noncomputable def hq_814 : HP := [(false, .inl (8, [(6, 1, 0), (8, 4, 0), (8, 5, 0)])), (false, ac_982)]
noncomputable def con_1437 : Con2 := ((yX8_at, cX8_at, 3, (some .long)), (0, 0), ([(6, 0, 0), (0, 1, 0), (0, 51, 0)], gi_928, [.inl (8, [(6, 1, 0), (8, 4, 0), (8, 5, 0)]), ac_982], []), [((4, 6, 0), gi_929, hq_814, [], [1])])
theorem hd_1437 : con_1437.1 = (yX8_at, cX8_at, 3, (some .long)) := rfl
noncomputable def cu_1437 : List CUT2 := []
theorem ch_1437 : staG tb_X8_at 1 bt_RX8 [] ct_1253 [] [] cu_1437 11 con_1437 = true := by decide +kernel
theorem vl_1437 (l : Launch) : Vld2 l vwCl gTbl con_1437 := conR_ok3 gT_all (hd_1437) rfl pn_RX8 tk_X8_at bo_RX8 xo_RX8 (cto_1253 l) ch_1437 cut_nil
/-- RookHusting$Slots at -/
noncomputable def ac_983 : AC := .inr (2, jl_n [js_5 112 9223372036854775807 9223372036854775807, js_4 7 1, js_5 127 9223372036854775807 9223372036854775807])
noncomputable def hq_815 : HP := [(false, .inl (8, [(6, 1, 0), (8, 4, 0), (8, 5, 0)])), (false, ac_983)]
noncomputable def con_1438 : Con2 := ((yX8_at, cX8_at, 3, (some .long)), (0, 0), ([(6, 0, 0), (0, 1, 0), (0, 52, 0)], gi_928, [.inl (8, [(6, 1, 0), (8, 4, 0), (8, 5, 0)]), ac_983], []), [((4, 6, 0), gi_929, hq_815, [], [1])])
theorem hd_1438 : con_1438.1 = (yX8_at, cX8_at, 3, (some .long)) := rfl
noncomputable def cu_1438 : List CUT2 := []
theorem ch_1438 : staG tb_X8_at 1 bt_RX8 [] ct_1253 [] [] cu_1438 11 con_1438 = true := by decide +kernel
theorem vl_1438 (l : Launch) : Vld2 l vwCl gTbl con_1438 := conR_ok3 gT_all (hd_1438) rfl pn_RX8 tk_X8_at bo_RX8 xo_RX8 (cto_1253 l) ch_1438 cut_nil
/-- RookHusting$Slots at -/
noncomputable def ac_984 : AC := .inr (2, jl_n [js_5 113 9223372036854775807 9223372036854775807, js_4 7 1, js_5 126 9223372036854775807 9223372036854775807])
noncomputable def hq_816 : HP := [(false, .inl (8, [(6, 1, 0), (8, 4, 0), (8, 5, 0)])), (false, ac_984)]
noncomputable def con_1439 : Con2 := ((yX8_at, cX8_at, 3, (some .long)), (0, 0), ([(6, 0, 0), (0, 1, 0), (0, 53, 0)], gi_928, [.inl (8, [(6, 1, 0), (8, 4, 0), (8, 5, 0)]), ac_984], []), [((4, 6, 0), gi_929, hq_816, [], [1])])
theorem hd_1439 : con_1439.1 = (yX8_at, cX8_at, 3, (some .long)) := rfl
noncomputable def cu_1439 : List CUT2 := []
theorem ch_1439 : staG tb_X8_at 1 bt_RX8 [] ct_1253 [] [] cu_1439 11 con_1439 = true := by decide +kernel
theorem vl_1439 (l : Launch) : Vld2 l vwCl gTbl con_1439 := conR_ok3 gT_all (hd_1439) rfl pn_RX8 tk_X8_at bo_RX8 xo_RX8 (cto_1253 l) ch_1439 cut_nil
/-- RookHusting$Slots at -/
noncomputable def ac_985 : AC := .inr (2, jl_n [js_5 114 9223372036854775807 9223372036854775807, js_4 7 1, js_5 125 9223372036854775807 9223372036854775807])
noncomputable def hq_817 : HP := [(false, .inl (8, [(6, 1, 0), (8, 4, 0), (8, 5, 0)])), (false, ac_985)]
noncomputable def con_1440 : Con2 := ((yX8_at, cX8_at, 3, (some .long)), (0, 0), ([(6, 0, 0), (0, 1, 0), (0, 54, 0)], gi_928, [.inl (8, [(6, 1, 0), (8, 4, 0), (8, 5, 0)]), ac_985], []), [((4, 6, 0), gi_929, hq_817, [], [1])])
theorem hd_1440 : con_1440.1 = (yX8_at, cX8_at, 3, (some .long)) := rfl
noncomputable def cu_1440 : List CUT2 := []
theorem ch_1440 : staG tb_X8_at 1 bt_RX8 [] ct_1253 [] [] cu_1440 11 con_1440 = true := by decide +kernel
theorem vl_1440 (l : Launch) : Vld2 l vwCl gTbl con_1440 := conR_ok3 gT_all (hd_1440) rfl pn_RX8 tk_X8_at bo_RX8 xo_RX8 (cto_1253 l) ch_1440 cut_nil
/-- RookHusting$Slots at -/
noncomputable def ac_986 : AC := .inr (2, jl_n [js_5 115 9223372036854775807 9223372036854775807, js_4 7 1, js_5 124 9223372036854775807 9223372036854775807])
noncomputable def hq_818 : HP := [(false, .inl (8, [(6, 1, 0), (8, 4, 0), (8, 5, 0)])), (false, ac_986)]
noncomputable def con_1441 : Con2 := ((yX8_at, cX8_at, 3, (some .long)), (0, 0), ([(6, 0, 0), (0, 1, 0), (0, 55, 0)], gi_928, [.inl (8, [(6, 1, 0), (8, 4, 0), (8, 5, 0)]), ac_986], []), [((4, 6, 0), gi_929, hq_818, [], [1])])
theorem hd_1441 : con_1441.1 = (yX8_at, cX8_at, 3, (some .long)) := rfl
noncomputable def cu_1441 : List CUT2 := []
theorem ch_1441 : staG tb_X8_at 1 bt_RX8 [] ct_1253 [] [] cu_1441 11 con_1441 = true := by decide +kernel
theorem vl_1441 (l : Launch) : Vld2 l vwCl gTbl con_1441 := conR_ok3 gT_all (hd_1441) rfl pn_RX8 tk_X8_at bo_RX8 xo_RX8 (cto_1253 l) ch_1441 cut_nil
/-- RookHusting$Slots at -/
noncomputable def ac_987 : AC := .inr (2, jl_n [js_5 116 9223372036854775807 9223372036854775807, js_4 7 1, js_5 123 9223372036854775807 9223372036854775807])
noncomputable def hq_819 : HP := [(false, .inl (8, [(6, 1, 0), (8, 4, 0), (8, 5, 0)])), (false, ac_987)]
noncomputable def con_1442 : Con2 := ((yX8_at, cX8_at, 3, (some .long)), (0, 0), ([(6, 0, 0), (0, 1, 0), (0, 56, 0)], gi_928, [.inl (8, [(6, 1, 0), (8, 4, 0), (8, 5, 0)]), ac_987], []), [((4, 6, 0), gi_929, hq_819, [], [1])])
theorem hd_1442 : con_1442.1 = (yX8_at, cX8_at, 3, (some .long)) := rfl
noncomputable def cu_1442 : List CUT2 := []
theorem ch_1442 : staG tb_X8_at 1 bt_RX8 [] ct_1253 [] [] cu_1442 11 con_1442 = true := by decide +kernel
theorem vl_1442 (l : Launch) : Vld2 l vwCl gTbl con_1442 := conR_ok3 gT_all (hd_1442) rfl pn_RX8 tk_X8_at bo_RX8 xo_RX8 (cto_1253 l) ch_1442 cut_nil
/-- RookHusting$Slots at -/
noncomputable def ac_988 : AC := .inr (2, jl_n [js_5 117 9223372036854775807 9223372036854775807, js_4 7 1, js_5 122 9223372036854775807 9223372036854775807])
noncomputable def hq_820 : HP := [(false, .inl (8, [(6, 1, 0), (8, 4, 0), (8, 5, 0)])), (false, ac_988)]
noncomputable def con_1443 : Con2 := ((yX8_at, cX8_at, 3, (some .long)), (0, 0), ([(6, 0, 0), (0, 1, 0), (0, 57, 0)], gi_928, [.inl (8, [(6, 1, 0), (8, 4, 0), (8, 5, 0)]), ac_988], []), [((4, 6, 0), gi_929, hq_820, [], [1])])
theorem hd_1443 : con_1443.1 = (yX8_at, cX8_at, 3, (some .long)) := rfl
noncomputable def cu_1443 : List CUT2 := []
theorem ch_1443 : staG tb_X8_at 1 bt_RX8 [] ct_1253 [] [] cu_1443 11 con_1443 = true := by decide +kernel
theorem vl_1443 (l : Launch) : Vld2 l vwCl gTbl con_1443 := conR_ok3 gT_all (hd_1443) rfl pn_RX8 tk_X8_at bo_RX8 xo_RX8 (cto_1253 l) ch_1443 cut_nil
/-- RookHusting$Slots at -/
noncomputable def ac_989 : AC := .inr (2, jl_n [js_5 118 9223372036854775807 9223372036854775807, js_4 7 1, js_5 121 9223372036854775807 9223372036854775807])
noncomputable def hq_821 : HP := [(false, .inl (8, [(6, 1, 0), (8, 4, 0), (8, 5, 0)])), (false, ac_989)]
noncomputable def con_1444 : Con2 := ((yX8_at, cX8_at, 3, (some .long)), (0, 0), ([(6, 0, 0), (0, 1, 0), (0, 58, 0)], gi_928, [.inl (8, [(6, 1, 0), (8, 4, 0), (8, 5, 0)]), ac_989], []), [((4, 6, 0), gi_929, hq_821, [], [1])])
theorem hd_1444 : con_1444.1 = (yX8_at, cX8_at, 3, (some .long)) := rfl
noncomputable def cu_1444 : List CUT2 := []
theorem ch_1444 : staG tb_X8_at 1 bt_RX8 [] ct_1253 [] [] cu_1444 11 con_1444 = true := by decide +kernel
theorem vl_1444 (l : Launch) : Vld2 l vwCl gTbl con_1444 := conR_ok3 gT_all (hd_1444) rfl pn_RX8 tk_X8_at bo_RX8 xo_RX8 (cto_1253 l) ch_1444 cut_nil
/-- RookHusting$Slots at -/
noncomputable def ac_990 : AC := .inr (2, jl_n [js_5 119 9223372036854775807 9223372036854775807, js_4 7 1, js_5 120 9223372036854775807 9223372036854775807])
noncomputable def hq_822 : HP := [(false, .inl (8, [(6, 1, 0), (8, 4, 0), (8, 5, 0)])), (false, ac_990)]
noncomputable def con_1445 : Con2 := ((yX8_at, cX8_at, 3, (some .long)), (0, 0), ([(6, 0, 0), (0, 1, 0), (0, 59, 0)], gi_928, [.inl (8, [(6, 1, 0), (8, 4, 0), (8, 5, 0)]), ac_990], []), [((4, 6, 0), gi_929, hq_822, [], [1])])
theorem hd_1445 : con_1445.1 = (yX8_at, cX8_at, 3, (some .long)) := rfl
noncomputable def cu_1445 : List CUT2 := []
theorem ch_1445 : staG tb_X8_at 1 bt_RX8 [] ct_1253 [] [] cu_1445 11 con_1445 = true := by decide +kernel
theorem vl_1445 (l : Launch) : Vld2 l vwCl gTbl con_1445 := conR_ok3 gT_all (hd_1445) rfl pn_RX8 tk_X8_at bo_RX8 xo_RX8 (cto_1253 l) ch_1445 cut_nil
/-- RookHusting wrongSeen -/
noncomputable def ac_991 : AC := .inr (2, jl_n [js_5 60 9223372036854775807 9223372036854775807, js_4 105 60, js_5 120 9223372036854775807 9223372036854775807])
noncomputable def hc_194 : List AC := [ac_804, .inl (9, [(6, 2, 0), (8, 20, 0)]), ac_805, .inl (8, [(6, 5, 0), (8, 39, 0), (6, 4, 0)]), ac_806, ac_991]
noncomputable def hq_823 : HP := [(false, ac_804), (false, .inl (9, [(6, 2, 0), (8, 20, 0)])), (false, ac_805), (false, .inl (8, [(6, 5, 0), (8, 39, 0), (6, 4, 0)])), (false, ac_806), (false, ac_991)]
noncomputable def gi_1025 : GI := jl_n [gp_539, jl_k 0 0, gp_540, jl_z 1]
noncomputable def gi_1026 : GI := jl_n [gp_539, gp_541, jl_z 1]
noncomputable def gi_1027 : GI := jl_n [gp_539, gp_543, jl_z 1]
noncomputable def gi_1028 : GI := jl_n [gp_539, gp_545, jl_z 1]
noncomputable def gi_1029 : GI := jl_n [gp_539, gp_547, jl_z 1]
noncomputable def gi_1030 : GI := jl_n [gp_539, gp_549, jl_z 1]
noncomputable def gi_1031 : GI := jl_n [gp_539, gp_552, jl_z 1]
noncomputable def gi_1032 : GI := jl_n [gp_539, gp_554, jl_z 1]
noncomputable def gi_1033 : GI := jl_n [gp_539, gp_556, jl_z 1]
noncomputable def gi_1034 : GI := jl_n [gp_539, gp_558, jl_z 1]
noncomputable def gi_1035 : GI := jl_n [gp_539, gp_560, jl_z 1]
noncomputable def gi_1036 : GI := jl_n [gp_539, gp_562, jl_z 1]
noncomputable def gi_1037 : GI := jl_n [gp_539, gp_564, jl_z 1]
noncomputable def gi_1038 : GI := jl_n [gp_539, gp_566, jl_z 1]
noncomputable def gi_1039 : GI := jl_n [gp_539, gp_568, jl_z 1]
noncomputable def gi_1040 : GI := jl_n [gp_539, gp_570, jl_z 1]
noncomputable def gi_1041 : GI := jl_n [gp_539, gp_572, jl_z 1]
noncomputable def gi_1042 : GI := jl_n [gp_539, gp_574, jl_z 1]
noncomputable def gi_1043 : GI := jl_n [gp_539, gp_576, jl_z 1]
noncomputable def gi_1044 : GI := jl_n [gp_539, gp_578, jl_z 1]
noncomputable def gi_1045 : GI := jl_n [gp_539, gp_579, jl_z 1]
noncomputable def gi_1046 : GI := jl_n [gp_539, gp_581, jl_z 1]
noncomputable def con_1446 : Con2 := ((yX11_wrongSeen, cX11_wrongSeen, 5, (some .int)), (1, 22), ([(6, 0, 0), (0, 1, 0), (1, 2, 0)], gi_933, hc_194, []), [((0, (-2), 0), gi_934, hq_823, [], [1]), ((0, (-6), 0), gi_1025, hq_823, [], [1]), ((0, 0, 0), gi_1026, hq_823, [], [1]), ((0, 0, 0), gi_1027, hq_823, [], [1]), ((0, 0, 0), gi_1028, hq_823, [], [1]), ((0, 0, 0), gi_1029, hq_823, [], [1]), ((0, 0, 0), gi_1030, hq_823, [], [1]), ((0, 0, 0), gi_1031, hq_823, [], [1]), ((0, 0, 0), gi_1032, hq_823, [], [1]), ((0, 0, 0), gi_1033, hq_823, [], [1]), ((0, 0, 0), gi_1034, hq_823, [], [1]), ((0, 0, 0), gi_1035, hq_823, [], [1]), ((0, 0, 0), gi_1036, hq_823, [], [1]), ((0, 0, 0), gi_1037, hq_823, [], [1]), ((0, 0, 0), gi_1038, hq_823, [], [1]), ((0, 0, 0), gi_1039, hq_823, [], [1]), ((0, 0, 0), gi_1040, hq_823, [], [1]), ((0, 0, 0), gi_1041, hq_823, [], [1]), ((0, 0, 0), gi_1042, hq_823, [], [1]), ((0, 0, 0), gi_1043, hq_823, [], [1]), ((0, 0, 0), gi_1044, hq_823, [], [1]), ((0, 0, 0), gi_1045, hq_823, [], [1]), ((0, 0, 0), gi_1046, hq_823, [], [1])])
theorem hd_1446 : con_1446.1 = (yX11_wrongSeen, cX11_wrongSeen, 5, (some .int)) := rfl
theorem ck_RX11_473_1388 : COK2 RX11 vwCl gTbl 473 0 con_1388 := ⟨wd_1218, wd_131, mh_X8_at, .inr (.inr ⟨rfl, wd_1215, wd_1216, wd_1217, ⟨_, rfl, pd_X8_at⟩, 8, _, TX8, 3, rfl, rfl⟩)⟩
theorem ck_RX11_473_1391 : COK2 RX11 vwCl gTbl 473 0 con_1391 := ⟨wd_1218, wd_131, mh_X8_at, .inr (.inr ⟨rfl, wd_1215, wd_1216, wd_1217, ⟨_, rfl, pd_X8_at⟩, 8, _, TX8, 3, rfl, rfl⟩)⟩
theorem ck_RX11_473_1394 : COK2 RX11 vwCl gTbl 473 0 con_1394 := ⟨wd_1218, wd_131, mh_X8_at, .inr (.inr ⟨rfl, wd_1215, wd_1216, wd_1217, ⟨_, rfl, pd_X8_at⟩, 8, _, TX8, 3, rfl, rfl⟩)⟩
theorem ck_RX11_473_1397 : COK2 RX11 vwCl gTbl 473 0 con_1397 := ⟨wd_1218, wd_131, mh_X8_at, .inr (.inr ⟨rfl, wd_1215, wd_1216, wd_1217, ⟨_, rfl, pd_X8_at⟩, 8, _, TX8, 3, rfl, rfl⟩)⟩
theorem ck_RX11_473_1400 : COK2 RX11 vwCl gTbl 473 0 con_1400 := ⟨wd_1218, wd_131, mh_X8_at, .inr (.inr ⟨rfl, wd_1215, wd_1216, wd_1217, ⟨_, rfl, pd_X8_at⟩, 8, _, TX8, 3, rfl, rfl⟩)⟩
theorem ck_RX11_473_1403 : COK2 RX11 vwCl gTbl 473 0 con_1403 := ⟨wd_1218, wd_131, mh_X8_at, .inr (.inr ⟨rfl, wd_1215, wd_1216, wd_1217, ⟨_, rfl, pd_X8_at⟩, 8, _, TX8, 3, rfl, rfl⟩)⟩
theorem ck_RX11_473_1406 : COK2 RX11 vwCl gTbl 473 0 con_1406 := ⟨wd_1218, wd_131, mh_X8_at, .inr (.inr ⟨rfl, wd_1215, wd_1216, wd_1217, ⟨_, rfl, pd_X8_at⟩, 8, _, TX8, 3, rfl, rfl⟩)⟩
theorem ck_RX11_473_1409 : COK2 RX11 vwCl gTbl 473 0 con_1409 := ⟨wd_1218, wd_131, mh_X8_at, .inr (.inr ⟨rfl, wd_1215, wd_1216, wd_1217, ⟨_, rfl, pd_X8_at⟩, 8, _, TX8, 3, rfl, rfl⟩)⟩
theorem ck_RX11_473_1412 : COK2 RX11 vwCl gTbl 473 0 con_1412 := ⟨wd_1218, wd_131, mh_X8_at, .inr (.inr ⟨rfl, wd_1215, wd_1216, wd_1217, ⟨_, rfl, pd_X8_at⟩, 8, _, TX8, 3, rfl, rfl⟩)⟩
theorem ck_RX11_473_1415 : COK2 RX11 vwCl gTbl 473 0 con_1415 := ⟨wd_1218, wd_131, mh_X8_at, .inr (.inr ⟨rfl, wd_1215, wd_1216, wd_1217, ⟨_, rfl, pd_X8_at⟩, 8, _, TX8, 3, rfl, rfl⟩)⟩
theorem ck_RX11_473_1418 : COK2 RX11 vwCl gTbl 473 0 con_1418 := ⟨wd_1218, wd_131, mh_X8_at, .inr (.inr ⟨rfl, wd_1215, wd_1216, wd_1217, ⟨_, rfl, pd_X8_at⟩, 8, _, TX8, 3, rfl, rfl⟩)⟩
theorem ck_RX11_473_1421 : COK2 RX11 vwCl gTbl 473 0 con_1421 := ⟨wd_1218, wd_131, mh_X8_at, .inr (.inr ⟨rfl, wd_1215, wd_1216, wd_1217, ⟨_, rfl, pd_X8_at⟩, 8, _, TX8, 3, rfl, rfl⟩)⟩
theorem ck_RX11_473_1424 : COK2 RX11 vwCl gTbl 473 0 con_1424 := ⟨wd_1218, wd_131, mh_X8_at, .inr (.inr ⟨rfl, wd_1215, wd_1216, wd_1217, ⟨_, rfl, pd_X8_at⟩, 8, _, TX8, 3, rfl, rfl⟩)⟩
theorem ck_RX11_473_1427 : COK2 RX11 vwCl gTbl 473 0 con_1427 := ⟨wd_1218, wd_131, mh_X8_at, .inr (.inr ⟨rfl, wd_1215, wd_1216, wd_1217, ⟨_, rfl, pd_X8_at⟩, 8, _, TX8, 3, rfl, rfl⟩)⟩
theorem ck_RX11_473_1430 : COK2 RX11 vwCl gTbl 473 0 con_1430 := ⟨wd_1218, wd_131, mh_X8_at, .inr (.inr ⟨rfl, wd_1215, wd_1216, wd_1217, ⟨_, rfl, pd_X8_at⟩, 8, _, TX8, 3, rfl, rfl⟩)⟩
theorem ck_RX11_473_1433 : COK2 RX11 vwCl gTbl 473 0 con_1433 := ⟨wd_1218, wd_131, mh_X8_at, .inr (.inr ⟨rfl, wd_1215, wd_1216, wd_1217, ⟨_, rfl, pd_X8_at⟩, 8, _, TX8, 3, rfl, rfl⟩)⟩
theorem ck_RX11_473_1436 : COK2 RX11 vwCl gTbl 473 0 con_1436 := ⟨wd_1218, wd_131, mh_X8_at, .inr (.inr ⟨rfl, wd_1215, wd_1216, wd_1217, ⟨_, rfl, pd_X8_at⟩, 8, _, TX8, 3, rfl, rfl⟩)⟩
theorem ck_RX11_473_1439 : COK2 RX11 vwCl gTbl 473 0 con_1439 := ⟨wd_1218, wd_131, mh_X8_at, .inr (.inr ⟨rfl, wd_1215, wd_1216, wd_1217, ⟨_, rfl, pd_X8_at⟩, 8, _, TX8, 3, rfl, rfl⟩)⟩
theorem ck_RX11_473_1442 : COK2 RX11 vwCl gTbl 473 0 con_1442 := ⟨wd_1218, wd_131, mh_X8_at, .inr (.inr ⟨rfl, wd_1215, wd_1216, wd_1217, ⟨_, rfl, pd_X8_at⟩, 8, _, TX8, 3, rfl, rfl⟩)⟩
theorem ck_RX11_473_1445 : COK2 RX11 vwCl gTbl 473 0 con_1445 := ⟨wd_1218, wd_131, mh_X8_at, .inr (.inr ⟨rfl, wd_1215, wd_1216, wd_1217, ⟨_, rfl, pd_X8_at⟩, 8, _, TX8, 3, rfl, rfl⟩)⟩
theorem ck_RX11_473_1387 : COK2 RX11 vwCl gTbl 473 0 con_1387 := ⟨wd_1218, wd_131, mh_X8_at, .inr (.inr ⟨rfl, wd_1215, wd_1216, wd_1217, ⟨_, rfl, pd_X8_at⟩, 8, _, TX8, 3, rfl, rfl⟩)⟩
theorem ck_RX11_473_1390 : COK2 RX11 vwCl gTbl 473 0 con_1390 := ⟨wd_1218, wd_131, mh_X8_at, .inr (.inr ⟨rfl, wd_1215, wd_1216, wd_1217, ⟨_, rfl, pd_X8_at⟩, 8, _, TX8, 3, rfl, rfl⟩)⟩
theorem ck_RX11_473_1393 : COK2 RX11 vwCl gTbl 473 0 con_1393 := ⟨wd_1218, wd_131, mh_X8_at, .inr (.inr ⟨rfl, wd_1215, wd_1216, wd_1217, ⟨_, rfl, pd_X8_at⟩, 8, _, TX8, 3, rfl, rfl⟩)⟩
theorem ck_RX11_473_1396 : COK2 RX11 vwCl gTbl 473 0 con_1396 := ⟨wd_1218, wd_131, mh_X8_at, .inr (.inr ⟨rfl, wd_1215, wd_1216, wd_1217, ⟨_, rfl, pd_X8_at⟩, 8, _, TX8, 3, rfl, rfl⟩)⟩
theorem ck_RX11_473_1399 : COK2 RX11 vwCl gTbl 473 0 con_1399 := ⟨wd_1218, wd_131, mh_X8_at, .inr (.inr ⟨rfl, wd_1215, wd_1216, wd_1217, ⟨_, rfl, pd_X8_at⟩, 8, _, TX8, 3, rfl, rfl⟩)⟩
theorem ck_RX11_473_1402 : COK2 RX11 vwCl gTbl 473 0 con_1402 := ⟨wd_1218, wd_131, mh_X8_at, .inr (.inr ⟨rfl, wd_1215, wd_1216, wd_1217, ⟨_, rfl, pd_X8_at⟩, 8, _, TX8, 3, rfl, rfl⟩)⟩
theorem ck_RX11_473_1405 : COK2 RX11 vwCl gTbl 473 0 con_1405 := ⟨wd_1218, wd_131, mh_X8_at, .inr (.inr ⟨rfl, wd_1215, wd_1216, wd_1217, ⟨_, rfl, pd_X8_at⟩, 8, _, TX8, 3, rfl, rfl⟩)⟩
theorem ck_RX11_473_1408 : COK2 RX11 vwCl gTbl 473 0 con_1408 := ⟨wd_1218, wd_131, mh_X8_at, .inr (.inr ⟨rfl, wd_1215, wd_1216, wd_1217, ⟨_, rfl, pd_X8_at⟩, 8, _, TX8, 3, rfl, rfl⟩)⟩
theorem ck_RX11_473_1411 : COK2 RX11 vwCl gTbl 473 0 con_1411 := ⟨wd_1218, wd_131, mh_X8_at, .inr (.inr ⟨rfl, wd_1215, wd_1216, wd_1217, ⟨_, rfl, pd_X8_at⟩, 8, _, TX8, 3, rfl, rfl⟩)⟩
theorem ck_RX11_473_1414 : COK2 RX11 vwCl gTbl 473 0 con_1414 := ⟨wd_1218, wd_131, mh_X8_at, .inr (.inr ⟨rfl, wd_1215, wd_1216, wd_1217, ⟨_, rfl, pd_X8_at⟩, 8, _, TX8, 3, rfl, rfl⟩)⟩
theorem ck_RX11_473_1417 : COK2 RX11 vwCl gTbl 473 0 con_1417 := ⟨wd_1218, wd_131, mh_X8_at, .inr (.inr ⟨rfl, wd_1215, wd_1216, wd_1217, ⟨_, rfl, pd_X8_at⟩, 8, _, TX8, 3, rfl, rfl⟩)⟩
theorem ck_RX11_473_1420 : COK2 RX11 vwCl gTbl 473 0 con_1420 := ⟨wd_1218, wd_131, mh_X8_at, .inr (.inr ⟨rfl, wd_1215, wd_1216, wd_1217, ⟨_, rfl, pd_X8_at⟩, 8, _, TX8, 3, rfl, rfl⟩)⟩
theorem ck_RX11_473_1423 : COK2 RX11 vwCl gTbl 473 0 con_1423 := ⟨wd_1218, wd_131, mh_X8_at, .inr (.inr ⟨rfl, wd_1215, wd_1216, wd_1217, ⟨_, rfl, pd_X8_at⟩, 8, _, TX8, 3, rfl, rfl⟩)⟩
theorem ck_RX11_473_1426 : COK2 RX11 vwCl gTbl 473 0 con_1426 := ⟨wd_1218, wd_131, mh_X8_at, .inr (.inr ⟨rfl, wd_1215, wd_1216, wd_1217, ⟨_, rfl, pd_X8_at⟩, 8, _, TX8, 3, rfl, rfl⟩)⟩
theorem ck_RX11_473_1429 : COK2 RX11 vwCl gTbl 473 0 con_1429 := ⟨wd_1218, wd_131, mh_X8_at, .inr (.inr ⟨rfl, wd_1215, wd_1216, wd_1217, ⟨_, rfl, pd_X8_at⟩, 8, _, TX8, 3, rfl, rfl⟩)⟩
theorem ck_RX11_473_1432 : COK2 RX11 vwCl gTbl 473 0 con_1432 := ⟨wd_1218, wd_131, mh_X8_at, .inr (.inr ⟨rfl, wd_1215, wd_1216, wd_1217, ⟨_, rfl, pd_X8_at⟩, 8, _, TX8, 3, rfl, rfl⟩)⟩
theorem ck_RX11_473_1435 : COK2 RX11 vwCl gTbl 473 0 con_1435 := ⟨wd_1218, wd_131, mh_X8_at, .inr (.inr ⟨rfl, wd_1215, wd_1216, wd_1217, ⟨_, rfl, pd_X8_at⟩, 8, _, TX8, 3, rfl, rfl⟩)⟩
theorem ck_RX11_473_1438 : COK2 RX11 vwCl gTbl 473 0 con_1438 := ⟨wd_1218, wd_131, mh_X8_at, .inr (.inr ⟨rfl, wd_1215, wd_1216, wd_1217, ⟨_, rfl, pd_X8_at⟩, 8, _, TX8, 3, rfl, rfl⟩)⟩
theorem ck_RX11_473_1441 : COK2 RX11 vwCl gTbl 473 0 con_1441 := ⟨wd_1218, wd_131, mh_X8_at, .inr (.inr ⟨rfl, wd_1215, wd_1216, wd_1217, ⟨_, rfl, pd_X8_at⟩, 8, _, TX8, 3, rfl, rfl⟩)⟩
theorem ck_RX11_473_1444 : COK2 RX11 vwCl gTbl 473 0 con_1444 := ⟨wd_1218, wd_131, mh_X8_at, .inr (.inr ⟨rfl, wd_1215, wd_1216, wd_1217, ⟨_, rfl, pd_X8_at⟩, 8, _, TX8, 3, rfl, rfl⟩)⟩
theorem ck_RX11_473_1386 : COK2 RX11 vwCl gTbl 473 0 con_1386 := ⟨wd_1218, wd_131, mh_X8_at, .inr (.inr ⟨rfl, wd_1215, wd_1216, wd_1217, ⟨_, rfl, pd_X8_at⟩, 8, _, TX8, 3, rfl, rfl⟩)⟩
theorem ck_RX11_473_1389 : COK2 RX11 vwCl gTbl 473 0 con_1389 := ⟨wd_1218, wd_131, mh_X8_at, .inr (.inr ⟨rfl, wd_1215, wd_1216, wd_1217, ⟨_, rfl, pd_X8_at⟩, 8, _, TX8, 3, rfl, rfl⟩)⟩
theorem ck_RX11_473_1392 : COK2 RX11 vwCl gTbl 473 0 con_1392 := ⟨wd_1218, wd_131, mh_X8_at, .inr (.inr ⟨rfl, wd_1215, wd_1216, wd_1217, ⟨_, rfl, pd_X8_at⟩, 8, _, TX8, 3, rfl, rfl⟩)⟩
theorem ck_RX11_473_1395 : COK2 RX11 vwCl gTbl 473 0 con_1395 := ⟨wd_1218, wd_131, mh_X8_at, .inr (.inr ⟨rfl, wd_1215, wd_1216, wd_1217, ⟨_, rfl, pd_X8_at⟩, 8, _, TX8, 3, rfl, rfl⟩)⟩
theorem ck_RX11_473_1398 : COK2 RX11 vwCl gTbl 473 0 con_1398 := ⟨wd_1218, wd_131, mh_X8_at, .inr (.inr ⟨rfl, wd_1215, wd_1216, wd_1217, ⟨_, rfl, pd_X8_at⟩, 8, _, TX8, 3, rfl, rfl⟩)⟩
theorem ck_RX11_473_1401 : COK2 RX11 vwCl gTbl 473 0 con_1401 := ⟨wd_1218, wd_131, mh_X8_at, .inr (.inr ⟨rfl, wd_1215, wd_1216, wd_1217, ⟨_, rfl, pd_X8_at⟩, 8, _, TX8, 3, rfl, rfl⟩)⟩
theorem ck_RX11_473_1404 : COK2 RX11 vwCl gTbl 473 0 con_1404 := ⟨wd_1218, wd_131, mh_X8_at, .inr (.inr ⟨rfl, wd_1215, wd_1216, wd_1217, ⟨_, rfl, pd_X8_at⟩, 8, _, TX8, 3, rfl, rfl⟩)⟩
theorem ck_RX11_473_1407 : COK2 RX11 vwCl gTbl 473 0 con_1407 := ⟨wd_1218, wd_131, mh_X8_at, .inr (.inr ⟨rfl, wd_1215, wd_1216, wd_1217, ⟨_, rfl, pd_X8_at⟩, 8, _, TX8, 3, rfl, rfl⟩)⟩
theorem ck_RX11_473_1410 : COK2 RX11 vwCl gTbl 473 0 con_1410 := ⟨wd_1218, wd_131, mh_X8_at, .inr (.inr ⟨rfl, wd_1215, wd_1216, wd_1217, ⟨_, rfl, pd_X8_at⟩, 8, _, TX8, 3, rfl, rfl⟩)⟩
theorem ck_RX11_473_1413 : COK2 RX11 vwCl gTbl 473 0 con_1413 := ⟨wd_1218, wd_131, mh_X8_at, .inr (.inr ⟨rfl, wd_1215, wd_1216, wd_1217, ⟨_, rfl, pd_X8_at⟩, 8, _, TX8, 3, rfl, rfl⟩)⟩
theorem ck_RX11_473_1416 : COK2 RX11 vwCl gTbl 473 0 con_1416 := ⟨wd_1218, wd_131, mh_X8_at, .inr (.inr ⟨rfl, wd_1215, wd_1216, wd_1217, ⟨_, rfl, pd_X8_at⟩, 8, _, TX8, 3, rfl, rfl⟩)⟩
theorem ck_RX11_473_1419 : COK2 RX11 vwCl gTbl 473 0 con_1419 := ⟨wd_1218, wd_131, mh_X8_at, .inr (.inr ⟨rfl, wd_1215, wd_1216, wd_1217, ⟨_, rfl, pd_X8_at⟩, 8, _, TX8, 3, rfl, rfl⟩)⟩
theorem ck_RX11_473_1422 : COK2 RX11 vwCl gTbl 473 0 con_1422 := ⟨wd_1218, wd_131, mh_X8_at, .inr (.inr ⟨rfl, wd_1215, wd_1216, wd_1217, ⟨_, rfl, pd_X8_at⟩, 8, _, TX8, 3, rfl, rfl⟩)⟩
theorem ck_RX11_473_1425 : COK2 RX11 vwCl gTbl 473 0 con_1425 := ⟨wd_1218, wd_131, mh_X8_at, .inr (.inr ⟨rfl, wd_1215, wd_1216, wd_1217, ⟨_, rfl, pd_X8_at⟩, 8, _, TX8, 3, rfl, rfl⟩)⟩
theorem ck_RX11_473_1428 : COK2 RX11 vwCl gTbl 473 0 con_1428 := ⟨wd_1218, wd_131, mh_X8_at, .inr (.inr ⟨rfl, wd_1215, wd_1216, wd_1217, ⟨_, rfl, pd_X8_at⟩, 8, _, TX8, 3, rfl, rfl⟩)⟩
theorem ck_RX11_473_1431 : COK2 RX11 vwCl gTbl 473 0 con_1431 := ⟨wd_1218, wd_131, mh_X8_at, .inr (.inr ⟨rfl, wd_1215, wd_1216, wd_1217, ⟨_, rfl, pd_X8_at⟩, 8, _, TX8, 3, rfl, rfl⟩)⟩
theorem ck_RX11_473_1434 : COK2 RX11 vwCl gTbl 473 0 con_1434 := ⟨wd_1218, wd_131, mh_X8_at, .inr (.inr ⟨rfl, wd_1215, wd_1216, wd_1217, ⟨_, rfl, pd_X8_at⟩, 8, _, TX8, 3, rfl, rfl⟩)⟩
theorem ck_RX11_473_1437 : COK2 RX11 vwCl gTbl 473 0 con_1437 := ⟨wd_1218, wd_131, mh_X8_at, .inr (.inr ⟨rfl, wd_1215, wd_1216, wd_1217, ⟨_, rfl, pd_X8_at⟩, 8, _, TX8, 3, rfl, rfl⟩)⟩
theorem ck_RX11_473_1440 : COK2 RX11 vwCl gTbl 473 0 con_1440 := ⟨wd_1218, wd_131, mh_X8_at, .inr (.inr ⟨rfl, wd_1215, wd_1216, wd_1217, ⟨_, rfl, pd_X8_at⟩, 8, _, TX8, 3, rfl, rfl⟩)⟩
theorem ck_RX11_473_1443 : COK2 RX11 vwCl gTbl 473 0 con_1443 := ⟨wd_1218, wd_131, mh_X8_at, .inr (.inr ⟨rfl, wd_1215, wd_1216, wd_1217, ⟨_, rfl, pd_X8_at⟩, 8, _, TX8, 3, rfl, rfl⟩)⟩
theorem ck_RX11_420_1385 : COK2 RX11 vwCl gTbl 420 0 con_1385 := ⟨wd_1214, wd_131, mh_X8_hasRow, .inr (.inr ⟨rfl, wd_1211, wd_1212, wd_1213, ⟨_, rfl, pd_X8_hasRow⟩, 8, _, TX8, 3, rfl, rfl⟩)⟩
theorem ck_RX11_414_1384 : COK2 RX11 vwCl gTbl 414 1 con_1384 := ⟨wd_1210, wd_131, mh_X8_isSlot, .inl ⟨rfl, wd_1208, wd_1209, pd_X8_isSlot⟩⟩
noncomputable def ct_1446 : CTB2 := [(1, 414, 1, con_1384, []), (9, 139, 0, con_643, [0, 1, 2]), (23, 420, 0, con_1385, [3, 4]), (67, 473, 0, con_1443, [3, 5]), (67, 473, 0, con_1440, [3, 5]), (67, 473, 0, con_1437, [3, 5]), (67, 473, 0, con_1434, [3, 5]), (67, 473, 0, con_1431, [3, 5]), (67, 473, 0, con_1428, [3, 5]), (67, 473, 0, con_1425, [3, 5]), (67, 473, 0, con_1422, [3, 5]), (67, 473, 0, con_1419, [3, 5]), (67, 473, 0, con_1416, [3, 5]), (67, 473, 0, con_1413, [3, 5]), (67, 473, 0, con_1410, [3, 5]), (67, 473, 0, con_1407, [3, 5]), (67, 473, 0, con_1404, [3, 5]), (67, 473, 0, con_1401, [3, 5]), (67, 473, 0, con_1398, [3, 5]), (67, 473, 0, con_1395, [3, 5]), (67, 473, 0, con_1392, [3, 5]), (67, 473, 0, con_1389, [3, 5]), (67, 473, 0, con_1386, [3, 5]), (82, 476, 1, con_1258, []), (97, 473, 0, con_1444, [3, 5]), (97, 473, 0, con_1441, [3, 5]), (97, 473, 0, con_1438, [3, 5]), (97, 473, 0, con_1435, [3, 5]), (97, 473, 0, con_1432, [3, 5]), (97, 473, 0, con_1429, [3, 5]), (97, 473, 0, con_1426, [3, 5]), (97, 473, 0, con_1423, [3, 5]), (97, 473, 0, con_1420, [3, 5]), (97, 473, 0, con_1417, [3, 5]), (97, 473, 0, con_1414, [3, 5]), (97, 473, 0, con_1411, [3, 5]), (97, 473, 0, con_1408, [3, 5]), (97, 473, 0, con_1405, [3, 5]), (97, 473, 0, con_1402, [3, 5]), (97, 473, 0, con_1399, [3, 5]), (97, 473, 0, con_1396, [3, 5]), (97, 473, 0, con_1393, [3, 5]), (97, 473, 0, con_1390, [3, 5]), (97, 473, 0, con_1387, [3, 5]), (110, 476, 1, con_1260, []), (125, 473, 0, con_1445, [3, 5]), (125, 473, 0, con_1442, [3, 5]), (125, 473, 0, con_1439, [3, 5]), (125, 473, 0, con_1436, [3, 5]), (125, 473, 0, con_1433, [3, 5]), (125, 473, 0, con_1430, [3, 5]), (125, 473, 0, con_1427, [3, 5]), (125, 473, 0, con_1424, [3, 5]), (125, 473, 0, con_1421, [3, 5]), (125, 473, 0, con_1418, [3, 5]), (125, 473, 0, con_1415, [3, 5]), (125, 473, 0, con_1412, [3, 5]), (125, 473, 0, con_1409, [3, 5]), (125, 473, 0, con_1406, [3, 5]), (125, 473, 0, con_1403, [3, 5]), (125, 473, 0, con_1400, [3, 5]), (125, 473, 0, con_1397, [3, 5]), (125, 473, 0, con_1394, [3, 5]), (125, 473, 0, con_1391, [3, 5]), (125, 473, 0, con_1388, [3, 5]), (131, 476, 1, con_1262, [])]
noncomputable def gi_1047 : GI := jl_n [gp_539, jl_i 0 60, gp_540, jl_z 5]
noncomputable def gi_1048 : GI := jl_n [gp_539, jl_i 1 60, gp_555, jl_z 5]
noncomputable def gi_1049 : GI := jl_n [gp_539, jl_i 4 60, gp_577, jl_z 5]
noncomputable def gi_1050 : GI := jl_n [gp_539, jl_i 7 60, gp_580, jl_z 5]
noncomputable def gi_1051 : GI := jl_n [gp_539, jl_i 10 60, gp_542, jl_z 5]
noncomputable def gi_1052 : GI := jl_n [gp_539, jl_i 13 60, gp_544, jl_z 5]
noncomputable def gi_1053 : GI := jl_n [gp_539, jl_i 16 60, gp_546, jl_z 5]
noncomputable def gi_1054 : GI := jl_n [gp_539, jl_i 19 60, gp_548, jl_z 5]
noncomputable def gi_1055 : GI := jl_n [gp_539, jl_i 22 60, gp_551, jl_z 5]
noncomputable def gi_1056 : GI := jl_n [gp_539, jl_i 25 60, gp_553, jl_z 5]
noncomputable def gi_1057 : GI := jl_n [gp_539, jl_i 28 60, gp_557, jl_z 5]
noncomputable def gi_1058 : GI := jl_n [gp_539, jl_i 31 60, gp_559, jl_z 5]
noncomputable def gi_1059 : GI := jl_n [gp_539, jl_i 34 60, gp_561, jl_z 5]
noncomputable def gi_1060 : GI := jl_n [gp_539, jl_i 37 60, gp_563, jl_z 5]
noncomputable def gi_1061 : GI := jl_n [gp_539, jl_i 40 60, gp_565, jl_z 5]
noncomputable def gi_1062 : GI := jl_n [gp_539, jl_i 43 60, gp_567, jl_z 5]
noncomputable def gi_1063 : GI := jl_n [gp_539, jl_i 46 60, gp_569, jl_z 5]
noncomputable def gi_1064 : GI := jl_n [gp_539, jl_i 49 60, gp_571, jl_z 5]
noncomputable def gi_1065 : GI := jl_n [gp_539, jl_i 52 60, gp_573, jl_z 5]
noncomputable def gi_1066 : GI := jl_n [gp_539, jl_i 55 60, jl_r 2 (jl_m 0 60), gp_490]
noncomputable def gi_1067 : GI := jl_n [gp_539, gp_579, jl_z 5]
noncomputable def cu_1446_0 : List CUT2 := [((54, [lq 0 6 0, lq 1 0 1, lq 2 1 2, lq 3 1 42, lq 4 0 0], [], gi_1047, hq_823), [], ([], 60)), ((54, [lq 0 6 0, lq 1 0 1, lq 2 1 2, lq 3 1 42, lq 4 0 3], [], gi_1048, hq_823), [], ([], 57)), ((54, [lq 0 6 0, lq 1 0 1, lq 2 1 2, lq 3 1 42, lq 4 0 6], [], gi_1049, hq_823), [], ([], 54)), ((54, [lq 0 6 0, lq 1 0 1, lq 2 1 2, lq 3 1 42, lq 4 0 9], [], gi_1050, hq_823), [], ([], 51)), ((54, [lq 0 6 0, lq 1 0 1, lq 2 1 2, lq 3 1 42, lq 4 0 12], [], gi_1051, hq_823), [], ([], 48)), ((54, [lq 0 6 0, lq 1 0 1, lq 2 1 2, lq 3 1 42, lq 4 0 15], [], gi_1052, hq_823), [], ([], 45)), ((54, [lq 0 6 0, lq 1 0 1, lq 2 1 2, lq 3 1 42, lq 4 0 18], [], gi_1053, hq_823), [], ([], 42)), ((54, [lq 0 6 0, lq 1 0 1, lq 2 1 2, lq 3 1 42, lq 4 0 21], [], gi_1054, hq_823), [], ([], 39)), ((54, [lq 0 6 0, lq 1 0 1, lq 2 1 2, lq 3 1 42, lq 4 0 24], [], gi_1055, hq_823), [], ([], 36)), ((54, [lq 0 6 0, lq 1 0 1, lq 2 1 2, lq 3 1 42, lq 4 0 27], [], gi_1056, hq_823), [], ([], 33)), ((54, [lq 0 6 0, lq 1 0 1, lq 2 1 2, lq 3 1 42, lq 4 0 30], [], gi_1057, hq_823), [], ([], 30)), ((54, [lq 0 6 0, lq 1 0 1, lq 2 1 2, lq 3 1 42, lq 4 0 33], [], gi_1058, hq_823), [], ([], 27)), ((54, [lq 0 6 0, lq 1 0 1, lq 2 1 2, lq 3 1 42, lq 4 0 36], [], gi_1059, hq_823), [], ([], 24))]
noncomputable def cu_1446_1 : List CUT2 := [((54, [lq 0 6 0, lq 1 0 1, lq 2 1 2, lq 3 1 42, lq 4 0 39], [], gi_1060, hq_823), [], ([], 21)), ((54, [lq 0 6 0, lq 1 0 1, lq 2 1 2, lq 3 1 42, lq 4 0 42], [], gi_1061, hq_823), [], ([], 18)), ((54, [lq 0 6 0, lq 1 0 1, lq 2 1 2, lq 3 1 42, lq 4 0 45], [], gi_1062, hq_823), [], ([], 15)), ((54, [lq 0 6 0, lq 1 0 1, lq 2 1 2, lq 3 1 42, lq 4 0 48], [], gi_1063, hq_823), [], ([], 12)), ((54, [lq 0 6 0, lq 1 0 1, lq 2 1 2, lq 3 1 42, lq 4 0 51], [], gi_1064, hq_823), [], ([], 9)), ((54, [lq 0 6 0, lq 1 0 1, lq 2 1 2, lq 3 1 42, lq 4 0 54], [], gi_1065, hq_823), [], ([], 6)), ((54, [lq 0 6 0, lq 1 0 1, lq 2 1 2, lq 3 1 42, lq 4 0 57], [], gi_1066, hq_823), [], ([], 3)), ((54, [lq 0 6 0, lq 1 0 1, lq 2 1 2, lq 3 1 42, lq 4 0 60], [], gi_1067, hq_823), [], ([], 0))]
noncomputable def cu_1446 : List CUT2 := cu_1446_0 ++ (cu_1446_1)
theorem ch_1446 : staG tb_X11_wrongSeen 1 bt_RX11 [] ct_1446 [] [] cu_1446 44 con_1446 = true := by decide +kernel
theorem cc_1446_0 : cu_1446_0.all (cutG tb_X11_wrongSeen 1 bt_RX11 [] ct_1446 [] [] cu_1446 44 con_1446) = true := by decide +kernel
theorem cc_1446_1 : cu_1446_1.all (cutG tb_X11_wrongSeen 1 bt_RX11 [] ct_1446 [] [] cu_1446 44 con_1446) = true := by decide +kernel
theorem cto_1446 (l : Launch) : CTOK2 l RX11 vwCl gTbl ct_1446 := ct2_cons (vl_1384 l) ck_RX11_414_1384 (ct2_cons (vl_643 l) ck_RX11_139_643 (ct2_cons (vl_1385 l) ck_RX11_420_1385 (ct2_cons (vl_1443 l) ck_RX11_473_1443 (ct2_cons (vl_1440 l) ck_RX11_473_1440 (ct2_cons (vl_1437 l) ck_RX11_473_1437 (ct2_cons (vl_1434 l) ck_RX11_473_1434 (ct2_cons (vl_1431 l) ck_RX11_473_1431 (ct2_cons (vl_1428 l) ck_RX11_473_1428 (ct2_cons (vl_1425 l) ck_RX11_473_1425 (ct2_cons (vl_1422 l) ck_RX11_473_1422 (ct2_cons (vl_1419 l) ck_RX11_473_1419 (ct2_cons (vl_1416 l) ck_RX11_473_1416 (ct2_cons (vl_1413 l) ck_RX11_473_1413 (ct2_cons (vl_1410 l) ck_RX11_473_1410 (ct2_cons (vl_1407 l) ck_RX11_473_1407 (ct2_cons (vl_1404 l) ck_RX11_473_1404 (ct2_cons (vl_1401 l) ck_RX11_473_1401 (ct2_cons (vl_1398 l) ck_RX11_473_1398 (ct2_cons (vl_1395 l) ck_RX11_473_1395 (ct2_cons (vl_1392 l) ck_RX11_473_1392 (ct2_cons (vl_1389 l) ck_RX11_473_1389 (ct2_cons (vl_1386 l) ck_RX11_473_1386 (ct2_cons (vl_1258 l) ck_RX11_476_1258 (ct2_cons (vl_1444 l) ck_RX11_473_1444 (ct2_cons (vl_1441 l) ck_RX11_473_1441 (ct2_cons (vl_1438 l) ck_RX11_473_1438 (ct2_cons (vl_1435 l) ck_RX11_473_1435 (ct2_cons (vl_1432 l) ck_RX11_473_1432 (ct2_cons (vl_1429 l) ck_RX11_473_1429 (ct2_cons (vl_1426 l) ck_RX11_473_1426 (ct2_cons (vl_1423 l) ck_RX11_473_1423 (ct2_cons (vl_1420 l) ck_RX11_473_1420 (ct2_cons (vl_1417 l) ck_RX11_473_1417 (ct2_cons (vl_1414 l) ck_RX11_473_1414 (ct2_cons (vl_1411 l) ck_RX11_473_1411 (ct2_cons (vl_1408 l) ck_RX11_473_1408 (ct2_cons (vl_1405 l) ck_RX11_473_1405 (ct2_cons (vl_1402 l) ck_RX11_473_1402 (ct2_cons (vl_1399 l) ck_RX11_473_1399 (ct2_cons (vl_1396 l) ck_RX11_473_1396 (ct2_cons (vl_1393 l) ck_RX11_473_1393 (ct2_cons (vl_1390 l) ck_RX11_473_1390 (ct2_cons (vl_1387 l) ck_RX11_473_1387 (ct2_cons (vl_1260 l) ck_RX11_476_1260 (ct2_cons (vl_1445 l) ck_RX11_473_1445 (ct2_cons (vl_1442 l) ck_RX11_473_1442 (ct2_cons (vl_1439 l) ck_RX11_473_1439 (ct2_cons (vl_1436 l) ck_RX11_473_1436 (ct2_cons (vl_1433 l) ck_RX11_473_1433 (ct2_cons (vl_1430 l) ck_RX11_473_1430 (ct2_cons (vl_1427 l) ck_RX11_473_1427 (ct2_cons (vl_1424 l) ck_RX11_473_1424 (ct2_cons (vl_1421 l) ck_RX11_473_1421 (ct2_cons (vl_1418 l) ck_RX11_473_1418 (ct2_cons (vl_1415 l) ck_RX11_473_1415 (ct2_cons (vl_1412 l) ck_RX11_473_1412 (ct2_cons (vl_1409 l) ck_RX11_473_1409 (ct2_cons (vl_1406 l) ck_RX11_473_1406 (ct2_cons (vl_1403 l) ck_RX11_473_1403 (ct2_cons (vl_1400 l) ck_RX11_473_1400 (ct2_cons (vl_1397 l) ck_RX11_473_1397 (ct2_cons (vl_1394 l) ck_RX11_473_1394 (ct2_cons (vl_1391 l) ck_RX11_473_1391 (ct2_cons (vl_1388 l) ck_RX11_473_1388 (ct2_cons (vl_1262 l) ck_RX11_476_1262 (ct2_nil))))))))))))))))))))))))))))))))))))))))))))))))))))))))))))))))))
theorem vl_1446 (l : Launch) : Vld2 l vwCl gTbl con_1446 := conR_ok3 gT_all (hd_1446) rfl pn_RX11 tk_X11_wrongSeen bo_RX11 xo_RX11 (cto_1446 l) ch_1446 (cut_app (cut_all cc_1446_0) (cut_all cc_1446_1))
/-- RookHusting$Slots isSlot -/
noncomputable def con_1447 : Con2 := ((yX8_isSlot, cX8_isSlot, 1, (some .boolean)), (0, 0), ([(0, 0, 0)], [(0, 0)], [], []), [((0, 1, 0), [(0, 0), (0, 0)], [], [], [1])])
theorem hd_1447 : con_1447.1 = (yX8_isSlot, cX8_isSlot, 1, (some .boolean)) := rfl
noncomputable def cu_1447 : List CUT2 := []
theorem ch_1447 : staG tb_X8_isSlot 1 bt_RX8 [] ct_1253 [] [] cu_1447 10 con_1447 = true := by decide +kernel
theorem vl_1447 (l : Launch) : Vld2 l vwCl gTbl con_1447 := conR_ok3 gT_all (hd_1447) rfl pn_RX8 tk_X8_isSlot bo_RX8 xo_RX8 (cto_1253 l) ch_1447 cut_nil
/-- RookHusting$Slots hasRow -/
noncomputable def gi_1068 : GI := jl_n [jl_z 5, jl_k 0 0, jl_r 3 (jl_m 0 60), jl_z 1]
noncomputable def gi_1069 : GI := jl_n [jl_z 5, jl_i 0 60, jl_r 3 (jl_m 0 60), jl_z 1]
noncomputable def con_1448 : Con2 := ((yX8_hasRow, cX8_hasRow, 2, (some .boolean)), (0, 0), ([(6, 0, 0), (0, 0, 0)], gi_925, [.inl (8, [(8, 2, 0), (8, 3, 0), (6, 1, 0)]), ac_808], []), [((0, 0, 0), gi_1068, hq_640, [], [1]), ((0, 1, 0), gi_1069, hq_640, [], [1])])
theorem hd_1448 : con_1448.1 = (yX8_hasRow, cX8_hasRow, 2, (some .boolean)) := rfl
noncomputable def cu_1448 : List CUT2 := []
theorem ch_1448 : staG tb_X8_hasRow 1 bt_RX8 [] ct_1253 [] [] cu_1448 11 con_1448 = true := by decide +kernel
theorem vl_1448 (l : Launch) : Vld2 l vwCl gTbl con_1448 := conR_ok3 gT_all (hd_1448) rfl pn_RX8 tk_X8_hasRow bo_RX8 xo_RX8 (cto_1253 l) ch_1448 cut_nil
/-- RookHusting$Slots at -/
noncomputable def ac_992 : AC := .inr (2, jl_n [js_4 7 1, js_5 239 9223372036854775807 9223372036854775807])
noncomputable def hq_824 : HP := [(false, .inl (8, [(6, 1, 0), (8, 4, 0), (8, 5, 0)])), (false, ac_992)]
noncomputable def con_1449 : Con2 := ((yX8_at, cX8_at, 3, (some .long)), (0, 0), ([(6, 0, 0), (0, 0, 0), (0, 0, 0)], gi_928, [.inl (8, [(6, 1, 0), (8, 4, 0), (8, 5, 0)]), ac_992], []), [((4, 6, 0), gi_929, hq_824, [], [1])])
theorem hd_1449 : con_1449.1 = (yX8_at, cX8_at, 3, (some .long)) := rfl
noncomputable def cu_1449 : List CUT2 := []
theorem ch_1449 : staG tb_X8_at 1 bt_RX8 [] ct_1253 [] [] cu_1449 11 con_1449 = true := by decide +kernel
theorem vl_1449 (l : Launch) : Vld2 l vwCl gTbl con_1449 := conR_ok3 gT_all (hd_1449) rfl pn_RX8 tk_X8_at bo_RX8 xo_RX8 (cto_1253 l) ch_1449 cut_nil
/-- RookHusting$Slots at -/
noncomputable def gi_1070 : GI := jl_n [jl_z 7, jl_u]
noncomputable def ac_993 : AC := .inr (2, jl_n [js_5 1 9223372036854775807 9223372036854775807, js_4 8 1, js_5 238 9223372036854775807 9223372036854775807])
noncomputable def gi_1071 : GI := jl_n [jl_z 7, gp_129]
noncomputable def hq_825 : HP := [(false, .inl (8, [(6, 1, 0), (8, 4, 0), (8, 5, 0)])), (false, ac_993)]
noncomputable def con_1450 : Con2 := ((yX8_at, cX8_at, 3, (some .long)), (0, 0), ([(6, 0, 0), (0, 0, 0), (0, 1, 0)], gi_1070, [.inl (8, [(6, 1, 0), (8, 4, 0), (8, 5, 0)]), ac_993], []), [((4, 7, 0), gi_1071, hq_825, [], [1])])
theorem hd_1450 : con_1450.1 = (yX8_at, cX8_at, 3, (some .long)) := rfl
noncomputable def cu_1450 : List CUT2 := []
theorem ch_1450 : staG tb_X8_at 1 bt_RX8 [] ct_1253 [] [] cu_1450 11 con_1450 = true := by decide +kernel
theorem vl_1450 (l : Launch) : Vld2 l vwCl gTbl con_1450 := conR_ok3 gT_all (hd_1450) rfl pn_RX8 tk_X8_at bo_RX8 xo_RX8 (cto_1253 l) ch_1450 cut_nil
/-- RookHusting$Slots at -/
noncomputable def ac_994 : AC := .inr (2, jl_n [js_5 2 9223372036854775807 9223372036854775807, js_4 7 1, js_5 237 9223372036854775807 9223372036854775807])
noncomputable def hq_826 : HP := [(false, .inl (8, [(6, 1, 0), (8, 4, 0), (8, 5, 0)])), (false, ac_994)]
noncomputable def con_1451 : Con2 := ((yX8_at, cX8_at, 3, (some .long)), (0, 0), ([(6, 0, 0), (0, 0, 0), (0, 2, 0)], gi_928, [.inl (8, [(6, 1, 0), (8, 4, 0), (8, 5, 0)]), ac_994], []), [((4, 6, 0), gi_929, hq_826, [], [1])])
theorem hd_1451 : con_1451.1 = (yX8_at, cX8_at, 3, (some .long)) := rfl
noncomputable def cu_1451 : List CUT2 := []
theorem ch_1451 : staG tb_X8_at 1 bt_RX8 [] ct_1253 [] [] cu_1451 11 con_1451 = true := by decide +kernel
theorem vl_1451 (l : Launch) : Vld2 l vwCl gTbl con_1451 := conR_ok3 gT_all (hd_1451) rfl pn_RX8 tk_X8_at bo_RX8 xo_RX8 (cto_1253 l) ch_1451 cut_nil
/-- RookHusting$Slots at -/
noncomputable def ac_995 : AC := .inr (2, jl_n [js_5 3 9223372036854775807 9223372036854775807, js_4 7 1, js_5 236 9223372036854775807 9223372036854775807])
noncomputable def hq_827 : HP := [(false, .inl (8, [(6, 1, 0), (8, 4, 0), (8, 5, 0)])), (false, ac_995)]
noncomputable def con_1452 : Con2 := ((yX8_at, cX8_at, 3, (some .long)), (0, 0), ([(6, 0, 0), (0, 0, 0), (0, 3, 0)], gi_928, [.inl (8, [(6, 1, 0), (8, 4, 0), (8, 5, 0)]), ac_995], []), [((4, 6, 0), gi_929, hq_827, [], [1])])
theorem hd_1452 : con_1452.1 = (yX8_at, cX8_at, 3, (some .long)) := rfl
noncomputable def cu_1452 : List CUT2 := []
theorem ch_1452 : staG tb_X8_at 1 bt_RX8 [] ct_1253 [] [] cu_1452 11 con_1452 = true := by decide +kernel
theorem vl_1452 (l : Launch) : Vld2 l vwCl gTbl con_1452 := conR_ok3 gT_all (hd_1452) rfl pn_RX8 tk_X8_at bo_RX8 xo_RX8 (cto_1253 l) ch_1452 cut_nil
/-- RookHusting$Slots at -/
noncomputable def ac_996 : AC := .inr (2, jl_n [js_5 4 9223372036854775807 9223372036854775807, js_4 7 1, js_5 235 9223372036854775807 9223372036854775807])
noncomputable def hq_828 : HP := [(false, .inl (8, [(6, 1, 0), (8, 4, 0), (8, 5, 0)])), (false, ac_996)]
noncomputable def con_1453 : Con2 := ((yX8_at, cX8_at, 3, (some .long)), (0, 0), ([(6, 0, 0), (0, 0, 0), (0, 4, 0)], gi_928, [.inl (8, [(6, 1, 0), (8, 4, 0), (8, 5, 0)]), ac_996], []), [((4, 6, 0), gi_929, hq_828, [], [1])])
theorem hd_1453 : con_1453.1 = (yX8_at, cX8_at, 3, (some .long)) := rfl
noncomputable def cu_1453 : List CUT2 := []
theorem ch_1453 : staG tb_X8_at 1 bt_RX8 [] ct_1253 [] [] cu_1453 11 con_1453 = true := by decide +kernel
theorem vl_1453 (l : Launch) : Vld2 l vwCl gTbl con_1453 := conR_ok3 gT_all (hd_1453) rfl pn_RX8 tk_X8_at bo_RX8 xo_RX8 (cto_1253 l) ch_1453 cut_nil
/-- RookHusting$Slots at -/
noncomputable def ac_997 : AC := .inr (2, jl_n [js_5 5 9223372036854775807 9223372036854775807, js_4 7 1, js_5 234 9223372036854775807 9223372036854775807])
noncomputable def hq_829 : HP := [(false, .inl (8, [(6, 1, 0), (8, 4, 0), (8, 5, 0)])), (false, ac_997)]
noncomputable def con_1454 : Con2 := ((yX8_at, cX8_at, 3, (some .long)), (0, 0), ([(6, 0, 0), (0, 0, 0), (0, 5, 0)], gi_928, [.inl (8, [(6, 1, 0), (8, 4, 0), (8, 5, 0)]), ac_997], []), [((4, 6, 0), gi_929, hq_829, [], [1])])
theorem hd_1454 : con_1454.1 = (yX8_at, cX8_at, 3, (some .long)) := rfl
noncomputable def cu_1454 : List CUT2 := []
theorem ch_1454 : staG tb_X8_at 1 bt_RX8 [] ct_1253 [] [] cu_1454 11 con_1454 = true := by decide +kernel
theorem vl_1454 (l : Launch) : Vld2 l vwCl gTbl con_1454 := conR_ok3 gT_all (hd_1454) rfl pn_RX8 tk_X8_at bo_RX8 xo_RX8 (cto_1253 l) ch_1454 cut_nil
/-- RookHusting$Slots at -/
noncomputable def ac_998 : AC := .inr (2, jl_n [js_5 6 9223372036854775807 9223372036854775807, js_4 7 1, js_5 233 9223372036854775807 9223372036854775807])
noncomputable def hq_830 : HP := [(false, .inl (8, [(6, 1, 0), (8, 4, 0), (8, 5, 0)])), (false, ac_998)]
noncomputable def con_1455 : Con2 := ((yX8_at, cX8_at, 3, (some .long)), (0, 0), ([(6, 0, 0), (0, 0, 0), (0, 6, 0)], gi_928, [.inl (8, [(6, 1, 0), (8, 4, 0), (8, 5, 0)]), ac_998], []), [((4, 6, 0), gi_929, hq_830, [], [1])])
theorem hd_1455 : con_1455.1 = (yX8_at, cX8_at, 3, (some .long)) := rfl
noncomputable def cu_1455 : List CUT2 := []
theorem ch_1455 : staG tb_X8_at 1 bt_RX8 [] ct_1253 [] [] cu_1455 11 con_1455 = true := by decide +kernel
theorem vl_1455 (l : Launch) : Vld2 l vwCl gTbl con_1455 := conR_ok3 gT_all (hd_1455) rfl pn_RX8 tk_X8_at bo_RX8 xo_RX8 (cto_1253 l) ch_1455 cut_nil
/-- RookHusting$Slots at -/
noncomputable def ac_999 : AC := .inr (2, jl_n [js_5 7 9223372036854775807 9223372036854775807, js_4 7 1, js_5 232 9223372036854775807 9223372036854775807])
noncomputable def hq_831 : HP := [(false, .inl (8, [(6, 1, 0), (8, 4, 0), (8, 5, 0)])), (false, ac_999)]
noncomputable def con_1456 : Con2 := ((yX8_at, cX8_at, 3, (some .long)), (0, 0), ([(6, 0, 0), (0, 0, 0), (0, 7, 0)], gi_928, [.inl (8, [(6, 1, 0), (8, 4, 0), (8, 5, 0)]), ac_999], []), [((4, 6, 0), gi_929, hq_831, [], [1])])
theorem hd_1456 : con_1456.1 = (yX8_at, cX8_at, 3, (some .long)) := rfl
noncomputable def cu_1456 : List CUT2 := []
theorem ch_1456 : staG tb_X8_at 1 bt_RX8 [] ct_1253 [] [] cu_1456 11 con_1456 = true := by decide +kernel
theorem vl_1456 (l : Launch) : Vld2 l vwCl gTbl con_1456 := conR_ok3 gT_all (hd_1456) rfl pn_RX8 tk_X8_at bo_RX8 xo_RX8 (cto_1253 l) ch_1456 cut_nil
/-- RookHusting$Slots at -/
noncomputable def ac_1000 : AC := .inr (2, jl_n [js_5 8 9223372036854775807 9223372036854775807, js_4 7 1, js_5 231 9223372036854775807 9223372036854775807])
noncomputable def hq_832 : HP := [(false, .inl (8, [(6, 1, 0), (8, 4, 0), (8, 5, 0)])), (false, ac_1000)]
noncomputable def con_1457 : Con2 := ((yX8_at, cX8_at, 3, (some .long)), (0, 0), ([(6, 0, 0), (0, 0, 0), (0, 8, 0)], gi_928, [.inl (8, [(6, 1, 0), (8, 4, 0), (8, 5, 0)]), ac_1000], []), [((4, 6, 0), gi_929, hq_832, [], [1])])
theorem hd_1457 : con_1457.1 = (yX8_at, cX8_at, 3, (some .long)) := rfl
noncomputable def cu_1457 : List CUT2 := []
theorem ch_1457 : staG tb_X8_at 1 bt_RX8 [] ct_1253 [] [] cu_1457 11 con_1457 = true := by decide +kernel
theorem vl_1457 (l : Launch) : Vld2 l vwCl gTbl con_1457 := conR_ok3 gT_all (hd_1457) rfl pn_RX8 tk_X8_at bo_RX8 xo_RX8 (cto_1253 l) ch_1457 cut_nil
/-- RookHusting$Slots at -/
noncomputable def ac_1001 : AC := .inr (2, jl_n [js_5 9 9223372036854775807 9223372036854775807, js_4 7 1, js_5 230 9223372036854775807 9223372036854775807])
noncomputable def hq_833 : HP := [(false, .inl (8, [(6, 1, 0), (8, 4, 0), (8, 5, 0)])), (false, ac_1001)]
noncomputable def con_1458 : Con2 := ((yX8_at, cX8_at, 3, (some .long)), (0, 0), ([(6, 0, 0), (0, 0, 0), (0, 9, 0)], gi_928, [.inl (8, [(6, 1, 0), (8, 4, 0), (8, 5, 0)]), ac_1001], []), [((4, 6, 0), gi_929, hq_833, [], [1])])
theorem hd_1458 : con_1458.1 = (yX8_at, cX8_at, 3, (some .long)) := rfl
noncomputable def cu_1458 : List CUT2 := []
theorem ch_1458 : staG tb_X8_at 1 bt_RX8 [] ct_1253 [] [] cu_1458 11 con_1458 = true := by decide +kernel
theorem vl_1458 (l : Launch) : Vld2 l vwCl gTbl con_1458 := conR_ok3 gT_all (hd_1458) rfl pn_RX8 tk_X8_at bo_RX8 xo_RX8 (cto_1253 l) ch_1458 cut_nil
/-- RookHusting$Slots at -/
noncomputable def ac_1002 : AC := .inr (2, jl_n [js_5 10 9223372036854775807 9223372036854775807, js_4 7 1, js_5 229 9223372036854775807 9223372036854775807])
noncomputable def hq_834 : HP := [(false, .inl (8, [(6, 1, 0), (8, 4, 0), (8, 5, 0)])), (false, ac_1002)]
noncomputable def con_1459 : Con2 := ((yX8_at, cX8_at, 3, (some .long)), (0, 0), ([(6, 0, 0), (0, 0, 0), (0, 10, 0)], gi_928, [.inl (8, [(6, 1, 0), (8, 4, 0), (8, 5, 0)]), ac_1002], []), [((4, 6, 0), gi_929, hq_834, [], [1])])
theorem hd_1459 : con_1459.1 = (yX8_at, cX8_at, 3, (some .long)) := rfl
noncomputable def cu_1459 : List CUT2 := []
theorem ch_1459 : staG tb_X8_at 1 bt_RX8 [] ct_1253 [] [] cu_1459 11 con_1459 = true := by decide +kernel
theorem vl_1459 (l : Launch) : Vld2 l vwCl gTbl con_1459 := conR_ok3 gT_all (hd_1459) rfl pn_RX8 tk_X8_at bo_RX8 xo_RX8 (cto_1253 l) ch_1459 cut_nil
/-- RookHusting$Slots at -/
noncomputable def ac_1003 : AC := .inr (2, jl_n [js_5 11 9223372036854775807 9223372036854775807, js_4 7 1, js_5 228 9223372036854775807 9223372036854775807])
noncomputable def hq_835 : HP := [(false, .inl (8, [(6, 1, 0), (8, 4, 0), (8, 5, 0)])), (false, ac_1003)]
noncomputable def con_1460 : Con2 := ((yX8_at, cX8_at, 3, (some .long)), (0, 0), ([(6, 0, 0), (0, 0, 0), (0, 11, 0)], gi_928, [.inl (8, [(6, 1, 0), (8, 4, 0), (8, 5, 0)]), ac_1003], []), [((4, 6, 0), gi_929, hq_835, [], [1])])
theorem hd_1460 : con_1460.1 = (yX8_at, cX8_at, 3, (some .long)) := rfl
noncomputable def cu_1460 : List CUT2 := []
theorem ch_1460 : staG tb_X8_at 1 bt_RX8 [] ct_1253 [] [] cu_1460 11 con_1460 = true := by decide +kernel
theorem vl_1460 (l : Launch) : Vld2 l vwCl gTbl con_1460 := conR_ok3 gT_all (hd_1460) rfl pn_RX8 tk_X8_at bo_RX8 xo_RX8 (cto_1253 l) ch_1460 cut_nil
/-- RookHusting$Slots at -/
noncomputable def ac_1004 : AC := .inr (2, jl_n [js_5 12 9223372036854775807 9223372036854775807, js_4 7 1, js_5 227 9223372036854775807 9223372036854775807])
noncomputable def hq_836 : HP := [(false, .inl (8, [(6, 1, 0), (8, 4, 0), (8, 5, 0)])), (false, ac_1004)]
noncomputable def con_1461 : Con2 := ((yX8_at, cX8_at, 3, (some .long)), (0, 0), ([(6, 0, 0), (0, 0, 0), (0, 12, 0)], gi_928, [.inl (8, [(6, 1, 0), (8, 4, 0), (8, 5, 0)]), ac_1004], []), [((4, 6, 0), gi_929, hq_836, [], [1])])
theorem hd_1461 : con_1461.1 = (yX8_at, cX8_at, 3, (some .long)) := rfl
noncomputable def cu_1461 : List CUT2 := []
theorem ch_1461 : staG tb_X8_at 1 bt_RX8 [] ct_1253 [] [] cu_1461 11 con_1461 = true := by decide +kernel
theorem vl_1461 (l : Launch) : Vld2 l vwCl gTbl con_1461 := conR_ok3 gT_all (hd_1461) rfl pn_RX8 tk_X8_at bo_RX8 xo_RX8 (cto_1253 l) ch_1461 cut_nil
/-- RookHusting$Slots at -/
noncomputable def ac_1005 : AC := .inr (2, jl_n [js_5 13 9223372036854775807 9223372036854775807, js_4 7 1, js_5 226 9223372036854775807 9223372036854775807])
noncomputable def hq_837 : HP := [(false, .inl (8, [(6, 1, 0), (8, 4, 0), (8, 5, 0)])), (false, ac_1005)]
noncomputable def con_1462 : Con2 := ((yX8_at, cX8_at, 3, (some .long)), (0, 0), ([(6, 0, 0), (0, 0, 0), (0, 13, 0)], gi_928, [.inl (8, [(6, 1, 0), (8, 4, 0), (8, 5, 0)]), ac_1005], []), [((4, 6, 0), gi_929, hq_837, [], [1])])
theorem hd_1462 : con_1462.1 = (yX8_at, cX8_at, 3, (some .long)) := rfl
noncomputable def cu_1462 : List CUT2 := []
theorem ch_1462 : staG tb_X8_at 1 bt_RX8 [] ct_1253 [] [] cu_1462 11 con_1462 = true := by decide +kernel
theorem vl_1462 (l : Launch) : Vld2 l vwCl gTbl con_1462 := conR_ok3 gT_all (hd_1462) rfl pn_RX8 tk_X8_at bo_RX8 xo_RX8 (cto_1253 l) ch_1462 cut_nil
/-- RookHusting$Slots at -/
noncomputable def ac_1006 : AC := .inr (2, jl_n [js_5 14 9223372036854775807 9223372036854775807, js_4 7 1, js_5 225 9223372036854775807 9223372036854775807])
noncomputable def hq_838 : HP := [(false, .inl (8, [(6, 1, 0), (8, 4, 0), (8, 5, 0)])), (false, ac_1006)]
noncomputable def con_1463 : Con2 := ((yX8_at, cX8_at, 3, (some .long)), (0, 0), ([(6, 0, 0), (0, 0, 0), (0, 14, 0)], gi_928, [.inl (8, [(6, 1, 0), (8, 4, 0), (8, 5, 0)]), ac_1006], []), [((4, 6, 0), gi_929, hq_838, [], [1])])
theorem hd_1463 : con_1463.1 = (yX8_at, cX8_at, 3, (some .long)) := rfl
noncomputable def cu_1463 : List CUT2 := []
theorem ch_1463 : staG tb_X8_at 1 bt_RX8 [] ct_1253 [] [] cu_1463 11 con_1463 = true := by decide +kernel
theorem vl_1463 (l : Launch) : Vld2 l vwCl gTbl con_1463 := conR_ok3 gT_all (hd_1463) rfl pn_RX8 tk_X8_at bo_RX8 xo_RX8 (cto_1253 l) ch_1463 cut_nil
/-- RookHusting$Slots at -/
noncomputable def ac_1007 : AC := .inr (2, jl_n [js_5 15 9223372036854775807 9223372036854775807, js_4 7 1, js_5 224 9223372036854775807 9223372036854775807])
noncomputable def hq_839 : HP := [(false, .inl (8, [(6, 1, 0), (8, 4, 0), (8, 5, 0)])), (false, ac_1007)]
noncomputable def con_1464 : Con2 := ((yX8_at, cX8_at, 3, (some .long)), (0, 0), ([(6, 0, 0), (0, 0, 0), (0, 15, 0)], gi_928, [.inl (8, [(6, 1, 0), (8, 4, 0), (8, 5, 0)]), ac_1007], []), [((4, 6, 0), gi_929, hq_839, [], [1])])
theorem hd_1464 : con_1464.1 = (yX8_at, cX8_at, 3, (some .long)) := rfl
noncomputable def cu_1464 : List CUT2 := []
theorem ch_1464 : staG tb_X8_at 1 bt_RX8 [] ct_1253 [] [] cu_1464 11 con_1464 = true := by decide +kernel
theorem vl_1464 (l : Launch) : Vld2 l vwCl gTbl con_1464 := conR_ok3 gT_all (hd_1464) rfl pn_RX8 tk_X8_at bo_RX8 xo_RX8 (cto_1253 l) ch_1464 cut_nil
/-- RookHusting$Slots at -/
noncomputable def ac_1008 : AC := .inr (2, jl_n [js_5 16 9223372036854775807 9223372036854775807, js_4 7 1, js_5 223 9223372036854775807 9223372036854775807])
noncomputable def hq_840 : HP := [(false, .inl (8, [(6, 1, 0), (8, 4, 0), (8, 5, 0)])), (false, ac_1008)]
noncomputable def con_1465 : Con2 := ((yX8_at, cX8_at, 3, (some .long)), (0, 0), ([(6, 0, 0), (0, 0, 0), (0, 16, 0)], gi_928, [.inl (8, [(6, 1, 0), (8, 4, 0), (8, 5, 0)]), ac_1008], []), [((4, 6, 0), gi_929, hq_840, [], [1])])
theorem hd_1465 : con_1465.1 = (yX8_at, cX8_at, 3, (some .long)) := rfl
noncomputable def cu_1465 : List CUT2 := []
theorem ch_1465 : staG tb_X8_at 1 bt_RX8 [] ct_1253 [] [] cu_1465 11 con_1465 = true := by decide +kernel
theorem vl_1465 (l : Launch) : Vld2 l vwCl gTbl con_1465 := conR_ok3 gT_all (hd_1465) rfl pn_RX8 tk_X8_at bo_RX8 xo_RX8 (cto_1253 l) ch_1465 cut_nil
/-- RookHusting$Slots at -/
noncomputable def ac_1009 : AC := .inr (2, jl_n [js_5 17 9223372036854775807 9223372036854775807, js_4 7 1, js_5 222 9223372036854775807 9223372036854775807])
noncomputable def hq_841 : HP := [(false, .inl (8, [(6, 1, 0), (8, 4, 0), (8, 5, 0)])), (false, ac_1009)]
noncomputable def con_1466 : Con2 := ((yX8_at, cX8_at, 3, (some .long)), (0, 0), ([(6, 0, 0), (0, 0, 0), (0, 17, 0)], gi_928, [.inl (8, [(6, 1, 0), (8, 4, 0), (8, 5, 0)]), ac_1009], []), [((4, 6, 0), gi_929, hq_841, [], [1])])
theorem hd_1466 : con_1466.1 = (yX8_at, cX8_at, 3, (some .long)) := rfl
noncomputable def cu_1466 : List CUT2 := []
theorem ch_1466 : staG tb_X8_at 1 bt_RX8 [] ct_1253 [] [] cu_1466 11 con_1466 = true := by decide +kernel
theorem vl_1466 (l : Launch) : Vld2 l vwCl gTbl con_1466 := conR_ok3 gT_all (hd_1466) rfl pn_RX8 tk_X8_at bo_RX8 xo_RX8 (cto_1253 l) ch_1466 cut_nil
/-- RookHusting$Slots at -/
noncomputable def ac_1010 : AC := .inr (2, jl_n [js_5 18 9223372036854775807 9223372036854775807, js_4 7 1, js_5 221 9223372036854775807 9223372036854775807])
noncomputable def hq_842 : HP := [(false, .inl (8, [(6, 1, 0), (8, 4, 0), (8, 5, 0)])), (false, ac_1010)]
noncomputable def con_1467 : Con2 := ((yX8_at, cX8_at, 3, (some .long)), (0, 0), ([(6, 0, 0), (0, 0, 0), (0, 18, 0)], gi_928, [.inl (8, [(6, 1, 0), (8, 4, 0), (8, 5, 0)]), ac_1010], []), [((4, 6, 0), gi_929, hq_842, [], [1])])
theorem hd_1467 : con_1467.1 = (yX8_at, cX8_at, 3, (some .long)) := rfl
noncomputable def cu_1467 : List CUT2 := []
theorem ch_1467 : staG tb_X8_at 1 bt_RX8 [] ct_1253 [] [] cu_1467 11 con_1467 = true := by decide +kernel
theorem vl_1467 (l : Launch) : Vld2 l vwCl gTbl con_1467 := conR_ok3 gT_all (hd_1467) rfl pn_RX8 tk_X8_at bo_RX8 xo_RX8 (cto_1253 l) ch_1467 cut_nil
/-- RookHusting$Slots at -/
noncomputable def ac_1011 : AC := .inr (2, jl_n [js_5 19 9223372036854775807 9223372036854775807, js_4 7 1, js_5 220 9223372036854775807 9223372036854775807])
noncomputable def hq_843 : HP := [(false, .inl (8, [(6, 1, 0), (8, 4, 0), (8, 5, 0)])), (false, ac_1011)]
noncomputable def con_1468 : Con2 := ((yX8_at, cX8_at, 3, (some .long)), (0, 0), ([(6, 0, 0), (0, 0, 0), (0, 19, 0)], gi_928, [.inl (8, [(6, 1, 0), (8, 4, 0), (8, 5, 0)]), ac_1011], []), [((4, 6, 0), gi_929, hq_843, [], [1])])
theorem hd_1468 : con_1468.1 = (yX8_at, cX8_at, 3, (some .long)) := rfl
noncomputable def cu_1468 : List CUT2 := []
theorem ch_1468 : staG tb_X8_at 1 bt_RX8 [] ct_1253 [] [] cu_1468 11 con_1468 = true := by decide +kernel
theorem vl_1468 (l : Launch) : Vld2 l vwCl gTbl con_1468 := conR_ok3 gT_all (hd_1468) rfl pn_RX8 tk_X8_at bo_RX8 xo_RX8 (cto_1253 l) ch_1468 cut_nil
/-- RookHusting$Slots at -/
noncomputable def ac_1012 : AC := .inr (2, jl_n [js_5 20 9223372036854775807 9223372036854775807, js_4 7 1, js_5 219 9223372036854775807 9223372036854775807])
noncomputable def hq_844 : HP := [(false, .inl (8, [(6, 1, 0), (8, 4, 0), (8, 5, 0)])), (false, ac_1012)]
noncomputable def con_1469 : Con2 := ((yX8_at, cX8_at, 3, (some .long)), (0, 0), ([(6, 0, 0), (0, 0, 0), (0, 20, 0)], gi_928, [.inl (8, [(6, 1, 0), (8, 4, 0), (8, 5, 0)]), ac_1012], []), [((4, 6, 0), gi_929, hq_844, [], [1])])
theorem hd_1469 : con_1469.1 = (yX8_at, cX8_at, 3, (some .long)) := rfl
noncomputable def cu_1469 : List CUT2 := []
theorem ch_1469 : staG tb_X8_at 1 bt_RX8 [] ct_1253 [] [] cu_1469 11 con_1469 = true := by decide +kernel
theorem vl_1469 (l : Launch) : Vld2 l vwCl gTbl con_1469 := conR_ok3 gT_all (hd_1469) rfl pn_RX8 tk_X8_at bo_RX8 xo_RX8 (cto_1253 l) ch_1469 cut_nil
/-- RookHusting$Slots at -/
noncomputable def ac_1013 : AC := .inr (2, jl_n [js_5 21 9223372036854775807 9223372036854775807, js_4 7 1, js_5 218 9223372036854775807 9223372036854775807])
noncomputable def hq_845 : HP := [(false, .inl (8, [(6, 1, 0), (8, 4, 0), (8, 5, 0)])), (false, ac_1013)]
noncomputable def con_1470 : Con2 := ((yX8_at, cX8_at, 3, (some .long)), (0, 0), ([(6, 0, 0), (0, 0, 0), (0, 21, 0)], gi_928, [.inl (8, [(6, 1, 0), (8, 4, 0), (8, 5, 0)]), ac_1013], []), [((4, 6, 0), gi_929, hq_845, [], [1])])
theorem hd_1470 : con_1470.1 = (yX8_at, cX8_at, 3, (some .long)) := rfl
noncomputable def cu_1470 : List CUT2 := []
theorem ch_1470 : staG tb_X8_at 1 bt_RX8 [] ct_1253 [] [] cu_1470 11 con_1470 = true := by decide +kernel
theorem vl_1470 (l : Launch) : Vld2 l vwCl gTbl con_1470 := conR_ok3 gT_all (hd_1470) rfl pn_RX8 tk_X8_at bo_RX8 xo_RX8 (cto_1253 l) ch_1470 cut_nil
/-- RookHusting$Slots at -/
noncomputable def ac_1014 : AC := .inr (2, jl_n [js_5 22 9223372036854775807 9223372036854775807, js_4 7 1, js_5 217 9223372036854775807 9223372036854775807])
noncomputable def hq_846 : HP := [(false, .inl (8, [(6, 1, 0), (8, 4, 0), (8, 5, 0)])), (false, ac_1014)]
noncomputable def con_1471 : Con2 := ((yX8_at, cX8_at, 3, (some .long)), (0, 0), ([(6, 0, 0), (0, 0, 0), (0, 22, 0)], gi_928, [.inl (8, [(6, 1, 0), (8, 4, 0), (8, 5, 0)]), ac_1014], []), [((4, 6, 0), gi_929, hq_846, [], [1])])
theorem hd_1471 : con_1471.1 = (yX8_at, cX8_at, 3, (some .long)) := rfl
noncomputable def cu_1471 : List CUT2 := []
theorem ch_1471 : staG tb_X8_at 1 bt_RX8 [] ct_1253 [] [] cu_1471 11 con_1471 = true := by decide +kernel
theorem vl_1471 (l : Launch) : Vld2 l vwCl gTbl con_1471 := conR_ok3 gT_all (hd_1471) rfl pn_RX8 tk_X8_at bo_RX8 xo_RX8 (cto_1253 l) ch_1471 cut_nil
/-- RookHusting$Slots at -/
noncomputable def ac_1015 : AC := .inr (2, jl_n [js_5 23 9223372036854775807 9223372036854775807, js_4 7 1, js_5 216 9223372036854775807 9223372036854775807])
noncomputable def hq_847 : HP := [(false, .inl (8, [(6, 1, 0), (8, 4, 0), (8, 5, 0)])), (false, ac_1015)]
noncomputable def con_1472 : Con2 := ((yX8_at, cX8_at, 3, (some .long)), (0, 0), ([(6, 0, 0), (0, 0, 0), (0, 23, 0)], gi_928, [.inl (8, [(6, 1, 0), (8, 4, 0), (8, 5, 0)]), ac_1015], []), [((4, 6, 0), gi_929, hq_847, [], [1])])
theorem hd_1472 : con_1472.1 = (yX8_at, cX8_at, 3, (some .long)) := rfl
noncomputable def cu_1472 : List CUT2 := []
theorem ch_1472 : staG tb_X8_at 1 bt_RX8 [] ct_1253 [] [] cu_1472 11 con_1472 = true := by decide +kernel
theorem vl_1472 (l : Launch) : Vld2 l vwCl gTbl con_1472 := conR_ok3 gT_all (hd_1472) rfl pn_RX8 tk_X8_at bo_RX8 xo_RX8 (cto_1253 l) ch_1472 cut_nil
/-- RookHusting$Slots at -/
noncomputable def ac_1016 : AC := .inr (2, jl_n [js_5 24 9223372036854775807 9223372036854775807, js_4 7 1, js_5 215 9223372036854775807 9223372036854775807])
noncomputable def hq_848 : HP := [(false, .inl (8, [(6, 1, 0), (8, 4, 0), (8, 5, 0)])), (false, ac_1016)]
noncomputable def con_1473 : Con2 := ((yX8_at, cX8_at, 3, (some .long)), (0, 0), ([(6, 0, 0), (0, 0, 0), (0, 24, 0)], gi_928, [.inl (8, [(6, 1, 0), (8, 4, 0), (8, 5, 0)]), ac_1016], []), [((4, 6, 0), gi_929, hq_848, [], [1])])
theorem hd_1473 : con_1473.1 = (yX8_at, cX8_at, 3, (some .long)) := rfl
noncomputable def cu_1473 : List CUT2 := []
theorem ch_1473 : staG tb_X8_at 1 bt_RX8 [] ct_1253 [] [] cu_1473 11 con_1473 = true := by decide +kernel
theorem vl_1473 (l : Launch) : Vld2 l vwCl gTbl con_1473 := conR_ok3 gT_all (hd_1473) rfl pn_RX8 tk_X8_at bo_RX8 xo_RX8 (cto_1253 l) ch_1473 cut_nil
/-- RookHusting$Slots at -/
noncomputable def ac_1017 : AC := .inr (2, jl_n [js_5 25 9223372036854775807 9223372036854775807, js_4 7 1, js_5 214 9223372036854775807 9223372036854775807])
noncomputable def hq_849 : HP := [(false, .inl (8, [(6, 1, 0), (8, 4, 0), (8, 5, 0)])), (false, ac_1017)]
noncomputable def con_1474 : Con2 := ((yX8_at, cX8_at, 3, (some .long)), (0, 0), ([(6, 0, 0), (0, 0, 0), (0, 25, 0)], gi_928, [.inl (8, [(6, 1, 0), (8, 4, 0), (8, 5, 0)]), ac_1017], []), [((4, 6, 0), gi_929, hq_849, [], [1])])
theorem hd_1474 : con_1474.1 = (yX8_at, cX8_at, 3, (some .long)) := rfl
noncomputable def cu_1474 : List CUT2 := []
theorem ch_1474 : staG tb_X8_at 1 bt_RX8 [] ct_1253 [] [] cu_1474 11 con_1474 = true := by decide +kernel
theorem vl_1474 (l : Launch) : Vld2 l vwCl gTbl con_1474 := conR_ok3 gT_all (hd_1474) rfl pn_RX8 tk_X8_at bo_RX8 xo_RX8 (cto_1253 l) ch_1474 cut_nil
/-- RookHusting$Slots at -/
noncomputable def ac_1018 : AC := .inr (2, jl_n [js_5 26 9223372036854775807 9223372036854775807, js_4 7 1, js_5 213 9223372036854775807 9223372036854775807])
noncomputable def hq_850 : HP := [(false, .inl (8, [(6, 1, 0), (8, 4, 0), (8, 5, 0)])), (false, ac_1018)]
noncomputable def con_1475 : Con2 := ((yX8_at, cX8_at, 3, (some .long)), (0, 0), ([(6, 0, 0), (0, 0, 0), (0, 26, 0)], gi_928, [.inl (8, [(6, 1, 0), (8, 4, 0), (8, 5, 0)]), ac_1018], []), [((4, 6, 0), gi_929, hq_850, [], [1])])
theorem hd_1475 : con_1475.1 = (yX8_at, cX8_at, 3, (some .long)) := rfl
noncomputable def cu_1475 : List CUT2 := []
theorem ch_1475 : staG tb_X8_at 1 bt_RX8 [] ct_1253 [] [] cu_1475 11 con_1475 = true := by decide +kernel
theorem vl_1475 (l : Launch) : Vld2 l vwCl gTbl con_1475 := conR_ok3 gT_all (hd_1475) rfl pn_RX8 tk_X8_at bo_RX8 xo_RX8 (cto_1253 l) ch_1475 cut_nil
/-- RookHusting$Slots at -/
noncomputable def ac_1019 : AC := .inr (2, jl_n [js_5 27 9223372036854775807 9223372036854775807, js_4 7 1, js_5 212 9223372036854775807 9223372036854775807])
noncomputable def hq_851 : HP := [(false, .inl (8, [(6, 1, 0), (8, 4, 0), (8, 5, 0)])), (false, ac_1019)]
noncomputable def con_1476 : Con2 := ((yX8_at, cX8_at, 3, (some .long)), (0, 0), ([(6, 0, 0), (0, 0, 0), (0, 27, 0)], gi_928, [.inl (8, [(6, 1, 0), (8, 4, 0), (8, 5, 0)]), ac_1019], []), [((4, 6, 0), gi_929, hq_851, [], [1])])
theorem hd_1476 : con_1476.1 = (yX8_at, cX8_at, 3, (some .long)) := rfl
noncomputable def cu_1476 : List CUT2 := []
theorem ch_1476 : staG tb_X8_at 1 bt_RX8 [] ct_1253 [] [] cu_1476 11 con_1476 = true := by decide +kernel
theorem vl_1476 (l : Launch) : Vld2 l vwCl gTbl con_1476 := conR_ok3 gT_all (hd_1476) rfl pn_RX8 tk_X8_at bo_RX8 xo_RX8 (cto_1253 l) ch_1476 cut_nil
