/-! ===== contracts, 27 ===== -/
/-- RookHusting$Slots at -/
noncomputable def ac_842 : AC := .inr (2, jl_n [js_5 213 9223372036854775807 9223372036854775807, js_4 7 1, js_5 26 9223372036854775807 9223372036854775807])
noncomputable def hq_674 : HP := [(false, .inl (8, [(6, 1, 0), (8, 4, 0), (8, 5, 0)])), (false, ac_842)]
noncomputable def con_1293 : Con2 := ((yX8_at, cX8_at, 3, (some .long)), (0, 0), ([(6, 0, 0), (0, 3, 0), (0, 33, 0)], gi_928, [.inl (8, [(6, 1, 0), (8, 4, 0), (8, 5, 0)]), ac_842], []), [((4, 6, 0), gi_929, hq_674, [], [1])])
theorem hd_1293 : con_1293.1 = (yX8_at, cX8_at, 3, (some .long)) := rfl
noncomputable def ct_1293 : CTB2 := []
noncomputable def cu_1293 : List CUT2 := []
theorem ch_1293 : staG tb_X8_at 1 bt_RX8 [] ct_1293 [] [] cu_1293 11 con_1293 = true := by decide +kernel
theorem cto_1293 (l : Launch) : CTOK2 l RX8 vwCl gTbl ct_1293 := ct2_nil
theorem vl_1293 (l : Launch) : Vld2 l vwCl gTbl con_1293 := conR_ok3 gT_all (hd_1293) rfl pn_RX8 tk_X8_at bo_RX8 xo_RX8 (cto_1293 l) ch_1293 cut_nil
/-- RookHusting$Slots at -/
noncomputable def ac_843 : AC := .inr (2, jl_n [js_5 214 9223372036854775807 9223372036854775807, js_4 7 1, js_5 25 9223372036854775807 9223372036854775807])
noncomputable def hq_675 : HP := [(false, .inl (8, [(6, 1, 0), (8, 4, 0), (8, 5, 0)])), (false, ac_843)]
noncomputable def con_1294 : Con2 := ((yX8_at, cX8_at, 3, (some .long)), (0, 0), ([(6, 0, 0), (0, 3, 0), (0, 34, 0)], gi_928, [.inl (8, [(6, 1, 0), (8, 4, 0), (8, 5, 0)]), ac_843], []), [((4, 6, 0), gi_929, hq_675, [], [1])])
theorem hd_1294 : con_1294.1 = (yX8_at, cX8_at, 3, (some .long)) := rfl
noncomputable def ct_1294 : CTB2 := []
noncomputable def cu_1294 : List CUT2 := []
theorem ch_1294 : staG tb_X8_at 1 bt_RX8 [] ct_1294 [] [] cu_1294 11 con_1294 = true := by decide +kernel
theorem cto_1294 (l : Launch) : CTOK2 l RX8 vwCl gTbl ct_1294 := ct2_nil
theorem vl_1294 (l : Launch) : Vld2 l vwCl gTbl con_1294 := conR_ok3 gT_all (hd_1294) rfl pn_RX8 tk_X8_at bo_RX8 xo_RX8 (cto_1294 l) ch_1294 cut_nil
/-- RookHusting$Slots at -/
noncomputable def ac_844 : AC := .inr (2, jl_n [js_5 215 9223372036854775807 9223372036854775807, js_4 7 1, js_5 24 9223372036854775807 9223372036854775807])
noncomputable def hq_676 : HP := [(false, .inl (8, [(6, 1, 0), (8, 4, 0), (8, 5, 0)])), (false, ac_844)]
noncomputable def con_1295 : Con2 := ((yX8_at, cX8_at, 3, (some .long)), (0, 0), ([(6, 0, 0), (0, 3, 0), (0, 35, 0)], gi_928, [.inl (8, [(6, 1, 0), (8, 4, 0), (8, 5, 0)]), ac_844], []), [((4, 6, 0), gi_929, hq_676, [], [1])])
theorem hd_1295 : con_1295.1 = (yX8_at, cX8_at, 3, (some .long)) := rfl
noncomputable def ct_1295 : CTB2 := []
noncomputable def cu_1295 : List CUT2 := []
theorem ch_1295 : staG tb_X8_at 1 bt_RX8 [] ct_1295 [] [] cu_1295 11 con_1295 = true := by decide +kernel
theorem cto_1295 (l : Launch) : CTOK2 l RX8 vwCl gTbl ct_1295 := ct2_nil
theorem vl_1295 (l : Launch) : Vld2 l vwCl gTbl con_1295 := conR_ok3 gT_all (hd_1295) rfl pn_RX8 tk_X8_at bo_RX8 xo_RX8 (cto_1295 l) ch_1295 cut_nil
/-- RookHusting$Slots at -/
noncomputable def ac_845 : AC := .inr (2, jl_n [js_5 216 9223372036854775807 9223372036854775807, js_4 7 1, js_5 23 9223372036854775807 9223372036854775807])
noncomputable def hq_677 : HP := [(false, .inl (8, [(6, 1, 0), (8, 4, 0), (8, 5, 0)])), (false, ac_845)]
noncomputable def con_1296 : Con2 := ((yX8_at, cX8_at, 3, (some .long)), (0, 0), ([(6, 0, 0), (0, 3, 0), (0, 36, 0)], gi_928, [.inl (8, [(6, 1, 0), (8, 4, 0), (8, 5, 0)]), ac_845], []), [((4, 6, 0), gi_929, hq_677, [], [1])])
theorem hd_1296 : con_1296.1 = (yX8_at, cX8_at, 3, (some .long)) := rfl
noncomputable def ct_1296 : CTB2 := []
noncomputable def cu_1296 : List CUT2 := []
theorem ch_1296 : staG tb_X8_at 1 bt_RX8 [] ct_1296 [] [] cu_1296 11 con_1296 = true := by decide +kernel
theorem cto_1296 (l : Launch) : CTOK2 l RX8 vwCl gTbl ct_1296 := ct2_nil
theorem vl_1296 (l : Launch) : Vld2 l vwCl gTbl con_1296 := conR_ok3 gT_all (hd_1296) rfl pn_RX8 tk_X8_at bo_RX8 xo_RX8 (cto_1296 l) ch_1296 cut_nil
/-- RookHusting$Slots at -/
noncomputable def ac_846 : AC := .inr (2, jl_n [js_5 217 9223372036854775807 9223372036854775807, js_4 7 1, js_5 22 9223372036854775807 9223372036854775807])
noncomputable def hq_678 : HP := [(false, .inl (8, [(6, 1, 0), (8, 4, 0), (8, 5, 0)])), (false, ac_846)]
noncomputable def con_1297 : Con2 := ((yX8_at, cX8_at, 3, (some .long)), (0, 0), ([(6, 0, 0), (0, 3, 0), (0, 37, 0)], gi_928, [.inl (8, [(6, 1, 0), (8, 4, 0), (8, 5, 0)]), ac_846], []), [((4, 6, 0), gi_929, hq_678, [], [1])])
theorem hd_1297 : con_1297.1 = (yX8_at, cX8_at, 3, (some .long)) := rfl
noncomputable def ct_1297 : CTB2 := []
noncomputable def cu_1297 : List CUT2 := []
theorem ch_1297 : staG tb_X8_at 1 bt_RX8 [] ct_1297 [] [] cu_1297 11 con_1297 = true := by decide +kernel
theorem cto_1297 (l : Launch) : CTOK2 l RX8 vwCl gTbl ct_1297 := ct2_nil
theorem vl_1297 (l : Launch) : Vld2 l vwCl gTbl con_1297 := conR_ok3 gT_all (hd_1297) rfl pn_RX8 tk_X8_at bo_RX8 xo_RX8 (cto_1297 l) ch_1297 cut_nil
/-- RookHusting$Slots at -/
noncomputable def ac_847 : AC := .inr (2, jl_n [js_5 218 9223372036854775807 9223372036854775807, js_4 7 1, js_5 21 9223372036854775807 9223372036854775807])
noncomputable def hq_679 : HP := [(false, .inl (8, [(6, 1, 0), (8, 4, 0), (8, 5, 0)])), (false, ac_847)]
noncomputable def con_1298 : Con2 := ((yX8_at, cX8_at, 3, (some .long)), (0, 0), ([(6, 0, 0), (0, 3, 0), (0, 38, 0)], gi_928, [.inl (8, [(6, 1, 0), (8, 4, 0), (8, 5, 0)]), ac_847], []), [((4, 6, 0), gi_929, hq_679, [], [1])])
theorem hd_1298 : con_1298.1 = (yX8_at, cX8_at, 3, (some .long)) := rfl
noncomputable def ct_1298 : CTB2 := []
noncomputable def cu_1298 : List CUT2 := []
theorem ch_1298 : staG tb_X8_at 1 bt_RX8 [] ct_1298 [] [] cu_1298 11 con_1298 = true := by decide +kernel
theorem cto_1298 (l : Launch) : CTOK2 l RX8 vwCl gTbl ct_1298 := ct2_nil
theorem vl_1298 (l : Launch) : Vld2 l vwCl gTbl con_1298 := conR_ok3 gT_all (hd_1298) rfl pn_RX8 tk_X8_at bo_RX8 xo_RX8 (cto_1298 l) ch_1298 cut_nil
/-- RookHusting$Slots at -/
noncomputable def ac_848 : AC := .inr (2, jl_n [js_5 219 9223372036854775807 9223372036854775807, js_4 7 1, js_5 20 9223372036854775807 9223372036854775807])
noncomputable def hq_680 : HP := [(false, .inl (8, [(6, 1, 0), (8, 4, 0), (8, 5, 0)])), (false, ac_848)]
noncomputable def con_1299 : Con2 := ((yX8_at, cX8_at, 3, (some .long)), (0, 0), ([(6, 0, 0), (0, 3, 0), (0, 39, 0)], gi_928, [.inl (8, [(6, 1, 0), (8, 4, 0), (8, 5, 0)]), ac_848], []), [((4, 6, 0), gi_929, hq_680, [], [1])])
theorem hd_1299 : con_1299.1 = (yX8_at, cX8_at, 3, (some .long)) := rfl
noncomputable def ct_1299 : CTB2 := []
noncomputable def cu_1299 : List CUT2 := []
theorem ch_1299 : staG tb_X8_at 1 bt_RX8 [] ct_1299 [] [] cu_1299 11 con_1299 = true := by decide +kernel
theorem cto_1299 (l : Launch) : CTOK2 l RX8 vwCl gTbl ct_1299 := ct2_nil
theorem vl_1299 (l : Launch) : Vld2 l vwCl gTbl con_1299 := conR_ok3 gT_all (hd_1299) rfl pn_RX8 tk_X8_at bo_RX8 xo_RX8 (cto_1299 l) ch_1299 cut_nil
/-- RookHusting$Slots at -/
noncomputable def ac_849 : AC := .inr (2, jl_n [js_5 220 9223372036854775807 9223372036854775807, js_4 7 1, js_5 19 9223372036854775807 9223372036854775807])
noncomputable def hq_681 : HP := [(false, .inl (8, [(6, 1, 0), (8, 4, 0), (8, 5, 0)])), (false, ac_849)]
noncomputable def con_1300 : Con2 := ((yX8_at, cX8_at, 3, (some .long)), (0, 0), ([(6, 0, 0), (0, 3, 0), (0, 40, 0)], gi_928, [.inl (8, [(6, 1, 0), (8, 4, 0), (8, 5, 0)]), ac_849], []), [((4, 6, 0), gi_929, hq_681, [], [1])])
theorem hd_1300 : con_1300.1 = (yX8_at, cX8_at, 3, (some .long)) := rfl
noncomputable def ct_1300 : CTB2 := []
noncomputable def cu_1300 : List CUT2 := []
theorem ch_1300 : staG tb_X8_at 1 bt_RX8 [] ct_1300 [] [] cu_1300 11 con_1300 = true := by decide +kernel
theorem cto_1300 (l : Launch) : CTOK2 l RX8 vwCl gTbl ct_1300 := ct2_nil
theorem vl_1300 (l : Launch) : Vld2 l vwCl gTbl con_1300 := conR_ok3 gT_all (hd_1300) rfl pn_RX8 tk_X8_at bo_RX8 xo_RX8 (cto_1300 l) ch_1300 cut_nil
/-- RookHusting$Slots at -/
noncomputable def ac_850 : AC := .inr (2, jl_n [js_5 221 9223372036854775807 9223372036854775807, js_4 7 1, js_5 18 9223372036854775807 9223372036854775807])
noncomputable def hq_682 : HP := [(false, .inl (8, [(6, 1, 0), (8, 4, 0), (8, 5, 0)])), (false, ac_850)]
noncomputable def con_1301 : Con2 := ((yX8_at, cX8_at, 3, (some .long)), (0, 0), ([(6, 0, 0), (0, 3, 0), (0, 41, 0)], gi_928, [.inl (8, [(6, 1, 0), (8, 4, 0), (8, 5, 0)]), ac_850], []), [((4, 6, 0), gi_929, hq_682, [], [1])])
theorem hd_1301 : con_1301.1 = (yX8_at, cX8_at, 3, (some .long)) := rfl
noncomputable def ct_1301 : CTB2 := []
noncomputable def cu_1301 : List CUT2 := []
theorem ch_1301 : staG tb_X8_at 1 bt_RX8 [] ct_1301 [] [] cu_1301 11 con_1301 = true := by decide +kernel
theorem cto_1301 (l : Launch) : CTOK2 l RX8 vwCl gTbl ct_1301 := ct2_nil
theorem vl_1301 (l : Launch) : Vld2 l vwCl gTbl con_1301 := conR_ok3 gT_all (hd_1301) rfl pn_RX8 tk_X8_at bo_RX8 xo_RX8 (cto_1301 l) ch_1301 cut_nil
/-- RookHusting$Slots at -/
noncomputable def ac_851 : AC := .inr (2, jl_n [js_5 222 9223372036854775807 9223372036854775807, js_4 7 1, js_5 17 9223372036854775807 9223372036854775807])
noncomputable def hq_683 : HP := [(false, .inl (8, [(6, 1, 0), (8, 4, 0), (8, 5, 0)])), (false, ac_851)]
noncomputable def con_1302 : Con2 := ((yX8_at, cX8_at, 3, (some .long)), (0, 0), ([(6, 0, 0), (0, 3, 0), (0, 42, 0)], gi_928, [.inl (8, [(6, 1, 0), (8, 4, 0), (8, 5, 0)]), ac_851], []), [((4, 6, 0), gi_929, hq_683, [], [1])])
theorem hd_1302 : con_1302.1 = (yX8_at, cX8_at, 3, (some .long)) := rfl
noncomputable def ct_1302 : CTB2 := []
noncomputable def cu_1302 : List CUT2 := []
theorem ch_1302 : staG tb_X8_at 1 bt_RX8 [] ct_1302 [] [] cu_1302 11 con_1302 = true := by decide +kernel
theorem cto_1302 (l : Launch) : CTOK2 l RX8 vwCl gTbl ct_1302 := ct2_nil
theorem vl_1302 (l : Launch) : Vld2 l vwCl gTbl con_1302 := conR_ok3 gT_all (hd_1302) rfl pn_RX8 tk_X8_at bo_RX8 xo_RX8 (cto_1302 l) ch_1302 cut_nil
/-- RookHusting$Slots at -/
noncomputable def ac_852 : AC := .inr (2, jl_n [js_5 223 9223372036854775807 9223372036854775807, js_4 7 1, js_5 16 9223372036854775807 9223372036854775807])
noncomputable def hq_684 : HP := [(false, .inl (8, [(6, 1, 0), (8, 4, 0), (8, 5, 0)])), (false, ac_852)]
noncomputable def con_1303 : Con2 := ((yX8_at, cX8_at, 3, (some .long)), (0, 0), ([(6, 0, 0), (0, 3, 0), (0, 43, 0)], gi_928, [.inl (8, [(6, 1, 0), (8, 4, 0), (8, 5, 0)]), ac_852], []), [((4, 6, 0), gi_929, hq_684, [], [1])])
theorem hd_1303 : con_1303.1 = (yX8_at, cX8_at, 3, (some .long)) := rfl
noncomputable def ct_1303 : CTB2 := []
noncomputable def cu_1303 : List CUT2 := []
theorem ch_1303 : staG tb_X8_at 1 bt_RX8 [] ct_1303 [] [] cu_1303 11 con_1303 = true := by decide +kernel
theorem cto_1303 (l : Launch) : CTOK2 l RX8 vwCl gTbl ct_1303 := ct2_nil
theorem vl_1303 (l : Launch) : Vld2 l vwCl gTbl con_1303 := conR_ok3 gT_all (hd_1303) rfl pn_RX8 tk_X8_at bo_RX8 xo_RX8 (cto_1303 l) ch_1303 cut_nil
/-- RookHusting$Slots at -/
noncomputable def ac_853 : AC := .inr (2, jl_n [js_5 224 9223372036854775807 9223372036854775807, js_4 7 1, js_5 15 9223372036854775807 9223372036854775807])
noncomputable def hq_685 : HP := [(false, .inl (8, [(6, 1, 0), (8, 4, 0), (8, 5, 0)])), (false, ac_853)]
noncomputable def con_1304 : Con2 := ((yX8_at, cX8_at, 3, (some .long)), (0, 0), ([(6, 0, 0), (0, 3, 0), (0, 44, 0)], gi_928, [.inl (8, [(6, 1, 0), (8, 4, 0), (8, 5, 0)]), ac_853], []), [((4, 6, 0), gi_929, hq_685, [], [1])])
theorem hd_1304 : con_1304.1 = (yX8_at, cX8_at, 3, (some .long)) := rfl
noncomputable def ct_1304 : CTB2 := []
noncomputable def cu_1304 : List CUT2 := []
theorem ch_1304 : staG tb_X8_at 1 bt_RX8 [] ct_1304 [] [] cu_1304 11 con_1304 = true := by decide +kernel
theorem cto_1304 (l : Launch) : CTOK2 l RX8 vwCl gTbl ct_1304 := ct2_nil
theorem vl_1304 (l : Launch) : Vld2 l vwCl gTbl con_1304 := conR_ok3 gT_all (hd_1304) rfl pn_RX8 tk_X8_at bo_RX8 xo_RX8 (cto_1304 l) ch_1304 cut_nil
/-- RookHusting$Slots at -/
noncomputable def ac_854 : AC := .inr (2, jl_n [js_5 225 9223372036854775807 9223372036854775807, js_4 7 1, js_5 14 9223372036854775807 9223372036854775807])
noncomputable def hq_686 : HP := [(false, .inl (8, [(6, 1, 0), (8, 4, 0), (8, 5, 0)])), (false, ac_854)]
noncomputable def con_1305 : Con2 := ((yX8_at, cX8_at, 3, (some .long)), (0, 0), ([(6, 0, 0), (0, 3, 0), (0, 45, 0)], gi_928, [.inl (8, [(6, 1, 0), (8, 4, 0), (8, 5, 0)]), ac_854], []), [((4, 6, 0), gi_929, hq_686, [], [1])])
theorem hd_1305 : con_1305.1 = (yX8_at, cX8_at, 3, (some .long)) := rfl
noncomputable def ct_1305 : CTB2 := []
noncomputable def cu_1305 : List CUT2 := []
theorem ch_1305 : staG tb_X8_at 1 bt_RX8 [] ct_1305 [] [] cu_1305 11 con_1305 = true := by decide +kernel
theorem cto_1305 (l : Launch) : CTOK2 l RX8 vwCl gTbl ct_1305 := ct2_nil
theorem vl_1305 (l : Launch) : Vld2 l vwCl gTbl con_1305 := conR_ok3 gT_all (hd_1305) rfl pn_RX8 tk_X8_at bo_RX8 xo_RX8 (cto_1305 l) ch_1305 cut_nil
/-- RookHusting$Slots at -/
noncomputable def ac_855 : AC := .inr (2, jl_n [js_5 226 9223372036854775807 9223372036854775807, js_4 7 1, js_5 13 9223372036854775807 9223372036854775807])
noncomputable def hq_687 : HP := [(false, .inl (8, [(6, 1, 0), (8, 4, 0), (8, 5, 0)])), (false, ac_855)]
noncomputable def con_1306 : Con2 := ((yX8_at, cX8_at, 3, (some .long)), (0, 0), ([(6, 0, 0), (0, 3, 0), (0, 46, 0)], gi_928, [.inl (8, [(6, 1, 0), (8, 4, 0), (8, 5, 0)]), ac_855], []), [((4, 6, 0), gi_929, hq_687, [], [1])])
theorem hd_1306 : con_1306.1 = (yX8_at, cX8_at, 3, (some .long)) := rfl
noncomputable def ct_1306 : CTB2 := []
noncomputable def cu_1306 : List CUT2 := []
theorem ch_1306 : staG tb_X8_at 1 bt_RX8 [] ct_1306 [] [] cu_1306 11 con_1306 = true := by decide +kernel
theorem cto_1306 (l : Launch) : CTOK2 l RX8 vwCl gTbl ct_1306 := ct2_nil
theorem vl_1306 (l : Launch) : Vld2 l vwCl gTbl con_1306 := conR_ok3 gT_all (hd_1306) rfl pn_RX8 tk_X8_at bo_RX8 xo_RX8 (cto_1306 l) ch_1306 cut_nil
/-- RookHusting$Slots at -/
noncomputable def ac_856 : AC := .inr (2, jl_n [js_5 227 9223372036854775807 9223372036854775807, js_4 7 1, js_5 12 9223372036854775807 9223372036854775807])
noncomputable def hq_688 : HP := [(false, .inl (8, [(6, 1, 0), (8, 4, 0), (8, 5, 0)])), (false, ac_856)]
noncomputable def con_1307 : Con2 := ((yX8_at, cX8_at, 3, (some .long)), (0, 0), ([(6, 0, 0), (0, 3, 0), (0, 47, 0)], gi_928, [.inl (8, [(6, 1, 0), (8, 4, 0), (8, 5, 0)]), ac_856], []), [((4, 6, 0), gi_929, hq_688, [], [1])])
theorem hd_1307 : con_1307.1 = (yX8_at, cX8_at, 3, (some .long)) := rfl
noncomputable def ct_1307 : CTB2 := []
noncomputable def cu_1307 : List CUT2 := []
theorem ch_1307 : staG tb_X8_at 1 bt_RX8 [] ct_1307 [] [] cu_1307 11 con_1307 = true := by decide +kernel
theorem cto_1307 (l : Launch) : CTOK2 l RX8 vwCl gTbl ct_1307 := ct2_nil
theorem vl_1307 (l : Launch) : Vld2 l vwCl gTbl con_1307 := conR_ok3 gT_all (hd_1307) rfl pn_RX8 tk_X8_at bo_RX8 xo_RX8 (cto_1307 l) ch_1307 cut_nil
/-- RookHusting$Slots at -/
noncomputable def ac_857 : AC := .inr (2, jl_n [js_5 228 9223372036854775807 9223372036854775807, js_4 7 1, js_5 11 9223372036854775807 9223372036854775807])
noncomputable def hq_689 : HP := [(false, .inl (8, [(6, 1, 0), (8, 4, 0), (8, 5, 0)])), (false, ac_857)]
noncomputable def con_1308 : Con2 := ((yX8_at, cX8_at, 3, (some .long)), (0, 0), ([(6, 0, 0), (0, 3, 0), (0, 48, 0)], gi_928, [.inl (8, [(6, 1, 0), (8, 4, 0), (8, 5, 0)]), ac_857], []), [((4, 6, 0), gi_929, hq_689, [], [1])])
theorem hd_1308 : con_1308.1 = (yX8_at, cX8_at, 3, (some .long)) := rfl
noncomputable def ct_1308 : CTB2 := []
noncomputable def cu_1308 : List CUT2 := []
theorem ch_1308 : staG tb_X8_at 1 bt_RX8 [] ct_1308 [] [] cu_1308 11 con_1308 = true := by decide +kernel
theorem cto_1308 (l : Launch) : CTOK2 l RX8 vwCl gTbl ct_1308 := ct2_nil
theorem vl_1308 (l : Launch) : Vld2 l vwCl gTbl con_1308 := conR_ok3 gT_all (hd_1308) rfl pn_RX8 tk_X8_at bo_RX8 xo_RX8 (cto_1308 l) ch_1308 cut_nil
/-- RookHusting$Slots at -/
noncomputable def ac_858 : AC := .inr (2, jl_n [js_5 229 9223372036854775807 9223372036854775807, js_4 7 1, js_5 10 9223372036854775807 9223372036854775807])
noncomputable def hq_690 : HP := [(false, .inl (8, [(6, 1, 0), (8, 4, 0), (8, 5, 0)])), (false, ac_858)]
noncomputable def con_1309 : Con2 := ((yX8_at, cX8_at, 3, (some .long)), (0, 0), ([(6, 0, 0), (0, 3, 0), (0, 49, 0)], gi_928, [.inl (8, [(6, 1, 0), (8, 4, 0), (8, 5, 0)]), ac_858], []), [((4, 6, 0), gi_929, hq_690, [], [1])])
theorem hd_1309 : con_1309.1 = (yX8_at, cX8_at, 3, (some .long)) := rfl
noncomputable def ct_1309 : CTB2 := []
noncomputable def cu_1309 : List CUT2 := []
theorem ch_1309 : staG tb_X8_at 1 bt_RX8 [] ct_1309 [] [] cu_1309 11 con_1309 = true := by decide +kernel
theorem cto_1309 (l : Launch) : CTOK2 l RX8 vwCl gTbl ct_1309 := ct2_nil
theorem vl_1309 (l : Launch) : Vld2 l vwCl gTbl con_1309 := conR_ok3 gT_all (hd_1309) rfl pn_RX8 tk_X8_at bo_RX8 xo_RX8 (cto_1309 l) ch_1309 cut_nil
/-- RookHusting$Slots at -/
noncomputable def ac_859 : AC := .inr (2, jl_n [js_5 230 9223372036854775807 9223372036854775807, js_4 7 1, js_5 9 9223372036854775807 9223372036854775807])
noncomputable def hq_691 : HP := [(false, .inl (8, [(6, 1, 0), (8, 4, 0), (8, 5, 0)])), (false, ac_859)]
noncomputable def con_1310 : Con2 := ((yX8_at, cX8_at, 3, (some .long)), (0, 0), ([(6, 0, 0), (0, 3, 0), (0, 50, 0)], gi_928, [.inl (8, [(6, 1, 0), (8, 4, 0), (8, 5, 0)]), ac_859], []), [((4, 6, 0), gi_929, hq_691, [], [1])])
theorem hd_1310 : con_1310.1 = (yX8_at, cX8_at, 3, (some .long)) := rfl
noncomputable def ct_1310 : CTB2 := []
noncomputable def cu_1310 : List CUT2 := []
theorem ch_1310 : staG tb_X8_at 1 bt_RX8 [] ct_1310 [] [] cu_1310 11 con_1310 = true := by decide +kernel
theorem cto_1310 (l : Launch) : CTOK2 l RX8 vwCl gTbl ct_1310 := ct2_nil
theorem vl_1310 (l : Launch) : Vld2 l vwCl gTbl con_1310 := conR_ok3 gT_all (hd_1310) rfl pn_RX8 tk_X8_at bo_RX8 xo_RX8 (cto_1310 l) ch_1310 cut_nil
/-- RookHusting$Slots at -/
noncomputable def ac_860 : AC := .inr (2, jl_n [js_5 231 9223372036854775807 9223372036854775807, js_4 7 1, js_5 8 9223372036854775807 9223372036854775807])
noncomputable def hq_692 : HP := [(false, .inl (8, [(6, 1, 0), (8, 4, 0), (8, 5, 0)])), (false, ac_860)]
noncomputable def con_1311 : Con2 := ((yX8_at, cX8_at, 3, (some .long)), (0, 0), ([(6, 0, 0), (0, 3, 0), (0, 51, 0)], gi_928, [.inl (8, [(6, 1, 0), (8, 4, 0), (8, 5, 0)]), ac_860], []), [((4, 6, 0), gi_929, hq_692, [], [1])])
theorem hd_1311 : con_1311.1 = (yX8_at, cX8_at, 3, (some .long)) := rfl
noncomputable def ct_1311 : CTB2 := []
noncomputable def cu_1311 : List CUT2 := []
theorem ch_1311 : staG tb_X8_at 1 bt_RX8 [] ct_1311 [] [] cu_1311 11 con_1311 = true := by decide +kernel
theorem cto_1311 (l : Launch) : CTOK2 l RX8 vwCl gTbl ct_1311 := ct2_nil
theorem vl_1311 (l : Launch) : Vld2 l vwCl gTbl con_1311 := conR_ok3 gT_all (hd_1311) rfl pn_RX8 tk_X8_at bo_RX8 xo_RX8 (cto_1311 l) ch_1311 cut_nil
/-- RookHusting$Slots at -/
noncomputable def ac_861 : AC := .inr (2, jl_n [js_5 232 9223372036854775807 9223372036854775807, js_4 7 1, js_5 7 9223372036854775807 9223372036854775807])
noncomputable def hq_693 : HP := [(false, .inl (8, [(6, 1, 0), (8, 4, 0), (8, 5, 0)])), (false, ac_861)]
noncomputable def con_1312 : Con2 := ((yX8_at, cX8_at, 3, (some .long)), (0, 0), ([(6, 0, 0), (0, 3, 0), (0, 52, 0)], gi_928, [.inl (8, [(6, 1, 0), (8, 4, 0), (8, 5, 0)]), ac_861], []), [((4, 6, 0), gi_929, hq_693, [], [1])])
theorem hd_1312 : con_1312.1 = (yX8_at, cX8_at, 3, (some .long)) := rfl
noncomputable def ct_1312 : CTB2 := []
noncomputable def cu_1312 : List CUT2 := []
theorem ch_1312 : staG tb_X8_at 1 bt_RX8 [] ct_1312 [] [] cu_1312 11 con_1312 = true := by decide +kernel
theorem cto_1312 (l : Launch) : CTOK2 l RX8 vwCl gTbl ct_1312 := ct2_nil
theorem vl_1312 (l : Launch) : Vld2 l vwCl gTbl con_1312 := conR_ok3 gT_all (hd_1312) rfl pn_RX8 tk_X8_at bo_RX8 xo_RX8 (cto_1312 l) ch_1312 cut_nil
/-- RookHusting$Slots at -/
noncomputable def ac_862 : AC := .inr (2, jl_n [js_5 233 9223372036854775807 9223372036854775807, js_4 7 1, js_5 6 9223372036854775807 9223372036854775807])
noncomputable def hq_694 : HP := [(false, .inl (8, [(6, 1, 0), (8, 4, 0), (8, 5, 0)])), (false, ac_862)]
noncomputable def con_1313 : Con2 := ((yX8_at, cX8_at, 3, (some .long)), (0, 0), ([(6, 0, 0), (0, 3, 0), (0, 53, 0)], gi_928, [.inl (8, [(6, 1, 0), (8, 4, 0), (8, 5, 0)]), ac_862], []), [((4, 6, 0), gi_929, hq_694, [], [1])])
theorem hd_1313 : con_1313.1 = (yX8_at, cX8_at, 3, (some .long)) := rfl
noncomputable def ct_1313 : CTB2 := []
noncomputable def cu_1313 : List CUT2 := []
theorem ch_1313 : staG tb_X8_at 1 bt_RX8 [] ct_1313 [] [] cu_1313 11 con_1313 = true := by decide +kernel
theorem cto_1313 (l : Launch) : CTOK2 l RX8 vwCl gTbl ct_1313 := ct2_nil
theorem vl_1313 (l : Launch) : Vld2 l vwCl gTbl con_1313 := conR_ok3 gT_all (hd_1313) rfl pn_RX8 tk_X8_at bo_RX8 xo_RX8 (cto_1313 l) ch_1313 cut_nil
/-- RookHusting$Slots at -/
noncomputable def ac_863 : AC := .inr (2, jl_n [js_5 234 9223372036854775807 9223372036854775807, js_4 7 1, js_5 5 9223372036854775807 9223372036854775807])
noncomputable def hq_695 : HP := [(false, .inl (8, [(6, 1, 0), (8, 4, 0), (8, 5, 0)])), (false, ac_863)]
noncomputable def con_1314 : Con2 := ((yX8_at, cX8_at, 3, (some .long)), (0, 0), ([(6, 0, 0), (0, 3, 0), (0, 54, 0)], gi_928, [.inl (8, [(6, 1, 0), (8, 4, 0), (8, 5, 0)]), ac_863], []), [((4, 6, 0), gi_929, hq_695, [], [1])])
theorem hd_1314 : con_1314.1 = (yX8_at, cX8_at, 3, (some .long)) := rfl
noncomputable def ct_1314 : CTB2 := []
noncomputable def cu_1314 : List CUT2 := []
theorem ch_1314 : staG tb_X8_at 1 bt_RX8 [] ct_1314 [] [] cu_1314 11 con_1314 = true := by decide +kernel
theorem cto_1314 (l : Launch) : CTOK2 l RX8 vwCl gTbl ct_1314 := ct2_nil
theorem vl_1314 (l : Launch) : Vld2 l vwCl gTbl con_1314 := conR_ok3 gT_all (hd_1314) rfl pn_RX8 tk_X8_at bo_RX8 xo_RX8 (cto_1314 l) ch_1314 cut_nil
/-- RookHusting$Slots at -/
noncomputable def ac_864 : AC := .inr (2, jl_n [js_5 235 9223372036854775807 9223372036854775807, js_4 7 1, js_5 4 9223372036854775807 9223372036854775807])
noncomputable def hq_696 : HP := [(false, .inl (8, [(6, 1, 0), (8, 4, 0), (8, 5, 0)])), (false, ac_864)]
noncomputable def con_1315 : Con2 := ((yX8_at, cX8_at, 3, (some .long)), (0, 0), ([(6, 0, 0), (0, 3, 0), (0, 55, 0)], gi_928, [.inl (8, [(6, 1, 0), (8, 4, 0), (8, 5, 0)]), ac_864], []), [((4, 6, 0), gi_929, hq_696, [], [1])])
theorem hd_1315 : con_1315.1 = (yX8_at, cX8_at, 3, (some .long)) := rfl
noncomputable def ct_1315 : CTB2 := []
noncomputable def cu_1315 : List CUT2 := []
theorem ch_1315 : staG tb_X8_at 1 bt_RX8 [] ct_1315 [] [] cu_1315 11 con_1315 = true := by decide +kernel
theorem cto_1315 (l : Launch) : CTOK2 l RX8 vwCl gTbl ct_1315 := ct2_nil
theorem vl_1315 (l : Launch) : Vld2 l vwCl gTbl con_1315 := conR_ok3 gT_all (hd_1315) rfl pn_RX8 tk_X8_at bo_RX8 xo_RX8 (cto_1315 l) ch_1315 cut_nil
/-- RookHusting$Slots at -/
noncomputable def ac_865 : AC := .inr (2, jl_n [js_5 236 9223372036854775807 9223372036854775807, js_4 7 1, js_5 3 9223372036854775807 9223372036854775807])
noncomputable def hq_697 : HP := [(false, .inl (8, [(6, 1, 0), (8, 4, 0), (8, 5, 0)])), (false, ac_865)]
noncomputable def con_1316 : Con2 := ((yX8_at, cX8_at, 3, (some .long)), (0, 0), ([(6, 0, 0), (0, 3, 0), (0, 56, 0)], gi_928, [.inl (8, [(6, 1, 0), (8, 4, 0), (8, 5, 0)]), ac_865], []), [((4, 6, 0), gi_929, hq_697, [], [1])])
theorem hd_1316 : con_1316.1 = (yX8_at, cX8_at, 3, (some .long)) := rfl
noncomputable def ct_1316 : CTB2 := []
noncomputable def cu_1316 : List CUT2 := []
theorem ch_1316 : staG tb_X8_at 1 bt_RX8 [] ct_1316 [] [] cu_1316 11 con_1316 = true := by decide +kernel
theorem cto_1316 (l : Launch) : CTOK2 l RX8 vwCl gTbl ct_1316 := ct2_nil
theorem vl_1316 (l : Launch) : Vld2 l vwCl gTbl con_1316 := conR_ok3 gT_all (hd_1316) rfl pn_RX8 tk_X8_at bo_RX8 xo_RX8 (cto_1316 l) ch_1316 cut_nil
/-- RookHusting$Slots at -/
noncomputable def ac_866 : AC := .inr (2, jl_n [js_5 237 9223372036854775807 9223372036854775807, js_4 7 1, js_5 2 9223372036854775807 9223372036854775807])
noncomputable def hq_698 : HP := [(false, .inl (8, [(6, 1, 0), (8, 4, 0), (8, 5, 0)])), (false, ac_866)]
noncomputable def con_1317 : Con2 := ((yX8_at, cX8_at, 3, (some .long)), (0, 0), ([(6, 0, 0), (0, 3, 0), (0, 57, 0)], gi_928, [.inl (8, [(6, 1, 0), (8, 4, 0), (8, 5, 0)]), ac_866], []), [((4, 6, 0), gi_929, hq_698, [], [1])])
theorem hd_1317 : con_1317.1 = (yX8_at, cX8_at, 3, (some .long)) := rfl
noncomputable def ct_1317 : CTB2 := []
noncomputable def cu_1317 : List CUT2 := []
theorem ch_1317 : staG tb_X8_at 1 bt_RX8 [] ct_1317 [] [] cu_1317 11 con_1317 = true := by decide +kernel
theorem cto_1317 (l : Launch) : CTOK2 l RX8 vwCl gTbl ct_1317 := ct2_nil
theorem vl_1317 (l : Launch) : Vld2 l vwCl gTbl con_1317 := conR_ok3 gT_all (hd_1317) rfl pn_RX8 tk_X8_at bo_RX8 xo_RX8 (cto_1317 l) ch_1317 cut_nil
/-- RookHusting$Slots at -/
noncomputable def ac_867 : AC := .inr (2, jl_n [js_5 238 9223372036854775807 9223372036854775807, js_4 7 1, js_5 1 9223372036854775807 9223372036854775807])
noncomputable def gi_932 : GI := jl_n [jl_z 6, jl_u, jl_z 2]
noncomputable def hq_699 : HP := [(false, .inl (8, [(6, 1, 0), (8, 4, 0), (8, 5, 0)])), (false, ac_867)]
noncomputable def con_1318 : Con2 := ((yX8_at, cX8_at, 3, (some .long)), (0, 0), ([(6, 0, 0), (0, 3, 0), (0, 58, 0)], gi_929, [.inl (8, [(6, 1, 0), (8, 4, 0), (8, 5, 0)]), ac_867], []), [((4, 6, 0), gi_932, hq_699, [], [1])])
theorem hd_1318 : con_1318.1 = (yX8_at, cX8_at, 3, (some .long)) := rfl
noncomputable def ct_1318 : CTB2 := []
noncomputable def cu_1318 : List CUT2 := []
theorem ch_1318 : staG tb_X8_at 1 bt_RX8 [] ct_1318 [] [] cu_1318 11 con_1318 = true := by decide +kernel
theorem cto_1318 (l : Launch) : CTOK2 l RX8 vwCl gTbl ct_1318 := ct2_nil
theorem vl_1318 (l : Launch) : Vld2 l vwCl gTbl con_1318 := conR_ok3 gT_all (hd_1318) rfl pn_RX8 tk_X8_at bo_RX8 xo_RX8 (cto_1318 l) ch_1318 cut_nil
/-- RookHusting$Slots at -/
noncomputable def ac_868 : AC := .inr (2, jl_n [js_5 239 9223372036854775807 9223372036854775807, js_4 7 1])
noncomputable def hq_700 : HP := [(false, .inl (8, [(6, 1, 0), (8, 4, 0), (8, 5, 0)])), (false, ac_868)]
noncomputable def con_1319 : Con2 := ((yX8_at, cX8_at, 3, (some .long)), (0, 0), ([(6, 0, 0), (0, 3, 0), (0, 59, 0)], gi_928, [.inl (8, [(6, 1, 0), (8, 4, 0), (8, 5, 0)]), ac_868], []), [((4, 6, 0), gi_929, hq_700, [], [1])])
theorem hd_1319 : con_1319.1 = (yX8_at, cX8_at, 3, (some .long)) := rfl
noncomputable def ct_1319 : CTB2 := []
noncomputable def cu_1319 : List CUT2 := []
theorem ch_1319 : staG tb_X8_at 1 bt_RX8 [] ct_1319 [] [] cu_1319 11 con_1319 = true := by decide +kernel
theorem cto_1319 (l : Launch) : CTOK2 l RX8 vwCl gTbl ct_1319 := ct2_nil
theorem vl_1319 (l : Launch) : Vld2 l vwCl gTbl con_1319 := conR_ok3 gT_all (hd_1319) rfl pn_RX8 tk_X8_at bo_RX8 xo_RX8 (cto_1319 l) ch_1319 cut_nil
/-- RookHusting wrongSeen -/
noncomputable def gi_933 : GI := jl_n [jl_z 2, jl_t, jl_z 19, jl_i 0 16, jl_z 2, jl_i 0 5, jl_z 15, jl_r 4 (jl_m 0 60), jl_r 60 (jl_u)]
noncomputable def ac_869 : AC := .inr (2, jl_n [js_5 180 9223372036854775807 9223372036854775807, js_4 105 60])
noncomputable def hc_192 : List AC := [ac_804, .inl (9, [(6, 2, 0), (8, 20, 0)]), ac_805, .inl (8, [(6, 5, 0), (8, 39, 0), (6, 4, 0)]), ac_806, ac_869]
noncomputable def gi_934 : GI := jl_n [jl_z 2, jl_t, jl_z 19, jl_i 0 16, jl_z 2, jl_i 0 5, jl_z 15, jl_r 4 (jl_m 0 60), jl_r 60 (jl_u), jl_z 1]
noncomputable def hq_701 : HP := [(false, ac_804), (false, .inl (9, [(6, 2, 0), (8, 20, 0)])), (false, ac_805), (false, .inl (8, [(6, 5, 0), (8, 39, 0), (6, 4, 0)])), (false, ac_806), (false, ac_869)]
noncomputable def gi_935 : GI := jl_n [jl_z 2, jl_i 0 4, jl_z 19, jl_i 0 16, jl_z 2, jl_i 1 5, jl_z 15, jl_r 3 (jl_m 0 60), jl_k 0 0, jl_r 60 (jl_u), jl_z 1]
noncomputable def gi_936 : GI := jl_n [jl_z 2, jl_i 0 4, jl_z 19, jl_i 0 16, jl_z 2, jl_i 1 5, jl_z 15, jl_r 3 (jl_m 0 60), jl_z 1, jl_r 60 (jl_u), jl_z 1]
noncomputable def gi_937 : GI := jl_n [jl_z 2, jl_i 0 4, jl_z 19, jl_i 0 16, jl_z 2, jl_i 1 5, jl_z 15, jl_r 3 (jl_m 0 60), jl_i 10 12, jl_i 0 4, jl_i 0 16, jl_i 0 250, jl_i 0 4, jl_i 0 16, jl_i 0 250, jl_i 0 4, jl_i 0 16, jl_i 0 250, jl_i 0 4, jl_i 0 16, jl_i 0 250, jl_r 48 (jl_u), jl_z 1]
noncomputable def gi_938 : GI := jl_n [jl_z 2, jl_i 0 4, jl_z 19, jl_i 0 16, jl_z 2, jl_i 1 5, jl_z 15, jl_r 3 (jl_m 0 60), jl_i 13 15, jl_i 0 4, jl_i 0 16, jl_i 0 250, jl_i 0 4, jl_i 0 16, jl_i 0 250, jl_i 0 4, jl_i 0 16, jl_i 0 250, jl_i 0 4, jl_i 0 16, jl_i 0 250, jl_i 0 4, jl_i 0 16, jl_i 0 250, jl_r 45 (jl_u), jl_z 1]
noncomputable def gi_939 : GI := jl_n [jl_z 2, jl_i 0 4, jl_z 19, jl_i 0 16, jl_z 2, jl_i 1 5, jl_z 15, jl_r 3 (jl_m 0 60), jl_i 16 18, jl_i 0 4, jl_i 0 16, jl_i 0 250, jl_i 0 4, jl_i 0 16, jl_i 0 250, jl_i 0 4, jl_i 0 16, jl_i 0 250, jl_i 0 4, jl_i 0 16, jl_i 0 250, jl_i 0 4, jl_i 0 16, jl_i 0 250, jl_i 0 4, jl_i 0 16, jl_i 0 250, jl_r 42 (jl_u), jl_z 1]
noncomputable def gi_940 : GI := jl_n [jl_z 2, jl_i 0 4, jl_z 19, jl_i 0 16, jl_z 2, jl_i 1 5, jl_z 15, jl_r 3 (jl_m 0 60), jl_i 19 21, jl_i 0 4, jl_i 0 16, jl_i 0 250, jl_i 0 4, jl_i 0 16, jl_i 0 250, jl_i 0 4, jl_i 0 16, jl_i 0 250, jl_i 0 4, jl_i 0 16, jl_i 0 250, jl_i 0 4, jl_i 0 16, jl_i 0 250, jl_i 0 4, jl_i 0 16, jl_i 0 250, jl_i 0 4, jl_i 0 16, jl_i 0 250, jl_r 39 (jl_u), jl_z 1]
noncomputable def gi_941 : GI := jl_n [jl_z 2, jl_i 0 4, jl_z 19, jl_i 0 16, jl_z 2, jl_i 1 5, jl_z 15, jl_r 3 (jl_m 0 60), jl_i 22 24, jl_i 0 4, jl_i 0 16, jl_i 0 250, jl_i 0 4, jl_i 0 16, jl_i 0 250, jl_i 0 4, jl_i 0 16, jl_i 0 250, jl_i 0 4, jl_i 0 16, jl_i 0 250, jl_i 0 4, jl_i 0 16, jl_i 0 250, jl_i 0 4, jl_i 0 16, jl_i 0 250, jl_i 0 4, jl_i 0 16, jl_i 0 250, jl_i 0 4, jl_i 0 16, jl_i 0 250, jl_r 36 (jl_u), jl_z 1]
noncomputable def gi_942 : GI := jl_n [jl_z 2, jl_i 0 4, jl_z 19, jl_i 0 16, jl_z 2, jl_i 1 5, jl_z 15, jl_r 3 (jl_m 0 60), jl_i 25 27, jl_i 0 4, jl_i 0 16, jl_i 0 250, jl_i 0 4, jl_i 0 16, jl_i 0 250, jl_i 0 4, jl_i 0 16, jl_i 0 250, jl_i 0 4, jl_i 0 16, jl_i 0 250, jl_i 0 4, jl_i 0 16, jl_i 0 250, jl_i 0 4, jl_i 0 16, jl_i 0 250, jl_i 0 4, jl_i 0 16, jl_i 0 250, jl_i 0 4, jl_i 0 16, jl_i 0 250, jl_i 0 4, jl_i 0 16, jl_i 0 250, jl_r 33 (jl_u), jl_z 1]
noncomputable def gi_943 : GI := jl_n [jl_z 2, jl_i 0 4, jl_z 19, jl_i 0 16, jl_z 2, jl_i 1 5, jl_z 15, jl_r 3 (jl_m 0 60), jl_i 1 3, jl_i 0 4, jl_i 0 16, jl_i 0 250, jl_r 57 (jl_u), jl_z 1]
noncomputable def gi_944 : GI := jl_n [jl_z 2, jl_i 0 4, jl_z 19, jl_i 0 16, jl_z 2, jl_i 1 5, jl_z 15, jl_r 3 (jl_m 0 60), jl_i 28 30, jl_i 0 4, jl_i 0 16, jl_i 0 250, jl_i 0 4, jl_i 0 16, jl_i 0 250, jl_i 0 4, jl_i 0 16, jl_i 0 250, jl_i 0 4, jl_i 0 16, jl_i 0 250, jl_i 0 4, jl_i 0 16, jl_i 0 250, jl_i 0 4, jl_i 0 16, jl_i 0 250, jl_i 0 4, jl_i 0 16, jl_i 0 250, jl_i 0 4, jl_i 0 16, jl_i 0 250, jl_i 0 4, jl_i 0 16, jl_i 0 250, jl_i 0 4, jl_i 0 16, jl_i 0 250, jl_r 30 (jl_u), jl_z 1]
noncomputable def gi_945 : GI := jl_n [jl_z 2, jl_i 0 4, jl_z 19, jl_i 0 16, jl_z 2, jl_i 1 5, jl_z 15, jl_r 3 (jl_m 0 60), jl_i 31 33, jl_i 0 4, jl_i 0 16, jl_i 0 250, jl_i 0 4, jl_i 0 16, jl_i 0 250, jl_i 0 4, jl_i 0 16, jl_i 0 250, jl_i 0 4, jl_i 0 16, jl_i 0 250, jl_i 0 4, jl_i 0 16, jl_i 0 250, jl_i 0 4, jl_i 0 16, jl_i 0 250, jl_i 0 4, jl_i 0 16, jl_i 0 250, jl_i 0 4, jl_i 0 16, jl_i 0 250, jl_i 0 4, jl_i 0 16, jl_i 0 250, jl_i 0 4, jl_i 0 16, jl_i 0 250, jl_i 0 4, jl_i 0 16, jl_i 0 250, jl_r 27 (jl_u), jl_z 1]
noncomputable def gi_946 : GI := jl_n [jl_z 2, jl_i 0 4, jl_z 19, jl_i 0 16, jl_z 2, jl_i 1 5, jl_z 15, jl_r 3 (jl_m 0 60), jl_i 34 36, jl_i 0 4, jl_i 0 16, jl_i 0 250, jl_i 0 4, jl_i 0 16, jl_i 0 250, jl_i 0 4, jl_i 0 16, jl_i 0 250, jl_i 0 4, jl_i 0 16, jl_i 0 250, jl_i 0 4, jl_i 0 16, jl_i 0 250, jl_i 0 4, jl_i 0 16, jl_i 0 250, jl_i 0 4, jl_i 0 16, jl_i 0 250, jl_i 0 4, jl_i 0 16, jl_i 0 250, jl_i 0 4, jl_i 0 16, jl_i 0 250, jl_i 0 4, jl_i 0 16, jl_i 0 250, jl_i 0 4, jl_i 0 16, jl_i 0 250, jl_i 0 4, jl_i 0 16, jl_i 0 250, jl_r 24 (jl_u), jl_z 1]
noncomputable def gi_947 : GI := jl_n [jl_z 2, jl_i 0 4, jl_z 19, jl_i 0 16, jl_z 2, jl_i 1 5, jl_z 15, jl_r 3 (jl_m 0 60), jl_i 37 39, jl_i 0 4, jl_i 0 16, jl_i 0 250, jl_i 0 4, jl_i 0 16, jl_i 0 250, jl_i 0 4, jl_i 0 16, jl_i 0 250, jl_i 0 4, jl_i 0 16, jl_i 0 250, jl_i 0 4, jl_i 0 16, jl_i 0 250, jl_i 0 4, jl_i 0 16, jl_i 0 250, jl_i 0 4, jl_i 0 16, jl_i 0 250, jl_i 0 4, jl_i 0 16, jl_i 0 250, jl_i 0 4, jl_i 0 16, jl_i 0 250, jl_i 0 4, jl_i 0 16, jl_i 0 250, jl_i 0 4, jl_i 0 16, jl_i 0 250, jl_i 0 4, jl_i 0 16, jl_i 0 250, jl_i 0 4, jl_i 0 16, jl_i 0 250, jl_r 21 (jl_u), jl_z 1]
noncomputable def gi_948 : GI := jl_n [jl_z 2, jl_i 0 4, jl_z 19, jl_i 0 16, jl_z 2, jl_i 1 5, jl_z 15, jl_r 3 (jl_m 0 60), jl_i 40 42, jl_i 0 4, jl_i 0 16, jl_i 0 250, jl_i 0 4, jl_i 0 16, jl_i 0 250, jl_i 0 4, jl_i 0 16, jl_i 0 250, jl_i 0 4, jl_i 0 16, jl_i 0 250, jl_i 0 4, jl_i 0 16, jl_i 0 250, jl_i 0 4, jl_i 0 16, jl_i 0 250, jl_i 0 4, jl_i 0 16, jl_i 0 250, jl_i 0 4, jl_i 0 16, jl_i 0 250, jl_i 0 4, jl_i 0 16, jl_i 0 250, jl_i 0 4, jl_i 0 16, jl_i 0 250, jl_i 0 4, jl_i 0 16, jl_i 0 250, jl_i 0 4, jl_i 0 16, jl_i 0 250, jl_i 0 4, jl_i 0 16, jl_i 0 250, jl_i 0 4, jl_i 0 16, jl_i 0 250, jl_r 18 (jl_u), jl_z 1]
noncomputable def gi_949 : GI := jl_n [jl_z 2, jl_i 0 4, jl_z 19, jl_i 0 16, jl_z 2, jl_i 1 5, jl_z 15, jl_r 3 (jl_m 0 60), jl_i 43 45, jl_i 0 4, jl_i 0 16, jl_i 0 250, jl_i 0 4, jl_i 0 16, jl_i 0 250, jl_i 0 4, jl_i 0 16, jl_i 0 250, jl_i 0 4, jl_i 0 16, jl_i 0 250, jl_i 0 4, jl_i 0 16, jl_i 0 250, jl_i 0 4, jl_i 0 16, jl_i 0 250, jl_i 0 4, jl_i 0 16, jl_i 0 250, jl_i 0 4, jl_i 0 16, jl_i 0 250, jl_i 0 4, jl_i 0 16, jl_i 0 250, jl_i 0 4, jl_i 0 16, jl_i 0 250, jl_i 0 4, jl_i 0 16, jl_i 0 250, jl_i 0 4, jl_i 0 16, jl_i 0 250, jl_i 0 4, jl_i 0 16, jl_i 0 250, jl_i 0 4, jl_i 0 16, jl_i 0 250, jl_i 0 4, jl_i 0 16, jl_i 0 250, jl_r 15 (jl_u), jl_z 1]
noncomputable def gi_950 : GI := jl_n [jl_z 2, jl_i 0 4, jl_z 19, jl_i 0 16, jl_z 2, jl_i 1 5, jl_z 15, jl_r 3 (jl_m 0 60), jl_i 46 48, jl_i 0 4, jl_i 0 16, jl_i 0 250, jl_i 0 4, jl_i 0 16, jl_i 0 250, jl_i 0 4, jl_i 0 16, jl_i 0 250, jl_i 0 4, jl_i 0 16, jl_i 0 250, jl_i 0 4, jl_i 0 16, jl_i 0 250, jl_i 0 4, jl_i 0 16, jl_i 0 250, jl_i 0 4, jl_i 0 16, jl_i 0 250, jl_i 0 4, jl_i 0 16, jl_i 0 250, jl_i 0 4, jl_i 0 16, jl_i 0 250, jl_i 0 4, jl_i 0 16, jl_i 0 250, jl_i 0 4, jl_i 0 16, jl_i 0 250, jl_i 0 4, jl_i 0 16, jl_i 0 250, jl_i 0 4, jl_i 0 16, jl_i 0 250, jl_i 0 4, jl_i 0 16, jl_i 0 250, jl_i 0 4, jl_i 0 16, jl_i 0 250, jl_i 0 4, jl_i 0 16, jl_i 0 250, jl_r 12 (jl_u), jl_z 1]
noncomputable def gi_951 : GI := jl_n [jl_z 2, jl_i 0 4, jl_z 19, jl_i 0 16, jl_z 2, jl_i 1 5, jl_z 15, jl_r 3 (jl_m 0 60), jl_i 49 51, jl_i 0 4, jl_i 0 16, jl_i 0 250, jl_i 0 4, jl_i 0 16, jl_i 0 250, jl_i 0 4, jl_i 0 16, jl_i 0 250, jl_i 0 4, jl_i 0 16, jl_i 0 250, jl_i 0 4, jl_i 0 16, jl_i 0 250, jl_i 0 4, jl_i 0 16, jl_i 0 250, jl_i 0 4, jl_i 0 16, jl_i 0 250, jl_i 0 4, jl_i 0 16, jl_i 0 250, jl_i 0 4, jl_i 0 16, jl_i 0 250, jl_i 0 4, jl_i 0 16, jl_i 0 250, jl_i 0 4, jl_i 0 16, jl_i 0 250, jl_i 0 4, jl_i 0 16, jl_i 0 250, jl_i 0 4, jl_i 0 16, jl_i 0 250, jl_i 0 4, jl_i 0 16, jl_i 0 250, jl_i 0 4, jl_i 0 16, jl_i 0 250, jl_i 0 4, jl_i 0 16, jl_i 0 250, jl_i 0 4, jl_i 0 16, jl_i 0 250, jl_r 9 (jl_u), jl_z 1]
noncomputable def gi_952 : GI := jl_n [jl_z 2, jl_i 0 4, jl_z 19, jl_i 0 16, jl_z 2, jl_i 1 5, jl_z 15, jl_r 3 (jl_m 0 60), jl_i 52 54, jl_i 0 4, jl_i 0 16, jl_i 0 250, jl_i 0 4, jl_i 0 16, jl_i 0 250, jl_i 0 4, jl_i 0 16, jl_i 0 250, jl_i 0 4, jl_i 0 16, jl_i 0 250, jl_i 0 4, jl_i 0 16, jl_i 0 250, jl_i 0 4, jl_i 0 16, jl_i 0 250, jl_i 0 4, jl_i 0 16, jl_i 0 250, jl_i 0 4, jl_i 0 16, jl_i 0 250, jl_i 0 4, jl_i 0 16, jl_i 0 250, jl_i 0 4, jl_i 0 16, jl_i 0 250, jl_i 0 4, jl_i 0 16, jl_i 0 250, jl_i 0 4, jl_i 0 16, jl_i 0 250, jl_i 0 4, jl_i 0 16, jl_i 0 250, jl_i 0 4, jl_i 0 16, jl_i 0 250, jl_i 0 4, jl_i 0 16, jl_i 0 250, jl_i 0 4, jl_i 0 16, jl_i 0 250, jl_i 0 4, jl_i 0 16, jl_i 0 250, jl_i 0 4, jl_i 0 16, jl_i 0 250, jl_r 6 (jl_u), jl_z 1]
noncomputable def gi_953 : GI := jl_n [jl_z 2, jl_i 0 4, jl_z 19, jl_i 0 16, jl_z 2, jl_i 1 5, jl_z 15, jl_r 3 (jl_m 0 60), jl_i 55 57, jl_i 0 4, jl_i 0 16, jl_i 0 250, jl_i 0 4, jl_i 0 16, jl_i 0 250, jl_i 0 4, jl_i 0 16, jl_i 0 250, jl_i 0 4, jl_i 0 16, jl_i 0 250, jl_i 0 4, jl_i 0 16, jl_i 0 250, jl_i 0 4, jl_i 0 16, jl_i 0 250, jl_i 0 4, jl_i 0 16, jl_i 0 250, jl_i 0 4, jl_i 0 16, jl_i 0 250, jl_i 0 4, jl_i 0 16, jl_i 0 250, jl_i 0 4, jl_i 0 16, jl_i 0 250, jl_i 0 4, jl_i 0 16, jl_i 0 250, jl_i 0 4, jl_i 0 16, jl_i 0 250, jl_i 0 4, jl_i 0 16, jl_i 0 250, jl_i 0 4, jl_i 0 16, jl_i 0 250, jl_i 0 4, jl_i 0 16, jl_i 0 250, jl_i 0 4, jl_i 0 16, jl_i 0 250, jl_i 0 4, jl_i 0 16, jl_i 0 250, jl_i 0 4, jl_i 0 16, jl_i 0 250, jl_i 0 4, jl_i 0 16, jl_i 0 250, jl_r 3 (jl_u), jl_z 1]
noncomputable def gi_954 : GI := jl_n [jl_z 2, jl_i 0 4, jl_z 19, jl_i 0 16, jl_z 2, jl_i 1 5, jl_z 15, jl_r 3 (jl_m 0 60), jl_i 4 6, jl_i 0 4, jl_i 0 16, jl_i 0 250, jl_i 0 4, jl_i 0 16, jl_i 0 250, jl_r 54 (jl_u), jl_z 1]
noncomputable def gi_955 : GI := jl_n [jl_z 2, jl_i 0 4, jl_z 19, jl_i 0 16, jl_z 2, jl_i 1 5, jl_z 15, jl_r 3 (jl_m 0 60), jl_i 58 60, jl_i 0 4, jl_i 0 16, jl_i 0 250, jl_i 0 4, jl_i 0 16, jl_i 0 250, jl_i 0 4, jl_i 0 16, jl_i 0 250, jl_i 0 4, jl_i 0 16, jl_i 0 250, jl_i 0 4, jl_i 0 16, jl_i 0 250, jl_i 0 4, jl_i 0 16, jl_i 0 250, jl_i 0 4, jl_i 0 16, jl_i 0 250, jl_i 0 4, jl_i 0 16, jl_i 0 250, jl_i 0 4, jl_i 0 16, jl_i 0 250, jl_i 0 4, jl_i 0 16, jl_i 0 250, jl_i 0 4, jl_i 0 16, jl_i 0 250, jl_i 0 4, jl_i 0 16, jl_i 0 250, jl_i 0 4, jl_i 0 16, jl_i 0 250, jl_i 0 4, jl_i 0 16, jl_i 0 250, jl_i 0 4, jl_i 0 16, jl_i 0 250, jl_i 0 4, jl_i 0 16, jl_i 0 250, jl_i 0 4, jl_i 0 16, jl_i 0 250, jl_i 0 4, jl_i 0 16, jl_i 0 250, jl_i 0 4, jl_i 0 16, jl_i 0 250, jl_i 0 4, jl_i 0 16, jl_i 0 250, jl_z 1]
noncomputable def gi_956 : GI := jl_n [jl_z 2, jl_i 0 4, jl_z 19, jl_i 0 16, jl_z 2, jl_i 1 5, jl_z 15, jl_r 3 (jl_m 0 60), jl_i 7 9, jl_i 0 4, jl_i 0 16, jl_i 0 250, jl_i 0 4, jl_i 0 16, jl_i 0 250, jl_i 0 4, jl_i 0 16, jl_i 0 250, jl_r 51 (jl_u), jl_z 1]
noncomputable def con_1320 : Con2 := ((yX11_wrongSeen, cX11_wrongSeen, 5, (some .int)), (1, 22), ([(6, 0, 0), (0, 3, 0), (1, 2, 0)], gi_933, hc_192, []), [((0, (-2), 0), gi_934, hq_701, [], [1]), ((0, (-6), 0), gi_935, hq_701, [], [1]), ((0, 0, 0), gi_936, hq_701, [], [1]), ((0, 0, 0), gi_937, hq_701, [], [1]), ((0, 0, 0), gi_938, hq_701, [], [1]), ((0, 0, 0), gi_939, hq_701, [], [1]), ((0, 0, 0), gi_940, hq_701, [], [1]), ((0, 0, 0), gi_941, hq_701, [], [1]), ((0, 0, 0), gi_942, hq_701, [], [1]), ((0, 0, 0), gi_943, hq_701, [], [1]), ((0, 0, 0), gi_944, hq_701, [], [1]), ((0, 0, 0), gi_945, hq_701, [], [1]), ((0, 0, 0), gi_946, hq_701, [], [1]), ((0, 0, 0), gi_947, hq_701, [], [1]), ((0, 0, 0), gi_948, hq_701, [], [1]), ((0, 0, 0), gi_949, hq_701, [], [1]), ((0, 0, 0), gi_950, hq_701, [], [1]), ((0, 0, 0), gi_951, hq_701, [], [1]), ((0, 0, 0), gi_952, hq_701, [], [1]), ((0, 0, 0), gi_953, hq_701, [], [1]), ((0, 0, 0), gi_954, hq_701, [], [1]), ((0, 0, 0), gi_955, hq_701, [], [1]), ((0, 0, 0), gi_956, hq_701, [], [1])])
theorem hd_1320 : con_1320.1 = (yX11_wrongSeen, cX11_wrongSeen, 5, (some .int)) := rfl
theorem ck_RX11_476_1262 : COK2 RX11 vwCl gTbl 476 1 con_1262 := ⟨wd_1221, wd_125, mh_X11_isBetween, .inl ⟨rfl, wd_1219, wd_1220, pd_X11_isBetween⟩⟩
theorem ck_RX11_473_1261 : COK2 RX11 vwCl gTbl 473 0 con_1261 := ⟨wd_1218, wd_131, mh_X8_at, .inr (.inr ⟨rfl, wd_1215, wd_1216, wd_1217, ⟨_, rfl, pd_X8_at⟩, 8, _, TX8, 3, rfl, rfl⟩)⟩
theorem ck_RX11_473_1265 : COK2 RX11 vwCl gTbl 473 0 con_1265 := ⟨wd_1218, wd_131, mh_X8_at, .inr (.inr ⟨rfl, wd_1215, wd_1216, wd_1217, ⟨_, rfl, pd_X8_at⟩, 8, _, TX8, 3, rfl, rfl⟩)⟩
theorem ck_RX11_473_1268 : COK2 RX11 vwCl gTbl 473 0 con_1268 := ⟨wd_1218, wd_131, mh_X8_at, .inr (.inr ⟨rfl, wd_1215, wd_1216, wd_1217, ⟨_, rfl, pd_X8_at⟩, 8, _, TX8, 3, rfl, rfl⟩)⟩
theorem ck_RX11_473_1271 : COK2 RX11 vwCl gTbl 473 0 con_1271 := ⟨wd_1218, wd_131, mh_X8_at, .inr (.inr ⟨rfl, wd_1215, wd_1216, wd_1217, ⟨_, rfl, pd_X8_at⟩, 8, _, TX8, 3, rfl, rfl⟩)⟩
theorem ck_RX11_473_1274 : COK2 RX11 vwCl gTbl 473 0 con_1274 := ⟨wd_1218, wd_131, mh_X8_at, .inr (.inr ⟨rfl, wd_1215, wd_1216, wd_1217, ⟨_, rfl, pd_X8_at⟩, 8, _, TX8, 3, rfl, rfl⟩)⟩
theorem ck_RX11_473_1277 : COK2 RX11 vwCl gTbl 473 0 con_1277 := ⟨wd_1218, wd_131, mh_X8_at, .inr (.inr ⟨rfl, wd_1215, wd_1216, wd_1217, ⟨_, rfl, pd_X8_at⟩, 8, _, TX8, 3, rfl, rfl⟩)⟩
theorem ck_RX11_473_1280 : COK2 RX11 vwCl gTbl 473 0 con_1280 := ⟨wd_1218, wd_131, mh_X8_at, .inr (.inr ⟨rfl, wd_1215, wd_1216, wd_1217, ⟨_, rfl, pd_X8_at⟩, 8, _, TX8, 3, rfl, rfl⟩)⟩
theorem ck_RX11_473_1283 : COK2 RX11 vwCl gTbl 473 0 con_1283 := ⟨wd_1218, wd_131, mh_X8_at, .inr (.inr ⟨rfl, wd_1215, wd_1216, wd_1217, ⟨_, rfl, pd_X8_at⟩, 8, _, TX8, 3, rfl, rfl⟩)⟩
theorem ck_RX11_473_1286 : COK2 RX11 vwCl gTbl 473 0 con_1286 := ⟨wd_1218, wd_131, mh_X8_at, .inr (.inr ⟨rfl, wd_1215, wd_1216, wd_1217, ⟨_, rfl, pd_X8_at⟩, 8, _, TX8, 3, rfl, rfl⟩)⟩
theorem ck_RX11_473_1289 : COK2 RX11 vwCl gTbl 473 0 con_1289 := ⟨wd_1218, wd_131, mh_X8_at, .inr (.inr ⟨rfl, wd_1215, wd_1216, wd_1217, ⟨_, rfl, pd_X8_at⟩, 8, _, TX8, 3, rfl, rfl⟩)⟩
theorem ck_RX11_473_1292 : COK2 RX11 vwCl gTbl 473 0 con_1292 := ⟨wd_1218, wd_131, mh_X8_at, .inr (.inr ⟨rfl, wd_1215, wd_1216, wd_1217, ⟨_, rfl, pd_X8_at⟩, 8, _, TX8, 3, rfl, rfl⟩)⟩
theorem ck_RX11_473_1295 : COK2 RX11 vwCl gTbl 473 0 con_1295 := ⟨wd_1218, wd_131, mh_X8_at, .inr (.inr ⟨rfl, wd_1215, wd_1216, wd_1217, ⟨_, rfl, pd_X8_at⟩, 8, _, TX8, 3, rfl, rfl⟩)⟩
theorem ck_RX11_473_1298 : COK2 RX11 vwCl gTbl 473 0 con_1298 := ⟨wd_1218, wd_131, mh_X8_at, .inr (.inr ⟨rfl, wd_1215, wd_1216, wd_1217, ⟨_, rfl, pd_X8_at⟩, 8, _, TX8, 3, rfl, rfl⟩)⟩
theorem ck_RX11_473_1301 : COK2 RX11 vwCl gTbl 473 0 con_1301 := ⟨wd_1218, wd_131, mh_X8_at, .inr (.inr ⟨rfl, wd_1215, wd_1216, wd_1217, ⟨_, rfl, pd_X8_at⟩, 8, _, TX8, 3, rfl, rfl⟩)⟩
theorem ck_RX11_473_1304 : COK2 RX11 vwCl gTbl 473 0 con_1304 := ⟨wd_1218, wd_131, mh_X8_at, .inr (.inr ⟨rfl, wd_1215, wd_1216, wd_1217, ⟨_, rfl, pd_X8_at⟩, 8, _, TX8, 3, rfl, rfl⟩)⟩
theorem ck_RX11_473_1307 : COK2 RX11 vwCl gTbl 473 0 con_1307 := ⟨wd_1218, wd_131, mh_X8_at, .inr (.inr ⟨rfl, wd_1215, wd_1216, wd_1217, ⟨_, rfl, pd_X8_at⟩, 8, _, TX8, 3, rfl, rfl⟩)⟩
theorem ck_RX11_473_1310 : COK2 RX11 vwCl gTbl 473 0 con_1310 := ⟨wd_1218, wd_131, mh_X8_at, .inr (.inr ⟨rfl, wd_1215, wd_1216, wd_1217, ⟨_, rfl, pd_X8_at⟩, 8, _, TX8, 3, rfl, rfl⟩)⟩
theorem ck_RX11_473_1313 : COK2 RX11 vwCl gTbl 473 0 con_1313 := ⟨wd_1218, wd_131, mh_X8_at, .inr (.inr ⟨rfl, wd_1215, wd_1216, wd_1217, ⟨_, rfl, pd_X8_at⟩, 8, _, TX8, 3, rfl, rfl⟩)⟩
theorem ck_RX11_473_1316 : COK2 RX11 vwCl gTbl 473 0 con_1316 := ⟨wd_1218, wd_131, mh_X8_at, .inr (.inr ⟨rfl, wd_1215, wd_1216, wd_1217, ⟨_, rfl, pd_X8_at⟩, 8, _, TX8, 3, rfl, rfl⟩)⟩
theorem ck_RX11_473_1319 : COK2 RX11 vwCl gTbl 473 0 con_1319 := ⟨wd_1218, wd_131, mh_X8_at, .inr (.inr ⟨rfl, wd_1215, wd_1216, wd_1217, ⟨_, rfl, pd_X8_at⟩, 8, _, TX8, 3, rfl, rfl⟩)⟩
theorem ck_RX11_476_1260 : COK2 RX11 vwCl gTbl 476 1 con_1260 := ⟨wd_1221, wd_125, mh_X11_isBetween, .inl ⟨rfl, wd_1219, wd_1220, pd_X11_isBetween⟩⟩
theorem ck_RX11_473_1259 : COK2 RX11 vwCl gTbl 473 0 con_1259 := ⟨wd_1218, wd_131, mh_X8_at, .inr (.inr ⟨rfl, wd_1215, wd_1216, wd_1217, ⟨_, rfl, pd_X8_at⟩, 8, _, TX8, 3, rfl, rfl⟩)⟩
theorem ck_RX11_473_1264 : COK2 RX11 vwCl gTbl 473 0 con_1264 := ⟨wd_1218, wd_131, mh_X8_at, .inr (.inr ⟨rfl, wd_1215, wd_1216, wd_1217, ⟨_, rfl, pd_X8_at⟩, 8, _, TX8, 3, rfl, rfl⟩)⟩
theorem ck_RX11_473_1267 : COK2 RX11 vwCl gTbl 473 0 con_1267 := ⟨wd_1218, wd_131, mh_X8_at, .inr (.inr ⟨rfl, wd_1215, wd_1216, wd_1217, ⟨_, rfl, pd_X8_at⟩, 8, _, TX8, 3, rfl, rfl⟩)⟩
theorem ck_RX11_473_1270 : COK2 RX11 vwCl gTbl 473 0 con_1270 := ⟨wd_1218, wd_131, mh_X8_at, .inr (.inr ⟨rfl, wd_1215, wd_1216, wd_1217, ⟨_, rfl, pd_X8_at⟩, 8, _, TX8, 3, rfl, rfl⟩)⟩
theorem ck_RX11_473_1273 : COK2 RX11 vwCl gTbl 473 0 con_1273 := ⟨wd_1218, wd_131, mh_X8_at, .inr (.inr ⟨rfl, wd_1215, wd_1216, wd_1217, ⟨_, rfl, pd_X8_at⟩, 8, _, TX8, 3, rfl, rfl⟩)⟩
theorem ck_RX11_473_1276 : COK2 RX11 vwCl gTbl 473 0 con_1276 := ⟨wd_1218, wd_131, mh_X8_at, .inr (.inr ⟨rfl, wd_1215, wd_1216, wd_1217, ⟨_, rfl, pd_X8_at⟩, 8, _, TX8, 3, rfl, rfl⟩)⟩
theorem ck_RX11_473_1279 : COK2 RX11 vwCl gTbl 473 0 con_1279 := ⟨wd_1218, wd_131, mh_X8_at, .inr (.inr ⟨rfl, wd_1215, wd_1216, wd_1217, ⟨_, rfl, pd_X8_at⟩, 8, _, TX8, 3, rfl, rfl⟩)⟩
theorem ck_RX11_473_1282 : COK2 RX11 vwCl gTbl 473 0 con_1282 := ⟨wd_1218, wd_131, mh_X8_at, .inr (.inr ⟨rfl, wd_1215, wd_1216, wd_1217, ⟨_, rfl, pd_X8_at⟩, 8, _, TX8, 3, rfl, rfl⟩)⟩
theorem ck_RX11_473_1285 : COK2 RX11 vwCl gTbl 473 0 con_1285 := ⟨wd_1218, wd_131, mh_X8_at, .inr (.inr ⟨rfl, wd_1215, wd_1216, wd_1217, ⟨_, rfl, pd_X8_at⟩, 8, _, TX8, 3, rfl, rfl⟩)⟩
theorem ck_RX11_473_1288 : COK2 RX11 vwCl gTbl 473 0 con_1288 := ⟨wd_1218, wd_131, mh_X8_at, .inr (.inr ⟨rfl, wd_1215, wd_1216, wd_1217, ⟨_, rfl, pd_X8_at⟩, 8, _, TX8, 3, rfl, rfl⟩)⟩
theorem ck_RX11_473_1291 : COK2 RX11 vwCl gTbl 473 0 con_1291 := ⟨wd_1218, wd_131, mh_X8_at, .inr (.inr ⟨rfl, wd_1215, wd_1216, wd_1217, ⟨_, rfl, pd_X8_at⟩, 8, _, TX8, 3, rfl, rfl⟩)⟩
theorem ck_RX11_473_1294 : COK2 RX11 vwCl gTbl 473 0 con_1294 := ⟨wd_1218, wd_131, mh_X8_at, .inr (.inr ⟨rfl, wd_1215, wd_1216, wd_1217, ⟨_, rfl, pd_X8_at⟩, 8, _, TX8, 3, rfl, rfl⟩)⟩
theorem ck_RX11_473_1297 : COK2 RX11 vwCl gTbl 473 0 con_1297 := ⟨wd_1218, wd_131, mh_X8_at, .inr (.inr ⟨rfl, wd_1215, wd_1216, wd_1217, ⟨_, rfl, pd_X8_at⟩, 8, _, TX8, 3, rfl, rfl⟩)⟩
theorem ck_RX11_473_1300 : COK2 RX11 vwCl gTbl 473 0 con_1300 := ⟨wd_1218, wd_131, mh_X8_at, .inr (.inr ⟨rfl, wd_1215, wd_1216, wd_1217, ⟨_, rfl, pd_X8_at⟩, 8, _, TX8, 3, rfl, rfl⟩)⟩
theorem ck_RX11_473_1303 : COK2 RX11 vwCl gTbl 473 0 con_1303 := ⟨wd_1218, wd_131, mh_X8_at, .inr (.inr ⟨rfl, wd_1215, wd_1216, wd_1217, ⟨_, rfl, pd_X8_at⟩, 8, _, TX8, 3, rfl, rfl⟩)⟩
theorem ck_RX11_473_1306 : COK2 RX11 vwCl gTbl 473 0 con_1306 := ⟨wd_1218, wd_131, mh_X8_at, .inr (.inr ⟨rfl, wd_1215, wd_1216, wd_1217, ⟨_, rfl, pd_X8_at⟩, 8, _, TX8, 3, rfl, rfl⟩)⟩
theorem ck_RX11_473_1309 : COK2 RX11 vwCl gTbl 473 0 con_1309 := ⟨wd_1218, wd_131, mh_X8_at, .inr (.inr ⟨rfl, wd_1215, wd_1216, wd_1217, ⟨_, rfl, pd_X8_at⟩, 8, _, TX8, 3, rfl, rfl⟩)⟩
theorem ck_RX11_473_1312 : COK2 RX11 vwCl gTbl 473 0 con_1312 := ⟨wd_1218, wd_131, mh_X8_at, .inr (.inr ⟨rfl, wd_1215, wd_1216, wd_1217, ⟨_, rfl, pd_X8_at⟩, 8, _, TX8, 3, rfl, rfl⟩)⟩
theorem ck_RX11_473_1315 : COK2 RX11 vwCl gTbl 473 0 con_1315 := ⟨wd_1218, wd_131, mh_X8_at, .inr (.inr ⟨rfl, wd_1215, wd_1216, wd_1217, ⟨_, rfl, pd_X8_at⟩, 8, _, TX8, 3, rfl, rfl⟩)⟩
theorem ck_RX11_473_1318 : COK2 RX11 vwCl gTbl 473 0 con_1318 := ⟨wd_1218, wd_131, mh_X8_at, .inr (.inr ⟨rfl, wd_1215, wd_1216, wd_1217, ⟨_, rfl, pd_X8_at⟩, 8, _, TX8, 3, rfl, rfl⟩)⟩
theorem ck_RX11_476_1258 : COK2 RX11 vwCl gTbl 476 1 con_1258 := ⟨wd_1221, wd_125, mh_X11_isBetween, .inl ⟨rfl, wd_1219, wd_1220, pd_X11_isBetween⟩⟩
theorem ck_RX11_473_1257 : COK2 RX11 vwCl gTbl 473 0 con_1257 := ⟨wd_1218, wd_131, mh_X8_at, .inr (.inr ⟨rfl, wd_1215, wd_1216, wd_1217, ⟨_, rfl, pd_X8_at⟩, 8, _, TX8, 3, rfl, rfl⟩)⟩
theorem ck_RX11_473_1263 : COK2 RX11 vwCl gTbl 473 0 con_1263 := ⟨wd_1218, wd_131, mh_X8_at, .inr (.inr ⟨rfl, wd_1215, wd_1216, wd_1217, ⟨_, rfl, pd_X8_at⟩, 8, _, TX8, 3, rfl, rfl⟩)⟩
theorem ck_RX11_473_1266 : COK2 RX11 vwCl gTbl 473 0 con_1266 := ⟨wd_1218, wd_131, mh_X8_at, .inr (.inr ⟨rfl, wd_1215, wd_1216, wd_1217, ⟨_, rfl, pd_X8_at⟩, 8, _, TX8, 3, rfl, rfl⟩)⟩
theorem ck_RX11_473_1269 : COK2 RX11 vwCl gTbl 473 0 con_1269 := ⟨wd_1218, wd_131, mh_X8_at, .inr (.inr ⟨rfl, wd_1215, wd_1216, wd_1217, ⟨_, rfl, pd_X8_at⟩, 8, _, TX8, 3, rfl, rfl⟩)⟩
theorem ck_RX11_473_1272 : COK2 RX11 vwCl gTbl 473 0 con_1272 := ⟨wd_1218, wd_131, mh_X8_at, .inr (.inr ⟨rfl, wd_1215, wd_1216, wd_1217, ⟨_, rfl, pd_X8_at⟩, 8, _, TX8, 3, rfl, rfl⟩)⟩
theorem ck_RX11_473_1275 : COK2 RX11 vwCl gTbl 473 0 con_1275 := ⟨wd_1218, wd_131, mh_X8_at, .inr (.inr ⟨rfl, wd_1215, wd_1216, wd_1217, ⟨_, rfl, pd_X8_at⟩, 8, _, TX8, 3, rfl, rfl⟩)⟩
theorem ck_RX11_473_1278 : COK2 RX11 vwCl gTbl 473 0 con_1278 := ⟨wd_1218, wd_131, mh_X8_at, .inr (.inr ⟨rfl, wd_1215, wd_1216, wd_1217, ⟨_, rfl, pd_X8_at⟩, 8, _, TX8, 3, rfl, rfl⟩)⟩
theorem ck_RX11_473_1281 : COK2 RX11 vwCl gTbl 473 0 con_1281 := ⟨wd_1218, wd_131, mh_X8_at, .inr (.inr ⟨rfl, wd_1215, wd_1216, wd_1217, ⟨_, rfl, pd_X8_at⟩, 8, _, TX8, 3, rfl, rfl⟩)⟩
theorem ck_RX11_473_1284 : COK2 RX11 vwCl gTbl 473 0 con_1284 := ⟨wd_1218, wd_131, mh_X8_at, .inr (.inr ⟨rfl, wd_1215, wd_1216, wd_1217, ⟨_, rfl, pd_X8_at⟩, 8, _, TX8, 3, rfl, rfl⟩)⟩
theorem ck_RX11_473_1287 : COK2 RX11 vwCl gTbl 473 0 con_1287 := ⟨wd_1218, wd_131, mh_X8_at, .inr (.inr ⟨rfl, wd_1215, wd_1216, wd_1217, ⟨_, rfl, pd_X8_at⟩, 8, _, TX8, 3, rfl, rfl⟩)⟩
theorem ck_RX11_473_1290 : COK2 RX11 vwCl gTbl 473 0 con_1290 := ⟨wd_1218, wd_131, mh_X8_at, .inr (.inr ⟨rfl, wd_1215, wd_1216, wd_1217, ⟨_, rfl, pd_X8_at⟩, 8, _, TX8, 3, rfl, rfl⟩)⟩
theorem ck_RX11_473_1293 : COK2 RX11 vwCl gTbl 473 0 con_1293 := ⟨wd_1218, wd_131, mh_X8_at, .inr (.inr ⟨rfl, wd_1215, wd_1216, wd_1217, ⟨_, rfl, pd_X8_at⟩, 8, _, TX8, 3, rfl, rfl⟩)⟩
theorem ck_RX11_473_1296 : COK2 RX11 vwCl gTbl 473 0 con_1296 := ⟨wd_1218, wd_131, mh_X8_at, .inr (.inr ⟨rfl, wd_1215, wd_1216, wd_1217, ⟨_, rfl, pd_X8_at⟩, 8, _, TX8, 3, rfl, rfl⟩)⟩
theorem ck_RX11_473_1299 : COK2 RX11 vwCl gTbl 473 0 con_1299 := ⟨wd_1218, wd_131, mh_X8_at, .inr (.inr ⟨rfl, wd_1215, wd_1216, wd_1217, ⟨_, rfl, pd_X8_at⟩, 8, _, TX8, 3, rfl, rfl⟩)⟩
theorem ck_RX11_473_1302 : COK2 RX11 vwCl gTbl 473 0 con_1302 := ⟨wd_1218, wd_131, mh_X8_at, .inr (.inr ⟨rfl, wd_1215, wd_1216, wd_1217, ⟨_, rfl, pd_X8_at⟩, 8, _, TX8, 3, rfl, rfl⟩)⟩
theorem ck_RX11_473_1305 : COK2 RX11 vwCl gTbl 473 0 con_1305 := ⟨wd_1218, wd_131, mh_X8_at, .inr (.inr ⟨rfl, wd_1215, wd_1216, wd_1217, ⟨_, rfl, pd_X8_at⟩, 8, _, TX8, 3, rfl, rfl⟩)⟩
theorem ck_RX11_473_1308 : COK2 RX11 vwCl gTbl 473 0 con_1308 := ⟨wd_1218, wd_131, mh_X8_at, .inr (.inr ⟨rfl, wd_1215, wd_1216, wd_1217, ⟨_, rfl, pd_X8_at⟩, 8, _, TX8, 3, rfl, rfl⟩)⟩
theorem ck_RX11_473_1311 : COK2 RX11 vwCl gTbl 473 0 con_1311 := ⟨wd_1218, wd_131, mh_X8_at, .inr (.inr ⟨rfl, wd_1215, wd_1216, wd_1217, ⟨_, rfl, pd_X8_at⟩, 8, _, TX8, 3, rfl, rfl⟩)⟩
theorem ck_RX11_473_1314 : COK2 RX11 vwCl gTbl 473 0 con_1314 := ⟨wd_1218, wd_131, mh_X8_at, .inr (.inr ⟨rfl, wd_1215, wd_1216, wd_1217, ⟨_, rfl, pd_X8_at⟩, 8, _, TX8, 3, rfl, rfl⟩)⟩
theorem ck_RX11_473_1317 : COK2 RX11 vwCl gTbl 473 0 con_1317 := ⟨wd_1218, wd_131, mh_X8_at, .inr (.inr ⟨rfl, wd_1215, wd_1216, wd_1217, ⟨_, rfl, pd_X8_at⟩, 8, _, TX8, 3, rfl, rfl⟩)⟩
theorem ck_RX11_420_1256 : COK2 RX11 vwCl gTbl 420 0 con_1256 := ⟨wd_1214, wd_131, mh_X8_hasRow, .inr (.inr ⟨rfl, wd_1211, wd_1212, wd_1213, ⟨_, rfl, pd_X8_hasRow⟩, 8, _, TX8, 3, rfl, rfl⟩)⟩
theorem ck_RX11_414_1255 : COK2 RX11 vwCl gTbl 414 1 con_1255 := ⟨wd_1210, wd_131, mh_X8_isSlot, .inl ⟨rfl, wd_1208, wd_1209, pd_X8_isSlot⟩⟩
noncomputable def ct_1320 : CTB2 := [(1, 414, 1, con_1255, []), (9, 139, 0, con_643, [0, 1, 2]), (23, 420, 0, con_1256, [3, 4]), (67, 473, 0, con_1317, [3, 5]), (67, 473, 0, con_1314, [3, 5]), (67, 473, 0, con_1311, [3, 5]), (67, 473, 0, con_1308, [3, 5]), (67, 473, 0, con_1305, [3, 5]), (67, 473, 0, con_1302, [3, 5]), (67, 473, 0, con_1299, [3, 5]), (67, 473, 0, con_1296, [3, 5]), (67, 473, 0, con_1293, [3, 5]), (67, 473, 0, con_1290, [3, 5]), (67, 473, 0, con_1287, [3, 5]), (67, 473, 0, con_1284, [3, 5]), (67, 473, 0, con_1281, [3, 5]), (67, 473, 0, con_1278, [3, 5]), (67, 473, 0, con_1275, [3, 5]), (67, 473, 0, con_1272, [3, 5]), (67, 473, 0, con_1269, [3, 5]), (67, 473, 0, con_1266, [3, 5]), (67, 473, 0, con_1263, [3, 5]), (67, 473, 0, con_1257, [3, 5]), (82, 476, 1, con_1258, []), (97, 473, 0, con_1318, [3, 5]), (97, 473, 0, con_1315, [3, 5]), (97, 473, 0, con_1312, [3, 5]), (97, 473, 0, con_1309, [3, 5]), (97, 473, 0, con_1306, [3, 5]), (97, 473, 0, con_1303, [3, 5]), (97, 473, 0, con_1300, [3, 5]), (97, 473, 0, con_1297, [3, 5]), (97, 473, 0, con_1294, [3, 5]), (97, 473, 0, con_1291, [3, 5]), (97, 473, 0, con_1288, [3, 5]), (97, 473, 0, con_1285, [3, 5]), (97, 473, 0, con_1282, [3, 5]), (97, 473, 0, con_1279, [3, 5]), (97, 473, 0, con_1276, [3, 5]), (97, 473, 0, con_1273, [3, 5]), (97, 473, 0, con_1270, [3, 5]), (97, 473, 0, con_1267, [3, 5]), (97, 473, 0, con_1264, [3, 5]), (97, 473, 0, con_1259, [3, 5]), (110, 476, 1, con_1260, []), (125, 473, 0, con_1319, [3, 5]), (125, 473, 0, con_1316, [3, 5]), (125, 473, 0, con_1313, [3, 5]), (125, 473, 0, con_1310, [3, 5]), (125, 473, 0, con_1307, [3, 5]), (125, 473, 0, con_1304, [3, 5]), (125, 473, 0, con_1301, [3, 5]), (125, 473, 0, con_1298, [3, 5]), (125, 473, 0, con_1295, [3, 5]), (125, 473, 0, con_1292, [3, 5]), (125, 473, 0, con_1289, [3, 5]), (125, 473, 0, con_1286, [3, 5]), (125, 473, 0, con_1283, [3, 5]), (125, 473, 0, con_1280, [3, 5]), (125, 473, 0, con_1277, [3, 5]), (125, 473, 0, con_1274, [3, 5]), (125, 473, 0, con_1271, [3, 5]), (125, 473, 0, con_1268, [3, 5]), (125, 473, 0, con_1265, [3, 5]), (125, 473, 0, con_1261, [3, 5]), (131, 476, 1, con_1262, [])]
noncomputable def gi_957 : GI := jl_n [jl_z 2, jl_i 0 4, jl_z 19, jl_i 0 16, jl_z 2, jl_i 1 5, jl_z 15, jl_r 3 (jl_m 0 60), jl_i 0 60, jl_r 60 (jl_u), jl_z 5]
noncomputable def gi_958 : GI := jl_n [jl_z 2, jl_i 0 4, jl_z 19, jl_i 0 16, jl_z 2, jl_i 1 5, jl_z 15, jl_r 3 (jl_m 0 60), jl_i 1 60, jl_i 0 4, jl_i 0 16, jl_i 0 250, jl_r 57 (jl_u), jl_z 5]
noncomputable def gi_959 : GI := jl_n [jl_z 2, jl_i 0 4, jl_z 19, jl_i 0 16, jl_z 2, jl_i 1 5, jl_z 15, jl_r 3 (jl_m 0 60), jl_i 4 60, jl_i 0 4, jl_i 0 16, jl_i 0 250, jl_i 0 4, jl_i 0 16, jl_i 0 250, jl_r 54 (jl_u), jl_z 5]
noncomputable def gi_960 : GI := jl_n [jl_z 2, jl_i 0 4, jl_z 19, jl_i 0 16, jl_z 2, jl_i 1 5, jl_z 15, jl_r 3 (jl_m 0 60), jl_i 7 60, jl_i 0 4, jl_i 0 16, jl_i 0 250, jl_i 0 4, jl_i 0 16, jl_i 0 250, jl_i 0 4, jl_i 0 16, jl_i 0 250, jl_r 51 (jl_u), jl_z 5]
noncomputable def gi_961 : GI := jl_n [jl_z 2, jl_i 0 4, jl_z 19, jl_i 0 16, jl_z 2, jl_i 1 5, jl_z 15, jl_r 3 (jl_m 0 60), jl_i 10 60, jl_i 0 4, jl_i 0 16, jl_i 0 250, jl_i 0 4, jl_i 0 16, jl_i 0 250, jl_i 0 4, jl_i 0 16, jl_i 0 250, jl_i 0 4, jl_i 0 16, jl_i 0 250, jl_r 48 (jl_u), jl_z 5]
noncomputable def gi_962 : GI := jl_n [jl_z 2, jl_i 0 4, jl_z 19, jl_i 0 16, jl_z 2, jl_i 1 5, jl_z 15, jl_r 3 (jl_m 0 60), jl_i 13 60, jl_i 0 4, jl_i 0 16, jl_i 0 250, jl_i 0 4, jl_i 0 16, jl_i 0 250, jl_i 0 4, jl_i 0 16, jl_i 0 250, jl_i 0 4, jl_i 0 16, jl_i 0 250, jl_i 0 4, jl_i 0 16, jl_i 0 250, jl_r 45 (jl_u), jl_z 5]
noncomputable def gi_963 : GI := jl_n [jl_z 2, jl_i 0 4, jl_z 19, jl_i 0 16, jl_z 2, jl_i 1 5, jl_z 15, jl_r 3 (jl_m 0 60), jl_i 16 60, jl_i 0 4, jl_i 0 16, jl_i 0 250, jl_i 0 4, jl_i 0 16, jl_i 0 250, jl_i 0 4, jl_i 0 16, jl_i 0 250, jl_i 0 4, jl_i 0 16, jl_i 0 250, jl_i 0 4, jl_i 0 16, jl_i 0 250, jl_i 0 4, jl_i 0 16, jl_i 0 250, jl_r 42 (jl_u), jl_z 5]
noncomputable def gi_964 : GI := jl_n [jl_z 2, jl_i 0 4, jl_z 19, jl_i 0 16, jl_z 2, jl_i 1 5, jl_z 15, jl_r 3 (jl_m 0 60), jl_i 19 60, jl_i 0 4, jl_i 0 16, jl_i 0 250, jl_i 0 4, jl_i 0 16, jl_i 0 250, jl_i 0 4, jl_i 0 16, jl_i 0 250, jl_i 0 4, jl_i 0 16, jl_i 0 250, jl_i 0 4, jl_i 0 16, jl_i 0 250, jl_i 0 4, jl_i 0 16, jl_i 0 250, jl_i 0 4, jl_i 0 16, jl_i 0 250, jl_r 39 (jl_u), jl_z 5]
noncomputable def gi_965 : GI := jl_n [jl_z 2, jl_i 0 4, jl_z 19, jl_i 0 16, jl_z 2, jl_i 1 5, jl_z 15, jl_r 3 (jl_m 0 60), jl_i 22 60, jl_i 0 4, jl_i 0 16, jl_i 0 250, jl_i 0 4, jl_i 0 16, jl_i 0 250, jl_i 0 4, jl_i 0 16, jl_i 0 250, jl_i 0 4, jl_i 0 16, jl_i 0 250, jl_i 0 4, jl_i 0 16, jl_i 0 250, jl_i 0 4, jl_i 0 16, jl_i 0 250, jl_i 0 4, jl_i 0 16, jl_i 0 250, jl_i 0 4, jl_i 0 16, jl_i 0 250, jl_r 36 (jl_u), jl_z 5]
noncomputable def gi_966 : GI := jl_n [jl_z 2, jl_i 0 4, jl_z 19, jl_i 0 16, jl_z 2, jl_i 1 5, jl_z 15, jl_r 3 (jl_m 0 60), jl_i 25 60, jl_i 0 4, jl_i 0 16, jl_i 0 250, jl_i 0 4, jl_i 0 16, jl_i 0 250, jl_i 0 4, jl_i 0 16, jl_i 0 250, jl_i 0 4, jl_i 0 16, jl_i 0 250, jl_i 0 4, jl_i 0 16, jl_i 0 250, jl_i 0 4, jl_i 0 16, jl_i 0 250, jl_i 0 4, jl_i 0 16, jl_i 0 250, jl_i 0 4, jl_i 0 16, jl_i 0 250, jl_i 0 4, jl_i 0 16, jl_i 0 250, jl_r 33 (jl_u), jl_z 5]
noncomputable def gi_967 : GI := jl_n [jl_z 2, jl_i 0 4, jl_z 19, jl_i 0 16, jl_z 2, jl_i 1 5, jl_z 15, jl_r 3 (jl_m 0 60), jl_i 28 60, jl_i 0 4, jl_i 0 16, jl_i 0 250, jl_i 0 4, jl_i 0 16, jl_i 0 250, jl_i 0 4, jl_i 0 16, jl_i 0 250, jl_i 0 4, jl_i 0 16, jl_i 0 250, jl_i 0 4, jl_i 0 16, jl_i 0 250, jl_i 0 4, jl_i 0 16, jl_i 0 250, jl_i 0 4, jl_i 0 16, jl_i 0 250, jl_i 0 4, jl_i 0 16, jl_i 0 250, jl_i 0 4, jl_i 0 16, jl_i 0 250, jl_i 0 4, jl_i 0 16, jl_i 0 250, jl_r 30 (jl_u), jl_z 5]
noncomputable def gi_968 : GI := jl_n [jl_z 2, jl_i 0 4, jl_z 19, jl_i 0 16, jl_z 2, jl_i 1 5, jl_z 15, jl_r 3 (jl_m 0 60), jl_i 31 60, jl_i 0 4, jl_i 0 16, jl_i 0 250, jl_i 0 4, jl_i 0 16, jl_i 0 250, jl_i 0 4, jl_i 0 16, jl_i 0 250, jl_i 0 4, jl_i 0 16, jl_i 0 250, jl_i 0 4, jl_i 0 16, jl_i 0 250, jl_i 0 4, jl_i 0 16, jl_i 0 250, jl_i 0 4, jl_i 0 16, jl_i 0 250, jl_i 0 4, jl_i 0 16, jl_i 0 250, jl_i 0 4, jl_i 0 16, jl_i 0 250, jl_i 0 4, jl_i 0 16, jl_i 0 250, jl_i 0 4, jl_i 0 16, jl_i 0 250, jl_r 27 (jl_u), jl_z 5]
noncomputable def gi_969 : GI := jl_n [jl_z 2, jl_i 0 4, jl_z 19, jl_i 0 16, jl_z 2, jl_i 1 5, jl_z 15, jl_r 3 (jl_m 0 60), jl_i 34 60, jl_i 0 4, jl_i 0 16, jl_i 0 250, jl_i 0 4, jl_i 0 16, jl_i 0 250, jl_i 0 4, jl_i 0 16, jl_i 0 250, jl_i 0 4, jl_i 0 16, jl_i 0 250, jl_i 0 4, jl_i 0 16, jl_i 0 250, jl_i 0 4, jl_i 0 16, jl_i 0 250, jl_i 0 4, jl_i 0 16, jl_i 0 250, jl_i 0 4, jl_i 0 16, jl_i 0 250, jl_i 0 4, jl_i 0 16, jl_i 0 250, jl_i 0 4, jl_i 0 16, jl_i 0 250, jl_i 0 4, jl_i 0 16, jl_i 0 250, jl_i 0 4, jl_i 0 16, jl_i 0 250, jl_r 24 (jl_u), jl_z 5]
noncomputable def gi_970 : GI := jl_n [jl_z 2, jl_i 0 4, jl_z 19, jl_i 0 16, jl_z 2, jl_i 1 5, jl_z 15, jl_r 3 (jl_m 0 60), jl_i 37 60, jl_i 0 4, jl_i 0 16, jl_i 0 250, jl_i 0 4, jl_i 0 16, jl_i 0 250, jl_i 0 4, jl_i 0 16, jl_i 0 250, jl_i 0 4, jl_i 0 16, jl_i 0 250, jl_i 0 4, jl_i 0 16, jl_i 0 250, jl_i 0 4, jl_i 0 16, jl_i 0 250, jl_i 0 4, jl_i 0 16, jl_i 0 250, jl_i 0 4, jl_i 0 16, jl_i 0 250, jl_i 0 4, jl_i 0 16, jl_i 0 250, jl_i 0 4, jl_i 0 16, jl_i 0 250, jl_i 0 4, jl_i 0 16, jl_i 0 250, jl_i 0 4, jl_i 0 16, jl_i 0 250, jl_i 0 4, jl_i 0 16, jl_i 0 250, jl_r 21 (jl_u), jl_z 5]
noncomputable def gi_971 : GI := jl_n [jl_z 2, jl_i 0 4, jl_z 19, jl_i 0 16, jl_z 2, jl_i 1 5, jl_z 15, jl_r 3 (jl_m 0 60), jl_i 40 60, jl_i 0 4, jl_i 0 16, jl_i 0 250, jl_i 0 4, jl_i 0 16, jl_i 0 250, jl_i 0 4, jl_i 0 16, jl_i 0 250, jl_i 0 4, jl_i 0 16, jl_i 0 250, jl_i 0 4, jl_i 0 16, jl_i 0 250, jl_i 0 4, jl_i 0 16, jl_i 0 250, jl_i 0 4, jl_i 0 16, jl_i 0 250, jl_i 0 4, jl_i 0 16, jl_i 0 250, jl_i 0 4, jl_i 0 16, jl_i 0 250, jl_i 0 4, jl_i 0 16, jl_i 0 250, jl_i 0 4, jl_i 0 16, jl_i 0 250, jl_i 0 4, jl_i 0 16, jl_i 0 250, jl_i 0 4, jl_i 0 16, jl_i 0 250, jl_i 0 4, jl_i 0 16, jl_i 0 250, jl_r 18 (jl_u), jl_z 5]
noncomputable def gi_972 : GI := jl_n [jl_z 2, jl_i 0 4, jl_z 19, jl_i 0 16, jl_z 2, jl_i 1 5, jl_z 15, jl_r 3 (jl_m 0 60), jl_i 43 60, jl_i 0 4, jl_i 0 16, jl_i 0 250, jl_i 0 4, jl_i 0 16, jl_i 0 250, jl_i 0 4, jl_i 0 16, jl_i 0 250, jl_i 0 4, jl_i 0 16, jl_i 0 250, jl_i 0 4, jl_i 0 16, jl_i 0 250, jl_i 0 4, jl_i 0 16, jl_i 0 250, jl_i 0 4, jl_i 0 16, jl_i 0 250, jl_i 0 4, jl_i 0 16, jl_i 0 250, jl_i 0 4, jl_i 0 16, jl_i 0 250, jl_i 0 4, jl_i 0 16, jl_i 0 250, jl_i 0 4, jl_i 0 16, jl_i 0 250, jl_i 0 4, jl_i 0 16, jl_i 0 250, jl_i 0 4, jl_i 0 16, jl_i 0 250, jl_i 0 4, jl_i 0 16, jl_i 0 250, jl_i 0 4, jl_i 0 16, jl_i 0 250, jl_r 15 (jl_u), jl_z 5]
noncomputable def gi_973 : GI := jl_n [jl_z 2, jl_i 0 4, jl_z 19, jl_i 0 16, jl_z 2, jl_i 1 5, jl_z 15, jl_r 3 (jl_m 0 60), jl_i 46 60, jl_i 0 4, jl_i 0 16, jl_i 0 250, jl_i 0 4, jl_i 0 16, jl_i 0 250, jl_i 0 4, jl_i 0 16, jl_i 0 250, jl_i 0 4, jl_i 0 16, jl_i 0 250, jl_i 0 4, jl_i 0 16, jl_i 0 250, jl_i 0 4, jl_i 0 16, jl_i 0 250, jl_i 0 4, jl_i 0 16, jl_i 0 250, jl_i 0 4, jl_i 0 16, jl_i 0 250, jl_i 0 4, jl_i 0 16, jl_i 0 250, jl_i 0 4, jl_i 0 16, jl_i 0 250, jl_i 0 4, jl_i 0 16, jl_i 0 250, jl_i 0 4, jl_i 0 16, jl_i 0 250, jl_i 0 4, jl_i 0 16, jl_i 0 250, jl_i 0 4, jl_i 0 16, jl_i 0 250, jl_i 0 4, jl_i 0 16, jl_i 0 250, jl_i 0 4, jl_i 0 16, jl_i 0 250, jl_r 12 (jl_u), jl_z 5]
noncomputable def gi_974 : GI := jl_n [jl_z 2, jl_i 0 4, jl_z 19, jl_i 0 16, jl_z 2, jl_i 1 5, jl_z 15, jl_r 3 (jl_m 0 60), jl_i 49 60, jl_i 0 4, jl_i 0 16, jl_i 0 250, jl_i 0 4, jl_i 0 16, jl_i 0 250, jl_i 0 4, jl_i 0 16, jl_i 0 250, jl_i 0 4, jl_i 0 16, jl_i 0 250, jl_i 0 4, jl_i 0 16, jl_i 0 250, jl_i 0 4, jl_i 0 16, jl_i 0 250, jl_i 0 4, jl_i 0 16, jl_i 0 250, jl_i 0 4, jl_i 0 16, jl_i 0 250, jl_i 0 4, jl_i 0 16, jl_i 0 250, jl_i 0 4, jl_i 0 16, jl_i 0 250, jl_i 0 4, jl_i 0 16, jl_i 0 250, jl_i 0 4, jl_i 0 16, jl_i 0 250, jl_i 0 4, jl_i 0 16, jl_i 0 250, jl_i 0 4, jl_i 0 16, jl_i 0 250, jl_i 0 4, jl_i 0 16, jl_i 0 250, jl_i 0 4, jl_i 0 16, jl_i 0 250, jl_i 0 4, jl_i 0 16, jl_i 0 250, jl_r 9 (jl_u), jl_z 5]
noncomputable def gi_975 : GI := jl_n [jl_z 2, jl_i 0 4, jl_z 19, jl_i 0 16, jl_z 2, jl_i 1 5, jl_z 15, jl_r 3 (jl_m 0 60), jl_i 52 60, jl_i 0 4, jl_i 0 16, jl_i 0 250, jl_i 0 4, jl_i 0 16, jl_i 0 250, jl_i 0 4, jl_i 0 16, jl_i 0 250, jl_i 0 4, jl_i 0 16, jl_i 0 250, jl_i 0 4, jl_i 0 16, jl_i 0 250, jl_i 0 4, jl_i 0 16, jl_i 0 250, jl_i 0 4, jl_i 0 16, jl_i 0 250, jl_i 0 4, jl_i 0 16, jl_i 0 250, jl_i 0 4, jl_i 0 16, jl_i 0 250, jl_i 0 4, jl_i 0 16, jl_i 0 250, jl_i 0 4, jl_i 0 16, jl_i 0 250, jl_i 0 4, jl_i 0 16, jl_i 0 250, jl_i 0 4, jl_i 0 16, jl_i 0 250, jl_i 0 4, jl_i 0 16, jl_i 0 250, jl_i 0 4, jl_i 0 16, jl_i 0 250, jl_i 0 4, jl_i 0 16, jl_i 0 250, jl_i 0 4, jl_i 0 16, jl_i 0 250, jl_i 0 4, jl_i 0 16, jl_i 0 250, jl_r 6 (jl_u), jl_z 5]
noncomputable def gi_976 : GI := jl_n [jl_z 2, jl_i 0 4, jl_z 19, jl_i 0 16, jl_z 2, jl_i 1 5, jl_z 15, jl_r 3 (jl_m 0 60), jl_i 55 60, jl_i 0 4, jl_i 0 16, jl_i 0 250, jl_i 0 4, jl_i 0 16, jl_i 0 250, jl_i 0 4, jl_i 0 16, jl_i 0 250, jl_i 0 4, jl_i 0 16, jl_i 0 250, jl_i 0 4, jl_i 0 16, jl_i 0 250, jl_i 0 4, jl_i 0 16, jl_i 0 250, jl_i 0 4, jl_i 0 16, jl_i 0 250, jl_i 0 4, jl_i 0 16, jl_i 0 250, jl_i 0 4, jl_i 0 16, jl_i 0 250, jl_i 0 4, jl_i 0 16, jl_i 0 250, jl_i 0 4, jl_i 0 16, jl_i 0 250, jl_i 0 4, jl_i 0 16, jl_i 0 250, jl_i 0 4, jl_i 0 16, jl_i 0 250, jl_i 0 4, jl_i 0 16, jl_i 0 250, jl_i 0 4, jl_i 0 16, jl_i 0 250, jl_i 0 4, jl_i 0 16, jl_i 0 250, jl_i 0 4, jl_i 0 16, jl_i 0 250, jl_i 0 4, jl_i 0 16, jl_i 0 250, jl_i 0 4, jl_i 0 16, jl_i 0 250, jl_r 3 (jl_u), jl_z 5]
noncomputable def gi_977 : GI := jl_n [jl_z 2, jl_i 0 4, jl_z 19, jl_i 0 16, jl_z 2, jl_i 1 5, jl_z 15, jl_r 3 (jl_m 0 60), jl_i 58 60, jl_i 0 4, jl_i 0 16, jl_i 0 250, jl_i 0 4, jl_i 0 16, jl_i 0 250, jl_i 0 4, jl_i 0 16, jl_i 0 250, jl_i 0 4, jl_i 0 16, jl_i 0 250, jl_i 0 4, jl_i 0 16, jl_i 0 250, jl_i 0 4, jl_i 0 16, jl_i 0 250, jl_i 0 4, jl_i 0 16, jl_i 0 250, jl_i 0 4, jl_i 0 16, jl_i 0 250, jl_i 0 4, jl_i 0 16, jl_i 0 250, jl_i 0 4, jl_i 0 16, jl_i 0 250, jl_i 0 4, jl_i 0 16, jl_i 0 250, jl_i 0 4, jl_i 0 16, jl_i 0 250, jl_i 0 4, jl_i 0 16, jl_i 0 250, jl_i 0 4, jl_i 0 16, jl_i 0 250, jl_i 0 4, jl_i 0 16, jl_i 0 250, jl_i 0 4, jl_i 0 16, jl_i 0 250, jl_i 0 4, jl_i 0 16, jl_i 0 250, jl_i 0 4, jl_i 0 16, jl_i 0 250, jl_i 0 4, jl_i 0 16, jl_i 0 250, jl_i 0 4, jl_i 0 16, jl_i 0 250, jl_z 5]
noncomputable def cu_1320_0 : List CUT2 := [((54, [(0, (6, 0, 0)), (1, (0, 3, 0)), (2, (1, 2, 0)), (3, (1, 44, 0)), (4, (0, 0, 0))], [], gi_957, hq_701), [], ([], 60)), ((54, [(0, (6, 0, 0)), (1, (0, 3, 0)), (2, (1, 2, 0)), (3, (1, 44, 0)), (4, (0, 3, 0))], [], gi_958, hq_701), [], ([], 57)), ((54, [(0, (6, 0, 0)), (1, (0, 3, 0)), (2, (1, 2, 0)), (3, (1, 44, 0)), (4, (0, 6, 0))], [], gi_959, hq_701), [], ([], 54)), ((54, [(0, (6, 0, 0)), (1, (0, 3, 0)), (2, (1, 2, 0)), (3, (1, 44, 0)), (4, (0, 9, 0))], [], gi_960, hq_701), [], ([], 51)), ((54, [(0, (6, 0, 0)), (1, (0, 3, 0)), (2, (1, 2, 0)), (3, (1, 44, 0)), (4, (0, 12, 0))], [], gi_961, hq_701), [], ([], 48)), ((54, [(0, (6, 0, 0)), (1, (0, 3, 0)), (2, (1, 2, 0)), (3, (1, 44, 0)), (4, (0, 15, 0))], [], gi_962, hq_701), [], ([], 45)), ((54, [(0, (6, 0, 0)), (1, (0, 3, 0)), (2, (1, 2, 0)), (3, (1, 44, 0)), (4, (0, 18, 0))], [], gi_963, hq_701), [], ([], 42)), ((54, [(0, (6, 0, 0)), (1, (0, 3, 0)), (2, (1, 2, 0)), (3, (1, 44, 0)), (4, (0, 21, 0))], [], gi_964, hq_701), [], ([], 39)), ((54, [(0, (6, 0, 0)), (1, (0, 3, 0)), (2, (1, 2, 0)), (3, (1, 44, 0)), (4, (0, 24, 0))], [], gi_965, hq_701), [], ([], 36)), ((54, [(0, (6, 0, 0)), (1, (0, 3, 0)), (2, (1, 2, 0)), (3, (1, 44, 0)), (4, (0, 27, 0))], [], gi_966, hq_701), [], ([], 33)), ((54, [(0, (6, 0, 0)), (1, (0, 3, 0)), (2, (1, 2, 0)), (3, (1, 44, 0)), (4, (0, 30, 0))], [], gi_967, hq_701), [], ([], 30)), ((54, [(0, (6, 0, 0)), (1, (0, 3, 0)), (2, (1, 2, 0)), (3, (1, 44, 0)), (4, (0, 33, 0))], [], gi_968, hq_701), [], ([], 27)), ((54, [(0, (6, 0, 0)), (1, (0, 3, 0)), (2, (1, 2, 0)), (3, (1, 44, 0)), (4, (0, 36, 0))], [], gi_969, hq_701), [], ([], 24))]
noncomputable def cu_1320_1 : List CUT2 := [((54, [(0, (6, 0, 0)), (1, (0, 3, 0)), (2, (1, 2, 0)), (3, (1, 44, 0)), (4, (0, 39, 0))], [], gi_970, hq_701), [], ([], 21)), ((54, [(0, (6, 0, 0)), (1, (0, 3, 0)), (2, (1, 2, 0)), (3, (1, 44, 0)), (4, (0, 42, 0))], [], gi_971, hq_701), [], ([], 18)), ((54, [(0, (6, 0, 0)), (1, (0, 3, 0)), (2, (1, 2, 0)), (3, (1, 44, 0)), (4, (0, 45, 0))], [], gi_972, hq_701), [], ([], 15)), ((54, [(0, (6, 0, 0)), (1, (0, 3, 0)), (2, (1, 2, 0)), (3, (1, 44, 0)), (4, (0, 48, 0))], [], gi_973, hq_701), [], ([], 12)), ((54, [(0, (6, 0, 0)), (1, (0, 3, 0)), (2, (1, 2, 0)), (3, (1, 44, 0)), (4, (0, 51, 0))], [], gi_974, hq_701), [], ([], 9)), ((54, [(0, (6, 0, 0)), (1, (0, 3, 0)), (2, (1, 2, 0)), (3, (1, 44, 0)), (4, (0, 54, 0))], [], gi_975, hq_701), [], ([], 6)), ((54, [(0, (6, 0, 0)), (1, (0, 3, 0)), (2, (1, 2, 0)), (3, (1, 44, 0)), (4, (0, 57, 0))], [], gi_976, hq_701), [], ([], 3)), ((54, [(0, (6, 0, 0)), (1, (0, 3, 0)), (2, (1, 2, 0)), (3, (1, 44, 0)), (4, (0, 60, 0))], [], gi_977, hq_701), [], ([], 0))]
noncomputable def cu_1320 : List CUT2 := cu_1320_0 ++ (cu_1320_1)
theorem ch_1320 : staG tb_X11_wrongSeen 1 bt_RX11 [] ct_1320 [] [] cu_1320 44 con_1320 = true := by decide +kernel
theorem cc_1320_0 : cu_1320_0.all (cutG tb_X11_wrongSeen 1 bt_RX11 [] ct_1320 [] [] cu_1320 44 con_1320) = true := by decide +kernel
theorem cc_1320_1 : cu_1320_1.all (cutG tb_X11_wrongSeen 1 bt_RX11 [] ct_1320 [] [] cu_1320 44 con_1320) = true := by decide +kernel
theorem cto_1320 (l : Launch) : CTOK2 l RX11 vwCl gTbl ct_1320 := ct2_cons (vl_1255 l) ck_RX11_414_1255 (ct2_cons (vl_643 l) ck_RX11_139_643 (ct2_cons (vl_1256 l) ck_RX11_420_1256 (ct2_cons (vl_1317 l) ck_RX11_473_1317 (ct2_cons (vl_1314 l) ck_RX11_473_1314 (ct2_cons (vl_1311 l) ck_RX11_473_1311 (ct2_cons (vl_1308 l) ck_RX11_473_1308 (ct2_cons (vl_1305 l) ck_RX11_473_1305 (ct2_cons (vl_1302 l) ck_RX11_473_1302 (ct2_cons (vl_1299 l) ck_RX11_473_1299 (ct2_cons (vl_1296 l) ck_RX11_473_1296 (ct2_cons (vl_1293 l) ck_RX11_473_1293 (ct2_cons (vl_1290 l) ck_RX11_473_1290 (ct2_cons (vl_1287 l) ck_RX11_473_1287 (ct2_cons (vl_1284 l) ck_RX11_473_1284 (ct2_cons (vl_1281 l) ck_RX11_473_1281 (ct2_cons (vl_1278 l) ck_RX11_473_1278 (ct2_cons (vl_1275 l) ck_RX11_473_1275 (ct2_cons (vl_1272 l) ck_RX11_473_1272 (ct2_cons (vl_1269 l) ck_RX11_473_1269 (ct2_cons (vl_1266 l) ck_RX11_473_1266 (ct2_cons (vl_1263 l) ck_RX11_473_1263 (ct2_cons (vl_1257 l) ck_RX11_473_1257 (ct2_cons (vl_1258 l) ck_RX11_476_1258 (ct2_cons (vl_1318 l) ck_RX11_473_1318 (ct2_cons (vl_1315 l) ck_RX11_473_1315 (ct2_cons (vl_1312 l) ck_RX11_473_1312 (ct2_cons (vl_1309 l) ck_RX11_473_1309 (ct2_cons (vl_1306 l) ck_RX11_473_1306 (ct2_cons (vl_1303 l) ck_RX11_473_1303 (ct2_cons (vl_1300 l) ck_RX11_473_1300 (ct2_cons (vl_1297 l) ck_RX11_473_1297 (ct2_cons (vl_1294 l) ck_RX11_473_1294 (ct2_cons (vl_1291 l) ck_RX11_473_1291 (ct2_cons (vl_1288 l) ck_RX11_473_1288 (ct2_cons (vl_1285 l) ck_RX11_473_1285 (ct2_cons (vl_1282 l) ck_RX11_473_1282 (ct2_cons (vl_1279 l) ck_RX11_473_1279 (ct2_cons (vl_1276 l) ck_RX11_473_1276 (ct2_cons (vl_1273 l) ck_RX11_473_1273 (ct2_cons (vl_1270 l) ck_RX11_473_1270 (ct2_cons (vl_1267 l) ck_RX11_473_1267 (ct2_cons (vl_1264 l) ck_RX11_473_1264 (ct2_cons (vl_1259 l) ck_RX11_473_1259 (ct2_cons (vl_1260 l) ck_RX11_476_1260 (ct2_cons (vl_1319 l) ck_RX11_473_1319 (ct2_cons (vl_1316 l) ck_RX11_473_1316 (ct2_cons (vl_1313 l) ck_RX11_473_1313 (ct2_cons (vl_1310 l) ck_RX11_473_1310 (ct2_cons (vl_1307 l) ck_RX11_473_1307 (ct2_cons (vl_1304 l) ck_RX11_473_1304 (ct2_cons (vl_1301 l) ck_RX11_473_1301 (ct2_cons (vl_1298 l) ck_RX11_473_1298 (ct2_cons (vl_1295 l) ck_RX11_473_1295 (ct2_cons (vl_1292 l) ck_RX11_473_1292 (ct2_cons (vl_1289 l) ck_RX11_473_1289 (ct2_cons (vl_1286 l) ck_RX11_473_1286 (ct2_cons (vl_1283 l) ck_RX11_473_1283 (ct2_cons (vl_1280 l) ck_RX11_473_1280 (ct2_cons (vl_1277 l) ck_RX11_473_1277 (ct2_cons (vl_1274 l) ck_RX11_473_1274 (ct2_cons (vl_1271 l) ck_RX11_473_1271 (ct2_cons (vl_1268 l) ck_RX11_473_1268 (ct2_cons (vl_1265 l) ck_RX11_473_1265 (ct2_cons (vl_1261 l) ck_RX11_473_1261 (ct2_cons (vl_1262 l) ck_RX11_476_1262 (ct2_nil))))))))))))))))))))))))))))))))))))))))))))))))))))))))))))))))))
theorem vl_1320 (l : Launch) : Vld2 l vwCl gTbl con_1320 := conR_ok3 gT_all (hd_1320) rfl pn_RX11 tk_X11_wrongSeen bo_RX11 xo_RX11 (cto_1320 l) ch_1320 (cut_app (cut_all cc_1320_0) (cut_all cc_1320_1))
/-- RookHusting$Slots isSlot -/
noncomputable def con_1321 : Con2 := ((yX8_isSlot, cX8_isSlot, 1, (some .boolean)), (0, 0), ([(0, 2, 0)], [(0, 0)], [], []), [((0, 1, 0), [(0, 0), (0, 0)], [], [], [1])])
theorem hd_1321 : con_1321.1 = (yX8_isSlot, cX8_isSlot, 1, (some .boolean)) := rfl
noncomputable def ct_1321 : CTB2 := []
noncomputable def cu_1321 : List CUT2 := []
theorem ch_1321 : staG tb_X8_isSlot 1 bt_RX8 [] ct_1321 [] [] cu_1321 10 con_1321 = true := by decide +kernel
theorem cto_1321 (l : Launch) : CTOK2 l RX8 vwCl gTbl ct_1321 := ct2_nil
theorem vl_1321 (l : Launch) : Vld2 l vwCl gTbl con_1321 := conR_ok3 gT_all (hd_1321) rfl pn_RX8 tk_X8_isSlot bo_RX8 xo_RX8 (cto_1321 l) ch_1321 cut_nil
/-- RookHusting$Slots hasRow -/
noncomputable def gi_978 : GI := jl_n [jl_z 5, jl_r 2 (jl_m 0 60), jl_k 0 0, jl_m 0 60, jl_z 1]
noncomputable def gi_979 : GI := jl_n [jl_z 5, jl_r 2 (jl_m 0 60), jl_i 0 60, jl_m 0 60, jl_z 1]
noncomputable def con_1322 : Con2 := ((yX8_hasRow, cX8_hasRow, 2, (some .boolean)), (0, 0), ([(6, 0, 0), (0, 2, 0)], gi_925, [.inl (8, [(8, 2, 0), (8, 3, 0), (6, 1, 0)]), ac_808], []), [((0, 0, 0), gi_978, hq_640, [], [1]), ((0, 1, 0), gi_979, hq_640, [], [1])])
theorem hd_1322 : con_1322.1 = (yX8_hasRow, cX8_hasRow, 2, (some .boolean)) := rfl
noncomputable def ct_1322 : CTB2 := []
noncomputable def cu_1322 : List CUT2 := []
theorem ch_1322 : staG tb_X8_hasRow 1 bt_RX8 [] ct_1322 [] [] cu_1322 11 con_1322 = true := by decide +kernel
theorem cto_1322 (l : Launch) : CTOK2 l RX8 vwCl gTbl ct_1322 := ct2_nil
theorem vl_1322 (l : Launch) : Vld2 l vwCl gTbl con_1322 := conR_ok3 gT_all (hd_1322) rfl pn_RX8 tk_X8_hasRow bo_RX8 xo_RX8 (cto_1322 l) ch_1322 cut_nil
/-- RookHusting$Slots at -/
noncomputable def ac_870 : AC := .inr (2, jl_n [js_5 120 9223372036854775807 9223372036854775807, js_4 7 1, js_5 119 9223372036854775807 9223372036854775807])
noncomputable def hq_702 : HP := [(false, .inl (8, [(6, 1, 0), (8, 4, 0), (8, 5, 0)])), (false, ac_870)]
noncomputable def con_1323 : Con2 := ((yX8_at, cX8_at, 3, (some .long)), (0, 0), ([(6, 0, 0), (0, 2, 0), (0, 0, 0)], gi_928, [.inl (8, [(6, 1, 0), (8, 4, 0), (8, 5, 0)]), ac_870], []), [((4, 6, 0), gi_929, hq_702, [], [1])])
theorem hd_1323 : con_1323.1 = (yX8_at, cX8_at, 3, (some .long)) := rfl
noncomputable def ct_1323 : CTB2 := []
noncomputable def cu_1323 : List CUT2 := []
theorem ch_1323 : staG tb_X8_at 1 bt_RX8 [] ct_1323 [] [] cu_1323 11 con_1323 = true := by decide +kernel
theorem cto_1323 (l : Launch) : CTOK2 l RX8 vwCl gTbl ct_1323 := ct2_nil
theorem vl_1323 (l : Launch) : Vld2 l vwCl gTbl con_1323 := conR_ok3 gT_all (hd_1323) rfl pn_RX8 tk_X8_at bo_RX8 xo_RX8 (cto_1323 l) ch_1323 cut_nil
/-- RookHusting$Slots at -/
noncomputable def ac_871 : AC := .inr (2, jl_n [js_5 121 9223372036854775807 9223372036854775807, js_4 7 1, js_5 118 9223372036854775807 9223372036854775807])
noncomputable def hq_703 : HP := [(false, .inl (8, [(6, 1, 0), (8, 4, 0), (8, 5, 0)])), (false, ac_871)]
noncomputable def con_1324 : Con2 := ((yX8_at, cX8_at, 3, (some .long)), (0, 0), ([(6, 0, 0), (0, 2, 0), (0, 1, 0)], gi_928, [.inl (8, [(6, 1, 0), (8, 4, 0), (8, 5, 0)]), ac_871], []), [((4, 6, 0), gi_929, hq_703, [], [1])])
theorem hd_1324 : con_1324.1 = (yX8_at, cX8_at, 3, (some .long)) := rfl
noncomputable def ct_1324 : CTB2 := []
noncomputable def cu_1324 : List CUT2 := []
theorem ch_1324 : staG tb_X8_at 1 bt_RX8 [] ct_1324 [] [] cu_1324 11 con_1324 = true := by decide +kernel
theorem cto_1324 (l : Launch) : CTOK2 l RX8 vwCl gTbl ct_1324 := ct2_nil
theorem vl_1324 (l : Launch) : Vld2 l vwCl gTbl con_1324 := conR_ok3 gT_all (hd_1324) rfl pn_RX8 tk_X8_at bo_RX8 xo_RX8 (cto_1324 l) ch_1324 cut_nil
/-- RookHusting$Slots at -/
noncomputable def ac_872 : AC := .inr (2, jl_n [js_5 122 9223372036854775807 9223372036854775807, js_4 7 1, js_5 117 9223372036854775807 9223372036854775807])
noncomputable def hq_704 : HP := [(false, .inl (8, [(6, 1, 0), (8, 4, 0), (8, 5, 0)])), (false, ac_872)]
noncomputable def con_1325 : Con2 := ((yX8_at, cX8_at, 3, (some .long)), (0, 0), ([(6, 0, 0), (0, 2, 0), (0, 2, 0)], gi_928, [.inl (8, [(6, 1, 0), (8, 4, 0), (8, 5, 0)]), ac_872], []), [((4, 6, 0), gi_929, hq_704, [], [1])])
theorem hd_1325 : con_1325.1 = (yX8_at, cX8_at, 3, (some .long)) := rfl
noncomputable def ct_1325 : CTB2 := []
noncomputable def cu_1325 : List CUT2 := []
theorem ch_1325 : staG tb_X8_at 1 bt_RX8 [] ct_1325 [] [] cu_1325 11 con_1325 = true := by decide +kernel
theorem cto_1325 (l : Launch) : CTOK2 l RX8 vwCl gTbl ct_1325 := ct2_nil
theorem vl_1325 (l : Launch) : Vld2 l vwCl gTbl con_1325 := conR_ok3 gT_all (hd_1325) rfl pn_RX8 tk_X8_at bo_RX8 xo_RX8 (cto_1325 l) ch_1325 cut_nil
/-- RookHusting$Slots at -/
noncomputable def ac_873 : AC := .inr (2, jl_n [js_5 123 9223372036854775807 9223372036854775807, js_4 7 1, js_5 116 9223372036854775807 9223372036854775807])
noncomputable def hq_705 : HP := [(false, .inl (8, [(6, 1, 0), (8, 4, 0), (8, 5, 0)])), (false, ac_873)]
noncomputable def con_1326 : Con2 := ((yX8_at, cX8_at, 3, (some .long)), (0, 0), ([(6, 0, 0), (0, 2, 0), (0, 3, 0)], gi_928, [.inl (8, [(6, 1, 0), (8, 4, 0), (8, 5, 0)]), ac_873], []), [((4, 6, 0), gi_929, hq_705, [], [1])])
theorem hd_1326 : con_1326.1 = (yX8_at, cX8_at, 3, (some .long)) := rfl
noncomputable def ct_1326 : CTB2 := []
noncomputable def cu_1326 : List CUT2 := []
theorem ch_1326 : staG tb_X8_at 1 bt_RX8 [] ct_1326 [] [] cu_1326 11 con_1326 = true := by decide +kernel
theorem cto_1326 (l : Launch) : CTOK2 l RX8 vwCl gTbl ct_1326 := ct2_nil
theorem vl_1326 (l : Launch) : Vld2 l vwCl gTbl con_1326 := conR_ok3 gT_all (hd_1326) rfl pn_RX8 tk_X8_at bo_RX8 xo_RX8 (cto_1326 l) ch_1326 cut_nil
/-- RookHusting$Slots at -/
noncomputable def ac_874 : AC := .inr (2, jl_n [js_5 124 9223372036854775807 9223372036854775807, js_4 7 1, js_5 115 9223372036854775807 9223372036854775807])
noncomputable def hq_706 : HP := [(false, .inl (8, [(6, 1, 0), (8, 4, 0), (8, 5, 0)])), (false, ac_874)]
noncomputable def con_1327 : Con2 := ((yX8_at, cX8_at, 3, (some .long)), (0, 0), ([(6, 0, 0), (0, 2, 0), (0, 4, 0)], gi_928, [.inl (8, [(6, 1, 0), (8, 4, 0), (8, 5, 0)]), ac_874], []), [((4, 6, 0), gi_929, hq_706, [], [1])])
theorem hd_1327 : con_1327.1 = (yX8_at, cX8_at, 3, (some .long)) := rfl
noncomputable def ct_1327 : CTB2 := []
noncomputable def cu_1327 : List CUT2 := []
theorem ch_1327 : staG tb_X8_at 1 bt_RX8 [] ct_1327 [] [] cu_1327 11 con_1327 = true := by decide +kernel
theorem cto_1327 (l : Launch) : CTOK2 l RX8 vwCl gTbl ct_1327 := ct2_nil
theorem vl_1327 (l : Launch) : Vld2 l vwCl gTbl con_1327 := conR_ok3 gT_all (hd_1327) rfl pn_RX8 tk_X8_at bo_RX8 xo_RX8 (cto_1327 l) ch_1327 cut_nil
/-- RookHusting$Slots at -/
noncomputable def ac_875 : AC := .inr (2, jl_n [js_5 125 9223372036854775807 9223372036854775807, js_4 7 1, js_5 114 9223372036854775807 9223372036854775807])
noncomputable def hq_707 : HP := [(false, .inl (8, [(6, 1, 0), (8, 4, 0), (8, 5, 0)])), (false, ac_875)]
noncomputable def con_1328 : Con2 := ((yX8_at, cX8_at, 3, (some .long)), (0, 0), ([(6, 0, 0), (0, 2, 0), (0, 5, 0)], gi_928, [.inl (8, [(6, 1, 0), (8, 4, 0), (8, 5, 0)]), ac_875], []), [((4, 6, 0), gi_929, hq_707, [], [1])])
theorem hd_1328 : con_1328.1 = (yX8_at, cX8_at, 3, (some .long)) := rfl
noncomputable def ct_1328 : CTB2 := []
noncomputable def cu_1328 : List CUT2 := []
theorem ch_1328 : staG tb_X8_at 1 bt_RX8 [] ct_1328 [] [] cu_1328 11 con_1328 = true := by decide +kernel
theorem cto_1328 (l : Launch) : CTOK2 l RX8 vwCl gTbl ct_1328 := ct2_nil
theorem vl_1328 (l : Launch) : Vld2 l vwCl gTbl con_1328 := conR_ok3 gT_all (hd_1328) rfl pn_RX8 tk_X8_at bo_RX8 xo_RX8 (cto_1328 l) ch_1328 cut_nil
/-- RookHusting$Slots at -/
noncomputable def ac_876 : AC := .inr (2, jl_n [js_5 126 9223372036854775807 9223372036854775807, js_4 7 1, js_5 113 9223372036854775807 9223372036854775807])
noncomputable def hq_708 : HP := [(false, .inl (8, [(6, 1, 0), (8, 4, 0), (8, 5, 0)])), (false, ac_876)]
noncomputable def con_1329 : Con2 := ((yX8_at, cX8_at, 3, (some .long)), (0, 0), ([(6, 0, 0), (0, 2, 0), (0, 6, 0)], gi_928, [.inl (8, [(6, 1, 0), (8, 4, 0), (8, 5, 0)]), ac_876], []), [((4, 6, 0), gi_929, hq_708, [], [1])])
theorem hd_1329 : con_1329.1 = (yX8_at, cX8_at, 3, (some .long)) := rfl
noncomputable def ct_1329 : CTB2 := []
noncomputable def cu_1329 : List CUT2 := []
theorem ch_1329 : staG tb_X8_at 1 bt_RX8 [] ct_1329 [] [] cu_1329 11 con_1329 = true := by decide +kernel
theorem cto_1329 (l : Launch) : CTOK2 l RX8 vwCl gTbl ct_1329 := ct2_nil
theorem vl_1329 (l : Launch) : Vld2 l vwCl gTbl con_1329 := conR_ok3 gT_all (hd_1329) rfl pn_RX8 tk_X8_at bo_RX8 xo_RX8 (cto_1329 l) ch_1329 cut_nil
/-- RookHusting$Slots at -/
noncomputable def ac_877 : AC := .inr (2, jl_n [js_5 127 9223372036854775807 9223372036854775807, js_4 7 1, js_5 112 9223372036854775807 9223372036854775807])
noncomputable def hq_709 : HP := [(false, .inl (8, [(6, 1, 0), (8, 4, 0), (8, 5, 0)])), (false, ac_877)]
noncomputable def con_1330 : Con2 := ((yX8_at, cX8_at, 3, (some .long)), (0, 0), ([(6, 0, 0), (0, 2, 0), (0, 7, 0)], gi_928, [.inl (8, [(6, 1, 0), (8, 4, 0), (8, 5, 0)]), ac_877], []), [((4, 6, 0), gi_929, hq_709, [], [1])])
theorem hd_1330 : con_1330.1 = (yX8_at, cX8_at, 3, (some .long)) := rfl
noncomputable def ct_1330 : CTB2 := []
noncomputable def cu_1330 : List CUT2 := []
theorem ch_1330 : staG tb_X8_at 1 bt_RX8 [] ct_1330 [] [] cu_1330 11 con_1330 = true := by decide +kernel
theorem cto_1330 (l : Launch) : CTOK2 l RX8 vwCl gTbl ct_1330 := ct2_nil
theorem vl_1330 (l : Launch) : Vld2 l vwCl gTbl con_1330 := conR_ok3 gT_all (hd_1330) rfl pn_RX8 tk_X8_at bo_RX8 xo_RX8 (cto_1330 l) ch_1330 cut_nil
/-- RookHusting$Slots at -/
noncomputable def ac_878 : AC := .inr (2, jl_n [js_5 128 9223372036854775807 9223372036854775807, js_4 7 1, js_5 111 9223372036854775807 9223372036854775807])
noncomputable def hq_710 : HP := [(false, .inl (8, [(6, 1, 0), (8, 4, 0), (8, 5, 0)])), (false, ac_878)]
noncomputable def con_1331 : Con2 := ((yX8_at, cX8_at, 3, (some .long)), (0, 0), ([(6, 0, 0), (0, 2, 0), (0, 8, 0)], gi_928, [.inl (8, [(6, 1, 0), (8, 4, 0), (8, 5, 0)]), ac_878], []), [((4, 6, 0), gi_929, hq_710, [], [1])])
theorem hd_1331 : con_1331.1 = (yX8_at, cX8_at, 3, (some .long)) := rfl
noncomputable def ct_1331 : CTB2 := []
noncomputable def cu_1331 : List CUT2 := []
theorem ch_1331 : staG tb_X8_at 1 bt_RX8 [] ct_1331 [] [] cu_1331 11 con_1331 = true := by decide +kernel
theorem cto_1331 (l : Launch) : CTOK2 l RX8 vwCl gTbl ct_1331 := ct2_nil
theorem vl_1331 (l : Launch) : Vld2 l vwCl gTbl con_1331 := conR_ok3 gT_all (hd_1331) rfl pn_RX8 tk_X8_at bo_RX8 xo_RX8 (cto_1331 l) ch_1331 cut_nil
/-- RookHusting$Slots at -/
noncomputable def ac_879 : AC := .inr (2, jl_n [js_5 129 9223372036854775807 9223372036854775807, js_4 7 1, js_5 110 9223372036854775807 9223372036854775807])
noncomputable def hq_711 : HP := [(false, .inl (8, [(6, 1, 0), (8, 4, 0), (8, 5, 0)])), (false, ac_879)]
noncomputable def con_1332 : Con2 := ((yX8_at, cX8_at, 3, (some .long)), (0, 0), ([(6, 0, 0), (0, 2, 0), (0, 9, 0)], gi_928, [.inl (8, [(6, 1, 0), (8, 4, 0), (8, 5, 0)]), ac_879], []), [((4, 6, 0), gi_929, hq_711, [], [1])])
theorem hd_1332 : con_1332.1 = (yX8_at, cX8_at, 3, (some .long)) := rfl
noncomputable def ct_1332 : CTB2 := []
noncomputable def cu_1332 : List CUT2 := []
theorem ch_1332 : staG tb_X8_at 1 bt_RX8 [] ct_1332 [] [] cu_1332 11 con_1332 = true := by decide +kernel
theorem cto_1332 (l : Launch) : CTOK2 l RX8 vwCl gTbl ct_1332 := ct2_nil
theorem vl_1332 (l : Launch) : Vld2 l vwCl gTbl con_1332 := conR_ok3 gT_all (hd_1332) rfl pn_RX8 tk_X8_at bo_RX8 xo_RX8 (cto_1332 l) ch_1332 cut_nil
/-- RookHusting$Slots at -/
noncomputable def ac_880 : AC := .inr (2, jl_n [js_5 130 9223372036854775807 9223372036854775807, js_4 7 1, js_5 109 9223372036854775807 9223372036854775807])
noncomputable def hq_712 : HP := [(false, .inl (8, [(6, 1, 0), (8, 4, 0), (8, 5, 0)])), (false, ac_880)]
noncomputable def con_1333 : Con2 := ((yX8_at, cX8_at, 3, (some .long)), (0, 0), ([(6, 0, 0), (0, 2, 0), (0, 10, 0)], gi_928, [.inl (8, [(6, 1, 0), (8, 4, 0), (8, 5, 0)]), ac_880], []), [((4, 6, 0), gi_929, hq_712, [], [1])])
theorem hd_1333 : con_1333.1 = (yX8_at, cX8_at, 3, (some .long)) := rfl
noncomputable def ct_1333 : CTB2 := []
noncomputable def cu_1333 : List CUT2 := []
theorem ch_1333 : staG tb_X8_at 1 bt_RX8 [] ct_1333 [] [] cu_1333 11 con_1333 = true := by decide +kernel
theorem cto_1333 (l : Launch) : CTOK2 l RX8 vwCl gTbl ct_1333 := ct2_nil
theorem vl_1333 (l : Launch) : Vld2 l vwCl gTbl con_1333 := conR_ok3 gT_all (hd_1333) rfl pn_RX8 tk_X8_at bo_RX8 xo_RX8 (cto_1333 l) ch_1333 cut_nil
/-- RookHusting$Slots at -/
noncomputable def ac_881 : AC := .inr (2, jl_n [js_5 131 9223372036854775807 9223372036854775807, js_4 7 1, js_5 108 9223372036854775807 9223372036854775807])
noncomputable def hq_713 : HP := [(false, .inl (8, [(6, 1, 0), (8, 4, 0), (8, 5, 0)])), (false, ac_881)]
noncomputable def con_1334 : Con2 := ((yX8_at, cX8_at, 3, (some .long)), (0, 0), ([(6, 0, 0), (0, 2, 0), (0, 11, 0)], gi_928, [.inl (8, [(6, 1, 0), (8, 4, 0), (8, 5, 0)]), ac_881], []), [((4, 6, 0), gi_929, hq_713, [], [1])])
theorem hd_1334 : con_1334.1 = (yX8_at, cX8_at, 3, (some .long)) := rfl
noncomputable def ct_1334 : CTB2 := []
noncomputable def cu_1334 : List CUT2 := []
theorem ch_1334 : staG tb_X8_at 1 bt_RX8 [] ct_1334 [] [] cu_1334 11 con_1334 = true := by decide +kernel
theorem cto_1334 (l : Launch) : CTOK2 l RX8 vwCl gTbl ct_1334 := ct2_nil
theorem vl_1334 (l : Launch) : Vld2 l vwCl gTbl con_1334 := conR_ok3 gT_all (hd_1334) rfl pn_RX8 tk_X8_at bo_RX8 xo_RX8 (cto_1334 l) ch_1334 cut_nil
/-- RookHusting$Slots at -/
noncomputable def ac_882 : AC := .inr (2, jl_n [js_5 132 9223372036854775807 9223372036854775807, js_4 7 1, js_5 107 9223372036854775807 9223372036854775807])
noncomputable def hq_714 : HP := [(false, .inl (8, [(6, 1, 0), (8, 4, 0), (8, 5, 0)])), (false, ac_882)]
noncomputable def con_1335 : Con2 := ((yX8_at, cX8_at, 3, (some .long)), (0, 0), ([(6, 0, 0), (0, 2, 0), (0, 12, 0)], gi_928, [.inl (8, [(6, 1, 0), (8, 4, 0), (8, 5, 0)]), ac_882], []), [((4, 6, 0), gi_929, hq_714, [], [1])])
theorem hd_1335 : con_1335.1 = (yX8_at, cX8_at, 3, (some .long)) := rfl
noncomputable def ct_1335 : CTB2 := []
noncomputable def cu_1335 : List CUT2 := []
theorem ch_1335 : staG tb_X8_at 1 bt_RX8 [] ct_1335 [] [] cu_1335 11 con_1335 = true := by decide +kernel
theorem cto_1335 (l : Launch) : CTOK2 l RX8 vwCl gTbl ct_1335 := ct2_nil
theorem vl_1335 (l : Launch) : Vld2 l vwCl gTbl con_1335 := conR_ok3 gT_all (hd_1335) rfl pn_RX8 tk_X8_at bo_RX8 xo_RX8 (cto_1335 l) ch_1335 cut_nil
/-- RookHusting$Slots at -/
noncomputable def ac_883 : AC := .inr (2, jl_n [js_5 133 9223372036854775807 9223372036854775807, js_4 7 1, js_5 106 9223372036854775807 9223372036854775807])
noncomputable def hq_715 : HP := [(false, .inl (8, [(6, 1, 0), (8, 4, 0), (8, 5, 0)])), (false, ac_883)]
noncomputable def con_1336 : Con2 := ((yX8_at, cX8_at, 3, (some .long)), (0, 0), ([(6, 0, 0), (0, 2, 0), (0, 13, 0)], gi_928, [.inl (8, [(6, 1, 0), (8, 4, 0), (8, 5, 0)]), ac_883], []), [((4, 6, 0), gi_929, hq_715, [], [1])])
theorem hd_1336 : con_1336.1 = (yX8_at, cX8_at, 3, (some .long)) := rfl
noncomputable def ct_1336 : CTB2 := []
noncomputable def cu_1336 : List CUT2 := []
theorem ch_1336 : staG tb_X8_at 1 bt_RX8 [] ct_1336 [] [] cu_1336 11 con_1336 = true := by decide +kernel
theorem cto_1336 (l : Launch) : CTOK2 l RX8 vwCl gTbl ct_1336 := ct2_nil
theorem vl_1336 (l : Launch) : Vld2 l vwCl gTbl con_1336 := conR_ok3 gT_all (hd_1336) rfl pn_RX8 tk_X8_at bo_RX8 xo_RX8 (cto_1336 l) ch_1336 cut_nil
/-- RookHusting$Slots at -/
noncomputable def ac_884 : AC := .inr (2, jl_n [js_5 134 9223372036854775807 9223372036854775807, js_4 7 1, js_5 105 9223372036854775807 9223372036854775807])
noncomputable def hq_716 : HP := [(false, .inl (8, [(6, 1, 0), (8, 4, 0), (8, 5, 0)])), (false, ac_884)]
noncomputable def con_1337 : Con2 := ((yX8_at, cX8_at, 3, (some .long)), (0, 0), ([(6, 0, 0), (0, 2, 0), (0, 14, 0)], gi_928, [.inl (8, [(6, 1, 0), (8, 4, 0), (8, 5, 0)]), ac_884], []), [((4, 6, 0), gi_929, hq_716, [], [1])])
theorem hd_1337 : con_1337.1 = (yX8_at, cX8_at, 3, (some .long)) := rfl
noncomputable def ct_1337 : CTB2 := []
noncomputable def cu_1337 : List CUT2 := []
theorem ch_1337 : staG tb_X8_at 1 bt_RX8 [] ct_1337 [] [] cu_1337 11 con_1337 = true := by decide +kernel
theorem cto_1337 (l : Launch) : CTOK2 l RX8 vwCl gTbl ct_1337 := ct2_nil
theorem vl_1337 (l : Launch) : Vld2 l vwCl gTbl con_1337 := conR_ok3 gT_all (hd_1337) rfl pn_RX8 tk_X8_at bo_RX8 xo_RX8 (cto_1337 l) ch_1337 cut_nil
/-- RookHusting$Slots at -/
noncomputable def ac_885 : AC := .inr (2, jl_n [js_5 135 9223372036854775807 9223372036854775807, js_4 7 1, js_5 104 9223372036854775807 9223372036854775807])
noncomputable def hq_717 : HP := [(false, .inl (8, [(6, 1, 0), (8, 4, 0), (8, 5, 0)])), (false, ac_885)]
noncomputable def con_1338 : Con2 := ((yX8_at, cX8_at, 3, (some .long)), (0, 0), ([(6, 0, 0), (0, 2, 0), (0, 15, 0)], gi_928, [.inl (8, [(6, 1, 0), (8, 4, 0), (8, 5, 0)]), ac_885], []), [((4, 6, 0), gi_929, hq_717, [], [1])])
theorem hd_1338 : con_1338.1 = (yX8_at, cX8_at, 3, (some .long)) := rfl
noncomputable def ct_1338 : CTB2 := []
noncomputable def cu_1338 : List CUT2 := []
theorem ch_1338 : staG tb_X8_at 1 bt_RX8 [] ct_1338 [] [] cu_1338 11 con_1338 = true := by decide +kernel
theorem cto_1338 (l : Launch) : CTOK2 l RX8 vwCl gTbl ct_1338 := ct2_nil
theorem vl_1338 (l : Launch) : Vld2 l vwCl gTbl con_1338 := conR_ok3 gT_all (hd_1338) rfl pn_RX8 tk_X8_at bo_RX8 xo_RX8 (cto_1338 l) ch_1338 cut_nil
/-- RookHusting$Slots at -/
noncomputable def ac_886 : AC := .inr (2, jl_n [js_5 136 9223372036854775807 9223372036854775807, js_4 7 1, js_5 103 9223372036854775807 9223372036854775807])
noncomputable def hq_718 : HP := [(false, .inl (8, [(6, 1, 0), (8, 4, 0), (8, 5, 0)])), (false, ac_886)]
noncomputable def con_1339 : Con2 := ((yX8_at, cX8_at, 3, (some .long)), (0, 0), ([(6, 0, 0), (0, 2, 0), (0, 16, 0)], gi_928, [.inl (8, [(6, 1, 0), (8, 4, 0), (8, 5, 0)]), ac_886], []), [((4, 6, 0), gi_929, hq_718, [], [1])])
theorem hd_1339 : con_1339.1 = (yX8_at, cX8_at, 3, (some .long)) := rfl
noncomputable def ct_1339 : CTB2 := []
noncomputable def cu_1339 : List CUT2 := []
theorem ch_1339 : staG tb_X8_at 1 bt_RX8 [] ct_1339 [] [] cu_1339 11 con_1339 = true := by decide +kernel
theorem cto_1339 (l : Launch) : CTOK2 l RX8 vwCl gTbl ct_1339 := ct2_nil
theorem vl_1339 (l : Launch) : Vld2 l vwCl gTbl con_1339 := conR_ok3 gT_all (hd_1339) rfl pn_RX8 tk_X8_at bo_RX8 xo_RX8 (cto_1339 l) ch_1339 cut_nil
/-- RookHusting$Slots at -/
noncomputable def ac_887 : AC := .inr (2, jl_n [js_5 137 9223372036854775807 9223372036854775807, js_4 7 1, js_5 102 9223372036854775807 9223372036854775807])
noncomputable def hq_719 : HP := [(false, .inl (8, [(6, 1, 0), (8, 4, 0), (8, 5, 0)])), (false, ac_887)]
noncomputable def con_1340 : Con2 := ((yX8_at, cX8_at, 3, (some .long)), (0, 0), ([(6, 0, 0), (0, 2, 0), (0, 17, 0)], gi_928, [.inl (8, [(6, 1, 0), (8, 4, 0), (8, 5, 0)]), ac_887], []), [((4, 6, 0), gi_929, hq_719, [], [1])])
theorem hd_1340 : con_1340.1 = (yX8_at, cX8_at, 3, (some .long)) := rfl
noncomputable def ct_1340 : CTB2 := []
noncomputable def cu_1340 : List CUT2 := []
theorem ch_1340 : staG tb_X8_at 1 bt_RX8 [] ct_1340 [] [] cu_1340 11 con_1340 = true := by decide +kernel
theorem cto_1340 (l : Launch) : CTOK2 l RX8 vwCl gTbl ct_1340 := ct2_nil
theorem vl_1340 (l : Launch) : Vld2 l vwCl gTbl con_1340 := conR_ok3 gT_all (hd_1340) rfl pn_RX8 tk_X8_at bo_RX8 xo_RX8 (cto_1340 l) ch_1340 cut_nil
/-- RookHusting$Slots at -/
noncomputable def ac_888 : AC := .inr (2, jl_n [js_5 138 9223372036854775807 9223372036854775807, js_4 7 1, js_5 101 9223372036854775807 9223372036854775807])
noncomputable def hq_720 : HP := [(false, .inl (8, [(6, 1, 0), (8, 4, 0), (8, 5, 0)])), (false, ac_888)]
noncomputable def con_1341 : Con2 := ((yX8_at, cX8_at, 3, (some .long)), (0, 0), ([(6, 0, 0), (0, 2, 0), (0, 18, 0)], gi_928, [.inl (8, [(6, 1, 0), (8, 4, 0), (8, 5, 0)]), ac_888], []), [((4, 6, 0), gi_929, hq_720, [], [1])])
theorem hd_1341 : con_1341.1 = (yX8_at, cX8_at, 3, (some .long)) := rfl
noncomputable def ct_1341 : CTB2 := []
noncomputable def cu_1341 : List CUT2 := []
theorem ch_1341 : staG tb_X8_at 1 bt_RX8 [] ct_1341 [] [] cu_1341 11 con_1341 = true := by decide +kernel
theorem cto_1341 (l : Launch) : CTOK2 l RX8 vwCl gTbl ct_1341 := ct2_nil
theorem vl_1341 (l : Launch) : Vld2 l vwCl gTbl con_1341 := conR_ok3 gT_all (hd_1341) rfl pn_RX8 tk_X8_at bo_RX8 xo_RX8 (cto_1341 l) ch_1341 cut_nil
/-- RookHusting$Slots at -/
noncomputable def ac_889 : AC := .inr (2, jl_n [js_5 139 9223372036854775807 9223372036854775807, js_4 7 1, js_5 100 9223372036854775807 9223372036854775807])
noncomputable def hq_721 : HP := [(false, .inl (8, [(6, 1, 0), (8, 4, 0), (8, 5, 0)])), (false, ac_889)]
noncomputable def con_1342 : Con2 := ((yX8_at, cX8_at, 3, (some .long)), (0, 0), ([(6, 0, 0), (0, 2, 0), (0, 19, 0)], gi_928, [.inl (8, [(6, 1, 0), (8, 4, 0), (8, 5, 0)]), ac_889], []), [((4, 6, 0), gi_929, hq_721, [], [1])])
theorem hd_1342 : con_1342.1 = (yX8_at, cX8_at, 3, (some .long)) := rfl
noncomputable def ct_1342 : CTB2 := []
noncomputable def cu_1342 : List CUT2 := []
theorem ch_1342 : staG tb_X8_at 1 bt_RX8 [] ct_1342 [] [] cu_1342 11 con_1342 = true := by decide +kernel
theorem cto_1342 (l : Launch) : CTOK2 l RX8 vwCl gTbl ct_1342 := ct2_nil
theorem vl_1342 (l : Launch) : Vld2 l vwCl gTbl con_1342 := conR_ok3 gT_all (hd_1342) rfl pn_RX8 tk_X8_at bo_RX8 xo_RX8 (cto_1342 l) ch_1342 cut_nil
/-- RookHusting$Slots at -/
noncomputable def ac_890 : AC := .inr (2, jl_n [js_5 140 9223372036854775807 9223372036854775807, js_4 7 1, js_5 99 9223372036854775807 9223372036854775807])
noncomputable def hq_722 : HP := [(false, .inl (8, [(6, 1, 0), (8, 4, 0), (8, 5, 0)])), (false, ac_890)]
noncomputable def con_1343 : Con2 := ((yX8_at, cX8_at, 3, (some .long)), (0, 0), ([(6, 0, 0), (0, 2, 0), (0, 20, 0)], gi_928, [.inl (8, [(6, 1, 0), (8, 4, 0), (8, 5, 0)]), ac_890], []), [((4, 6, 0), gi_929, hq_722, [], [1])])
theorem hd_1343 : con_1343.1 = (yX8_at, cX8_at, 3, (some .long)) := rfl
noncomputable def ct_1343 : CTB2 := []
noncomputable def cu_1343 : List CUT2 := []
theorem ch_1343 : staG tb_X8_at 1 bt_RX8 [] ct_1343 [] [] cu_1343 11 con_1343 = true := by decide +kernel
theorem cto_1343 (l : Launch) : CTOK2 l RX8 vwCl gTbl ct_1343 := ct2_nil
theorem vl_1343 (l : Launch) : Vld2 l vwCl gTbl con_1343 := conR_ok3 gT_all (hd_1343) rfl pn_RX8 tk_X8_at bo_RX8 xo_RX8 (cto_1343 l) ch_1343 cut_nil
/-- RookHusting$Slots at -/
noncomputable def ac_891 : AC := .inr (2, jl_n [js_5 141 9223372036854775807 9223372036854775807, js_4 7 1, js_5 98 9223372036854775807 9223372036854775807])
noncomputable def hq_723 : HP := [(false, .inl (8, [(6, 1, 0), (8, 4, 0), (8, 5, 0)])), (false, ac_891)]
noncomputable def con_1344 : Con2 := ((yX8_at, cX8_at, 3, (some .long)), (0, 0), ([(6, 0, 0), (0, 2, 0), (0, 21, 0)], gi_928, [.inl (8, [(6, 1, 0), (8, 4, 0), (8, 5, 0)]), ac_891], []), [((4, 6, 0), gi_929, hq_723, [], [1])])
theorem hd_1344 : con_1344.1 = (yX8_at, cX8_at, 3, (some .long)) := rfl
noncomputable def ct_1344 : CTB2 := []
noncomputable def cu_1344 : List CUT2 := []
theorem ch_1344 : staG tb_X8_at 1 bt_RX8 [] ct_1344 [] [] cu_1344 11 con_1344 = true := by decide +kernel
theorem cto_1344 (l : Launch) : CTOK2 l RX8 vwCl gTbl ct_1344 := ct2_nil
theorem vl_1344 (l : Launch) : Vld2 l vwCl gTbl con_1344 := conR_ok3 gT_all (hd_1344) rfl pn_RX8 tk_X8_at bo_RX8 xo_RX8 (cto_1344 l) ch_1344 cut_nil
/-- RookHusting$Slots at -/
noncomputable def ac_892 : AC := .inr (2, jl_n [js_5 142 9223372036854775807 9223372036854775807, js_4 7 1, js_5 97 9223372036854775807 9223372036854775807])
noncomputable def hq_724 : HP := [(false, .inl (8, [(6, 1, 0), (8, 4, 0), (8, 5, 0)])), (false, ac_892)]
noncomputable def con_1345 : Con2 := ((yX8_at, cX8_at, 3, (some .long)), (0, 0), ([(6, 0, 0), (0, 2, 0), (0, 22, 0)], gi_928, [.inl (8, [(6, 1, 0), (8, 4, 0), (8, 5, 0)]), ac_892], []), [((4, 6, 0), gi_929, hq_724, [], [1])])
theorem hd_1345 : con_1345.1 = (yX8_at, cX8_at, 3, (some .long)) := rfl
noncomputable def ct_1345 : CTB2 := []
noncomputable def cu_1345 : List CUT2 := []
theorem ch_1345 : staG tb_X8_at 1 bt_RX8 [] ct_1345 [] [] cu_1345 11 con_1345 = true := by decide +kernel
theorem cto_1345 (l : Launch) : CTOK2 l RX8 vwCl gTbl ct_1345 := ct2_nil
theorem vl_1345 (l : Launch) : Vld2 l vwCl gTbl con_1345 := conR_ok3 gT_all (hd_1345) rfl pn_RX8 tk_X8_at bo_RX8 xo_RX8 (cto_1345 l) ch_1345 cut_nil
/-- RookHusting$Slots at -/
noncomputable def ac_893 : AC := .inr (2, jl_n [js_5 143 9223372036854775807 9223372036854775807, js_4 7 1, js_5 96 9223372036854775807 9223372036854775807])
noncomputable def hq_725 : HP := [(false, .inl (8, [(6, 1, 0), (8, 4, 0), (8, 5, 0)])), (false, ac_893)]
noncomputable def con_1346 : Con2 := ((yX8_at, cX8_at, 3, (some .long)), (0, 0), ([(6, 0, 0), (0, 2, 0), (0, 23, 0)], gi_928, [.inl (8, [(6, 1, 0), (8, 4, 0), (8, 5, 0)]), ac_893], []), [((4, 6, 0), gi_929, hq_725, [], [1])])
theorem hd_1346 : con_1346.1 = (yX8_at, cX8_at, 3, (some .long)) := rfl
noncomputable def ct_1346 : CTB2 := []
noncomputable def cu_1346 : List CUT2 := []
theorem ch_1346 : staG tb_X8_at 1 bt_RX8 [] ct_1346 [] [] cu_1346 11 con_1346 = true := by decide +kernel
theorem cto_1346 (l : Launch) : CTOK2 l RX8 vwCl gTbl ct_1346 := ct2_nil
theorem vl_1346 (l : Launch) : Vld2 l vwCl gTbl con_1346 := conR_ok3 gT_all (hd_1346) rfl pn_RX8 tk_X8_at bo_RX8 xo_RX8 (cto_1346 l) ch_1346 cut_nil
/-- RookHusting$Slots at -/
noncomputable def ac_894 : AC := .inr (2, jl_n [js_5 144 9223372036854775807 9223372036854775807, js_4 7 1, js_5 95 9223372036854775807 9223372036854775807])
noncomputable def hq_726 : HP := [(false, .inl (8, [(6, 1, 0), (8, 4, 0), (8, 5, 0)])), (false, ac_894)]
noncomputable def con_1347 : Con2 := ((yX8_at, cX8_at, 3, (some .long)), (0, 0), ([(6, 0, 0), (0, 2, 0), (0, 24, 0)], gi_928, [.inl (8, [(6, 1, 0), (8, 4, 0), (8, 5, 0)]), ac_894], []), [((4, 6, 0), gi_929, hq_726, [], [1])])
theorem hd_1347 : con_1347.1 = (yX8_at, cX8_at, 3, (some .long)) := rfl
noncomputable def ct_1347 : CTB2 := []
noncomputable def cu_1347 : List CUT2 := []
theorem ch_1347 : staG tb_X8_at 1 bt_RX8 [] ct_1347 [] [] cu_1347 11 con_1347 = true := by decide +kernel
theorem cto_1347 (l : Launch) : CTOK2 l RX8 vwCl gTbl ct_1347 := ct2_nil
theorem vl_1347 (l : Launch) : Vld2 l vwCl gTbl con_1347 := conR_ok3 gT_all (hd_1347) rfl pn_RX8 tk_X8_at bo_RX8 xo_RX8 (cto_1347 l) ch_1347 cut_nil
/-- RookHusting$Slots at -/
noncomputable def ac_895 : AC := .inr (2, jl_n [js_5 145 9223372036854775807 9223372036854775807, js_4 7 1, js_5 94 9223372036854775807 9223372036854775807])
noncomputable def hq_727 : HP := [(false, .inl (8, [(6, 1, 0), (8, 4, 0), (8, 5, 0)])), (false, ac_895)]
noncomputable def con_1348 : Con2 := ((yX8_at, cX8_at, 3, (some .long)), (0, 0), ([(6, 0, 0), (0, 2, 0), (0, 25, 0)], gi_928, [.inl (8, [(6, 1, 0), (8, 4, 0), (8, 5, 0)]), ac_895], []), [((4, 6, 0), gi_929, hq_727, [], [1])])
theorem hd_1348 : con_1348.1 = (yX8_at, cX8_at, 3, (some .long)) := rfl
noncomputable def ct_1348 : CTB2 := []
noncomputable def cu_1348 : List CUT2 := []
theorem ch_1348 : staG tb_X8_at 1 bt_RX8 [] ct_1348 [] [] cu_1348 11 con_1348 = true := by decide +kernel
theorem cto_1348 (l : Launch) : CTOK2 l RX8 vwCl gTbl ct_1348 := ct2_nil
theorem vl_1348 (l : Launch) : Vld2 l vwCl gTbl con_1348 := conR_ok3 gT_all (hd_1348) rfl pn_RX8 tk_X8_at bo_RX8 xo_RX8 (cto_1348 l) ch_1348 cut_nil
/-- RookHusting$Slots at -/
noncomputable def ac_896 : AC := .inr (2, jl_n [js_5 146 9223372036854775807 9223372036854775807, js_4 7 1, js_5 93 9223372036854775807 9223372036854775807])
noncomputable def hq_728 : HP := [(false, .inl (8, [(6, 1, 0), (8, 4, 0), (8, 5, 0)])), (false, ac_896)]
noncomputable def con_1349 : Con2 := ((yX8_at, cX8_at, 3, (some .long)), (0, 0), ([(6, 0, 0), (0, 2, 0), (0, 26, 0)], gi_928, [.inl (8, [(6, 1, 0), (8, 4, 0), (8, 5, 0)]), ac_896], []), [((4, 6, 0), gi_929, hq_728, [], [1])])
theorem hd_1349 : con_1349.1 = (yX8_at, cX8_at, 3, (some .long)) := rfl
noncomputable def ct_1349 : CTB2 := []
noncomputable def cu_1349 : List CUT2 := []
theorem ch_1349 : staG tb_X8_at 1 bt_RX8 [] ct_1349 [] [] cu_1349 11 con_1349 = true := by decide +kernel
theorem cto_1349 (l : Launch) : CTOK2 l RX8 vwCl gTbl ct_1349 := ct2_nil
theorem vl_1349 (l : Launch) : Vld2 l vwCl gTbl con_1349 := conR_ok3 gT_all (hd_1349) rfl pn_RX8 tk_X8_at bo_RX8 xo_RX8 (cto_1349 l) ch_1349 cut_nil
/-- RookHusting$Slots at -/
noncomputable def ac_897 : AC := .inr (2, jl_n [js_5 147 9223372036854775807 9223372036854775807, js_4 7 1, js_5 92 9223372036854775807 9223372036854775807])
noncomputable def hq_729 : HP := [(false, .inl (8, [(6, 1, 0), (8, 4, 0), (8, 5, 0)])), (false, ac_897)]
noncomputable def con_1350 : Con2 := ((yX8_at, cX8_at, 3, (some .long)), (0, 0), ([(6, 0, 0), (0, 2, 0), (0, 27, 0)], gi_928, [.inl (8, [(6, 1, 0), (8, 4, 0), (8, 5, 0)]), ac_897], []), [((4, 6, 0), gi_929, hq_729, [], [1])])
theorem hd_1350 : con_1350.1 = (yX8_at, cX8_at, 3, (some .long)) := rfl
noncomputable def ct_1350 : CTB2 := []
noncomputable def cu_1350 : List CUT2 := []
theorem ch_1350 : staG tb_X8_at 1 bt_RX8 [] ct_1350 [] [] cu_1350 11 con_1350 = true := by decide +kernel
theorem cto_1350 (l : Launch) : CTOK2 l RX8 vwCl gTbl ct_1350 := ct2_nil
theorem vl_1350 (l : Launch) : Vld2 l vwCl gTbl con_1350 := conR_ok3 gT_all (hd_1350) rfl pn_RX8 tk_X8_at bo_RX8 xo_RX8 (cto_1350 l) ch_1350 cut_nil
/-- RookHusting$Slots at -/
noncomputable def ac_898 : AC := .inr (2, jl_n [js_5 148 9223372036854775807 9223372036854775807, js_4 7 1, js_5 91 9223372036854775807 9223372036854775807])
noncomputable def hq_730 : HP := [(false, .inl (8, [(6, 1, 0), (8, 4, 0), (8, 5, 0)])), (false, ac_898)]
noncomputable def con_1351 : Con2 := ((yX8_at, cX8_at, 3, (some .long)), (0, 0), ([(6, 0, 0), (0, 2, 0), (0, 28, 0)], gi_928, [.inl (8, [(6, 1, 0), (8, 4, 0), (8, 5, 0)]), ac_898], []), [((4, 6, 0), gi_929, hq_730, [], [1])])
theorem hd_1351 : con_1351.1 = (yX8_at, cX8_at, 3, (some .long)) := rfl
noncomputable def ct_1351 : CTB2 := []
noncomputable def cu_1351 : List CUT2 := []
theorem ch_1351 : staG tb_X8_at 1 bt_RX8 [] ct_1351 [] [] cu_1351 11 con_1351 = true := by decide +kernel
theorem cto_1351 (l : Launch) : CTOK2 l RX8 vwCl gTbl ct_1351 := ct2_nil
theorem vl_1351 (l : Launch) : Vld2 l vwCl gTbl con_1351 := conR_ok3 gT_all (hd_1351) rfl pn_RX8 tk_X8_at bo_RX8 xo_RX8 (cto_1351 l) ch_1351 cut_nil
/-- RookHusting$Slots at -/
noncomputable def ac_899 : AC := .inr (2, jl_n [js_5 149 9223372036854775807 9223372036854775807, js_4 7 1, js_5 90 9223372036854775807 9223372036854775807])
noncomputable def hq_731 : HP := [(false, .inl (8, [(6, 1, 0), (8, 4, 0), (8, 5, 0)])), (false, ac_899)]
noncomputable def con_1352 : Con2 := ((yX8_at, cX8_at, 3, (some .long)), (0, 0), ([(6, 0, 0), (0, 2, 0), (0, 29, 0)], gi_928, [.inl (8, [(6, 1, 0), (8, 4, 0), (8, 5, 0)]), ac_899], []), [((4, 6, 0), gi_929, hq_731, [], [1])])
theorem hd_1352 : con_1352.1 = (yX8_at, cX8_at, 3, (some .long)) := rfl
noncomputable def ct_1352 : CTB2 := []
noncomputable def cu_1352 : List CUT2 := []
theorem ch_1352 : staG tb_X8_at 1 bt_RX8 [] ct_1352 [] [] cu_1352 11 con_1352 = true := by decide +kernel
theorem cto_1352 (l : Launch) : CTOK2 l RX8 vwCl gTbl ct_1352 := ct2_nil
theorem vl_1352 (l : Launch) : Vld2 l vwCl gTbl con_1352 := conR_ok3 gT_all (hd_1352) rfl pn_RX8 tk_X8_at bo_RX8 xo_RX8 (cto_1352 l) ch_1352 cut_nil
/-- RookHusting$Slots at -/
noncomputable def ac_900 : AC := .inr (2, jl_n [js_5 150 9223372036854775807 9223372036854775807, js_4 7 1, js_5 89 9223372036854775807 9223372036854775807])
noncomputable def hq_732 : HP := [(false, .inl (8, [(6, 1, 0), (8, 4, 0), (8, 5, 0)])), (false, ac_900)]
noncomputable def con_1353 : Con2 := ((yX8_at, cX8_at, 3, (some .long)), (0, 0), ([(6, 0, 0), (0, 2, 0), (0, 30, 0)], gi_928, [.inl (8, [(6, 1, 0), (8, 4, 0), (8, 5, 0)]), ac_900], []), [((4, 6, 0), gi_929, hq_732, [], [1])])
theorem hd_1353 : con_1353.1 = (yX8_at, cX8_at, 3, (some .long)) := rfl
noncomputable def ct_1353 : CTB2 := []
noncomputable def cu_1353 : List CUT2 := []
theorem ch_1353 : staG tb_X8_at 1 bt_RX8 [] ct_1353 [] [] cu_1353 11 con_1353 = true := by decide +kernel
theorem cto_1353 (l : Launch) : CTOK2 l RX8 vwCl gTbl ct_1353 := ct2_nil
theorem vl_1353 (l : Launch) : Vld2 l vwCl gTbl con_1353 := conR_ok3 gT_all (hd_1353) rfl pn_RX8 tk_X8_at bo_RX8 xo_RX8 (cto_1353 l) ch_1353 cut_nil
/-- RookHusting$Slots at -/
noncomputable def ac_901 : AC := .inr (2, jl_n [js_5 151 9223372036854775807 9223372036854775807, js_4 7 1, js_5 88 9223372036854775807 9223372036854775807])
noncomputable def hq_733 : HP := [(false, .inl (8, [(6, 1, 0), (8, 4, 0), (8, 5, 0)])), (false, ac_901)]
noncomputable def con_1354 : Con2 := ((yX8_at, cX8_at, 3, (some .long)), (0, 0), ([(6, 0, 0), (0, 2, 0), (0, 31, 0)], gi_928, [.inl (8, [(6, 1, 0), (8, 4, 0), (8, 5, 0)]), ac_901], []), [((4, 6, 0), gi_929, hq_733, [], [1])])
theorem hd_1354 : con_1354.1 = (yX8_at, cX8_at, 3, (some .long)) := rfl
noncomputable def ct_1354 : CTB2 := []
noncomputable def cu_1354 : List CUT2 := []
theorem ch_1354 : staG tb_X8_at 1 bt_RX8 [] ct_1354 [] [] cu_1354 11 con_1354 = true := by decide +kernel
theorem cto_1354 (l : Launch) : CTOK2 l RX8 vwCl gTbl ct_1354 := ct2_nil
theorem vl_1354 (l : Launch) : Vld2 l vwCl gTbl con_1354 := conR_ok3 gT_all (hd_1354) rfl pn_RX8 tk_X8_at bo_RX8 xo_RX8 (cto_1354 l) ch_1354 cut_nil
/-- RookHusting$Slots at -/
noncomputable def ac_902 : AC := .inr (2, jl_n [js_5 152 9223372036854775807 9223372036854775807, js_4 7 1, js_5 87 9223372036854775807 9223372036854775807])
noncomputable def hq_734 : HP := [(false, .inl (8, [(6, 1, 0), (8, 4, 0), (8, 5, 0)])), (false, ac_902)]
noncomputable def con_1355 : Con2 := ((yX8_at, cX8_at, 3, (some .long)), (0, 0), ([(6, 0, 0), (0, 2, 0), (0, 32, 0)], gi_928, [.inl (8, [(6, 1, 0), (8, 4, 0), (8, 5, 0)]), ac_902], []), [((4, 6, 0), gi_929, hq_734, [], [1])])
theorem hd_1355 : con_1355.1 = (yX8_at, cX8_at, 3, (some .long)) := rfl
noncomputable def ct_1355 : CTB2 := []
noncomputable def cu_1355 : List CUT2 := []
theorem ch_1355 : staG tb_X8_at 1 bt_RX8 [] ct_1355 [] [] cu_1355 11 con_1355 = true := by decide +kernel
theorem cto_1355 (l : Launch) : CTOK2 l RX8 vwCl gTbl ct_1355 := ct2_nil
theorem vl_1355 (l : Launch) : Vld2 l vwCl gTbl con_1355 := conR_ok3 gT_all (hd_1355) rfl pn_RX8 tk_X8_at bo_RX8 xo_RX8 (cto_1355 l) ch_1355 cut_nil
/-- RookHusting$Slots at -/
noncomputable def ac_903 : AC := .inr (2, jl_n [js_5 153 9223372036854775807 9223372036854775807, js_4 7 1, js_5 86 9223372036854775807 9223372036854775807])
noncomputable def hq_735 : HP := [(false, .inl (8, [(6, 1, 0), (8, 4, 0), (8, 5, 0)])), (false, ac_903)]
noncomputable def con_1356 : Con2 := ((yX8_at, cX8_at, 3, (some .long)), (0, 0), ([(6, 0, 0), (0, 2, 0), (0, 33, 0)], gi_928, [.inl (8, [(6, 1, 0), (8, 4, 0), (8, 5, 0)]), ac_903], []), [((4, 6, 0), gi_929, hq_735, [], [1])])
theorem hd_1356 : con_1356.1 = (yX8_at, cX8_at, 3, (some .long)) := rfl
noncomputable def ct_1356 : CTB2 := []
noncomputable def cu_1356 : List CUT2 := []
theorem ch_1356 : staG tb_X8_at 1 bt_RX8 [] ct_1356 [] [] cu_1356 11 con_1356 = true := by decide +kernel
theorem cto_1356 (l : Launch) : CTOK2 l RX8 vwCl gTbl ct_1356 := ct2_nil
theorem vl_1356 (l : Launch) : Vld2 l vwCl gTbl con_1356 := conR_ok3 gT_all (hd_1356) rfl pn_RX8 tk_X8_at bo_RX8 xo_RX8 (cto_1356 l) ch_1356 cut_nil
/-- RookHusting$Slots at -/
noncomputable def ac_904 : AC := .inr (2, jl_n [js_5 154 9223372036854775807 9223372036854775807, js_4 7 1, js_5 85 9223372036854775807 9223372036854775807])
noncomputable def hq_736 : HP := [(false, .inl (8, [(6, 1, 0), (8, 4, 0), (8, 5, 0)])), (false, ac_904)]
noncomputable def con_1357 : Con2 := ((yX8_at, cX8_at, 3, (some .long)), (0, 0), ([(6, 0, 0), (0, 2, 0), (0, 34, 0)], gi_928, [.inl (8, [(6, 1, 0), (8, 4, 0), (8, 5, 0)]), ac_904], []), [((4, 6, 0), gi_929, hq_736, [], [1])])
theorem hd_1357 : con_1357.1 = (yX8_at, cX8_at, 3, (some .long)) := rfl
noncomputable def ct_1357 : CTB2 := []
noncomputable def cu_1357 : List CUT2 := []
theorem ch_1357 : staG tb_X8_at 1 bt_RX8 [] ct_1357 [] [] cu_1357 11 con_1357 = true := by decide +kernel
theorem cto_1357 (l : Launch) : CTOK2 l RX8 vwCl gTbl ct_1357 := ct2_nil
theorem vl_1357 (l : Launch) : Vld2 l vwCl gTbl con_1357 := conR_ok3 gT_all (hd_1357) rfl pn_RX8 tk_X8_at bo_RX8 xo_RX8 (cto_1357 l) ch_1357 cut_nil
/-- RookHusting$Slots at -/
noncomputable def ac_905 : AC := .inr (2, jl_n [js_5 155 9223372036854775807 9223372036854775807, js_4 7 1, js_5 84 9223372036854775807 9223372036854775807])
noncomputable def hq_737 : HP := [(false, .inl (8, [(6, 1, 0), (8, 4, 0), (8, 5, 0)])), (false, ac_905)]
noncomputable def con_1358 : Con2 := ((yX8_at, cX8_at, 3, (some .long)), (0, 0), ([(6, 0, 0), (0, 2, 0), (0, 35, 0)], gi_928, [.inl (8, [(6, 1, 0), (8, 4, 0), (8, 5, 0)]), ac_905], []), [((4, 6, 0), gi_929, hq_737, [], [1])])
theorem hd_1358 : con_1358.1 = (yX8_at, cX8_at, 3, (some .long)) := rfl
noncomputable def ct_1358 : CTB2 := []
noncomputable def cu_1358 : List CUT2 := []
theorem ch_1358 : staG tb_X8_at 1 bt_RX8 [] ct_1358 [] [] cu_1358 11 con_1358 = true := by decide +kernel
theorem cto_1358 (l : Launch) : CTOK2 l RX8 vwCl gTbl ct_1358 := ct2_nil
theorem vl_1358 (l : Launch) : Vld2 l vwCl gTbl con_1358 := conR_ok3 gT_all (hd_1358) rfl pn_RX8 tk_X8_at bo_RX8 xo_RX8 (cto_1358 l) ch_1358 cut_nil
/-- RookHusting$Slots at -/
noncomputable def ac_906 : AC := .inr (2, jl_n [js_5 156 9223372036854775807 9223372036854775807, js_4 7 1, js_5 83 9223372036854775807 9223372036854775807])
noncomputable def hq_738 : HP := [(false, .inl (8, [(6, 1, 0), (8, 4, 0), (8, 5, 0)])), (false, ac_906)]
noncomputable def con_1359 : Con2 := ((yX8_at, cX8_at, 3, (some .long)), (0, 0), ([(6, 0, 0), (0, 2, 0), (0, 36, 0)], gi_928, [.inl (8, [(6, 1, 0), (8, 4, 0), (8, 5, 0)]), ac_906], []), [((4, 6, 0), gi_929, hq_738, [], [1])])
theorem hd_1359 : con_1359.1 = (yX8_at, cX8_at, 3, (some .long)) := rfl
noncomputable def ct_1359 : CTB2 := []
noncomputable def cu_1359 : List CUT2 := []
theorem ch_1359 : staG tb_X8_at 1 bt_RX8 [] ct_1359 [] [] cu_1359 11 con_1359 = true := by decide +kernel
theorem cto_1359 (l : Launch) : CTOK2 l RX8 vwCl gTbl ct_1359 := ct2_nil
theorem vl_1359 (l : Launch) : Vld2 l vwCl gTbl con_1359 := conR_ok3 gT_all (hd_1359) rfl pn_RX8 tk_X8_at bo_RX8 xo_RX8 (cto_1359 l) ch_1359 cut_nil
/-- RookHusting$Slots at -/
noncomputable def ac_907 : AC := .inr (2, jl_n [js_5 157 9223372036854775807 9223372036854775807, js_4 7 1, js_5 82 9223372036854775807 9223372036854775807])
noncomputable def hq_739 : HP := [(false, .inl (8, [(6, 1, 0), (8, 4, 0), (8, 5, 0)])), (false, ac_907)]
noncomputable def con_1360 : Con2 := ((yX8_at, cX8_at, 3, (some .long)), (0, 0), ([(6, 0, 0), (0, 2, 0), (0, 37, 0)], gi_928, [.inl (8, [(6, 1, 0), (8, 4, 0), (8, 5, 0)]), ac_907], []), [((4, 6, 0), gi_929, hq_739, [], [1])])
theorem hd_1360 : con_1360.1 = (yX8_at, cX8_at, 3, (some .long)) := rfl
noncomputable def ct_1360 : CTB2 := []
noncomputable def cu_1360 : List CUT2 := []
theorem ch_1360 : staG tb_X8_at 1 bt_RX8 [] ct_1360 [] [] cu_1360 11 con_1360 = true := by decide +kernel
theorem cto_1360 (l : Launch) : CTOK2 l RX8 vwCl gTbl ct_1360 := ct2_nil
theorem vl_1360 (l : Launch) : Vld2 l vwCl gTbl con_1360 := conR_ok3 gT_all (hd_1360) rfl pn_RX8 tk_X8_at bo_RX8 xo_RX8 (cto_1360 l) ch_1360 cut_nil
/-- RookHusting$Slots at -/
noncomputable def ac_908 : AC := .inr (2, jl_n [js_5 158 9223372036854775807 9223372036854775807, js_4 7 1, js_5 81 9223372036854775807 9223372036854775807])
noncomputable def hq_740 : HP := [(false, .inl (8, [(6, 1, 0), (8, 4, 0), (8, 5, 0)])), (false, ac_908)]
noncomputable def con_1361 : Con2 := ((yX8_at, cX8_at, 3, (some .long)), (0, 0), ([(6, 0, 0), (0, 2, 0), (0, 38, 0)], gi_928, [.inl (8, [(6, 1, 0), (8, 4, 0), (8, 5, 0)]), ac_908], []), [((4, 6, 0), gi_929, hq_740, [], [1])])
theorem hd_1361 : con_1361.1 = (yX8_at, cX8_at, 3, (some .long)) := rfl
noncomputable def ct_1361 : CTB2 := []
noncomputable def cu_1361 : List CUT2 := []
theorem ch_1361 : staG tb_X8_at 1 bt_RX8 [] ct_1361 [] [] cu_1361 11 con_1361 = true := by decide +kernel
theorem cto_1361 (l : Launch) : CTOK2 l RX8 vwCl gTbl ct_1361 := ct2_nil
theorem vl_1361 (l : Launch) : Vld2 l vwCl gTbl con_1361 := conR_ok3 gT_all (hd_1361) rfl pn_RX8 tk_X8_at bo_RX8 xo_RX8 (cto_1361 l) ch_1361 cut_nil
/-- RookHusting$Slots at -/
noncomputable def ac_909 : AC := .inr (2, jl_n [js_5 159 9223372036854775807 9223372036854775807, js_4 7 1, js_5 80 9223372036854775807 9223372036854775807])
noncomputable def hq_741 : HP := [(false, .inl (8, [(6, 1, 0), (8, 4, 0), (8, 5, 0)])), (false, ac_909)]
noncomputable def con_1362 : Con2 := ((yX8_at, cX8_at, 3, (some .long)), (0, 0), ([(6, 0, 0), (0, 2, 0), (0, 39, 0)], gi_928, [.inl (8, [(6, 1, 0), (8, 4, 0), (8, 5, 0)]), ac_909], []), [((4, 6, 0), gi_929, hq_741, [], [1])])
theorem hd_1362 : con_1362.1 = (yX8_at, cX8_at, 3, (some .long)) := rfl
noncomputable def ct_1362 : CTB2 := []
noncomputable def cu_1362 : List CUT2 := []
theorem ch_1362 : staG tb_X8_at 1 bt_RX8 [] ct_1362 [] [] cu_1362 11 con_1362 = true := by decide +kernel
theorem cto_1362 (l : Launch) : CTOK2 l RX8 vwCl gTbl ct_1362 := ct2_nil
theorem vl_1362 (l : Launch) : Vld2 l vwCl gTbl con_1362 := conR_ok3 gT_all (hd_1362) rfl pn_RX8 tk_X8_at bo_RX8 xo_RX8 (cto_1362 l) ch_1362 cut_nil
/-- RookHusting$Slots at -/
noncomputable def ac_910 : AC := .inr (2, jl_n [js_5 160 9223372036854775807 9223372036854775807, js_4 7 1, js_5 79 9223372036854775807 9223372036854775807])
noncomputable def hq_742 : HP := [(false, .inl (8, [(6, 1, 0), (8, 4, 0), (8, 5, 0)])), (false, ac_910)]
noncomputable def con_1363 : Con2 := ((yX8_at, cX8_at, 3, (some .long)), (0, 0), ([(6, 0, 0), (0, 2, 0), (0, 40, 0)], gi_928, [.inl (8, [(6, 1, 0), (8, 4, 0), (8, 5, 0)]), ac_910], []), [((4, 6, 0), gi_929, hq_742, [], [1])])
theorem hd_1363 : con_1363.1 = (yX8_at, cX8_at, 3, (some .long)) := rfl
noncomputable def ct_1363 : CTB2 := []
noncomputable def cu_1363 : List CUT2 := []
theorem ch_1363 : staG tb_X8_at 1 bt_RX8 [] ct_1363 [] [] cu_1363 11 con_1363 = true := by decide +kernel
theorem cto_1363 (l : Launch) : CTOK2 l RX8 vwCl gTbl ct_1363 := ct2_nil
theorem vl_1363 (l : Launch) : Vld2 l vwCl gTbl con_1363 := conR_ok3 gT_all (hd_1363) rfl pn_RX8 tk_X8_at bo_RX8 xo_RX8 (cto_1363 l) ch_1363 cut_nil
/-- RookHusting$Slots at -/
noncomputable def ac_911 : AC := .inr (2, jl_n [js_5 161 9223372036854775807 9223372036854775807, js_4 7 1, js_5 78 9223372036854775807 9223372036854775807])
noncomputable def hq_743 : HP := [(false, .inl (8, [(6, 1, 0), (8, 4, 0), (8, 5, 0)])), (false, ac_911)]
noncomputable def con_1364 : Con2 := ((yX8_at, cX8_at, 3, (some .long)), (0, 0), ([(6, 0, 0), (0, 2, 0), (0, 41, 0)], gi_928, [.inl (8, [(6, 1, 0), (8, 4, 0), (8, 5, 0)]), ac_911], []), [((4, 6, 0), gi_929, hq_743, [], [1])])
theorem hd_1364 : con_1364.1 = (yX8_at, cX8_at, 3, (some .long)) := rfl
noncomputable def ct_1364 : CTB2 := []
noncomputable def cu_1364 : List CUT2 := []
theorem ch_1364 : staG tb_X8_at 1 bt_RX8 [] ct_1364 [] [] cu_1364 11 con_1364 = true := by decide +kernel
theorem cto_1364 (l : Launch) : CTOK2 l RX8 vwCl gTbl ct_1364 := ct2_nil
theorem vl_1364 (l : Launch) : Vld2 l vwCl gTbl con_1364 := conR_ok3 gT_all (hd_1364) rfl pn_RX8 tk_X8_at bo_RX8 xo_RX8 (cto_1364 l) ch_1364 cut_nil
/-- RookHusting$Slots at -/
noncomputable def ac_912 : AC := .inr (2, jl_n [js_5 162 9223372036854775807 9223372036854775807, js_4 7 1, js_5 77 9223372036854775807 9223372036854775807])
noncomputable def hq_744 : HP := [(false, .inl (8, [(6, 1, 0), (8, 4, 0), (8, 5, 0)])), (false, ac_912)]
noncomputable def con_1365 : Con2 := ((yX8_at, cX8_at, 3, (some .long)), (0, 0), ([(6, 0, 0), (0, 2, 0), (0, 42, 0)], gi_928, [.inl (8, [(6, 1, 0), (8, 4, 0), (8, 5, 0)]), ac_912], []), [((4, 6, 0), gi_929, hq_744, [], [1])])
theorem hd_1365 : con_1365.1 = (yX8_at, cX8_at, 3, (some .long)) := rfl
noncomputable def ct_1365 : CTB2 := []
noncomputable def cu_1365 : List CUT2 := []
theorem ch_1365 : staG tb_X8_at 1 bt_RX8 [] ct_1365 [] [] cu_1365 11 con_1365 = true := by decide +kernel
theorem cto_1365 (l : Launch) : CTOK2 l RX8 vwCl gTbl ct_1365 := ct2_nil
theorem vl_1365 (l : Launch) : Vld2 l vwCl gTbl con_1365 := conR_ok3 gT_all (hd_1365) rfl pn_RX8 tk_X8_at bo_RX8 xo_RX8 (cto_1365 l) ch_1365 cut_nil
/-- RookHusting$Slots at -/
noncomputable def ac_913 : AC := .inr (2, jl_n [js_5 163 9223372036854775807 9223372036854775807, js_4 7 1, js_5 76 9223372036854775807 9223372036854775807])
noncomputable def hq_745 : HP := [(false, .inl (8, [(6, 1, 0), (8, 4, 0), (8, 5, 0)])), (false, ac_913)]
noncomputable def con_1366 : Con2 := ((yX8_at, cX8_at, 3, (some .long)), (0, 0), ([(6, 0, 0), (0, 2, 0), (0, 43, 0)], gi_928, [.inl (8, [(6, 1, 0), (8, 4, 0), (8, 5, 0)]), ac_913], []), [((4, 6, 0), gi_929, hq_745, [], [1])])
theorem hd_1366 : con_1366.1 = (yX8_at, cX8_at, 3, (some .long)) := rfl
noncomputable def ct_1366 : CTB2 := []
noncomputable def cu_1366 : List CUT2 := []
theorem ch_1366 : staG tb_X8_at 1 bt_RX8 [] ct_1366 [] [] cu_1366 11 con_1366 = true := by decide +kernel
theorem cto_1366 (l : Launch) : CTOK2 l RX8 vwCl gTbl ct_1366 := ct2_nil
theorem vl_1366 (l : Launch) : Vld2 l vwCl gTbl con_1366 := conR_ok3 gT_all (hd_1366) rfl pn_RX8 tk_X8_at bo_RX8 xo_RX8 (cto_1366 l) ch_1366 cut_nil
/-- RookHusting$Slots at -/
noncomputable def ac_914 : AC := .inr (2, jl_n [js_5 164 9223372036854775807 9223372036854775807, js_4 7 1, js_5 75 9223372036854775807 9223372036854775807])
noncomputable def hq_746 : HP := [(false, .inl (8, [(6, 1, 0), (8, 4, 0), (8, 5, 0)])), (false, ac_914)]
noncomputable def con_1367 : Con2 := ((yX8_at, cX8_at, 3, (some .long)), (0, 0), ([(6, 0, 0), (0, 2, 0), (0, 44, 0)], gi_928, [.inl (8, [(6, 1, 0), (8, 4, 0), (8, 5, 0)]), ac_914], []), [((4, 6, 0), gi_929, hq_746, [], [1])])
theorem hd_1367 : con_1367.1 = (yX8_at, cX8_at, 3, (some .long)) := rfl
noncomputable def ct_1367 : CTB2 := []
noncomputable def cu_1367 : List CUT2 := []
theorem ch_1367 : staG tb_X8_at 1 bt_RX8 [] ct_1367 [] [] cu_1367 11 con_1367 = true := by decide +kernel
theorem cto_1367 (l : Launch) : CTOK2 l RX8 vwCl gTbl ct_1367 := ct2_nil
theorem vl_1367 (l : Launch) : Vld2 l vwCl gTbl con_1367 := conR_ok3 gT_all (hd_1367) rfl pn_RX8 tk_X8_at bo_RX8 xo_RX8 (cto_1367 l) ch_1367 cut_nil
/-- RookHusting$Slots at -/
noncomputable def ac_915 : AC := .inr (2, jl_n [js_5 165 9223372036854775807 9223372036854775807, js_4 7 1, js_5 74 9223372036854775807 9223372036854775807])
noncomputable def hq_747 : HP := [(false, .inl (8, [(6, 1, 0), (8, 4, 0), (8, 5, 0)])), (false, ac_915)]
noncomputable def con_1368 : Con2 := ((yX8_at, cX8_at, 3, (some .long)), (0, 0), ([(6, 0, 0), (0, 2, 0), (0, 45, 0)], gi_928, [.inl (8, [(6, 1, 0), (8, 4, 0), (8, 5, 0)]), ac_915], []), [((4, 6, 0), gi_929, hq_747, [], [1])])
theorem hd_1368 : con_1368.1 = (yX8_at, cX8_at, 3, (some .long)) := rfl
noncomputable def ct_1368 : CTB2 := []
noncomputable def cu_1368 : List CUT2 := []
theorem ch_1368 : staG tb_X8_at 1 bt_RX8 [] ct_1368 [] [] cu_1368 11 con_1368 = true := by decide +kernel
theorem cto_1368 (l : Launch) : CTOK2 l RX8 vwCl gTbl ct_1368 := ct2_nil
theorem vl_1368 (l : Launch) : Vld2 l vwCl gTbl con_1368 := conR_ok3 gT_all (hd_1368) rfl pn_RX8 tk_X8_at bo_RX8 xo_RX8 (cto_1368 l) ch_1368 cut_nil
/-- RookHusting$Slots at -/
noncomputable def ac_916 : AC := .inr (2, jl_n [js_5 166 9223372036854775807 9223372036854775807, js_4 7 1, js_5 73 9223372036854775807 9223372036854775807])
noncomputable def hq_748 : HP := [(false, .inl (8, [(6, 1, 0), (8, 4, 0), (8, 5, 0)])), (false, ac_916)]
noncomputable def con_1369 : Con2 := ((yX8_at, cX8_at, 3, (some .long)), (0, 0), ([(6, 0, 0), (0, 2, 0), (0, 46, 0)], gi_928, [.inl (8, [(6, 1, 0), (8, 4, 0), (8, 5, 0)]), ac_916], []), [((4, 6, 0), gi_929, hq_748, [], [1])])
theorem hd_1369 : con_1369.1 = (yX8_at, cX8_at, 3, (some .long)) := rfl
noncomputable def ct_1369 : CTB2 := []
noncomputable def cu_1369 : List CUT2 := []
theorem ch_1369 : staG tb_X8_at 1 bt_RX8 [] ct_1369 [] [] cu_1369 11 con_1369 = true := by decide +kernel
theorem cto_1369 (l : Launch) : CTOK2 l RX8 vwCl gTbl ct_1369 := ct2_nil
theorem vl_1369 (l : Launch) : Vld2 l vwCl gTbl con_1369 := conR_ok3 gT_all (hd_1369) rfl pn_RX8 tk_X8_at bo_RX8 xo_RX8 (cto_1369 l) ch_1369 cut_nil
/-- RookHusting$Slots at -/
noncomputable def ac_917 : AC := .inr (2, jl_n [js_5 167 9223372036854775807 9223372036854775807, js_4 7 1, js_5 72 9223372036854775807 9223372036854775807])
noncomputable def hq_749 : HP := [(false, .inl (8, [(6, 1, 0), (8, 4, 0), (8, 5, 0)])), (false, ac_917)]
noncomputable def con_1370 : Con2 := ((yX8_at, cX8_at, 3, (some .long)), (0, 0), ([(6, 0, 0), (0, 2, 0), (0, 47, 0)], gi_928, [.inl (8, [(6, 1, 0), (8, 4, 0), (8, 5, 0)]), ac_917], []), [((4, 6, 0), gi_929, hq_749, [], [1])])
theorem hd_1370 : con_1370.1 = (yX8_at, cX8_at, 3, (some .long)) := rfl
noncomputable def ct_1370 : CTB2 := []
noncomputable def cu_1370 : List CUT2 := []
theorem ch_1370 : staG tb_X8_at 1 bt_RX8 [] ct_1370 [] [] cu_1370 11 con_1370 = true := by decide +kernel
theorem cto_1370 (l : Launch) : CTOK2 l RX8 vwCl gTbl ct_1370 := ct2_nil
theorem vl_1370 (l : Launch) : Vld2 l vwCl gTbl con_1370 := conR_ok3 gT_all (hd_1370) rfl pn_RX8 tk_X8_at bo_RX8 xo_RX8 (cto_1370 l) ch_1370 cut_nil
/-- RookHusting$Slots at -/
noncomputable def ac_918 : AC := .inr (2, jl_n [js_5 168 9223372036854775807 9223372036854775807, js_4 7 1, js_5 71 9223372036854775807 9223372036854775807])
noncomputable def hq_750 : HP := [(false, .inl (8, [(6, 1, 0), (8, 4, 0), (8, 5, 0)])), (false, ac_918)]
noncomputable def con_1371 : Con2 := ((yX8_at, cX8_at, 3, (some .long)), (0, 0), ([(6, 0, 0), (0, 2, 0), (0, 48, 0)], gi_928, [.inl (8, [(6, 1, 0), (8, 4, 0), (8, 5, 0)]), ac_918], []), [((4, 6, 0), gi_929, hq_750, [], [1])])
theorem hd_1371 : con_1371.1 = (yX8_at, cX8_at, 3, (some .long)) := rfl
noncomputable def ct_1371 : CTB2 := []
noncomputable def cu_1371 : List CUT2 := []
theorem ch_1371 : staG tb_X8_at 1 bt_RX8 [] ct_1371 [] [] cu_1371 11 con_1371 = true := by decide +kernel
theorem cto_1371 (l : Launch) : CTOK2 l RX8 vwCl gTbl ct_1371 := ct2_nil
theorem vl_1371 (l : Launch) : Vld2 l vwCl gTbl con_1371 := conR_ok3 gT_all (hd_1371) rfl pn_RX8 tk_X8_at bo_RX8 xo_RX8 (cto_1371 l) ch_1371 cut_nil
/-- RookHusting$Slots at -/
noncomputable def ac_919 : AC := .inr (2, jl_n [js_5 169 9223372036854775807 9223372036854775807, js_4 7 1, js_5 70 9223372036854775807 9223372036854775807])
noncomputable def hq_751 : HP := [(false, .inl (8, [(6, 1, 0), (8, 4, 0), (8, 5, 0)])), (false, ac_919)]
noncomputable def con_1372 : Con2 := ((yX8_at, cX8_at, 3, (some .long)), (0, 0), ([(6, 0, 0), (0, 2, 0), (0, 49, 0)], gi_928, [.inl (8, [(6, 1, 0), (8, 4, 0), (8, 5, 0)]), ac_919], []), [((4, 6, 0), gi_929, hq_751, [], [1])])
theorem hd_1372 : con_1372.1 = (yX8_at, cX8_at, 3, (some .long)) := rfl
noncomputable def ct_1372 : CTB2 := []
noncomputable def cu_1372 : List CUT2 := []
theorem ch_1372 : staG tb_X8_at 1 bt_RX8 [] ct_1372 [] [] cu_1372 11 con_1372 = true := by decide +kernel
theorem cto_1372 (l : Launch) : CTOK2 l RX8 vwCl gTbl ct_1372 := ct2_nil
theorem vl_1372 (l : Launch) : Vld2 l vwCl gTbl con_1372 := conR_ok3 gT_all (hd_1372) rfl pn_RX8 tk_X8_at bo_RX8 xo_RX8 (cto_1372 l) ch_1372 cut_nil
/-- RookHusting$Slots at -/
noncomputable def ac_920 : AC := .inr (2, jl_n [js_5 170 9223372036854775807 9223372036854775807, js_4 7 1, js_5 69 9223372036854775807 9223372036854775807])
noncomputable def hq_752 : HP := [(false, .inl (8, [(6, 1, 0), (8, 4, 0), (8, 5, 0)])), (false, ac_920)]
noncomputable def con_1373 : Con2 := ((yX8_at, cX8_at, 3, (some .long)), (0, 0), ([(6, 0, 0), (0, 2, 0), (0, 50, 0)], gi_928, [.inl (8, [(6, 1, 0), (8, 4, 0), (8, 5, 0)]), ac_920], []), [((4, 6, 0), gi_929, hq_752, [], [1])])
theorem hd_1373 : con_1373.1 = (yX8_at, cX8_at, 3, (some .long)) := rfl
noncomputable def ct_1373 : CTB2 := []
noncomputable def cu_1373 : List CUT2 := []
theorem ch_1373 : staG tb_X8_at 1 bt_RX8 [] ct_1373 [] [] cu_1373 11 con_1373 = true := by decide +kernel
theorem cto_1373 (l : Launch) : CTOK2 l RX8 vwCl gTbl ct_1373 := ct2_nil
theorem vl_1373 (l : Launch) : Vld2 l vwCl gTbl con_1373 := conR_ok3 gT_all (hd_1373) rfl pn_RX8 tk_X8_at bo_RX8 xo_RX8 (cto_1373 l) ch_1373 cut_nil
/-- RookHusting$Slots at -/
noncomputable def ac_921 : AC := .inr (2, jl_n [js_5 171 9223372036854775807 9223372036854775807, js_4 7 1, js_5 68 9223372036854775807 9223372036854775807])
noncomputable def hq_753 : HP := [(false, .inl (8, [(6, 1, 0), (8, 4, 0), (8, 5, 0)])), (false, ac_921)]
noncomputable def con_1374 : Con2 := ((yX8_at, cX8_at, 3, (some .long)), (0, 0), ([(6, 0, 0), (0, 2, 0), (0, 51, 0)], gi_928, [.inl (8, [(6, 1, 0), (8, 4, 0), (8, 5, 0)]), ac_921], []), [((4, 6, 0), gi_929, hq_753, [], [1])])
theorem hd_1374 : con_1374.1 = (yX8_at, cX8_at, 3, (some .long)) := rfl
noncomputable def ct_1374 : CTB2 := []
noncomputable def cu_1374 : List CUT2 := []
theorem ch_1374 : staG tb_X8_at 1 bt_RX8 [] ct_1374 [] [] cu_1374 11 con_1374 = true := by decide +kernel
theorem cto_1374 (l : Launch) : CTOK2 l RX8 vwCl gTbl ct_1374 := ct2_nil
theorem vl_1374 (l : Launch) : Vld2 l vwCl gTbl con_1374 := conR_ok3 gT_all (hd_1374) rfl pn_RX8 tk_X8_at bo_RX8 xo_RX8 (cto_1374 l) ch_1374 cut_nil
/-- RookHusting$Slots at -/
noncomputable def ac_922 : AC := .inr (2, jl_n [js_5 172 9223372036854775807 9223372036854775807, js_4 7 1, js_5 67 9223372036854775807 9223372036854775807])
noncomputable def hq_754 : HP := [(false, .inl (8, [(6, 1, 0), (8, 4, 0), (8, 5, 0)])), (false, ac_922)]
noncomputable def con_1375 : Con2 := ((yX8_at, cX8_at, 3, (some .long)), (0, 0), ([(6, 0, 0), (0, 2, 0), (0, 52, 0)], gi_928, [.inl (8, [(6, 1, 0), (8, 4, 0), (8, 5, 0)]), ac_922], []), [((4, 6, 0), gi_929, hq_754, [], [1])])
theorem hd_1375 : con_1375.1 = (yX8_at, cX8_at, 3, (some .long)) := rfl
noncomputable def ct_1375 : CTB2 := []
noncomputable def cu_1375 : List CUT2 := []
theorem ch_1375 : staG tb_X8_at 1 bt_RX8 [] ct_1375 [] [] cu_1375 11 con_1375 = true := by decide +kernel
theorem cto_1375 (l : Launch) : CTOK2 l RX8 vwCl gTbl ct_1375 := ct2_nil
theorem vl_1375 (l : Launch) : Vld2 l vwCl gTbl con_1375 := conR_ok3 gT_all (hd_1375) rfl pn_RX8 tk_X8_at bo_RX8 xo_RX8 (cto_1375 l) ch_1375 cut_nil
/-- RookHusting$Slots at -/
noncomputable def ac_923 : AC := .inr (2, jl_n [js_5 173 9223372036854775807 9223372036854775807, js_4 7 1, js_5 66 9223372036854775807 9223372036854775807])
noncomputable def hq_755 : HP := [(false, .inl (8, [(6, 1, 0), (8, 4, 0), (8, 5, 0)])), (false, ac_923)]
noncomputable def con_1376 : Con2 := ((yX8_at, cX8_at, 3, (some .long)), (0, 0), ([(6, 0, 0), (0, 2, 0), (0, 53, 0)], gi_928, [.inl (8, [(6, 1, 0), (8, 4, 0), (8, 5, 0)]), ac_923], []), [((4, 6, 0), gi_929, hq_755, [], [1])])
theorem hd_1376 : con_1376.1 = (yX8_at, cX8_at, 3, (some .long)) := rfl
noncomputable def ct_1376 : CTB2 := []
noncomputable def cu_1376 : List CUT2 := []
theorem ch_1376 : staG tb_X8_at 1 bt_RX8 [] ct_1376 [] [] cu_1376 11 con_1376 = true := by decide +kernel
theorem cto_1376 (l : Launch) : CTOK2 l RX8 vwCl gTbl ct_1376 := ct2_nil
theorem vl_1376 (l : Launch) : Vld2 l vwCl gTbl con_1376 := conR_ok3 gT_all (hd_1376) rfl pn_RX8 tk_X8_at bo_RX8 xo_RX8 (cto_1376 l) ch_1376 cut_nil
/-- RookHusting$Slots at -/
noncomputable def ac_924 : AC := .inr (2, jl_n [js_5 174 9223372036854775807 9223372036854775807, js_4 7 1, js_5 65 9223372036854775807 9223372036854775807])
noncomputable def hq_756 : HP := [(false, .inl (8, [(6, 1, 0), (8, 4, 0), (8, 5, 0)])), (false, ac_924)]
noncomputable def con_1377 : Con2 := ((yX8_at, cX8_at, 3, (some .long)), (0, 0), ([(6, 0, 0), (0, 2, 0), (0, 54, 0)], gi_928, [.inl (8, [(6, 1, 0), (8, 4, 0), (8, 5, 0)]), ac_924], []), [((4, 6, 0), gi_929, hq_756, [], [1])])
theorem hd_1377 : con_1377.1 = (yX8_at, cX8_at, 3, (some .long)) := rfl
noncomputable def ct_1377 : CTB2 := []
noncomputable def cu_1377 : List CUT2 := []
theorem ch_1377 : staG tb_X8_at 1 bt_RX8 [] ct_1377 [] [] cu_1377 11 con_1377 = true := by decide +kernel
theorem cto_1377 (l : Launch) : CTOK2 l RX8 vwCl gTbl ct_1377 := ct2_nil
theorem vl_1377 (l : Launch) : Vld2 l vwCl gTbl con_1377 := conR_ok3 gT_all (hd_1377) rfl pn_RX8 tk_X8_at bo_RX8 xo_RX8 (cto_1377 l) ch_1377 cut_nil
/-- RookHusting$Slots at -/
noncomputable def ac_925 : AC := .inr (2, jl_n [js_5 175 9223372036854775807 9223372036854775807, js_4 7 1, js_5 64 9223372036854775807 9223372036854775807])
noncomputable def hq_757 : HP := [(false, .inl (8, [(6, 1, 0), (8, 4, 0), (8, 5, 0)])), (false, ac_925)]
noncomputable def con_1378 : Con2 := ((yX8_at, cX8_at, 3, (some .long)), (0, 0), ([(6, 0, 0), (0, 2, 0), (0, 55, 0)], gi_928, [.inl (8, [(6, 1, 0), (8, 4, 0), (8, 5, 0)]), ac_925], []), [((4, 6, 0), gi_929, hq_757, [], [1])])
theorem hd_1378 : con_1378.1 = (yX8_at, cX8_at, 3, (some .long)) := rfl
noncomputable def ct_1378 : CTB2 := []
noncomputable def cu_1378 : List CUT2 := []
theorem ch_1378 : staG tb_X8_at 1 bt_RX8 [] ct_1378 [] [] cu_1378 11 con_1378 = true := by decide +kernel
theorem cto_1378 (l : Launch) : CTOK2 l RX8 vwCl gTbl ct_1378 := ct2_nil
theorem vl_1378 (l : Launch) : Vld2 l vwCl gTbl con_1378 := conR_ok3 gT_all (hd_1378) rfl pn_RX8 tk_X8_at bo_RX8 xo_RX8 (cto_1378 l) ch_1378 cut_nil
/-- RookHusting$Slots at -/
noncomputable def ac_926 : AC := .inr (2, jl_n [js_5 176 9223372036854775807 9223372036854775807, js_4 7 1, js_5 63 9223372036854775807 9223372036854775807])
noncomputable def hq_758 : HP := [(false, .inl (8, [(6, 1, 0), (8, 4, 0), (8, 5, 0)])), (false, ac_926)]
noncomputable def con_1379 : Con2 := ((yX8_at, cX8_at, 3, (some .long)), (0, 0), ([(6, 0, 0), (0, 2, 0), (0, 56, 0)], gi_928, [.inl (8, [(6, 1, 0), (8, 4, 0), (8, 5, 0)]), ac_926], []), [((4, 6, 0), gi_929, hq_758, [], [1])])
theorem hd_1379 : con_1379.1 = (yX8_at, cX8_at, 3, (some .long)) := rfl
noncomputable def ct_1379 : CTB2 := []
noncomputable def cu_1379 : List CUT2 := []
theorem ch_1379 : staG tb_X8_at 1 bt_RX8 [] ct_1379 [] [] cu_1379 11 con_1379 = true := by decide +kernel
theorem cto_1379 (l : Launch) : CTOK2 l RX8 vwCl gTbl ct_1379 := ct2_nil
theorem vl_1379 (l : Launch) : Vld2 l vwCl gTbl con_1379 := conR_ok3 gT_all (hd_1379) rfl pn_RX8 tk_X8_at bo_RX8 xo_RX8 (cto_1379 l) ch_1379 cut_nil
/-- RookHusting$Slots at -/
noncomputable def ac_927 : AC := .inr (2, jl_n [js_5 177 9223372036854775807 9223372036854775807, js_4 7 1, js_5 62 9223372036854775807 9223372036854775807])
noncomputable def hq_759 : HP := [(false, .inl (8, [(6, 1, 0), (8, 4, 0), (8, 5, 0)])), (false, ac_927)]
noncomputable def con_1380 : Con2 := ((yX8_at, cX8_at, 3, (some .long)), (0, 0), ([(6, 0, 0), (0, 2, 0), (0, 57, 0)], gi_928, [.inl (8, [(6, 1, 0), (8, 4, 0), (8, 5, 0)]), ac_927], []), [((4, 6, 0), gi_929, hq_759, [], [1])])
theorem hd_1380 : con_1380.1 = (yX8_at, cX8_at, 3, (some .long)) := rfl
noncomputable def ct_1380 : CTB2 := []
noncomputable def cu_1380 : List CUT2 := []
theorem ch_1380 : staG tb_X8_at 1 bt_RX8 [] ct_1380 [] [] cu_1380 11 con_1380 = true := by decide +kernel
theorem cto_1380 (l : Launch) : CTOK2 l RX8 vwCl gTbl ct_1380 := ct2_nil
theorem vl_1380 (l : Launch) : Vld2 l vwCl gTbl con_1380 := conR_ok3 gT_all (hd_1380) rfl pn_RX8 tk_X8_at bo_RX8 xo_RX8 (cto_1380 l) ch_1380 cut_nil
/-- RookHusting$Slots at -/
noncomputable def ac_928 : AC := .inr (2, jl_n [js_5 178 9223372036854775807 9223372036854775807, js_4 7 1, js_5 61 9223372036854775807 9223372036854775807])
noncomputable def hq_760 : HP := [(false, .inl (8, [(6, 1, 0), (8, 4, 0), (8, 5, 0)])), (false, ac_928)]
noncomputable def con_1381 : Con2 := ((yX8_at, cX8_at, 3, (some .long)), (0, 0), ([(6, 0, 0), (0, 2, 0), (0, 58, 0)], gi_928, [.inl (8, [(6, 1, 0), (8, 4, 0), (8, 5, 0)]), ac_928], []), [((4, 6, 0), gi_929, hq_760, [], [1])])
theorem hd_1381 : con_1381.1 = (yX8_at, cX8_at, 3, (some .long)) := rfl
noncomputable def ct_1381 : CTB2 := []
noncomputable def cu_1381 : List CUT2 := []
theorem ch_1381 : staG tb_X8_at 1 bt_RX8 [] ct_1381 [] [] cu_1381 11 con_1381 = true := by decide +kernel
theorem cto_1381 (l : Launch) : CTOK2 l RX8 vwCl gTbl ct_1381 := ct2_nil
theorem vl_1381 (l : Launch) : Vld2 l vwCl gTbl con_1381 := conR_ok3 gT_all (hd_1381) rfl pn_RX8 tk_X8_at bo_RX8 xo_RX8 (cto_1381 l) ch_1381 cut_nil
/-- RookHusting$Slots at -/
noncomputable def ac_929 : AC := .inr (2, jl_n [js_5 179 9223372036854775807 9223372036854775807, js_4 7 1, js_5 60 9223372036854775807 9223372036854775807])
noncomputable def hq_761 : HP := [(false, .inl (8, [(6, 1, 0), (8, 4, 0), (8, 5, 0)])), (false, ac_929)]
noncomputable def con_1382 : Con2 := ((yX8_at, cX8_at, 3, (some .long)), (0, 0), ([(6, 0, 0), (0, 2, 0), (0, 59, 0)], gi_928, [.inl (8, [(6, 1, 0), (8, 4, 0), (8, 5, 0)]), ac_929], []), [((4, 6, 0), gi_929, hq_761, [], [1])])
theorem hd_1382 : con_1382.1 = (yX8_at, cX8_at, 3, (some .long)) := rfl
noncomputable def ct_1382 : CTB2 := []
noncomputable def cu_1382 : List CUT2 := []
theorem ch_1382 : staG tb_X8_at 1 bt_RX8 [] ct_1382 [] [] cu_1382 11 con_1382 = true := by decide +kernel
theorem cto_1382 (l : Launch) : CTOK2 l RX8 vwCl gTbl ct_1382 := ct2_nil
theorem vl_1382 (l : Launch) : Vld2 l vwCl gTbl con_1382 := conR_ok3 gT_all (hd_1382) rfl pn_RX8 tk_X8_at bo_RX8 xo_RX8 (cto_1382 l) ch_1382 cut_nil
/-- RookHusting wrongSeen -/
noncomputable def ac_930 : AC := .inr (2, jl_n [js_5 120 9223372036854775807 9223372036854775807, js_4 105 60, js_5 60 9223372036854775807 9223372036854775807])
noncomputable def hc_193 : List AC := [ac_804, .inl (9, [(6, 2, 0), (8, 20, 0)]), ac_805, .inl (8, [(6, 5, 0), (8, 39, 0), (6, 4, 0)]), ac_806, ac_930]
noncomputable def hq_762 : HP := [(false, ac_804), (false, .inl (9, [(6, 2, 0), (8, 20, 0)])), (false, ac_805), (false, .inl (8, [(6, 5, 0), (8, 39, 0), (6, 4, 0)])), (false, ac_806), (false, ac_930)]
noncomputable def gi_980 : GI := jl_n [jl_z 2, jl_i 0 4, jl_z 19, jl_i 0 16, jl_z 2, jl_i 1 5, jl_z 15, jl_r 2 (jl_m 0 60), jl_k 0 0, jl_m 0 60, jl_r 60 (jl_u), jl_z 1]
noncomputable def gi_981 : GI := jl_n [jl_z 2, jl_i 0 4, jl_z 19, jl_i 0 16, jl_z 2, jl_i 1 5, jl_z 15, jl_r 2 (jl_m 0 60), jl_z 1, jl_m 0 60, jl_r 60 (jl_u), jl_z 1]
noncomputable def gi_982 : GI := jl_n [jl_z 2, jl_i 0 4, jl_z 19, jl_i 0 16, jl_z 2, jl_i 1 5, jl_z 15, jl_r 2 (jl_m 0 60), jl_i 10 12, jl_m 0 60, jl_i 0 4, jl_i 0 16, jl_i 0 250, jl_i 0 4, jl_i 0 16, jl_i 0 250, jl_i 0 4, jl_i 0 16, jl_i 0 250, jl_i 0 4, jl_i 0 16, jl_i 0 250, jl_r 48 (jl_u), jl_z 1]
noncomputable def gi_983 : GI := jl_n [jl_z 2, jl_i 0 4, jl_z 19, jl_i 0 16, jl_z 2, jl_i 1 5, jl_z 15, jl_r 2 (jl_m 0 60), jl_i 13 15, jl_m 0 60, jl_i 0 4, jl_i 0 16, jl_i 0 250, jl_i 0 4, jl_i 0 16, jl_i 0 250, jl_i 0 4, jl_i 0 16, jl_i 0 250, jl_i 0 4, jl_i 0 16, jl_i 0 250, jl_i 0 4, jl_i 0 16, jl_i 0 250, jl_r 45 (jl_u), jl_z 1]
noncomputable def gi_984 : GI := jl_n [jl_z 2, jl_i 0 4, jl_z 19, jl_i 0 16, jl_z 2, jl_i 1 5, jl_z 15, jl_r 2 (jl_m 0 60), jl_i 16 18, jl_m 0 60, jl_i 0 4, jl_i 0 16, jl_i 0 250, jl_i 0 4, jl_i 0 16, jl_i 0 250, jl_i 0 4, jl_i 0 16, jl_i 0 250, jl_i 0 4, jl_i 0 16, jl_i 0 250, jl_i 0 4, jl_i 0 16, jl_i 0 250, jl_i 0 4, jl_i 0 16, jl_i 0 250, jl_r 42 (jl_u), jl_z 1]
noncomputable def gi_985 : GI := jl_n [jl_z 2, jl_i 0 4, jl_z 19, jl_i 0 16, jl_z 2, jl_i 1 5, jl_z 15, jl_r 2 (jl_m 0 60), jl_i 19 21, jl_m 0 60, jl_i 0 4, jl_i 0 16, jl_i 0 250, jl_i 0 4, jl_i 0 16, jl_i 0 250, jl_i 0 4, jl_i 0 16, jl_i 0 250, jl_i 0 4, jl_i 0 16, jl_i 0 250, jl_i 0 4, jl_i 0 16, jl_i 0 250, jl_i 0 4, jl_i 0 16, jl_i 0 250, jl_i 0 4, jl_i 0 16, jl_i 0 250, jl_r 39 (jl_u), jl_z 1]
noncomputable def gi_986 : GI := jl_n [jl_z 2, jl_i 0 4, jl_z 19, jl_i 0 16, jl_z 2, jl_i 1 5, jl_z 15, jl_r 2 (jl_m 0 60), jl_i 22 24, jl_m 0 60, jl_i 0 4, jl_i 0 16, jl_i 0 250, jl_i 0 4, jl_i 0 16, jl_i 0 250, jl_i 0 4, jl_i 0 16, jl_i 0 250, jl_i 0 4, jl_i 0 16, jl_i 0 250, jl_i 0 4, jl_i 0 16, jl_i 0 250, jl_i 0 4, jl_i 0 16, jl_i 0 250, jl_i 0 4, jl_i 0 16, jl_i 0 250, jl_i 0 4, jl_i 0 16, jl_i 0 250, jl_r 36 (jl_u), jl_z 1]
noncomputable def gi_987 : GI := jl_n [jl_z 2, jl_i 0 4, jl_z 19, jl_i 0 16, jl_z 2, jl_i 1 5, jl_z 15, jl_r 2 (jl_m 0 60), jl_i 25 27, jl_m 0 60, jl_i 0 4, jl_i 0 16, jl_i 0 250, jl_i 0 4, jl_i 0 16, jl_i 0 250, jl_i 0 4, jl_i 0 16, jl_i 0 250, jl_i 0 4, jl_i 0 16, jl_i 0 250, jl_i 0 4, jl_i 0 16, jl_i 0 250, jl_i 0 4, jl_i 0 16, jl_i 0 250, jl_i 0 4, jl_i 0 16, jl_i 0 250, jl_i 0 4, jl_i 0 16, jl_i 0 250, jl_i 0 4, jl_i 0 16, jl_i 0 250, jl_r 33 (jl_u), jl_z 1]
noncomputable def gi_988 : GI := jl_n [jl_z 2, jl_i 0 4, jl_z 19, jl_i 0 16, jl_z 2, jl_i 1 5, jl_z 15, jl_r 2 (jl_m 0 60), jl_i 1 3, jl_m 0 60, jl_i 0 4, jl_i 0 16, jl_i 0 250, jl_r 57 (jl_u), jl_z 1]
noncomputable def gi_989 : GI := jl_n [jl_z 2, jl_i 0 4, jl_z 19, jl_i 0 16, jl_z 2, jl_i 1 5, jl_z 15, jl_r 2 (jl_m 0 60), jl_i 28 30, jl_m 0 60, jl_i 0 4, jl_i 0 16, jl_i 0 250, jl_i 0 4, jl_i 0 16, jl_i 0 250, jl_i 0 4, jl_i 0 16, jl_i 0 250, jl_i 0 4, jl_i 0 16, jl_i 0 250, jl_i 0 4, jl_i 0 16, jl_i 0 250, jl_i 0 4, jl_i 0 16, jl_i 0 250, jl_i 0 4, jl_i 0 16, jl_i 0 250, jl_i 0 4, jl_i 0 16, jl_i 0 250, jl_i 0 4, jl_i 0 16, jl_i 0 250, jl_i 0 4, jl_i 0 16, jl_i 0 250, jl_r 30 (jl_u), jl_z 1]
noncomputable def gi_990 : GI := jl_n [jl_z 2, jl_i 0 4, jl_z 19, jl_i 0 16, jl_z 2, jl_i 1 5, jl_z 15, jl_r 2 (jl_m 0 60), jl_i 31 33, jl_m 0 60, jl_i 0 4, jl_i 0 16, jl_i 0 250, jl_i 0 4, jl_i 0 16, jl_i 0 250, jl_i 0 4, jl_i 0 16, jl_i 0 250, jl_i 0 4, jl_i 0 16, jl_i 0 250, jl_i 0 4, jl_i 0 16, jl_i 0 250, jl_i 0 4, jl_i 0 16, jl_i 0 250, jl_i 0 4, jl_i 0 16, jl_i 0 250, jl_i 0 4, jl_i 0 16, jl_i 0 250, jl_i 0 4, jl_i 0 16, jl_i 0 250, jl_i 0 4, jl_i 0 16, jl_i 0 250, jl_i 0 4, jl_i 0 16, jl_i 0 250, jl_r 27 (jl_u), jl_z 1]
noncomputable def gi_991 : GI := jl_n [jl_z 2, jl_i 0 4, jl_z 19, jl_i 0 16, jl_z 2, jl_i 1 5, jl_z 15, jl_r 2 (jl_m 0 60), jl_i 34 36, jl_m 0 60, jl_i 0 4, jl_i 0 16, jl_i 0 250, jl_i 0 4, jl_i 0 16, jl_i 0 250, jl_i 0 4, jl_i 0 16, jl_i 0 250, jl_i 0 4, jl_i 0 16, jl_i 0 250, jl_i 0 4, jl_i 0 16, jl_i 0 250, jl_i 0 4, jl_i 0 16, jl_i 0 250, jl_i 0 4, jl_i 0 16, jl_i 0 250, jl_i 0 4, jl_i 0 16, jl_i 0 250, jl_i 0 4, jl_i 0 16, jl_i 0 250, jl_i 0 4, jl_i 0 16, jl_i 0 250, jl_i 0 4, jl_i 0 16, jl_i 0 250, jl_i 0 4, jl_i 0 16, jl_i 0 250, jl_r 24 (jl_u), jl_z 1]
noncomputable def gi_992 : GI := jl_n [jl_z 2, jl_i 0 4, jl_z 19, jl_i 0 16, jl_z 2, jl_i 1 5, jl_z 15, jl_r 2 (jl_m 0 60), jl_i 37 39, jl_m 0 60, jl_i 0 4, jl_i 0 16, jl_i 0 250, jl_i 0 4, jl_i 0 16, jl_i 0 250, jl_i 0 4, jl_i 0 16, jl_i 0 250, jl_i 0 4, jl_i 0 16, jl_i 0 250, jl_i 0 4, jl_i 0 16, jl_i 0 250, jl_i 0 4, jl_i 0 16, jl_i 0 250, jl_i 0 4, jl_i 0 16, jl_i 0 250, jl_i 0 4, jl_i 0 16, jl_i 0 250, jl_i 0 4, jl_i 0 16, jl_i 0 250, jl_i 0 4, jl_i 0 16, jl_i 0 250, jl_i 0 4, jl_i 0 16, jl_i 0 250, jl_i 0 4, jl_i 0 16, jl_i 0 250, jl_i 0 4, jl_i 0 16, jl_i 0 250, jl_r 21 (jl_u), jl_z 1]
noncomputable def gi_993 : GI := jl_n [jl_z 2, jl_i 0 4, jl_z 19, jl_i 0 16, jl_z 2, jl_i 1 5, jl_z 15, jl_r 2 (jl_m 0 60), jl_i 40 42, jl_m 0 60, jl_i 0 4, jl_i 0 16, jl_i 0 250, jl_i 0 4, jl_i 0 16, jl_i 0 250, jl_i 0 4, jl_i 0 16, jl_i 0 250, jl_i 0 4, jl_i 0 16, jl_i 0 250, jl_i 0 4, jl_i 0 16, jl_i 0 250, jl_i 0 4, jl_i 0 16, jl_i 0 250, jl_i 0 4, jl_i 0 16, jl_i 0 250, jl_i 0 4, jl_i 0 16, jl_i 0 250, jl_i 0 4, jl_i 0 16, jl_i 0 250, jl_i 0 4, jl_i 0 16, jl_i 0 250, jl_i 0 4, jl_i 0 16, jl_i 0 250, jl_i 0 4, jl_i 0 16, jl_i 0 250, jl_i 0 4, jl_i 0 16, jl_i 0 250, jl_i 0 4, jl_i 0 16, jl_i 0 250, jl_r 18 (jl_u), jl_z 1]
noncomputable def gi_994 : GI := jl_n [jl_z 2, jl_i 0 4, jl_z 19, jl_i 0 16, jl_z 2, jl_i 1 5, jl_z 15, jl_r 2 (jl_m 0 60), jl_i 43 45, jl_m 0 60, jl_i 0 4, jl_i 0 16, jl_i 0 250, jl_i 0 4, jl_i 0 16, jl_i 0 250, jl_i 0 4, jl_i 0 16, jl_i 0 250, jl_i 0 4, jl_i 0 16, jl_i 0 250, jl_i 0 4, jl_i 0 16, jl_i 0 250, jl_i 0 4, jl_i 0 16, jl_i 0 250, jl_i 0 4, jl_i 0 16, jl_i 0 250, jl_i 0 4, jl_i 0 16, jl_i 0 250, jl_i 0 4, jl_i 0 16, jl_i 0 250, jl_i 0 4, jl_i 0 16, jl_i 0 250, jl_i 0 4, jl_i 0 16, jl_i 0 250, jl_i 0 4, jl_i 0 16, jl_i 0 250, jl_i 0 4, jl_i 0 16, jl_i 0 250, jl_i 0 4, jl_i 0 16, jl_i 0 250, jl_i 0 4, jl_i 0 16, jl_i 0 250, jl_r 15 (jl_u), jl_z 1]
noncomputable def gi_995 : GI := jl_n [jl_z 2, jl_i 0 4, jl_z 19, jl_i 0 16, jl_z 2, jl_i 1 5, jl_z 15, jl_r 2 (jl_m 0 60), jl_i 46 48, jl_m 0 60, jl_i 0 4, jl_i 0 16, jl_i 0 250, jl_i 0 4, jl_i 0 16, jl_i 0 250, jl_i 0 4, jl_i 0 16, jl_i 0 250, jl_i 0 4, jl_i 0 16, jl_i 0 250, jl_i 0 4, jl_i 0 16, jl_i 0 250, jl_i 0 4, jl_i 0 16, jl_i 0 250, jl_i 0 4, jl_i 0 16, jl_i 0 250, jl_i 0 4, jl_i 0 16, jl_i 0 250, jl_i 0 4, jl_i 0 16, jl_i 0 250, jl_i 0 4, jl_i 0 16, jl_i 0 250, jl_i 0 4, jl_i 0 16, jl_i 0 250, jl_i 0 4, jl_i 0 16, jl_i 0 250, jl_i 0 4, jl_i 0 16, jl_i 0 250, jl_i 0 4, jl_i 0 16, jl_i 0 250, jl_i 0 4, jl_i 0 16, jl_i 0 250, jl_i 0 4, jl_i 0 16, jl_i 0 250, jl_r 12 (jl_u), jl_z 1]
noncomputable def gi_996 : GI := jl_n [jl_z 2, jl_i 0 4, jl_z 19, jl_i 0 16, jl_z 2, jl_i 1 5, jl_z 15, jl_r 2 (jl_m 0 60), jl_i 49 51, jl_m 0 60, jl_i 0 4, jl_i 0 16, jl_i 0 250, jl_i 0 4, jl_i 0 16, jl_i 0 250, jl_i 0 4, jl_i 0 16, jl_i 0 250, jl_i 0 4, jl_i 0 16, jl_i 0 250, jl_i 0 4, jl_i 0 16, jl_i 0 250, jl_i 0 4, jl_i 0 16, jl_i 0 250, jl_i 0 4, jl_i 0 16, jl_i 0 250, jl_i 0 4, jl_i 0 16, jl_i 0 250, jl_i 0 4, jl_i 0 16, jl_i 0 250, jl_i 0 4, jl_i 0 16, jl_i 0 250, jl_i 0 4, jl_i 0 16, jl_i 0 250, jl_i 0 4, jl_i 0 16, jl_i 0 250, jl_i 0 4, jl_i 0 16, jl_i 0 250, jl_i 0 4, jl_i 0 16, jl_i 0 250, jl_i 0 4, jl_i 0 16, jl_i 0 250, jl_i 0 4, jl_i 0 16, jl_i 0 250, jl_i 0 4, jl_i 0 16, jl_i 0 250, jl_r 9 (jl_u), jl_z 1]
noncomputable def gi_997 : GI := jl_n [jl_z 2, jl_i 0 4, jl_z 19, jl_i 0 16, jl_z 2, jl_i 1 5, jl_z 15, jl_r 2 (jl_m 0 60), jl_i 52 54, jl_m 0 60, jl_i 0 4, jl_i 0 16, jl_i 0 250, jl_i 0 4, jl_i 0 16, jl_i 0 250, jl_i 0 4, jl_i 0 16, jl_i 0 250, jl_i 0 4, jl_i 0 16, jl_i 0 250, jl_i 0 4, jl_i 0 16, jl_i 0 250, jl_i 0 4, jl_i 0 16, jl_i 0 250, jl_i 0 4, jl_i 0 16, jl_i 0 250, jl_i 0 4, jl_i 0 16, jl_i 0 250, jl_i 0 4, jl_i 0 16, jl_i 0 250, jl_i 0 4, jl_i 0 16, jl_i 0 250, jl_i 0 4, jl_i 0 16, jl_i 0 250, jl_i 0 4, jl_i 0 16, jl_i 0 250, jl_i 0 4, jl_i 0 16, jl_i 0 250, jl_i 0 4, jl_i 0 16, jl_i 0 250, jl_i 0 4, jl_i 0 16, jl_i 0 250, jl_i 0 4, jl_i 0 16, jl_i 0 250, jl_i 0 4, jl_i 0 16, jl_i 0 250, jl_i 0 4, jl_i 0 16, jl_i 0 250, jl_r 6 (jl_u), jl_z 1]
noncomputable def gi_998 : GI := jl_n [jl_z 2, jl_i 0 4, jl_z 19, jl_i 0 16, jl_z 2, jl_i 1 5, jl_z 15, jl_r 2 (jl_m 0 60), jl_i 55 57, jl_m 0 60, jl_i 0 4, jl_i 0 16, jl_i 0 250, jl_i 0 4, jl_i 0 16, jl_i 0 250, jl_i 0 4, jl_i 0 16, jl_i 0 250, jl_i 0 4, jl_i 0 16, jl_i 0 250, jl_i 0 4, jl_i 0 16, jl_i 0 250, jl_i 0 4, jl_i 0 16, jl_i 0 250, jl_i 0 4, jl_i 0 16, jl_i 0 250, jl_i 0 4, jl_i 0 16, jl_i 0 250, jl_i 0 4, jl_i 0 16, jl_i 0 250, jl_i 0 4, jl_i 0 16, jl_i 0 250, jl_i 0 4, jl_i 0 16, jl_i 0 250, jl_i 0 4, jl_i 0 16, jl_i 0 250, jl_i 0 4, jl_i 0 16, jl_i 0 250, jl_i 0 4, jl_i 0 16, jl_i 0 250, jl_i 0 4, jl_i 0 16, jl_i 0 250, jl_i 0 4, jl_i 0 16, jl_i 0 250, jl_i 0 4, jl_i 0 16, jl_i 0 250, jl_i 0 4, jl_i 0 16, jl_i 0 250, jl_i 0 4, jl_i 0 16, jl_i 0 250, jl_r 3 (jl_u), jl_z 1]
noncomputable def gi_999 : GI := jl_n [jl_z 2, jl_i 0 4, jl_z 19, jl_i 0 16, jl_z 2, jl_i 1 5, jl_z 15, jl_r 2 (jl_m 0 60), jl_i 4 6, jl_m 0 60, jl_i 0 4, jl_i 0 16, jl_i 0 250, jl_i 0 4, jl_i 0 16, jl_i 0 250, jl_r 54 (jl_u), jl_z 1]
noncomputable def gi_1000 : GI := jl_n [jl_z 2, jl_i 0 4, jl_z 19, jl_i 0 16, jl_z 2, jl_i 1 5, jl_z 15, jl_r 2 (jl_m 0 60), jl_i 58 60, jl_m 0 60, jl_i 0 4, jl_i 0 16, jl_i 0 250, jl_i 0 4, jl_i 0 16, jl_i 0 250, jl_i 0 4, jl_i 0 16, jl_i 0 250, jl_i 0 4, jl_i 0 16, jl_i 0 250, jl_i 0 4, jl_i 0 16, jl_i 0 250, jl_i 0 4, jl_i 0 16, jl_i 0 250, jl_i 0 4, jl_i 0 16, jl_i 0 250, jl_i 0 4, jl_i 0 16, jl_i 0 250, jl_i 0 4, jl_i 0 16, jl_i 0 250, jl_i 0 4, jl_i 0 16, jl_i 0 250, jl_i 0 4, jl_i 0 16, jl_i 0 250, jl_i 0 4, jl_i 0 16, jl_i 0 250, jl_i 0 4, jl_i 0 16, jl_i 0 250, jl_i 0 4, jl_i 0 16, jl_i 0 250, jl_i 0 4, jl_i 0 16, jl_i 0 250, jl_i 0 4, jl_i 0 16, jl_i 0 250, jl_i 0 4, jl_i 0 16, jl_i 0 250, jl_i 0 4, jl_i 0 16, jl_i 0 250, jl_i 0 4, jl_i 0 16, jl_i 0 250, jl_i 0 4, jl_i 0 16, jl_i 0 250, jl_z 1]
noncomputable def gi_1001 : GI := jl_n [jl_z 2, jl_i 0 4, jl_z 19, jl_i 0 16, jl_z 2, jl_i 1 5, jl_z 15, jl_r 2 (jl_m 0 60), jl_i 7 9, jl_m 0 60, jl_i 0 4, jl_i 0 16, jl_i 0 250, jl_i 0 4, jl_i 0 16, jl_i 0 250, jl_i 0 4, jl_i 0 16, jl_i 0 250, jl_r 51 (jl_u), jl_z 1]
noncomputable def con_1383 : Con2 := ((yX11_wrongSeen, cX11_wrongSeen, 5, (some .int)), (1, 22), ([(6, 0, 0), (0, 2, 0), (1, 2, 0)], gi_933, hc_193, []), [((0, (-2), 0), gi_934, hq_762, [], [1]), ((0, (-6), 0), gi_980, hq_762, [], [1]), ((0, 0, 0), gi_981, hq_762, [], [1]), ((0, 0, 0), gi_982, hq_762, [], [1]), ((0, 0, 0), gi_983, hq_762, [], [1]), ((0, 0, 0), gi_984, hq_762, [], [1]), ((0, 0, 0), gi_985, hq_762, [], [1]), ((0, 0, 0), gi_986, hq_762, [], [1]), ((0, 0, 0), gi_987, hq_762, [], [1]), ((0, 0, 0), gi_988, hq_762, [], [1]), ((0, 0, 0), gi_989, hq_762, [], [1]), ((0, 0, 0), gi_990, hq_762, [], [1]), ((0, 0, 0), gi_991, hq_762, [], [1]), ((0, 0, 0), gi_992, hq_762, [], [1]), ((0, 0, 0), gi_993, hq_762, [], [1]), ((0, 0, 0), gi_994, hq_762, [], [1]), ((0, 0, 0), gi_995, hq_762, [], [1]), ((0, 0, 0), gi_996, hq_762, [], [1]), ((0, 0, 0), gi_997, hq_762, [], [1]), ((0, 0, 0), gi_998, hq_762, [], [1]), ((0, 0, 0), gi_999, hq_762, [], [1]), ((0, 0, 0), gi_1000, hq_762, [], [1]), ((0, 0, 0), gi_1001, hq_762, [], [1])])
theorem hd_1383 : con_1383.1 = (yX11_wrongSeen, cX11_wrongSeen, 5, (some .int)) := rfl
theorem ck_RX11_473_1325 : COK2 RX11 vwCl gTbl 473 0 con_1325 := ⟨wd_1218, wd_131, mh_X8_at, .inr (.inr ⟨rfl, wd_1215, wd_1216, wd_1217, ⟨_, rfl, pd_X8_at⟩, 8, _, TX8, 3, rfl, rfl⟩)⟩
theorem ck_RX11_473_1328 : COK2 RX11 vwCl gTbl 473 0 con_1328 := ⟨wd_1218, wd_131, mh_X8_at, .inr (.inr ⟨rfl, wd_1215, wd_1216, wd_1217, ⟨_, rfl, pd_X8_at⟩, 8, _, TX8, 3, rfl, rfl⟩)⟩
theorem ck_RX11_473_1331 : COK2 RX11 vwCl gTbl 473 0 con_1331 := ⟨wd_1218, wd_131, mh_X8_at, .inr (.inr ⟨rfl, wd_1215, wd_1216, wd_1217, ⟨_, rfl, pd_X8_at⟩, 8, _, TX8, 3, rfl, rfl⟩)⟩
theorem ck_RX11_473_1334 : COK2 RX11 vwCl gTbl 473 0 con_1334 := ⟨wd_1218, wd_131, mh_X8_at, .inr (.inr ⟨rfl, wd_1215, wd_1216, wd_1217, ⟨_, rfl, pd_X8_at⟩, 8, _, TX8, 3, rfl, rfl⟩)⟩
theorem ck_RX11_473_1337 : COK2 RX11 vwCl gTbl 473 0 con_1337 := ⟨wd_1218, wd_131, mh_X8_at, .inr (.inr ⟨rfl, wd_1215, wd_1216, wd_1217, ⟨_, rfl, pd_X8_at⟩, 8, _, TX8, 3, rfl, rfl⟩)⟩
theorem ck_RX11_473_1340 : COK2 RX11 vwCl gTbl 473 0 con_1340 := ⟨wd_1218, wd_131, mh_X8_at, .inr (.inr ⟨rfl, wd_1215, wd_1216, wd_1217, ⟨_, rfl, pd_X8_at⟩, 8, _, TX8, 3, rfl, rfl⟩)⟩
theorem ck_RX11_473_1343 : COK2 RX11 vwCl gTbl 473 0 con_1343 := ⟨wd_1218, wd_131, mh_X8_at, .inr (.inr ⟨rfl, wd_1215, wd_1216, wd_1217, ⟨_, rfl, pd_X8_at⟩, 8, _, TX8, 3, rfl, rfl⟩)⟩
theorem ck_RX11_473_1346 : COK2 RX11 vwCl gTbl 473 0 con_1346 := ⟨wd_1218, wd_131, mh_X8_at, .inr (.inr ⟨rfl, wd_1215, wd_1216, wd_1217, ⟨_, rfl, pd_X8_at⟩, 8, _, TX8, 3, rfl, rfl⟩)⟩
theorem ck_RX11_473_1349 : COK2 RX11 vwCl gTbl 473 0 con_1349 := ⟨wd_1218, wd_131, mh_X8_at, .inr (.inr ⟨rfl, wd_1215, wd_1216, wd_1217, ⟨_, rfl, pd_X8_at⟩, 8, _, TX8, 3, rfl, rfl⟩)⟩
theorem ck_RX11_473_1352 : COK2 RX11 vwCl gTbl 473 0 con_1352 := ⟨wd_1218, wd_131, mh_X8_at, .inr (.inr ⟨rfl, wd_1215, wd_1216, wd_1217, ⟨_, rfl, pd_X8_at⟩, 8, _, TX8, 3, rfl, rfl⟩)⟩
theorem ck_RX11_473_1355 : COK2 RX11 vwCl gTbl 473 0 con_1355 := ⟨wd_1218, wd_131, mh_X8_at, .inr (.inr ⟨rfl, wd_1215, wd_1216, wd_1217, ⟨_, rfl, pd_X8_at⟩, 8, _, TX8, 3, rfl, rfl⟩)⟩
theorem ck_RX11_473_1358 : COK2 RX11 vwCl gTbl 473 0 con_1358 := ⟨wd_1218, wd_131, mh_X8_at, .inr (.inr ⟨rfl, wd_1215, wd_1216, wd_1217, ⟨_, rfl, pd_X8_at⟩, 8, _, TX8, 3, rfl, rfl⟩)⟩
theorem ck_RX11_473_1361 : COK2 RX11 vwCl gTbl 473 0 con_1361 := ⟨wd_1218, wd_131, mh_X8_at, .inr (.inr ⟨rfl, wd_1215, wd_1216, wd_1217, ⟨_, rfl, pd_X8_at⟩, 8, _, TX8, 3, rfl, rfl⟩)⟩
theorem ck_RX11_473_1364 : COK2 RX11 vwCl gTbl 473 0 con_1364 := ⟨wd_1218, wd_131, mh_X8_at, .inr (.inr ⟨rfl, wd_1215, wd_1216, wd_1217, ⟨_, rfl, pd_X8_at⟩, 8, _, TX8, 3, rfl, rfl⟩)⟩
theorem ck_RX11_473_1367 : COK2 RX11 vwCl gTbl 473 0 con_1367 := ⟨wd_1218, wd_131, mh_X8_at, .inr (.inr ⟨rfl, wd_1215, wd_1216, wd_1217, ⟨_, rfl, pd_X8_at⟩, 8, _, TX8, 3, rfl, rfl⟩)⟩
theorem ck_RX11_473_1370 : COK2 RX11 vwCl gTbl 473 0 con_1370 := ⟨wd_1218, wd_131, mh_X8_at, .inr (.inr ⟨rfl, wd_1215, wd_1216, wd_1217, ⟨_, rfl, pd_X8_at⟩, 8, _, TX8, 3, rfl, rfl⟩)⟩
theorem ck_RX11_473_1373 : COK2 RX11 vwCl gTbl 473 0 con_1373 := ⟨wd_1218, wd_131, mh_X8_at, .inr (.inr ⟨rfl, wd_1215, wd_1216, wd_1217, ⟨_, rfl, pd_X8_at⟩, 8, _, TX8, 3, rfl, rfl⟩)⟩
theorem ck_RX11_473_1376 : COK2 RX11 vwCl gTbl 473 0 con_1376 := ⟨wd_1218, wd_131, mh_X8_at, .inr (.inr ⟨rfl, wd_1215, wd_1216, wd_1217, ⟨_, rfl, pd_X8_at⟩, 8, _, TX8, 3, rfl, rfl⟩)⟩
theorem ck_RX11_473_1379 : COK2 RX11 vwCl gTbl 473 0 con_1379 := ⟨wd_1218, wd_131, mh_X8_at, .inr (.inr ⟨rfl, wd_1215, wd_1216, wd_1217, ⟨_, rfl, pd_X8_at⟩, 8, _, TX8, 3, rfl, rfl⟩)⟩
theorem ck_RX11_473_1382 : COK2 RX11 vwCl gTbl 473 0 con_1382 := ⟨wd_1218, wd_131, mh_X8_at, .inr (.inr ⟨rfl, wd_1215, wd_1216, wd_1217, ⟨_, rfl, pd_X8_at⟩, 8, _, TX8, 3, rfl, rfl⟩)⟩
theorem ck_RX11_473_1324 : COK2 RX11 vwCl gTbl 473 0 con_1324 := ⟨wd_1218, wd_131, mh_X8_at, .inr (.inr ⟨rfl, wd_1215, wd_1216, wd_1217, ⟨_, rfl, pd_X8_at⟩, 8, _, TX8, 3, rfl, rfl⟩)⟩
theorem ck_RX11_473_1327 : COK2 RX11 vwCl gTbl 473 0 con_1327 := ⟨wd_1218, wd_131, mh_X8_at, .inr (.inr ⟨rfl, wd_1215, wd_1216, wd_1217, ⟨_, rfl, pd_X8_at⟩, 8, _, TX8, 3, rfl, rfl⟩)⟩
theorem ck_RX11_473_1330 : COK2 RX11 vwCl gTbl 473 0 con_1330 := ⟨wd_1218, wd_131, mh_X8_at, .inr (.inr ⟨rfl, wd_1215, wd_1216, wd_1217, ⟨_, rfl, pd_X8_at⟩, 8, _, TX8, 3, rfl, rfl⟩)⟩
theorem ck_RX11_473_1333 : COK2 RX11 vwCl gTbl 473 0 con_1333 := ⟨wd_1218, wd_131, mh_X8_at, .inr (.inr ⟨rfl, wd_1215, wd_1216, wd_1217, ⟨_, rfl, pd_X8_at⟩, 8, _, TX8, 3, rfl, rfl⟩)⟩
theorem ck_RX11_473_1336 : COK2 RX11 vwCl gTbl 473 0 con_1336 := ⟨wd_1218, wd_131, mh_X8_at, .inr (.inr ⟨rfl, wd_1215, wd_1216, wd_1217, ⟨_, rfl, pd_X8_at⟩, 8, _, TX8, 3, rfl, rfl⟩)⟩
theorem ck_RX11_473_1339 : COK2 RX11 vwCl gTbl 473 0 con_1339 := ⟨wd_1218, wd_131, mh_X8_at, .inr (.inr ⟨rfl, wd_1215, wd_1216, wd_1217, ⟨_, rfl, pd_X8_at⟩, 8, _, TX8, 3, rfl, rfl⟩)⟩
theorem ck_RX11_473_1342 : COK2 RX11 vwCl gTbl 473 0 con_1342 := ⟨wd_1218, wd_131, mh_X8_at, .inr (.inr ⟨rfl, wd_1215, wd_1216, wd_1217, ⟨_, rfl, pd_X8_at⟩, 8, _, TX8, 3, rfl, rfl⟩)⟩
theorem ck_RX11_473_1345 : COK2 RX11 vwCl gTbl 473 0 con_1345 := ⟨wd_1218, wd_131, mh_X8_at, .inr (.inr ⟨rfl, wd_1215, wd_1216, wd_1217, ⟨_, rfl, pd_X8_at⟩, 8, _, TX8, 3, rfl, rfl⟩)⟩
theorem ck_RX11_473_1348 : COK2 RX11 vwCl gTbl 473 0 con_1348 := ⟨wd_1218, wd_131, mh_X8_at, .inr (.inr ⟨rfl, wd_1215, wd_1216, wd_1217, ⟨_, rfl, pd_X8_at⟩, 8, _, TX8, 3, rfl, rfl⟩)⟩
theorem ck_RX11_473_1351 : COK2 RX11 vwCl gTbl 473 0 con_1351 := ⟨wd_1218, wd_131, mh_X8_at, .inr (.inr ⟨rfl, wd_1215, wd_1216, wd_1217, ⟨_, rfl, pd_X8_at⟩, 8, _, TX8, 3, rfl, rfl⟩)⟩
theorem ck_RX11_473_1354 : COK2 RX11 vwCl gTbl 473 0 con_1354 := ⟨wd_1218, wd_131, mh_X8_at, .inr (.inr ⟨rfl, wd_1215, wd_1216, wd_1217, ⟨_, rfl, pd_X8_at⟩, 8, _, TX8, 3, rfl, rfl⟩)⟩
theorem ck_RX11_473_1357 : COK2 RX11 vwCl gTbl 473 0 con_1357 := ⟨wd_1218, wd_131, mh_X8_at, .inr (.inr ⟨rfl, wd_1215, wd_1216, wd_1217, ⟨_, rfl, pd_X8_at⟩, 8, _, TX8, 3, rfl, rfl⟩)⟩
theorem ck_RX11_473_1360 : COK2 RX11 vwCl gTbl 473 0 con_1360 := ⟨wd_1218, wd_131, mh_X8_at, .inr (.inr ⟨rfl, wd_1215, wd_1216, wd_1217, ⟨_, rfl, pd_X8_at⟩, 8, _, TX8, 3, rfl, rfl⟩)⟩
theorem ck_RX11_473_1363 : COK2 RX11 vwCl gTbl 473 0 con_1363 := ⟨wd_1218, wd_131, mh_X8_at, .inr (.inr ⟨rfl, wd_1215, wd_1216, wd_1217, ⟨_, rfl, pd_X8_at⟩, 8, _, TX8, 3, rfl, rfl⟩)⟩
theorem ck_RX11_473_1366 : COK2 RX11 vwCl gTbl 473 0 con_1366 := ⟨wd_1218, wd_131, mh_X8_at, .inr (.inr ⟨rfl, wd_1215, wd_1216, wd_1217, ⟨_, rfl, pd_X8_at⟩, 8, _, TX8, 3, rfl, rfl⟩)⟩
theorem ck_RX11_473_1369 : COK2 RX11 vwCl gTbl 473 0 con_1369 := ⟨wd_1218, wd_131, mh_X8_at, .inr (.inr ⟨rfl, wd_1215, wd_1216, wd_1217, ⟨_, rfl, pd_X8_at⟩, 8, _, TX8, 3, rfl, rfl⟩)⟩
theorem ck_RX11_473_1372 : COK2 RX11 vwCl gTbl 473 0 con_1372 := ⟨wd_1218, wd_131, mh_X8_at, .inr (.inr ⟨rfl, wd_1215, wd_1216, wd_1217, ⟨_, rfl, pd_X8_at⟩, 8, _, TX8, 3, rfl, rfl⟩)⟩
theorem ck_RX11_473_1375 : COK2 RX11 vwCl gTbl 473 0 con_1375 := ⟨wd_1218, wd_131, mh_X8_at, .inr (.inr ⟨rfl, wd_1215, wd_1216, wd_1217, ⟨_, rfl, pd_X8_at⟩, 8, _, TX8, 3, rfl, rfl⟩)⟩
theorem ck_RX11_473_1378 : COK2 RX11 vwCl gTbl 473 0 con_1378 := ⟨wd_1218, wd_131, mh_X8_at, .inr (.inr ⟨rfl, wd_1215, wd_1216, wd_1217, ⟨_, rfl, pd_X8_at⟩, 8, _, TX8, 3, rfl, rfl⟩)⟩
theorem ck_RX11_473_1381 : COK2 RX11 vwCl gTbl 473 0 con_1381 := ⟨wd_1218, wd_131, mh_X8_at, .inr (.inr ⟨rfl, wd_1215, wd_1216, wd_1217, ⟨_, rfl, pd_X8_at⟩, 8, _, TX8, 3, rfl, rfl⟩)⟩
theorem ck_RX11_473_1323 : COK2 RX11 vwCl gTbl 473 0 con_1323 := ⟨wd_1218, wd_131, mh_X8_at, .inr (.inr ⟨rfl, wd_1215, wd_1216, wd_1217, ⟨_, rfl, pd_X8_at⟩, 8, _, TX8, 3, rfl, rfl⟩)⟩
theorem ck_RX11_473_1326 : COK2 RX11 vwCl gTbl 473 0 con_1326 := ⟨wd_1218, wd_131, mh_X8_at, .inr (.inr ⟨rfl, wd_1215, wd_1216, wd_1217, ⟨_, rfl, pd_X8_at⟩, 8, _, TX8, 3, rfl, rfl⟩)⟩
theorem ck_RX11_473_1329 : COK2 RX11 vwCl gTbl 473 0 con_1329 := ⟨wd_1218, wd_131, mh_X8_at, .inr (.inr ⟨rfl, wd_1215, wd_1216, wd_1217, ⟨_, rfl, pd_X8_at⟩, 8, _, TX8, 3, rfl, rfl⟩)⟩
theorem ck_RX11_473_1332 : COK2 RX11 vwCl gTbl 473 0 con_1332 := ⟨wd_1218, wd_131, mh_X8_at, .inr (.inr ⟨rfl, wd_1215, wd_1216, wd_1217, ⟨_, rfl, pd_X8_at⟩, 8, _, TX8, 3, rfl, rfl⟩)⟩
theorem ck_RX11_473_1335 : COK2 RX11 vwCl gTbl 473 0 con_1335 := ⟨wd_1218, wd_131, mh_X8_at, .inr (.inr ⟨rfl, wd_1215, wd_1216, wd_1217, ⟨_, rfl, pd_X8_at⟩, 8, _, TX8, 3, rfl, rfl⟩)⟩
theorem ck_RX11_473_1338 : COK2 RX11 vwCl gTbl 473 0 con_1338 := ⟨wd_1218, wd_131, mh_X8_at, .inr (.inr ⟨rfl, wd_1215, wd_1216, wd_1217, ⟨_, rfl, pd_X8_at⟩, 8, _, TX8, 3, rfl, rfl⟩)⟩
theorem ck_RX11_473_1341 : COK2 RX11 vwCl gTbl 473 0 con_1341 := ⟨wd_1218, wd_131, mh_X8_at, .inr (.inr ⟨rfl, wd_1215, wd_1216, wd_1217, ⟨_, rfl, pd_X8_at⟩, 8, _, TX8, 3, rfl, rfl⟩)⟩
theorem ck_RX11_473_1344 : COK2 RX11 vwCl gTbl 473 0 con_1344 := ⟨wd_1218, wd_131, mh_X8_at, .inr (.inr ⟨rfl, wd_1215, wd_1216, wd_1217, ⟨_, rfl, pd_X8_at⟩, 8, _, TX8, 3, rfl, rfl⟩)⟩
theorem ck_RX11_473_1347 : COK2 RX11 vwCl gTbl 473 0 con_1347 := ⟨wd_1218, wd_131, mh_X8_at, .inr (.inr ⟨rfl, wd_1215, wd_1216, wd_1217, ⟨_, rfl, pd_X8_at⟩, 8, _, TX8, 3, rfl, rfl⟩)⟩
theorem ck_RX11_473_1350 : COK2 RX11 vwCl gTbl 473 0 con_1350 := ⟨wd_1218, wd_131, mh_X8_at, .inr (.inr ⟨rfl, wd_1215, wd_1216, wd_1217, ⟨_, rfl, pd_X8_at⟩, 8, _, TX8, 3, rfl, rfl⟩)⟩
theorem ck_RX11_473_1353 : COK2 RX11 vwCl gTbl 473 0 con_1353 := ⟨wd_1218, wd_131, mh_X8_at, .inr (.inr ⟨rfl, wd_1215, wd_1216, wd_1217, ⟨_, rfl, pd_X8_at⟩, 8, _, TX8, 3, rfl, rfl⟩)⟩
theorem ck_RX11_473_1356 : COK2 RX11 vwCl gTbl 473 0 con_1356 := ⟨wd_1218, wd_131, mh_X8_at, .inr (.inr ⟨rfl, wd_1215, wd_1216, wd_1217, ⟨_, rfl, pd_X8_at⟩, 8, _, TX8, 3, rfl, rfl⟩)⟩
theorem ck_RX11_473_1359 : COK2 RX11 vwCl gTbl 473 0 con_1359 := ⟨wd_1218, wd_131, mh_X8_at, .inr (.inr ⟨rfl, wd_1215, wd_1216, wd_1217, ⟨_, rfl, pd_X8_at⟩, 8, _, TX8, 3, rfl, rfl⟩)⟩
theorem ck_RX11_473_1362 : COK2 RX11 vwCl gTbl 473 0 con_1362 := ⟨wd_1218, wd_131, mh_X8_at, .inr (.inr ⟨rfl, wd_1215, wd_1216, wd_1217, ⟨_, rfl, pd_X8_at⟩, 8, _, TX8, 3, rfl, rfl⟩)⟩
theorem ck_RX11_473_1365 : COK2 RX11 vwCl gTbl 473 0 con_1365 := ⟨wd_1218, wd_131, mh_X8_at, .inr (.inr ⟨rfl, wd_1215, wd_1216, wd_1217, ⟨_, rfl, pd_X8_at⟩, 8, _, TX8, 3, rfl, rfl⟩)⟩
theorem ck_RX11_473_1368 : COK2 RX11 vwCl gTbl 473 0 con_1368 := ⟨wd_1218, wd_131, mh_X8_at, .inr (.inr ⟨rfl, wd_1215, wd_1216, wd_1217, ⟨_, rfl, pd_X8_at⟩, 8, _, TX8, 3, rfl, rfl⟩)⟩
theorem ck_RX11_473_1371 : COK2 RX11 vwCl gTbl 473 0 con_1371 := ⟨wd_1218, wd_131, mh_X8_at, .inr (.inr ⟨rfl, wd_1215, wd_1216, wd_1217, ⟨_, rfl, pd_X8_at⟩, 8, _, TX8, 3, rfl, rfl⟩)⟩
theorem ck_RX11_473_1374 : COK2 RX11 vwCl gTbl 473 0 con_1374 := ⟨wd_1218, wd_131, mh_X8_at, .inr (.inr ⟨rfl, wd_1215, wd_1216, wd_1217, ⟨_, rfl, pd_X8_at⟩, 8, _, TX8, 3, rfl, rfl⟩)⟩
theorem ck_RX11_473_1377 : COK2 RX11 vwCl gTbl 473 0 con_1377 := ⟨wd_1218, wd_131, mh_X8_at, .inr (.inr ⟨rfl, wd_1215, wd_1216, wd_1217, ⟨_, rfl, pd_X8_at⟩, 8, _, TX8, 3, rfl, rfl⟩)⟩
theorem ck_RX11_473_1380 : COK2 RX11 vwCl gTbl 473 0 con_1380 := ⟨wd_1218, wd_131, mh_X8_at, .inr (.inr ⟨rfl, wd_1215, wd_1216, wd_1217, ⟨_, rfl, pd_X8_at⟩, 8, _, TX8, 3, rfl, rfl⟩)⟩
theorem ck_RX11_420_1322 : COK2 RX11 vwCl gTbl 420 0 con_1322 := ⟨wd_1214, wd_131, mh_X8_hasRow, .inr (.inr ⟨rfl, wd_1211, wd_1212, wd_1213, ⟨_, rfl, pd_X8_hasRow⟩, 8, _, TX8, 3, rfl, rfl⟩)⟩
theorem ck_RX11_414_1321 : COK2 RX11 vwCl gTbl 414 1 con_1321 := ⟨wd_1210, wd_131, mh_X8_isSlot, .inl ⟨rfl, wd_1208, wd_1209, pd_X8_isSlot⟩⟩
noncomputable def ct_1383 : CTB2 := [(1, 414, 1, con_1321, []), (9, 139, 0, con_643, [0, 1, 2]), (23, 420, 0, con_1322, [3, 4]), (67, 473, 0, con_1380, [3, 5]), (67, 473, 0, con_1377, [3, 5]), (67, 473, 0, con_1374, [3, 5]), (67, 473, 0, con_1371, [3, 5]), (67, 473, 0, con_1368, [3, 5]), (67, 473, 0, con_1365, [3, 5]), (67, 473, 0, con_1362, [3, 5]), (67, 473, 0, con_1359, [3, 5]), (67, 473, 0, con_1356, [3, 5]), (67, 473, 0, con_1353, [3, 5]), (67, 473, 0, con_1350, [3, 5]), (67, 473, 0, con_1347, [3, 5]), (67, 473, 0, con_1344, [3, 5]), (67, 473, 0, con_1341, [3, 5]), (67, 473, 0, con_1338, [3, 5]), (67, 473, 0, con_1335, [3, 5]), (67, 473, 0, con_1332, [3, 5]), (67, 473, 0, con_1329, [3, 5]), (67, 473, 0, con_1326, [3, 5]), (67, 473, 0, con_1323, [3, 5]), (82, 476, 1, con_1258, []), (97, 473, 0, con_1381, [3, 5]), (97, 473, 0, con_1378, [3, 5]), (97, 473, 0, con_1375, [3, 5]), (97, 473, 0, con_1372, [3, 5]), (97, 473, 0, con_1369, [3, 5]), (97, 473, 0, con_1366, [3, 5]), (97, 473, 0, con_1363, [3, 5]), (97, 473, 0, con_1360, [3, 5]), (97, 473, 0, con_1357, [3, 5]), (97, 473, 0, con_1354, [3, 5]), (97, 473, 0, con_1351, [3, 5]), (97, 473, 0, con_1348, [3, 5]), (97, 473, 0, con_1345, [3, 5]), (97, 473, 0, con_1342, [3, 5]), (97, 473, 0, con_1339, [3, 5]), (97, 473, 0, con_1336, [3, 5]), (97, 473, 0, con_1333, [3, 5]), (97, 473, 0, con_1330, [3, 5]), (97, 473, 0, con_1327, [3, 5]), (97, 473, 0, con_1324, [3, 5]), (110, 476, 1, con_1260, []), (125, 473, 0, con_1382, [3, 5]), (125, 473, 0, con_1379, [3, 5]), (125, 473, 0, con_1376, [3, 5]), (125, 473, 0, con_1373, [3, 5]), (125, 473, 0, con_1370, [3, 5]), (125, 473, 0, con_1367, [3, 5]), (125, 473, 0, con_1364, [3, 5]), (125, 473, 0, con_1361, [3, 5]), (125, 473, 0, con_1358, [3, 5]), (125, 473, 0, con_1355, [3, 5]), (125, 473, 0, con_1352, [3, 5]), (125, 473, 0, con_1349, [3, 5]), (125, 473, 0, con_1346, [3, 5]), (125, 473, 0, con_1343, [3, 5]), (125, 473, 0, con_1340, [3, 5]), (125, 473, 0, con_1337, [3, 5]), (125, 473, 0, con_1334, [3, 5]), (125, 473, 0, con_1331, [3, 5]), (125, 473, 0, con_1328, [3, 5]), (125, 473, 0, con_1325, [3, 5]), (131, 476, 1, con_1262, [])]
noncomputable def gi_1002 : GI := jl_n [jl_z 2, jl_i 0 4, jl_z 19, jl_i 0 16, jl_z 2, jl_i 1 5, jl_z 15, jl_r 2 (jl_m 0 60), jl_i 0 60, jl_m 0 60, jl_r 60 (jl_u), jl_z 5]
noncomputable def gi_1003 : GI := jl_n [jl_z 2, jl_i 0 4, jl_z 19, jl_i 0 16, jl_z 2, jl_i 1 5, jl_z 15, jl_r 2 (jl_m 0 60), jl_i 1 60, jl_m 0 60, jl_i 0 4, jl_i 0 16, jl_i 0 250, jl_r 57 (jl_u), jl_z 5]
noncomputable def gi_1004 : GI := jl_n [jl_z 2, jl_i 0 4, jl_z 19, jl_i 0 16, jl_z 2, jl_i 1 5, jl_z 15, jl_r 2 (jl_m 0 60), jl_i 4 60, jl_m 0 60, jl_i 0 4, jl_i 0 16, jl_i 0 250, jl_i 0 4, jl_i 0 16, jl_i 0 250, jl_r 54 (jl_u), jl_z 5]
noncomputable def gi_1005 : GI := jl_n [jl_z 2, jl_i 0 4, jl_z 19, jl_i 0 16, jl_z 2, jl_i 1 5, jl_z 15, jl_r 2 (jl_m 0 60), jl_i 7 60, jl_m 0 60, jl_i 0 4, jl_i 0 16, jl_i 0 250, jl_i 0 4, jl_i 0 16, jl_i 0 250, jl_i 0 4, jl_i 0 16, jl_i 0 250, jl_r 51 (jl_u), jl_z 5]
noncomputable def gi_1006 : GI := jl_n [jl_z 2, jl_i 0 4, jl_z 19, jl_i 0 16, jl_z 2, jl_i 1 5, jl_z 15, jl_r 2 (jl_m 0 60), jl_i 10 60, jl_m 0 60, jl_i 0 4, jl_i 0 16, jl_i 0 250, jl_i 0 4, jl_i 0 16, jl_i 0 250, jl_i 0 4, jl_i 0 16, jl_i 0 250, jl_i 0 4, jl_i 0 16, jl_i 0 250, jl_r 48 (jl_u), jl_z 5]
noncomputable def gi_1007 : GI := jl_n [jl_z 2, jl_i 0 4, jl_z 19, jl_i 0 16, jl_z 2, jl_i 1 5, jl_z 15, jl_r 2 (jl_m 0 60), jl_i 13 60, jl_m 0 60, jl_i 0 4, jl_i 0 16, jl_i 0 250, jl_i 0 4, jl_i 0 16, jl_i 0 250, jl_i 0 4, jl_i 0 16, jl_i 0 250, jl_i 0 4, jl_i 0 16, jl_i 0 250, jl_i 0 4, jl_i 0 16, jl_i 0 250, jl_r 45 (jl_u), jl_z 5]
noncomputable def gi_1008 : GI := jl_n [jl_z 2, jl_i 0 4, jl_z 19, jl_i 0 16, jl_z 2, jl_i 1 5, jl_z 15, jl_r 2 (jl_m 0 60), jl_i 16 60, jl_m 0 60, jl_i 0 4, jl_i 0 16, jl_i 0 250, jl_i 0 4, jl_i 0 16, jl_i 0 250, jl_i 0 4, jl_i 0 16, jl_i 0 250, jl_i 0 4, jl_i 0 16, jl_i 0 250, jl_i 0 4, jl_i 0 16, jl_i 0 250, jl_i 0 4, jl_i 0 16, jl_i 0 250, jl_r 42 (jl_u), jl_z 5]
noncomputable def gi_1009 : GI := jl_n [jl_z 2, jl_i 0 4, jl_z 19, jl_i 0 16, jl_z 2, jl_i 1 5, jl_z 15, jl_r 2 (jl_m 0 60), jl_i 19 60, jl_m 0 60, jl_i 0 4, jl_i 0 16, jl_i 0 250, jl_i 0 4, jl_i 0 16, jl_i 0 250, jl_i 0 4, jl_i 0 16, jl_i 0 250, jl_i 0 4, jl_i 0 16, jl_i 0 250, jl_i 0 4, jl_i 0 16, jl_i 0 250, jl_i 0 4, jl_i 0 16, jl_i 0 250, jl_i 0 4, jl_i 0 16, jl_i 0 250, jl_r 39 (jl_u), jl_z 5]
noncomputable def gi_1010 : GI := jl_n [jl_z 2, jl_i 0 4, jl_z 19, jl_i 0 16, jl_z 2, jl_i 1 5, jl_z 15, jl_r 2 (jl_m 0 60), jl_i 22 60, jl_m 0 60, jl_i 0 4, jl_i 0 16, jl_i 0 250, jl_i 0 4, jl_i 0 16, jl_i 0 250, jl_i 0 4, jl_i 0 16, jl_i 0 250, jl_i 0 4, jl_i 0 16, jl_i 0 250, jl_i 0 4, jl_i 0 16, jl_i 0 250, jl_i 0 4, jl_i 0 16, jl_i 0 250, jl_i 0 4, jl_i 0 16, jl_i 0 250, jl_i 0 4, jl_i 0 16, jl_i 0 250, jl_r 36 (jl_u), jl_z 5]
noncomputable def gi_1011 : GI := jl_n [jl_z 2, jl_i 0 4, jl_z 19, jl_i 0 16, jl_z 2, jl_i 1 5, jl_z 15, jl_r 2 (jl_m 0 60), jl_i 25 60, jl_m 0 60, jl_i 0 4, jl_i 0 16, jl_i 0 250, jl_i 0 4, jl_i 0 16, jl_i 0 250, jl_i 0 4, jl_i 0 16, jl_i 0 250, jl_i 0 4, jl_i 0 16, jl_i 0 250, jl_i 0 4, jl_i 0 16, jl_i 0 250, jl_i 0 4, jl_i 0 16, jl_i 0 250, jl_i 0 4, jl_i 0 16, jl_i 0 250, jl_i 0 4, jl_i 0 16, jl_i 0 250, jl_i 0 4, jl_i 0 16, jl_i 0 250, jl_r 33 (jl_u), jl_z 5]
noncomputable def gi_1012 : GI := jl_n [jl_z 2, jl_i 0 4, jl_z 19, jl_i 0 16, jl_z 2, jl_i 1 5, jl_z 15, jl_r 2 (jl_m 0 60), jl_i 28 60, jl_m 0 60, jl_i 0 4, jl_i 0 16, jl_i 0 250, jl_i 0 4, jl_i 0 16, jl_i 0 250, jl_i 0 4, jl_i 0 16, jl_i 0 250, jl_i 0 4, jl_i 0 16, jl_i 0 250, jl_i 0 4, jl_i 0 16, jl_i 0 250, jl_i 0 4, jl_i 0 16, jl_i 0 250, jl_i 0 4, jl_i 0 16, jl_i 0 250, jl_i 0 4, jl_i 0 16, jl_i 0 250, jl_i 0 4, jl_i 0 16, jl_i 0 250, jl_i 0 4, jl_i 0 16, jl_i 0 250, jl_r 30 (jl_u), jl_z 5]
noncomputable def gi_1013 : GI := jl_n [jl_z 2, jl_i 0 4, jl_z 19, jl_i 0 16, jl_z 2, jl_i 1 5, jl_z 15, jl_r 2 (jl_m 0 60), jl_i 31 60, jl_m 0 60, jl_i 0 4, jl_i 0 16, jl_i 0 250, jl_i 0 4, jl_i 0 16, jl_i 0 250, jl_i 0 4, jl_i 0 16, jl_i 0 250, jl_i 0 4, jl_i 0 16, jl_i 0 250, jl_i 0 4, jl_i 0 16, jl_i 0 250, jl_i 0 4, jl_i 0 16, jl_i 0 250, jl_i 0 4, jl_i 0 16, jl_i 0 250, jl_i 0 4, jl_i 0 16, jl_i 0 250, jl_i 0 4, jl_i 0 16, jl_i 0 250, jl_i 0 4, jl_i 0 16, jl_i 0 250, jl_i 0 4, jl_i 0 16, jl_i 0 250, jl_r 27 (jl_u), jl_z 5]
noncomputable def gi_1014 : GI := jl_n [jl_z 2, jl_i 0 4, jl_z 19, jl_i 0 16, jl_z 2, jl_i 1 5, jl_z 15, jl_r 2 (jl_m 0 60), jl_i 34 60, jl_m 0 60, jl_i 0 4, jl_i 0 16, jl_i 0 250, jl_i 0 4, jl_i 0 16, jl_i 0 250, jl_i 0 4, jl_i 0 16, jl_i 0 250, jl_i 0 4, jl_i 0 16, jl_i 0 250, jl_i 0 4, jl_i 0 16, jl_i 0 250, jl_i 0 4, jl_i 0 16, jl_i 0 250, jl_i 0 4, jl_i 0 16, jl_i 0 250, jl_i 0 4, jl_i 0 16, jl_i 0 250, jl_i 0 4, jl_i 0 16, jl_i 0 250, jl_i 0 4, jl_i 0 16, jl_i 0 250, jl_i 0 4, jl_i 0 16, jl_i 0 250, jl_i 0 4, jl_i 0 16, jl_i 0 250, jl_r 24 (jl_u), jl_z 5]
noncomputable def gi_1015 : GI := jl_n [jl_z 2, jl_i 0 4, jl_z 19, jl_i 0 16, jl_z 2, jl_i 1 5, jl_z 15, jl_r 2 (jl_m 0 60), jl_i 37 60, jl_m 0 60, jl_i 0 4, jl_i 0 16, jl_i 0 250, jl_i 0 4, jl_i 0 16, jl_i 0 250, jl_i 0 4, jl_i 0 16, jl_i 0 250, jl_i 0 4, jl_i 0 16, jl_i 0 250, jl_i 0 4, jl_i 0 16, jl_i 0 250, jl_i 0 4, jl_i 0 16, jl_i 0 250, jl_i 0 4, jl_i 0 16, jl_i 0 250, jl_i 0 4, jl_i 0 16, jl_i 0 250, jl_i 0 4, jl_i 0 16, jl_i 0 250, jl_i 0 4, jl_i 0 16, jl_i 0 250, jl_i 0 4, jl_i 0 16, jl_i 0 250, jl_i 0 4, jl_i 0 16, jl_i 0 250, jl_i 0 4, jl_i 0 16, jl_i 0 250, jl_r 21 (jl_u), jl_z 5]
noncomputable def gi_1016 : GI := jl_n [jl_z 2, jl_i 0 4, jl_z 19, jl_i 0 16, jl_z 2, jl_i 1 5, jl_z 15, jl_r 2 (jl_m 0 60), jl_i 40 60, jl_m 0 60, jl_i 0 4, jl_i 0 16, jl_i 0 250, jl_i 0 4, jl_i 0 16, jl_i 0 250, jl_i 0 4, jl_i 0 16, jl_i 0 250, jl_i 0 4, jl_i 0 16, jl_i 0 250, jl_i 0 4, jl_i 0 16, jl_i 0 250, jl_i 0 4, jl_i 0 16, jl_i 0 250, jl_i 0 4, jl_i 0 16, jl_i 0 250, jl_i 0 4, jl_i 0 16, jl_i 0 250, jl_i 0 4, jl_i 0 16, jl_i 0 250, jl_i 0 4, jl_i 0 16, jl_i 0 250, jl_i 0 4, jl_i 0 16, jl_i 0 250, jl_i 0 4, jl_i 0 16, jl_i 0 250, jl_i 0 4, jl_i 0 16, jl_i 0 250, jl_i 0 4, jl_i 0 16, jl_i 0 250, jl_r 18 (jl_u), jl_z 5]
noncomputable def gi_1017 : GI := jl_n [jl_z 2, jl_i 0 4, jl_z 19, jl_i 0 16, jl_z 2, jl_i 1 5, jl_z 15, jl_r 2 (jl_m 0 60), jl_i 43 60, jl_m 0 60, jl_i 0 4, jl_i 0 16, jl_i 0 250, jl_i 0 4, jl_i 0 16, jl_i 0 250, jl_i 0 4, jl_i 0 16, jl_i 0 250, jl_i 0 4, jl_i 0 16, jl_i 0 250, jl_i 0 4, jl_i 0 16, jl_i 0 250, jl_i 0 4, jl_i 0 16, jl_i 0 250, jl_i 0 4, jl_i 0 16, jl_i 0 250, jl_i 0 4, jl_i 0 16, jl_i 0 250, jl_i 0 4, jl_i 0 16, jl_i 0 250, jl_i 0 4, jl_i 0 16, jl_i 0 250, jl_i 0 4, jl_i 0 16, jl_i 0 250, jl_i 0 4, jl_i 0 16, jl_i 0 250, jl_i 0 4, jl_i 0 16, jl_i 0 250, jl_i 0 4, jl_i 0 16, jl_i 0 250, jl_i 0 4, jl_i 0 16, jl_i 0 250, jl_r 15 (jl_u), jl_z 5]
noncomputable def gi_1018 : GI := jl_n [jl_z 2, jl_i 0 4, jl_z 19, jl_i 0 16, jl_z 2, jl_i 1 5, jl_z 15, jl_r 2 (jl_m 0 60), jl_i 46 60, jl_m 0 60, jl_i 0 4, jl_i 0 16, jl_i 0 250, jl_i 0 4, jl_i 0 16, jl_i 0 250, jl_i 0 4, jl_i 0 16, jl_i 0 250, jl_i 0 4, jl_i 0 16, jl_i 0 250, jl_i 0 4, jl_i 0 16, jl_i 0 250, jl_i 0 4, jl_i 0 16, jl_i 0 250, jl_i 0 4, jl_i 0 16, jl_i 0 250, jl_i 0 4, jl_i 0 16, jl_i 0 250, jl_i 0 4, jl_i 0 16, jl_i 0 250, jl_i 0 4, jl_i 0 16, jl_i 0 250, jl_i 0 4, jl_i 0 16, jl_i 0 250, jl_i 0 4, jl_i 0 16, jl_i 0 250, jl_i 0 4, jl_i 0 16, jl_i 0 250, jl_i 0 4, jl_i 0 16, jl_i 0 250, jl_i 0 4, jl_i 0 16, jl_i 0 250, jl_i 0 4, jl_i 0 16, jl_i 0 250, jl_r 12 (jl_u), jl_z 5]
noncomputable def gi_1019 : GI := jl_n [jl_z 2, jl_i 0 4, jl_z 19, jl_i 0 16, jl_z 2, jl_i 1 5, jl_z 15, jl_r 2 (jl_m 0 60), jl_i 49 60, jl_m 0 60, jl_i 0 4, jl_i 0 16, jl_i 0 250, jl_i 0 4, jl_i 0 16, jl_i 0 250, jl_i 0 4, jl_i 0 16, jl_i 0 250, jl_i 0 4, jl_i 0 16, jl_i 0 250, jl_i 0 4, jl_i 0 16, jl_i 0 250, jl_i 0 4, jl_i 0 16, jl_i 0 250, jl_i 0 4, jl_i 0 16, jl_i 0 250, jl_i 0 4, jl_i 0 16, jl_i 0 250, jl_i 0 4, jl_i 0 16, jl_i 0 250, jl_i 0 4, jl_i 0 16, jl_i 0 250, jl_i 0 4, jl_i 0 16, jl_i 0 250, jl_i 0 4, jl_i 0 16, jl_i 0 250, jl_i 0 4, jl_i 0 16, jl_i 0 250, jl_i 0 4, jl_i 0 16, jl_i 0 250, jl_i 0 4, jl_i 0 16, jl_i 0 250, jl_i 0 4, jl_i 0 16, jl_i 0 250, jl_i 0 4, jl_i 0 16, jl_i 0 250, jl_r 9 (jl_u), jl_z 5]
noncomputable def gi_1020 : GI := jl_n [jl_z 2, jl_i 0 4, jl_z 19, jl_i 0 16, jl_z 2, jl_i 1 5, jl_z 15, jl_r 2 (jl_m 0 60), jl_i 52 60, jl_m 0 60, jl_i 0 4, jl_i 0 16, jl_i 0 250, jl_i 0 4, jl_i 0 16, jl_i 0 250, jl_i 0 4, jl_i 0 16, jl_i 0 250, jl_i 0 4, jl_i 0 16, jl_i 0 250, jl_i 0 4, jl_i 0 16, jl_i 0 250, jl_i 0 4, jl_i 0 16, jl_i 0 250, jl_i 0 4, jl_i 0 16, jl_i 0 250, jl_i 0 4, jl_i 0 16, jl_i 0 250, jl_i 0 4, jl_i 0 16, jl_i 0 250, jl_i 0 4, jl_i 0 16, jl_i 0 250, jl_i 0 4, jl_i 0 16, jl_i 0 250, jl_i 0 4, jl_i 0 16, jl_i 0 250, jl_i 0 4, jl_i 0 16, jl_i 0 250, jl_i 0 4, jl_i 0 16, jl_i 0 250, jl_i 0 4, jl_i 0 16, jl_i 0 250, jl_i 0 4, jl_i 0 16, jl_i 0 250, jl_i 0 4, jl_i 0 16, jl_i 0 250, jl_i 0 4, jl_i 0 16, jl_i 0 250, jl_r 6 (jl_u), jl_z 5]
noncomputable def gi_1021 : GI := jl_n [jl_z 2, jl_i 0 4, jl_z 19, jl_i 0 16, jl_z 2, jl_i 1 5, jl_z 15, jl_r 2 (jl_m 0 60), jl_i 55 60, jl_m 0 60, jl_i 0 4, jl_i 0 16, jl_i 0 250, jl_i 0 4, jl_i 0 16, jl_i 0 250, jl_i 0 4, jl_i 0 16, jl_i 0 250, jl_i 0 4, jl_i 0 16, jl_i 0 250, jl_i 0 4, jl_i 0 16, jl_i 0 250, jl_i 0 4, jl_i 0 16, jl_i 0 250, jl_i 0 4, jl_i 0 16, jl_i 0 250, jl_i 0 4, jl_i 0 16, jl_i 0 250, jl_i 0 4, jl_i 0 16, jl_i 0 250, jl_i 0 4, jl_i 0 16, jl_i 0 250, jl_i 0 4, jl_i 0 16, jl_i 0 250, jl_i 0 4, jl_i 0 16, jl_i 0 250, jl_i 0 4, jl_i 0 16, jl_i 0 250, jl_i 0 4, jl_i 0 16, jl_i 0 250, jl_i 0 4, jl_i 0 16, jl_i 0 250, jl_i 0 4, jl_i 0 16, jl_i 0 250, jl_i 0 4, jl_i 0 16, jl_i 0 250, jl_i 0 4, jl_i 0 16, jl_i 0 250, jl_i 0 4, jl_i 0 16, jl_i 0 250, jl_r 3 (jl_u), jl_z 5]
noncomputable def gi_1022 : GI := jl_n [jl_z 2, jl_i 0 4, jl_z 19, jl_i 0 16, jl_z 2, jl_i 1 5, jl_z 15, jl_r 2 (jl_m 0 60), jl_i 58 60, jl_m 0 60, jl_i 0 4, jl_i 0 16, jl_i 0 250, jl_i 0 4, jl_i 0 16, jl_i 0 250, jl_i 0 4, jl_i 0 16, jl_i 0 250, jl_i 0 4, jl_i 0 16, jl_i 0 250, jl_i 0 4, jl_i 0 16, jl_i 0 250, jl_i 0 4, jl_i 0 16, jl_i 0 250, jl_i 0 4, jl_i 0 16, jl_i 0 250, jl_i 0 4, jl_i 0 16, jl_i 0 250, jl_i 0 4, jl_i 0 16, jl_i 0 250, jl_i 0 4, jl_i 0 16, jl_i 0 250, jl_i 0 4, jl_i 0 16, jl_i 0 250, jl_i 0 4, jl_i 0 16, jl_i 0 250, jl_i 0 4, jl_i 0 16, jl_i 0 250, jl_i 0 4, jl_i 0 16, jl_i 0 250, jl_i 0 4, jl_i 0 16, jl_i 0 250, jl_i 0 4, jl_i 0 16, jl_i 0 250, jl_i 0 4, jl_i 0 16, jl_i 0 250, jl_i 0 4, jl_i 0 16, jl_i 0 250, jl_i 0 4, jl_i 0 16, jl_i 0 250, jl_i 0 4, jl_i 0 16, jl_i 0 250, jl_z 5]
noncomputable def cu_1383_0 : List CUT2 := [((54, [(0, (6, 0, 0)), (1, (0, 2, 0)), (2, (1, 2, 0)), (3, (1, 43, 0)), (4, (0, 0, 0))], [], gi_1002, hq_762), [], ([], 60)), ((54, [(0, (6, 0, 0)), (1, (0, 2, 0)), (2, (1, 2, 0)), (3, (1, 43, 0)), (4, (0, 3, 0))], [], gi_1003, hq_762), [], ([], 57)), ((54, [(0, (6, 0, 0)), (1, (0, 2, 0)), (2, (1, 2, 0)), (3, (1, 43, 0)), (4, (0, 6, 0))], [], gi_1004, hq_762), [], ([], 54)), ((54, [(0, (6, 0, 0)), (1, (0, 2, 0)), (2, (1, 2, 0)), (3, (1, 43, 0)), (4, (0, 9, 0))], [], gi_1005, hq_762), [], ([], 51)), ((54, [(0, (6, 0, 0)), (1, (0, 2, 0)), (2, (1, 2, 0)), (3, (1, 43, 0)), (4, (0, 12, 0))], [], gi_1006, hq_762), [], ([], 48)), ((54, [(0, (6, 0, 0)), (1, (0, 2, 0)), (2, (1, 2, 0)), (3, (1, 43, 0)), (4, (0, 15, 0))], [], gi_1007, hq_762), [], ([], 45)), ((54, [(0, (6, 0, 0)), (1, (0, 2, 0)), (2, (1, 2, 0)), (3, (1, 43, 0)), (4, (0, 18, 0))], [], gi_1008, hq_762), [], ([], 42)), ((54, [(0, (6, 0, 0)), (1, (0, 2, 0)), (2, (1, 2, 0)), (3, (1, 43, 0)), (4, (0, 21, 0))], [], gi_1009, hq_762), [], ([], 39)), ((54, [(0, (6, 0, 0)), (1, (0, 2, 0)), (2, (1, 2, 0)), (3, (1, 43, 0)), (4, (0, 24, 0))], [], gi_1010, hq_762), [], ([], 36)), ((54, [(0, (6, 0, 0)), (1, (0, 2, 0)), (2, (1, 2, 0)), (3, (1, 43, 0)), (4, (0, 27, 0))], [], gi_1011, hq_762), [], ([], 33)), ((54, [(0, (6, 0, 0)), (1, (0, 2, 0)), (2, (1, 2, 0)), (3, (1, 43, 0)), (4, (0, 30, 0))], [], gi_1012, hq_762), [], ([], 30)), ((54, [(0, (6, 0, 0)), (1, (0, 2, 0)), (2, (1, 2, 0)), (3, (1, 43, 0)), (4, (0, 33, 0))], [], gi_1013, hq_762), [], ([], 27)), ((54, [(0, (6, 0, 0)), (1, (0, 2, 0)), (2, (1, 2, 0)), (3, (1, 43, 0)), (4, (0, 36, 0))], [], gi_1014, hq_762), [], ([], 24))]
noncomputable def cu_1383_1 : List CUT2 := [((54, [(0, (6, 0, 0)), (1, (0, 2, 0)), (2, (1, 2, 0)), (3, (1, 43, 0)), (4, (0, 39, 0))], [], gi_1015, hq_762), [], ([], 21)), ((54, [(0, (6, 0, 0)), (1, (0, 2, 0)), (2, (1, 2, 0)), (3, (1, 43, 0)), (4, (0, 42, 0))], [], gi_1016, hq_762), [], ([], 18)), ((54, [(0, (6, 0, 0)), (1, (0, 2, 0)), (2, (1, 2, 0)), (3, (1, 43, 0)), (4, (0, 45, 0))], [], gi_1017, hq_762), [], ([], 15)), ((54, [(0, (6, 0, 0)), (1, (0, 2, 0)), (2, (1, 2, 0)), (3, (1, 43, 0)), (4, (0, 48, 0))], [], gi_1018, hq_762), [], ([], 12)), ((54, [(0, (6, 0, 0)), (1, (0, 2, 0)), (2, (1, 2, 0)), (3, (1, 43, 0)), (4, (0, 51, 0))], [], gi_1019, hq_762), [], ([], 9)), ((54, [(0, (6, 0, 0)), (1, (0, 2, 0)), (2, (1, 2, 0)), (3, (1, 43, 0)), (4, (0, 54, 0))], [], gi_1020, hq_762), [], ([], 6)), ((54, [(0, (6, 0, 0)), (1, (0, 2, 0)), (2, (1, 2, 0)), (3, (1, 43, 0)), (4, (0, 57, 0))], [], gi_1021, hq_762), [], ([], 3)), ((54, [(0, (6, 0, 0)), (1, (0, 2, 0)), (2, (1, 2, 0)), (3, (1, 43, 0)), (4, (0, 60, 0))], [], gi_1022, hq_762), [], ([], 0))]
noncomputable def cu_1383 : List CUT2 := cu_1383_0 ++ (cu_1383_1)
theorem ch_1383 : staG tb_X11_wrongSeen 1 bt_RX11 [] ct_1383 [] [] cu_1383 44 con_1383 = true := by decide +kernel
theorem cc_1383_0 : cu_1383_0.all (cutG tb_X11_wrongSeen 1 bt_RX11 [] ct_1383 [] [] cu_1383 44 con_1383) = true := by decide +kernel
theorem cc_1383_1 : cu_1383_1.all (cutG tb_X11_wrongSeen 1 bt_RX11 [] ct_1383 [] [] cu_1383 44 con_1383) = true := by decide +kernel
theorem cto_1383 (l : Launch) : CTOK2 l RX11 vwCl gTbl ct_1383 := ct2_cons (vl_1321 l) ck_RX11_414_1321 (ct2_cons (vl_643 l) ck_RX11_139_643 (ct2_cons (vl_1322 l) ck_RX11_420_1322 (ct2_cons (vl_1380 l) ck_RX11_473_1380 (ct2_cons (vl_1377 l) ck_RX11_473_1377 (ct2_cons (vl_1374 l) ck_RX11_473_1374 (ct2_cons (vl_1371 l) ck_RX11_473_1371 (ct2_cons (vl_1368 l) ck_RX11_473_1368 (ct2_cons (vl_1365 l) ck_RX11_473_1365 (ct2_cons (vl_1362 l) ck_RX11_473_1362 (ct2_cons (vl_1359 l) ck_RX11_473_1359 (ct2_cons (vl_1356 l) ck_RX11_473_1356 (ct2_cons (vl_1353 l) ck_RX11_473_1353 (ct2_cons (vl_1350 l) ck_RX11_473_1350 (ct2_cons (vl_1347 l) ck_RX11_473_1347 (ct2_cons (vl_1344 l) ck_RX11_473_1344 (ct2_cons (vl_1341 l) ck_RX11_473_1341 (ct2_cons (vl_1338 l) ck_RX11_473_1338 (ct2_cons (vl_1335 l) ck_RX11_473_1335 (ct2_cons (vl_1332 l) ck_RX11_473_1332 (ct2_cons (vl_1329 l) ck_RX11_473_1329 (ct2_cons (vl_1326 l) ck_RX11_473_1326 (ct2_cons (vl_1323 l) ck_RX11_473_1323 (ct2_cons (vl_1258 l) ck_RX11_476_1258 (ct2_cons (vl_1381 l) ck_RX11_473_1381 (ct2_cons (vl_1378 l) ck_RX11_473_1378 (ct2_cons (vl_1375 l) ck_RX11_473_1375 (ct2_cons (vl_1372 l) ck_RX11_473_1372 (ct2_cons (vl_1369 l) ck_RX11_473_1369 (ct2_cons (vl_1366 l) ck_RX11_473_1366 (ct2_cons (vl_1363 l) ck_RX11_473_1363 (ct2_cons (vl_1360 l) ck_RX11_473_1360 (ct2_cons (vl_1357 l) ck_RX11_473_1357 (ct2_cons (vl_1354 l) ck_RX11_473_1354 (ct2_cons (vl_1351 l) ck_RX11_473_1351 (ct2_cons (vl_1348 l) ck_RX11_473_1348 (ct2_cons (vl_1345 l) ck_RX11_473_1345 (ct2_cons (vl_1342 l) ck_RX11_473_1342 (ct2_cons (vl_1339 l) ck_RX11_473_1339 (ct2_cons (vl_1336 l) ck_RX11_473_1336 (ct2_cons (vl_1333 l) ck_RX11_473_1333 (ct2_cons (vl_1330 l) ck_RX11_473_1330 (ct2_cons (vl_1327 l) ck_RX11_473_1327 (ct2_cons (vl_1324 l) ck_RX11_473_1324 (ct2_cons (vl_1260 l) ck_RX11_476_1260 (ct2_cons (vl_1382 l) ck_RX11_473_1382 (ct2_cons (vl_1379 l) ck_RX11_473_1379 (ct2_cons (vl_1376 l) ck_RX11_473_1376 (ct2_cons (vl_1373 l) ck_RX11_473_1373 (ct2_cons (vl_1370 l) ck_RX11_473_1370 (ct2_cons (vl_1367 l) ck_RX11_473_1367 (ct2_cons (vl_1364 l) ck_RX11_473_1364 (ct2_cons (vl_1361 l) ck_RX11_473_1361 (ct2_cons (vl_1358 l) ck_RX11_473_1358 (ct2_cons (vl_1355 l) ck_RX11_473_1355 (ct2_cons (vl_1352 l) ck_RX11_473_1352 (ct2_cons (vl_1349 l) ck_RX11_473_1349 (ct2_cons (vl_1346 l) ck_RX11_473_1346 (ct2_cons (vl_1343 l) ck_RX11_473_1343 (ct2_cons (vl_1340 l) ck_RX11_473_1340 (ct2_cons (vl_1337 l) ck_RX11_473_1337 (ct2_cons (vl_1334 l) ck_RX11_473_1334 (ct2_cons (vl_1331 l) ck_RX11_473_1331 (ct2_cons (vl_1328 l) ck_RX11_473_1328 (ct2_cons (vl_1325 l) ck_RX11_473_1325 (ct2_cons (vl_1262 l) ck_RX11_476_1262 (ct2_nil))))))))))))))))))))))))))))))))))))))))))))))))))))))))))))))))))
theorem vl_1383 (l : Launch) : Vld2 l vwCl gTbl con_1383 := conR_ok3 gT_all (hd_1383) rfl pn_RX11 tk_X11_wrongSeen bo_RX11 xo_RX11 (cto_1383 l) ch_1383 (cut_app (cut_all cc_1383_0) (cut_all cc_1383_1))
/-- RookHusting$Slots isSlot -/
noncomputable def con_1384 : Con2 := ((yX8_isSlot, cX8_isSlot, 1, (some .boolean)), (0, 0), ([(0, 1, 0)], [(0, 0)], [], []), [((0, 1, 0), [(0, 0), (0, 0)], [], [], [1])])
theorem hd_1384 : con_1384.1 = (yX8_isSlot, cX8_isSlot, 1, (some .boolean)) := rfl
noncomputable def ct_1384 : CTB2 := []
noncomputable def cu_1384 : List CUT2 := []
theorem ch_1384 : staG tb_X8_isSlot 1 bt_RX8 [] ct_1384 [] [] cu_1384 10 con_1384 = true := by decide +kernel
theorem cto_1384 (l : Launch) : CTOK2 l RX8 vwCl gTbl ct_1384 := ct2_nil
theorem vl_1384 (l : Launch) : Vld2 l vwCl gTbl con_1384 := conR_ok3 gT_all (hd_1384) rfl pn_RX8 tk_X8_isSlot bo_RX8 xo_RX8 (cto_1384 l) ch_1384 cut_nil
/-- RookHusting$Slots hasRow -/
noncomputable def gi_1023 : GI := jl_n [jl_z 5, jl_m 0 60, jl_k 0 0, jl_r 2 (jl_m 0 60), jl_z 1]
noncomputable def gi_1024 : GI := jl_n [jl_z 5, jl_m 0 60, jl_i 0 60, jl_r 2 (jl_m 0 60), jl_z 1]
noncomputable def con_1385 : Con2 := ((yX8_hasRow, cX8_hasRow, 2, (some .boolean)), (0, 0), ([(6, 0, 0), (0, 1, 0)], gi_925, [.inl (8, [(8, 2, 0), (8, 3, 0), (6, 1, 0)]), ac_808], []), [((0, 0, 0), gi_1023, hq_640, [], [1]), ((0, 1, 0), gi_1024, hq_640, [], [1])])
theorem hd_1385 : con_1385.1 = (yX8_hasRow, cX8_hasRow, 2, (some .boolean)) := rfl
noncomputable def ct_1385 : CTB2 := []
noncomputable def cu_1385 : List CUT2 := []
theorem ch_1385 : staG tb_X8_hasRow 1 bt_RX8 [] ct_1385 [] [] cu_1385 11 con_1385 = true := by decide +kernel
theorem cto_1385 (l : Launch) : CTOK2 l RX8 vwCl gTbl ct_1385 := ct2_nil
theorem vl_1385 (l : Launch) : Vld2 l vwCl gTbl con_1385 := conR_ok3 gT_all (hd_1385) rfl pn_RX8 tk_X8_hasRow bo_RX8 xo_RX8 (cto_1385 l) ch_1385 cut_nil
/-- RookHusting$Slots at -/
noncomputable def ac_931 : AC := .inr (2, jl_n [js_5 60 9223372036854775807 9223372036854775807, js_4 7 1, js_5 179 9223372036854775807 9223372036854775807])
noncomputable def hq_763 : HP := [(false, .inl (8, [(6, 1, 0), (8, 4, 0), (8, 5, 0)])), (false, ac_931)]
noncomputable def con_1386 : Con2 := ((yX8_at, cX8_at, 3, (some .long)), (0, 0), ([(6, 0, 0), (0, 1, 0), (0, 0, 0)], gi_928, [.inl (8, [(6, 1, 0), (8, 4, 0), (8, 5, 0)]), ac_931], []), [((4, 6, 0), gi_929, hq_763, [], [1])])
theorem hd_1386 : con_1386.1 = (yX8_at, cX8_at, 3, (some .long)) := rfl
noncomputable def ct_1386 : CTB2 := []
noncomputable def cu_1386 : List CUT2 := []
theorem ch_1386 : staG tb_X8_at 1 bt_RX8 [] ct_1386 [] [] cu_1386 11 con_1386 = true := by decide +kernel
theorem cto_1386 (l : Launch) : CTOK2 l RX8 vwCl gTbl ct_1386 := ct2_nil
theorem vl_1386 (l : Launch) : Vld2 l vwCl gTbl con_1386 := conR_ok3 gT_all (hd_1386) rfl pn_RX8 tk_X8_at bo_RX8 xo_RX8 (cto_1386 l) ch_1386 cut_nil
/-- RookHusting$Slots at -/
noncomputable def ac_932 : AC := .inr (2, jl_n [js_5 61 9223372036854775807 9223372036854775807, js_4 7 1, js_5 178 9223372036854775807 9223372036854775807])
noncomputable def hq_764 : HP := [(false, .inl (8, [(6, 1, 0), (8, 4, 0), (8, 5, 0)])), (false, ac_932)]
noncomputable def con_1387 : Con2 := ((yX8_at, cX8_at, 3, (some .long)), (0, 0), ([(6, 0, 0), (0, 1, 0), (0, 1, 0)], gi_928, [.inl (8, [(6, 1, 0), (8, 4, 0), (8, 5, 0)]), ac_932], []), [((4, 6, 0), gi_929, hq_764, [], [1])])
theorem hd_1387 : con_1387.1 = (yX8_at, cX8_at, 3, (some .long)) := rfl
noncomputable def ct_1387 : CTB2 := []
noncomputable def cu_1387 : List CUT2 := []
theorem ch_1387 : staG tb_X8_at 1 bt_RX8 [] ct_1387 [] [] cu_1387 11 con_1387 = true := by decide +kernel
theorem cto_1387 (l : Launch) : CTOK2 l RX8 vwCl gTbl ct_1387 := ct2_nil
theorem vl_1387 (l : Launch) : Vld2 l vwCl gTbl con_1387 := conR_ok3 gT_all (hd_1387) rfl pn_RX8 tk_X8_at bo_RX8 xo_RX8 (cto_1387 l) ch_1387 cut_nil
/-- RookHusting$Slots at -/
noncomputable def ac_933 : AC := .inr (2, jl_n [js_5 62 9223372036854775807 9223372036854775807, js_4 7 1, js_5 177 9223372036854775807 9223372036854775807])
noncomputable def hq_765 : HP := [(false, .inl (8, [(6, 1, 0), (8, 4, 0), (8, 5, 0)])), (false, ac_933)]
noncomputable def con_1388 : Con2 := ((yX8_at, cX8_at, 3, (some .long)), (0, 0), ([(6, 0, 0), (0, 1, 0), (0, 2, 0)], gi_928, [.inl (8, [(6, 1, 0), (8, 4, 0), (8, 5, 0)]), ac_933], []), [((4, 6, 0), gi_929, hq_765, [], [1])])
theorem hd_1388 : con_1388.1 = (yX8_at, cX8_at, 3, (some .long)) := rfl
noncomputable def ct_1388 : CTB2 := []
noncomputable def cu_1388 : List CUT2 := []
theorem ch_1388 : staG tb_X8_at 1 bt_RX8 [] ct_1388 [] [] cu_1388 11 con_1388 = true := by decide +kernel
theorem cto_1388 (l : Launch) : CTOK2 l RX8 vwCl gTbl ct_1388 := ct2_nil
theorem vl_1388 (l : Launch) : Vld2 l vwCl gTbl con_1388 := conR_ok3 gT_all (hd_1388) rfl pn_RX8 tk_X8_at bo_RX8 xo_RX8 (cto_1388 l) ch_1388 cut_nil
/-- RookHusting$Slots at -/
noncomputable def ac_934 : AC := .inr (2, jl_n [js_5 63 9223372036854775807 9223372036854775807, js_4 7 1, js_5 176 9223372036854775807 9223372036854775807])
noncomputable def hq_766 : HP := [(false, .inl (8, [(6, 1, 0), (8, 4, 0), (8, 5, 0)])), (false, ac_934)]
noncomputable def con_1389 : Con2 := ((yX8_at, cX8_at, 3, (some .long)), (0, 0), ([(6, 0, 0), (0, 1, 0), (0, 3, 0)], gi_928, [.inl (8, [(6, 1, 0), (8, 4, 0), (8, 5, 0)]), ac_934], []), [((4, 6, 0), gi_929, hq_766, [], [1])])
theorem hd_1389 : con_1389.1 = (yX8_at, cX8_at, 3, (some .long)) := rfl
noncomputable def ct_1389 : CTB2 := []
noncomputable def cu_1389 : List CUT2 := []
theorem ch_1389 : staG tb_X8_at 1 bt_RX8 [] ct_1389 [] [] cu_1389 11 con_1389 = true := by decide +kernel
theorem cto_1389 (l : Launch) : CTOK2 l RX8 vwCl gTbl ct_1389 := ct2_nil
theorem vl_1389 (l : Launch) : Vld2 l vwCl gTbl con_1389 := conR_ok3 gT_all (hd_1389) rfl pn_RX8 tk_X8_at bo_RX8 xo_RX8 (cto_1389 l) ch_1389 cut_nil
/-- RookHusting$Slots at -/
noncomputable def ac_935 : AC := .inr (2, jl_n [js_5 64 9223372036854775807 9223372036854775807, js_4 7 1, js_5 175 9223372036854775807 9223372036854775807])
noncomputable def hq_767 : HP := [(false, .inl (8, [(6, 1, 0), (8, 4, 0), (8, 5, 0)])), (false, ac_935)]
noncomputable def con_1390 : Con2 := ((yX8_at, cX8_at, 3, (some .long)), (0, 0), ([(6, 0, 0), (0, 1, 0), (0, 4, 0)], gi_928, [.inl (8, [(6, 1, 0), (8, 4, 0), (8, 5, 0)]), ac_935], []), [((4, 6, 0), gi_929, hq_767, [], [1])])
theorem hd_1390 : con_1390.1 = (yX8_at, cX8_at, 3, (some .long)) := rfl
noncomputable def ct_1390 : CTB2 := []
noncomputable def cu_1390 : List CUT2 := []
theorem ch_1390 : staG tb_X8_at 1 bt_RX8 [] ct_1390 [] [] cu_1390 11 con_1390 = true := by decide +kernel
theorem cto_1390 (l : Launch) : CTOK2 l RX8 vwCl gTbl ct_1390 := ct2_nil
theorem vl_1390 (l : Launch) : Vld2 l vwCl gTbl con_1390 := conR_ok3 gT_all (hd_1390) rfl pn_RX8 tk_X8_at bo_RX8 xo_RX8 (cto_1390 l) ch_1390 cut_nil
/-- RookHusting$Slots at -/
noncomputable def ac_936 : AC := .inr (2, jl_n [js_5 65 9223372036854775807 9223372036854775807, js_4 7 1, js_5 174 9223372036854775807 9223372036854775807])
noncomputable def hq_768 : HP := [(false, .inl (8, [(6, 1, 0), (8, 4, 0), (8, 5, 0)])), (false, ac_936)]
noncomputable def con_1391 : Con2 := ((yX8_at, cX8_at, 3, (some .long)), (0, 0), ([(6, 0, 0), (0, 1, 0), (0, 5, 0)], gi_928, [.inl (8, [(6, 1, 0), (8, 4, 0), (8, 5, 0)]), ac_936], []), [((4, 6, 0), gi_929, hq_768, [], [1])])
theorem hd_1391 : con_1391.1 = (yX8_at, cX8_at, 3, (some .long)) := rfl
noncomputable def ct_1391 : CTB2 := []
noncomputable def cu_1391 : List CUT2 := []
theorem ch_1391 : staG tb_X8_at 1 bt_RX8 [] ct_1391 [] [] cu_1391 11 con_1391 = true := by decide +kernel
theorem cto_1391 (l : Launch) : CTOK2 l RX8 vwCl gTbl ct_1391 := ct2_nil
theorem vl_1391 (l : Launch) : Vld2 l vwCl gTbl con_1391 := conR_ok3 gT_all (hd_1391) rfl pn_RX8 tk_X8_at bo_RX8 xo_RX8 (cto_1391 l) ch_1391 cut_nil
/-- RookHusting$Slots at -/
noncomputable def ac_937 : AC := .inr (2, jl_n [js_5 66 9223372036854775807 9223372036854775807, js_4 7 1, js_5 173 9223372036854775807 9223372036854775807])
noncomputable def hq_769 : HP := [(false, .inl (8, [(6, 1, 0), (8, 4, 0), (8, 5, 0)])), (false, ac_937)]
noncomputable def con_1392 : Con2 := ((yX8_at, cX8_at, 3, (some .long)), (0, 0), ([(6, 0, 0), (0, 1, 0), (0, 6, 0)], gi_928, [.inl (8, [(6, 1, 0), (8, 4, 0), (8, 5, 0)]), ac_937], []), [((4, 6, 0), gi_929, hq_769, [], [1])])
theorem hd_1392 : con_1392.1 = (yX8_at, cX8_at, 3, (some .long)) := rfl
noncomputable def ct_1392 : CTB2 := []
noncomputable def cu_1392 : List CUT2 := []
theorem ch_1392 : staG tb_X8_at 1 bt_RX8 [] ct_1392 [] [] cu_1392 11 con_1392 = true := by decide +kernel
theorem cto_1392 (l : Launch) : CTOK2 l RX8 vwCl gTbl ct_1392 := ct2_nil
theorem vl_1392 (l : Launch) : Vld2 l vwCl gTbl con_1392 := conR_ok3 gT_all (hd_1392) rfl pn_RX8 tk_X8_at bo_RX8 xo_RX8 (cto_1392 l) ch_1392 cut_nil
/-- RookHusting$Slots at -/
noncomputable def ac_938 : AC := .inr (2, jl_n [js_5 67 9223372036854775807 9223372036854775807, js_4 7 1, js_5 172 9223372036854775807 9223372036854775807])
noncomputable def hq_770 : HP := [(false, .inl (8, [(6, 1, 0), (8, 4, 0), (8, 5, 0)])), (false, ac_938)]
noncomputable def con_1393 : Con2 := ((yX8_at, cX8_at, 3, (some .long)), (0, 0), ([(6, 0, 0), (0, 1, 0), (0, 7, 0)], gi_928, [.inl (8, [(6, 1, 0), (8, 4, 0), (8, 5, 0)]), ac_938], []), [((4, 6, 0), gi_929, hq_770, [], [1])])
theorem hd_1393 : con_1393.1 = (yX8_at, cX8_at, 3, (some .long)) := rfl
noncomputable def ct_1393 : CTB2 := []
noncomputable def cu_1393 : List CUT2 := []
theorem ch_1393 : staG tb_X8_at 1 bt_RX8 [] ct_1393 [] [] cu_1393 11 con_1393 = true := by decide +kernel
theorem cto_1393 (l : Launch) : CTOK2 l RX8 vwCl gTbl ct_1393 := ct2_nil
theorem vl_1393 (l : Launch) : Vld2 l vwCl gTbl con_1393 := conR_ok3 gT_all (hd_1393) rfl pn_RX8 tk_X8_at bo_RX8 xo_RX8 (cto_1393 l) ch_1393 cut_nil
/-- RookHusting$Slots at -/
noncomputable def ac_939 : AC := .inr (2, jl_n [js_5 68 9223372036854775807 9223372036854775807, js_4 7 1, js_5 171 9223372036854775807 9223372036854775807])
noncomputable def hq_771 : HP := [(false, .inl (8, [(6, 1, 0), (8, 4, 0), (8, 5, 0)])), (false, ac_939)]
noncomputable def con_1394 : Con2 := ((yX8_at, cX8_at, 3, (some .long)), (0, 0), ([(6, 0, 0), (0, 1, 0), (0, 8, 0)], gi_928, [.inl (8, [(6, 1, 0), (8, 4, 0), (8, 5, 0)]), ac_939], []), [((4, 6, 0), gi_929, hq_771, [], [1])])
theorem hd_1394 : con_1394.1 = (yX8_at, cX8_at, 3, (some .long)) := rfl
noncomputable def ct_1394 : CTB2 := []
noncomputable def cu_1394 : List CUT2 := []
theorem ch_1394 : staG tb_X8_at 1 bt_RX8 [] ct_1394 [] [] cu_1394 11 con_1394 = true := by decide +kernel
theorem cto_1394 (l : Launch) : CTOK2 l RX8 vwCl gTbl ct_1394 := ct2_nil
theorem vl_1394 (l : Launch) : Vld2 l vwCl gTbl con_1394 := conR_ok3 gT_all (hd_1394) rfl pn_RX8 tk_X8_at bo_RX8 xo_RX8 (cto_1394 l) ch_1394 cut_nil
/-- RookHusting$Slots at -/
noncomputable def ac_940 : AC := .inr (2, jl_n [js_5 69 9223372036854775807 9223372036854775807, js_4 7 1, js_5 170 9223372036854775807 9223372036854775807])
noncomputable def hq_772 : HP := [(false, .inl (8, [(6, 1, 0), (8, 4, 0), (8, 5, 0)])), (false, ac_940)]
noncomputable def con_1395 : Con2 := ((yX8_at, cX8_at, 3, (some .long)), (0, 0), ([(6, 0, 0), (0, 1, 0), (0, 9, 0)], gi_928, [.inl (8, [(6, 1, 0), (8, 4, 0), (8, 5, 0)]), ac_940], []), [((4, 6, 0), gi_929, hq_772, [], [1])])
theorem hd_1395 : con_1395.1 = (yX8_at, cX8_at, 3, (some .long)) := rfl
noncomputable def ct_1395 : CTB2 := []
noncomputable def cu_1395 : List CUT2 := []
theorem ch_1395 : staG tb_X8_at 1 bt_RX8 [] ct_1395 [] [] cu_1395 11 con_1395 = true := by decide +kernel
theorem cto_1395 (l : Launch) : CTOK2 l RX8 vwCl gTbl ct_1395 := ct2_nil
theorem vl_1395 (l : Launch) : Vld2 l vwCl gTbl con_1395 := conR_ok3 gT_all (hd_1395) rfl pn_RX8 tk_X8_at bo_RX8 xo_RX8 (cto_1395 l) ch_1395 cut_nil
/-- RookHusting$Slots at -/
noncomputable def ac_941 : AC := .inr (2, jl_n [js_5 70 9223372036854775807 9223372036854775807, js_4 7 1, js_5 169 9223372036854775807 9223372036854775807])
noncomputable def hq_773 : HP := [(false, .inl (8, [(6, 1, 0), (8, 4, 0), (8, 5, 0)])), (false, ac_941)]
noncomputable def con_1396 : Con2 := ((yX8_at, cX8_at, 3, (some .long)), (0, 0), ([(6, 0, 0), (0, 1, 0), (0, 10, 0)], gi_928, [.inl (8, [(6, 1, 0), (8, 4, 0), (8, 5, 0)]), ac_941], []), [((4, 6, 0), gi_929, hq_773, [], [1])])
theorem hd_1396 : con_1396.1 = (yX8_at, cX8_at, 3, (some .long)) := rfl
noncomputable def ct_1396 : CTB2 := []
noncomputable def cu_1396 : List CUT2 := []
theorem ch_1396 : staG tb_X8_at 1 bt_RX8 [] ct_1396 [] [] cu_1396 11 con_1396 = true := by decide +kernel
theorem cto_1396 (l : Launch) : CTOK2 l RX8 vwCl gTbl ct_1396 := ct2_nil
theorem vl_1396 (l : Launch) : Vld2 l vwCl gTbl con_1396 := conR_ok3 gT_all (hd_1396) rfl pn_RX8 tk_X8_at bo_RX8 xo_RX8 (cto_1396 l) ch_1396 cut_nil
/-- RookHusting$Slots at -/
noncomputable def ac_942 : AC := .inr (2, jl_n [js_5 71 9223372036854775807 9223372036854775807, js_4 7 1, js_5 168 9223372036854775807 9223372036854775807])
noncomputable def hq_774 : HP := [(false, .inl (8, [(6, 1, 0), (8, 4, 0), (8, 5, 0)])), (false, ac_942)]
noncomputable def con_1397 : Con2 := ((yX8_at, cX8_at, 3, (some .long)), (0, 0), ([(6, 0, 0), (0, 1, 0), (0, 11, 0)], gi_928, [.inl (8, [(6, 1, 0), (8, 4, 0), (8, 5, 0)]), ac_942], []), [((4, 6, 0), gi_929, hq_774, [], [1])])
theorem hd_1397 : con_1397.1 = (yX8_at, cX8_at, 3, (some .long)) := rfl
noncomputable def ct_1397 : CTB2 := []
noncomputable def cu_1397 : List CUT2 := []
theorem ch_1397 : staG tb_X8_at 1 bt_RX8 [] ct_1397 [] [] cu_1397 11 con_1397 = true := by decide +kernel
theorem cto_1397 (l : Launch) : CTOK2 l RX8 vwCl gTbl ct_1397 := ct2_nil
theorem vl_1397 (l : Launch) : Vld2 l vwCl gTbl con_1397 := conR_ok3 gT_all (hd_1397) rfl pn_RX8 tk_X8_at bo_RX8 xo_RX8 (cto_1397 l) ch_1397 cut_nil
/-- RookHusting$Slots at -/
noncomputable def ac_943 : AC := .inr (2, jl_n [js_5 72 9223372036854775807 9223372036854775807, js_4 7 1, js_5 167 9223372036854775807 9223372036854775807])
noncomputable def hq_775 : HP := [(false, .inl (8, [(6, 1, 0), (8, 4, 0), (8, 5, 0)])), (false, ac_943)]
noncomputable def con_1398 : Con2 := ((yX8_at, cX8_at, 3, (some .long)), (0, 0), ([(6, 0, 0), (0, 1, 0), (0, 12, 0)], gi_928, [.inl (8, [(6, 1, 0), (8, 4, 0), (8, 5, 0)]), ac_943], []), [((4, 6, 0), gi_929, hq_775, [], [1])])
theorem hd_1398 : con_1398.1 = (yX8_at, cX8_at, 3, (some .long)) := rfl
noncomputable def ct_1398 : CTB2 := []
noncomputable def cu_1398 : List CUT2 := []
theorem ch_1398 : staG tb_X8_at 1 bt_RX8 [] ct_1398 [] [] cu_1398 11 con_1398 = true := by decide +kernel
theorem cto_1398 (l : Launch) : CTOK2 l RX8 vwCl gTbl ct_1398 := ct2_nil
theorem vl_1398 (l : Launch) : Vld2 l vwCl gTbl con_1398 := conR_ok3 gT_all (hd_1398) rfl pn_RX8 tk_X8_at bo_RX8 xo_RX8 (cto_1398 l) ch_1398 cut_nil
/-- RookHusting$Slots at -/
noncomputable def ac_944 : AC := .inr (2, jl_n [js_5 73 9223372036854775807 9223372036854775807, js_4 7 1, js_5 166 9223372036854775807 9223372036854775807])
noncomputable def hq_776 : HP := [(false, .inl (8, [(6, 1, 0), (8, 4, 0), (8, 5, 0)])), (false, ac_944)]
noncomputable def con_1399 : Con2 := ((yX8_at, cX8_at, 3, (some .long)), (0, 0), ([(6, 0, 0), (0, 1, 0), (0, 13, 0)], gi_928, [.inl (8, [(6, 1, 0), (8, 4, 0), (8, 5, 0)]), ac_944], []), [((4, 6, 0), gi_929, hq_776, [], [1])])
theorem hd_1399 : con_1399.1 = (yX8_at, cX8_at, 3, (some .long)) := rfl
noncomputable def ct_1399 : CTB2 := []
noncomputable def cu_1399 : List CUT2 := []
theorem ch_1399 : staG tb_X8_at 1 bt_RX8 [] ct_1399 [] [] cu_1399 11 con_1399 = true := by decide +kernel
theorem cto_1399 (l : Launch) : CTOK2 l RX8 vwCl gTbl ct_1399 := ct2_nil
theorem vl_1399 (l : Launch) : Vld2 l vwCl gTbl con_1399 := conR_ok3 gT_all (hd_1399) rfl pn_RX8 tk_X8_at bo_RX8 xo_RX8 (cto_1399 l) ch_1399 cut_nil
/-- RookHusting$Slots at -/
noncomputable def ac_945 : AC := .inr (2, jl_n [js_5 74 9223372036854775807 9223372036854775807, js_4 7 1, js_5 165 9223372036854775807 9223372036854775807])
noncomputable def hq_777 : HP := [(false, .inl (8, [(6, 1, 0), (8, 4, 0), (8, 5, 0)])), (false, ac_945)]
noncomputable def con_1400 : Con2 := ((yX8_at, cX8_at, 3, (some .long)), (0, 0), ([(6, 0, 0), (0, 1, 0), (0, 14, 0)], gi_928, [.inl (8, [(6, 1, 0), (8, 4, 0), (8, 5, 0)]), ac_945], []), [((4, 6, 0), gi_929, hq_777, [], [1])])
theorem hd_1400 : con_1400.1 = (yX8_at, cX8_at, 3, (some .long)) := rfl
noncomputable def ct_1400 : CTB2 := []
noncomputable def cu_1400 : List CUT2 := []
theorem ch_1400 : staG tb_X8_at 1 bt_RX8 [] ct_1400 [] [] cu_1400 11 con_1400 = true := by decide +kernel
theorem cto_1400 (l : Launch) : CTOK2 l RX8 vwCl gTbl ct_1400 := ct2_nil
theorem vl_1400 (l : Launch) : Vld2 l vwCl gTbl con_1400 := conR_ok3 gT_all (hd_1400) rfl pn_RX8 tk_X8_at bo_RX8 xo_RX8 (cto_1400 l) ch_1400 cut_nil
/-- RookHusting$Slots at -/
noncomputable def ac_946 : AC := .inr (2, jl_n [js_5 75 9223372036854775807 9223372036854775807, js_4 7 1, js_5 164 9223372036854775807 9223372036854775807])
noncomputable def hq_778 : HP := [(false, .inl (8, [(6, 1, 0), (8, 4, 0), (8, 5, 0)])), (false, ac_946)]
noncomputable def con_1401 : Con2 := ((yX8_at, cX8_at, 3, (some .long)), (0, 0), ([(6, 0, 0), (0, 1, 0), (0, 15, 0)], gi_928, [.inl (8, [(6, 1, 0), (8, 4, 0), (8, 5, 0)]), ac_946], []), [((4, 6, 0), gi_929, hq_778, [], [1])])
theorem hd_1401 : con_1401.1 = (yX8_at, cX8_at, 3, (some .long)) := rfl
noncomputable def ct_1401 : CTB2 := []
noncomputable def cu_1401 : List CUT2 := []
theorem ch_1401 : staG tb_X8_at 1 bt_RX8 [] ct_1401 [] [] cu_1401 11 con_1401 = true := by decide +kernel
theorem cto_1401 (l : Launch) : CTOK2 l RX8 vwCl gTbl ct_1401 := ct2_nil
theorem vl_1401 (l : Launch) : Vld2 l vwCl gTbl con_1401 := conR_ok3 gT_all (hd_1401) rfl pn_RX8 tk_X8_at bo_RX8 xo_RX8 (cto_1401 l) ch_1401 cut_nil
/-- RookHusting$Slots at -/
noncomputable def ac_947 : AC := .inr (2, jl_n [js_5 76 9223372036854775807 9223372036854775807, js_4 7 1, js_5 163 9223372036854775807 9223372036854775807])
noncomputable def hq_779 : HP := [(false, .inl (8, [(6, 1, 0), (8, 4, 0), (8, 5, 0)])), (false, ac_947)]
noncomputable def con_1402 : Con2 := ((yX8_at, cX8_at, 3, (some .long)), (0, 0), ([(6, 0, 0), (0, 1, 0), (0, 16, 0)], gi_928, [.inl (8, [(6, 1, 0), (8, 4, 0), (8, 5, 0)]), ac_947], []), [((4, 6, 0), gi_929, hq_779, [], [1])])
theorem hd_1402 : con_1402.1 = (yX8_at, cX8_at, 3, (some .long)) := rfl
noncomputable def ct_1402 : CTB2 := []
noncomputable def cu_1402 : List CUT2 := []
theorem ch_1402 : staG tb_X8_at 1 bt_RX8 [] ct_1402 [] [] cu_1402 11 con_1402 = true := by decide +kernel
theorem cto_1402 (l : Launch) : CTOK2 l RX8 vwCl gTbl ct_1402 := ct2_nil
theorem vl_1402 (l : Launch) : Vld2 l vwCl gTbl con_1402 := conR_ok3 gT_all (hd_1402) rfl pn_RX8 tk_X8_at bo_RX8 xo_RX8 (cto_1402 l) ch_1402 cut_nil
/-- RookHusting$Slots at -/
noncomputable def ac_948 : AC := .inr (2, jl_n [js_5 77 9223372036854775807 9223372036854775807, js_4 7 1, js_5 162 9223372036854775807 9223372036854775807])
noncomputable def hq_780 : HP := [(false, .inl (8, [(6, 1, 0), (8, 4, 0), (8, 5, 0)])), (false, ac_948)]
noncomputable def con_1403 : Con2 := ((yX8_at, cX8_at, 3, (some .long)), (0, 0), ([(6, 0, 0), (0, 1, 0), (0, 17, 0)], gi_928, [.inl (8, [(6, 1, 0), (8, 4, 0), (8, 5, 0)]), ac_948], []), [((4, 6, 0), gi_929, hq_780, [], [1])])
theorem hd_1403 : con_1403.1 = (yX8_at, cX8_at, 3, (some .long)) := rfl
noncomputable def ct_1403 : CTB2 := []
noncomputable def cu_1403 : List CUT2 := []
theorem ch_1403 : staG tb_X8_at 1 bt_RX8 [] ct_1403 [] [] cu_1403 11 con_1403 = true := by decide +kernel
theorem cto_1403 (l : Launch) : CTOK2 l RX8 vwCl gTbl ct_1403 := ct2_nil
theorem vl_1403 (l : Launch) : Vld2 l vwCl gTbl con_1403 := conR_ok3 gT_all (hd_1403) rfl pn_RX8 tk_X8_at bo_RX8 xo_RX8 (cto_1403 l) ch_1403 cut_nil
/-- RookHusting$Slots at -/
noncomputable def ac_949 : AC := .inr (2, jl_n [js_5 78 9223372036854775807 9223372036854775807, js_4 7 1, js_5 161 9223372036854775807 9223372036854775807])
noncomputable def hq_781 : HP := [(false, .inl (8, [(6, 1, 0), (8, 4, 0), (8, 5, 0)])), (false, ac_949)]
noncomputable def con_1404 : Con2 := ((yX8_at, cX8_at, 3, (some .long)), (0, 0), ([(6, 0, 0), (0, 1, 0), (0, 18, 0)], gi_928, [.inl (8, [(6, 1, 0), (8, 4, 0), (8, 5, 0)]), ac_949], []), [((4, 6, 0), gi_929, hq_781, [], [1])])
theorem hd_1404 : con_1404.1 = (yX8_at, cX8_at, 3, (some .long)) := rfl
noncomputable def ct_1404 : CTB2 := []
noncomputable def cu_1404 : List CUT2 := []
theorem ch_1404 : staG tb_X8_at 1 bt_RX8 [] ct_1404 [] [] cu_1404 11 con_1404 = true := by decide +kernel
theorem cto_1404 (l : Launch) : CTOK2 l RX8 vwCl gTbl ct_1404 := ct2_nil
theorem vl_1404 (l : Launch) : Vld2 l vwCl gTbl con_1404 := conR_ok3 gT_all (hd_1404) rfl pn_RX8 tk_X8_at bo_RX8 xo_RX8 (cto_1404 l) ch_1404 cut_nil
/-- RookHusting$Slots at -/
noncomputable def ac_950 : AC := .inr (2, jl_n [js_5 79 9223372036854775807 9223372036854775807, js_4 7 1, js_5 160 9223372036854775807 9223372036854775807])
noncomputable def hq_782 : HP := [(false, .inl (8, [(6, 1, 0), (8, 4, 0), (8, 5, 0)])), (false, ac_950)]
noncomputable def con_1405 : Con2 := ((yX8_at, cX8_at, 3, (some .long)), (0, 0), ([(6, 0, 0), (0, 1, 0), (0, 19, 0)], gi_928, [.inl (8, [(6, 1, 0), (8, 4, 0), (8, 5, 0)]), ac_950], []), [((4, 6, 0), gi_929, hq_782, [], [1])])
theorem hd_1405 : con_1405.1 = (yX8_at, cX8_at, 3, (some .long)) := rfl
noncomputable def ct_1405 : CTB2 := []
noncomputable def cu_1405 : List CUT2 := []
theorem ch_1405 : staG tb_X8_at 1 bt_RX8 [] ct_1405 [] [] cu_1405 11 con_1405 = true := by decide +kernel
theorem cto_1405 (l : Launch) : CTOK2 l RX8 vwCl gTbl ct_1405 := ct2_nil
theorem vl_1405 (l : Launch) : Vld2 l vwCl gTbl con_1405 := conR_ok3 gT_all (hd_1405) rfl pn_RX8 tk_X8_at bo_RX8 xo_RX8 (cto_1405 l) ch_1405 cut_nil
/-- RookHusting$Slots at -/
noncomputable def ac_951 : AC := .inr (2, jl_n [js_5 80 9223372036854775807 9223372036854775807, js_4 7 1, js_5 159 9223372036854775807 9223372036854775807])
noncomputable def hq_783 : HP := [(false, .inl (8, [(6, 1, 0), (8, 4, 0), (8, 5, 0)])), (false, ac_951)]
noncomputable def con_1406 : Con2 := ((yX8_at, cX8_at, 3, (some .long)), (0, 0), ([(6, 0, 0), (0, 1, 0), (0, 20, 0)], gi_928, [.inl (8, [(6, 1, 0), (8, 4, 0), (8, 5, 0)]), ac_951], []), [((4, 6, 0), gi_929, hq_783, [], [1])])
theorem hd_1406 : con_1406.1 = (yX8_at, cX8_at, 3, (some .long)) := rfl
noncomputable def ct_1406 : CTB2 := []
noncomputable def cu_1406 : List CUT2 := []
theorem ch_1406 : staG tb_X8_at 1 bt_RX8 [] ct_1406 [] [] cu_1406 11 con_1406 = true := by decide +kernel
theorem cto_1406 (l : Launch) : CTOK2 l RX8 vwCl gTbl ct_1406 := ct2_nil
theorem vl_1406 (l : Launch) : Vld2 l vwCl gTbl con_1406 := conR_ok3 gT_all (hd_1406) rfl pn_RX8 tk_X8_at bo_RX8 xo_RX8 (cto_1406 l) ch_1406 cut_nil
/-- RookHusting$Slots at -/
noncomputable def ac_952 : AC := .inr (2, jl_n [js_5 81 9223372036854775807 9223372036854775807, js_4 7 1, js_5 158 9223372036854775807 9223372036854775807])
noncomputable def hq_784 : HP := [(false, .inl (8, [(6, 1, 0), (8, 4, 0), (8, 5, 0)])), (false, ac_952)]
noncomputable def con_1407 : Con2 := ((yX8_at, cX8_at, 3, (some .long)), (0, 0), ([(6, 0, 0), (0, 1, 0), (0, 21, 0)], gi_928, [.inl (8, [(6, 1, 0), (8, 4, 0), (8, 5, 0)]), ac_952], []), [((4, 6, 0), gi_929, hq_784, [], [1])])
theorem hd_1407 : con_1407.1 = (yX8_at, cX8_at, 3, (some .long)) := rfl
noncomputable def ct_1407 : CTB2 := []
noncomputable def cu_1407 : List CUT2 := []
theorem ch_1407 : staG tb_X8_at 1 bt_RX8 [] ct_1407 [] [] cu_1407 11 con_1407 = true := by decide +kernel
theorem cto_1407 (l : Launch) : CTOK2 l RX8 vwCl gTbl ct_1407 := ct2_nil
theorem vl_1407 (l : Launch) : Vld2 l vwCl gTbl con_1407 := conR_ok3 gT_all (hd_1407) rfl pn_RX8 tk_X8_at bo_RX8 xo_RX8 (cto_1407 l) ch_1407 cut_nil
/-- RookHusting$Slots at -/
noncomputable def ac_953 : AC := .inr (2, jl_n [js_5 82 9223372036854775807 9223372036854775807, js_4 7 1, js_5 157 9223372036854775807 9223372036854775807])
noncomputable def hq_785 : HP := [(false, .inl (8, [(6, 1, 0), (8, 4, 0), (8, 5, 0)])), (false, ac_953)]
noncomputable def con_1408 : Con2 := ((yX8_at, cX8_at, 3, (some .long)), (0, 0), ([(6, 0, 0), (0, 1, 0), (0, 22, 0)], gi_928, [.inl (8, [(6, 1, 0), (8, 4, 0), (8, 5, 0)]), ac_953], []), [((4, 6, 0), gi_929, hq_785, [], [1])])
theorem hd_1408 : con_1408.1 = (yX8_at, cX8_at, 3, (some .long)) := rfl
noncomputable def ct_1408 : CTB2 := []
noncomputable def cu_1408 : List CUT2 := []
theorem ch_1408 : staG tb_X8_at 1 bt_RX8 [] ct_1408 [] [] cu_1408 11 con_1408 = true := by decide +kernel
theorem cto_1408 (l : Launch) : CTOK2 l RX8 vwCl gTbl ct_1408 := ct2_nil
theorem vl_1408 (l : Launch) : Vld2 l vwCl gTbl con_1408 := conR_ok3 gT_all (hd_1408) rfl pn_RX8 tk_X8_at bo_RX8 xo_RX8 (cto_1408 l) ch_1408 cut_nil
/-- RookHusting$Slots at -/
noncomputable def ac_954 : AC := .inr (2, jl_n [js_5 83 9223372036854775807 9223372036854775807, js_4 7 1, js_5 156 9223372036854775807 9223372036854775807])
noncomputable def hq_786 : HP := [(false, .inl (8, [(6, 1, 0), (8, 4, 0), (8, 5, 0)])), (false, ac_954)]
noncomputable def con_1409 : Con2 := ((yX8_at, cX8_at, 3, (some .long)), (0, 0), ([(6, 0, 0), (0, 1, 0), (0, 23, 0)], gi_928, [.inl (8, [(6, 1, 0), (8, 4, 0), (8, 5, 0)]), ac_954], []), [((4, 6, 0), gi_929, hq_786, [], [1])])
theorem hd_1409 : con_1409.1 = (yX8_at, cX8_at, 3, (some .long)) := rfl
noncomputable def ct_1409 : CTB2 := []
noncomputable def cu_1409 : List CUT2 := []
theorem ch_1409 : staG tb_X8_at 1 bt_RX8 [] ct_1409 [] [] cu_1409 11 con_1409 = true := by decide +kernel
theorem cto_1409 (l : Launch) : CTOK2 l RX8 vwCl gTbl ct_1409 := ct2_nil
theorem vl_1409 (l : Launch) : Vld2 l vwCl gTbl con_1409 := conR_ok3 gT_all (hd_1409) rfl pn_RX8 tk_X8_at bo_RX8 xo_RX8 (cto_1409 l) ch_1409 cut_nil
/-- RookHusting$Slots at -/
noncomputable def ac_955 : AC := .inr (2, jl_n [js_5 84 9223372036854775807 9223372036854775807, js_4 7 1, js_5 155 9223372036854775807 9223372036854775807])
noncomputable def hq_787 : HP := [(false, .inl (8, [(6, 1, 0), (8, 4, 0), (8, 5, 0)])), (false, ac_955)]
noncomputable def con_1410 : Con2 := ((yX8_at, cX8_at, 3, (some .long)), (0, 0), ([(6, 0, 0), (0, 1, 0), (0, 24, 0)], gi_928, [.inl (8, [(6, 1, 0), (8, 4, 0), (8, 5, 0)]), ac_955], []), [((4, 6, 0), gi_929, hq_787, [], [1])])
theorem hd_1410 : con_1410.1 = (yX8_at, cX8_at, 3, (some .long)) := rfl
noncomputable def ct_1410 : CTB2 := []
noncomputable def cu_1410 : List CUT2 := []
theorem ch_1410 : staG tb_X8_at 1 bt_RX8 [] ct_1410 [] [] cu_1410 11 con_1410 = true := by decide +kernel
theorem cto_1410 (l : Launch) : CTOK2 l RX8 vwCl gTbl ct_1410 := ct2_nil
theorem vl_1410 (l : Launch) : Vld2 l vwCl gTbl con_1410 := conR_ok3 gT_all (hd_1410) rfl pn_RX8 tk_X8_at bo_RX8 xo_RX8 (cto_1410 l) ch_1410 cut_nil
/-- RookHusting$Slots at -/
noncomputable def ac_956 : AC := .inr (2, jl_n [js_5 85 9223372036854775807 9223372036854775807, js_4 7 1, js_5 154 9223372036854775807 9223372036854775807])
noncomputable def hq_788 : HP := [(false, .inl (8, [(6, 1, 0), (8, 4, 0), (8, 5, 0)])), (false, ac_956)]
noncomputable def con_1411 : Con2 := ((yX8_at, cX8_at, 3, (some .long)), (0, 0), ([(6, 0, 0), (0, 1, 0), (0, 25, 0)], gi_928, [.inl (8, [(6, 1, 0), (8, 4, 0), (8, 5, 0)]), ac_956], []), [((4, 6, 0), gi_929, hq_788, [], [1])])
theorem hd_1411 : con_1411.1 = (yX8_at, cX8_at, 3, (some .long)) := rfl
noncomputable def ct_1411 : CTB2 := []
noncomputable def cu_1411 : List CUT2 := []
theorem ch_1411 : staG tb_X8_at 1 bt_RX8 [] ct_1411 [] [] cu_1411 11 con_1411 = true := by decide +kernel
theorem cto_1411 (l : Launch) : CTOK2 l RX8 vwCl gTbl ct_1411 := ct2_nil
theorem vl_1411 (l : Launch) : Vld2 l vwCl gTbl con_1411 := conR_ok3 gT_all (hd_1411) rfl pn_RX8 tk_X8_at bo_RX8 xo_RX8 (cto_1411 l) ch_1411 cut_nil
