/-! ===== contracts, 29 ===== -/
/-- RookHusting$Slots at -/
noncomputable def ac_1020 : AC := .inr (2, jl_n [js_5 28 9223372036854775807 9223372036854775807, js_4 7 1, js_5 211 9223372036854775807 9223372036854775807])
noncomputable def hq_852 : HP := [(false, .inl (8, [(6, 1, 0), (8, 4, 0), (8, 5, 0)])), (false, ac_1020)]
noncomputable def con_1477 : Con2 := ((yX8_at, cX8_at, 3, (some .long)), (0, 0), ([(6, 0, 0), (0, 0, 0), (0, 28, 0)], gi_928, [.inl (8, [(6, 1, 0), (8, 4, 0), (8, 5, 0)]), ac_1020], []), [((4, 6, 0), gi_929, hq_852, [], [1])])
theorem hd_1477 : con_1477.1 = (yX8_at, cX8_at, 3, (some .long)) := rfl
noncomputable def cu_1477 : List CUT2 := []
theorem ch_1477 : staG tb_X8_at 1 bt_RX8 [] ct_1253 [] [] cu_1477 11 con_1477 = true := by decide +kernel
theorem vl_1477 (l : Launch) : Vld2 l vwCl gTbl con_1477 := conR_ok3 gT_all (hd_1477) rfl pn_RX8 tk_X8_at bo_RX8 xo_RX8 (cto_1253 l) ch_1477 cut_nil
/-- RookHusting$Slots at -/
noncomputable def ac_1021 : AC := .inr (2, jl_n [js_5 29 9223372036854775807 9223372036854775807, js_4 7 1, js_5 210 9223372036854775807 9223372036854775807])
noncomputable def hq_853 : HP := [(false, .inl (8, [(6, 1, 0), (8, 4, 0), (8, 5, 0)])), (false, ac_1021)]
noncomputable def con_1478 : Con2 := ((yX8_at, cX8_at, 3, (some .long)), (0, 0), ([(6, 0, 0), (0, 0, 0), (0, 29, 0)], gi_928, [.inl (8, [(6, 1, 0), (8, 4, 0), (8, 5, 0)]), ac_1021], []), [((4, 6, 0), gi_929, hq_853, [], [1])])
theorem hd_1478 : con_1478.1 = (yX8_at, cX8_at, 3, (some .long)) := rfl
noncomputable def cu_1478 : List CUT2 := []
theorem ch_1478 : staG tb_X8_at 1 bt_RX8 [] ct_1253 [] [] cu_1478 11 con_1478 = true := by decide +kernel
theorem vl_1478 (l : Launch) : Vld2 l vwCl gTbl con_1478 := conR_ok3 gT_all (hd_1478) rfl pn_RX8 tk_X8_at bo_RX8 xo_RX8 (cto_1253 l) ch_1478 cut_nil
/-- RookHusting$Slots at -/
noncomputable def ac_1022 : AC := .inr (2, jl_n [js_5 30 9223372036854775807 9223372036854775807, js_4 7 1, js_5 209 9223372036854775807 9223372036854775807])
noncomputable def hq_854 : HP := [(false, .inl (8, [(6, 1, 0), (8, 4, 0), (8, 5, 0)])), (false, ac_1022)]
noncomputable def con_1479 : Con2 := ((yX8_at, cX8_at, 3, (some .long)), (0, 0), ([(6, 0, 0), (0, 0, 0), (0, 30, 0)], gi_928, [.inl (8, [(6, 1, 0), (8, 4, 0), (8, 5, 0)]), ac_1022], []), [((4, 6, 0), gi_929, hq_854, [], [1])])
theorem hd_1479 : con_1479.1 = (yX8_at, cX8_at, 3, (some .long)) := rfl
noncomputable def cu_1479 : List CUT2 := []
theorem ch_1479 : staG tb_X8_at 1 bt_RX8 [] ct_1253 [] [] cu_1479 11 con_1479 = true := by decide +kernel
theorem vl_1479 (l : Launch) : Vld2 l vwCl gTbl con_1479 := conR_ok3 gT_all (hd_1479) rfl pn_RX8 tk_X8_at bo_RX8 xo_RX8 (cto_1253 l) ch_1479 cut_nil
/-- RookHusting$Slots at -/
noncomputable def ac_1023 : AC := .inr (2, jl_n [js_5 31 9223372036854775807 9223372036854775807, js_4 7 1, js_5 208 9223372036854775807 9223372036854775807])
noncomputable def hq_855 : HP := [(false, .inl (8, [(6, 1, 0), (8, 4, 0), (8, 5, 0)])), (false, ac_1023)]
noncomputable def con_1480 : Con2 := ((yX8_at, cX8_at, 3, (some .long)), (0, 0), ([(6, 0, 0), (0, 0, 0), (0, 31, 0)], gi_928, [.inl (8, [(6, 1, 0), (8, 4, 0), (8, 5, 0)]), ac_1023], []), [((4, 6, 0), gi_929, hq_855, [], [1])])
theorem hd_1480 : con_1480.1 = (yX8_at, cX8_at, 3, (some .long)) := rfl
noncomputable def cu_1480 : List CUT2 := []
theorem ch_1480 : staG tb_X8_at 1 bt_RX8 [] ct_1253 [] [] cu_1480 11 con_1480 = true := by decide +kernel
theorem vl_1480 (l : Launch) : Vld2 l vwCl gTbl con_1480 := conR_ok3 gT_all (hd_1480) rfl pn_RX8 tk_X8_at bo_RX8 xo_RX8 (cto_1253 l) ch_1480 cut_nil
/-- RookHusting$Slots at -/
noncomputable def ac_1024 : AC := .inr (2, jl_n [js_5 32 9223372036854775807 9223372036854775807, js_4 7 1, js_5 207 9223372036854775807 9223372036854775807])
noncomputable def hq_856 : HP := [(false, .inl (8, [(6, 1, 0), (8, 4, 0), (8, 5, 0)])), (false, ac_1024)]
noncomputable def con_1481 : Con2 := ((yX8_at, cX8_at, 3, (some .long)), (0, 0), ([(6, 0, 0), (0, 0, 0), (0, 32, 0)], gi_928, [.inl (8, [(6, 1, 0), (8, 4, 0), (8, 5, 0)]), ac_1024], []), [((4, 6, 0), gi_929, hq_856, [], [1])])
theorem hd_1481 : con_1481.1 = (yX8_at, cX8_at, 3, (some .long)) := rfl
noncomputable def cu_1481 : List CUT2 := []
theorem ch_1481 : staG tb_X8_at 1 bt_RX8 [] ct_1253 [] [] cu_1481 11 con_1481 = true := by decide +kernel
theorem vl_1481 (l : Launch) : Vld2 l vwCl gTbl con_1481 := conR_ok3 gT_all (hd_1481) rfl pn_RX8 tk_X8_at bo_RX8 xo_RX8 (cto_1253 l) ch_1481 cut_nil
/-- RookHusting$Slots at -/
noncomputable def ac_1025 : AC := .inr (2, jl_n [js_5 33 9223372036854775807 9223372036854775807, js_4 7 1, js_5 206 9223372036854775807 9223372036854775807])
noncomputable def hq_857 : HP := [(false, .inl (8, [(6, 1, 0), (8, 4, 0), (8, 5, 0)])), (false, ac_1025)]
noncomputable def con_1482 : Con2 := ((yX8_at, cX8_at, 3, (some .long)), (0, 0), ([(6, 0, 0), (0, 0, 0), (0, 33, 0)], gi_928, [.inl (8, [(6, 1, 0), (8, 4, 0), (8, 5, 0)]), ac_1025], []), [((4, 6, 0), gi_929, hq_857, [], [1])])
theorem hd_1482 : con_1482.1 = (yX8_at, cX8_at, 3, (some .long)) := rfl
noncomputable def cu_1482 : List CUT2 := []
theorem ch_1482 : staG tb_X8_at 1 bt_RX8 [] ct_1253 [] [] cu_1482 11 con_1482 = true := by decide +kernel
theorem vl_1482 (l : Launch) : Vld2 l vwCl gTbl con_1482 := conR_ok3 gT_all (hd_1482) rfl pn_RX8 tk_X8_at bo_RX8 xo_RX8 (cto_1253 l) ch_1482 cut_nil
/-- RookHusting$Slots at -/
noncomputable def ac_1026 : AC := .inr (2, jl_n [js_5 34 9223372036854775807 9223372036854775807, js_4 7 1, js_5 205 9223372036854775807 9223372036854775807])
noncomputable def hq_858 : HP := [(false, .inl (8, [(6, 1, 0), (8, 4, 0), (8, 5, 0)])), (false, ac_1026)]
noncomputable def con_1483 : Con2 := ((yX8_at, cX8_at, 3, (some .long)), (0, 0), ([(6, 0, 0), (0, 0, 0), (0, 34, 0)], gi_928, [.inl (8, [(6, 1, 0), (8, 4, 0), (8, 5, 0)]), ac_1026], []), [((4, 6, 0), gi_929, hq_858, [], [1])])
theorem hd_1483 : con_1483.1 = (yX8_at, cX8_at, 3, (some .long)) := rfl
noncomputable def cu_1483 : List CUT2 := []
theorem ch_1483 : staG tb_X8_at 1 bt_RX8 [] ct_1253 [] [] cu_1483 11 con_1483 = true := by decide +kernel
theorem vl_1483 (l : Launch) : Vld2 l vwCl gTbl con_1483 := conR_ok3 gT_all (hd_1483) rfl pn_RX8 tk_X8_at bo_RX8 xo_RX8 (cto_1253 l) ch_1483 cut_nil
/-- RookHusting$Slots at -/
noncomputable def ac_1027 : AC := .inr (2, jl_n [js_5 35 9223372036854775807 9223372036854775807, js_4 7 1, js_5 204 9223372036854775807 9223372036854775807])
noncomputable def hq_859 : HP := [(false, .inl (8, [(6, 1, 0), (8, 4, 0), (8, 5, 0)])), (false, ac_1027)]
noncomputable def con_1484 : Con2 := ((yX8_at, cX8_at, 3, (some .long)), (0, 0), ([(6, 0, 0), (0, 0, 0), (0, 35, 0)], gi_928, [.inl (8, [(6, 1, 0), (8, 4, 0), (8, 5, 0)]), ac_1027], []), [((4, 6, 0), gi_929, hq_859, [], [1])])
theorem hd_1484 : con_1484.1 = (yX8_at, cX8_at, 3, (some .long)) := rfl
noncomputable def cu_1484 : List CUT2 := []
theorem ch_1484 : staG tb_X8_at 1 bt_RX8 [] ct_1253 [] [] cu_1484 11 con_1484 = true := by decide +kernel
theorem vl_1484 (l : Launch) : Vld2 l vwCl gTbl con_1484 := conR_ok3 gT_all (hd_1484) rfl pn_RX8 tk_X8_at bo_RX8 xo_RX8 (cto_1253 l) ch_1484 cut_nil
/-- RookHusting$Slots at -/
noncomputable def ac_1028 : AC := .inr (2, jl_n [js_5 36 9223372036854775807 9223372036854775807, js_4 7 1, js_5 203 9223372036854775807 9223372036854775807])
noncomputable def hq_860 : HP := [(false, .inl (8, [(6, 1, 0), (8, 4, 0), (8, 5, 0)])), (false, ac_1028)]
noncomputable def con_1485 : Con2 := ((yX8_at, cX8_at, 3, (some .long)), (0, 0), ([(6, 0, 0), (0, 0, 0), (0, 36, 0)], gi_928, [.inl (8, [(6, 1, 0), (8, 4, 0), (8, 5, 0)]), ac_1028], []), [((4, 6, 0), gi_929, hq_860, [], [1])])
theorem hd_1485 : con_1485.1 = (yX8_at, cX8_at, 3, (some .long)) := rfl
noncomputable def cu_1485 : List CUT2 := []
theorem ch_1485 : staG tb_X8_at 1 bt_RX8 [] ct_1253 [] [] cu_1485 11 con_1485 = true := by decide +kernel
theorem vl_1485 (l : Launch) : Vld2 l vwCl gTbl con_1485 := conR_ok3 gT_all (hd_1485) rfl pn_RX8 tk_X8_at bo_RX8 xo_RX8 (cto_1253 l) ch_1485 cut_nil
/-- RookHusting$Slots at -/
noncomputable def ac_1029 : AC := .inr (2, jl_n [js_5 37 9223372036854775807 9223372036854775807, js_4 7 1, js_5 202 9223372036854775807 9223372036854775807])
noncomputable def hq_861 : HP := [(false, .inl (8, [(6, 1, 0), (8, 4, 0), (8, 5, 0)])), (false, ac_1029)]
noncomputable def con_1486 : Con2 := ((yX8_at, cX8_at, 3, (some .long)), (0, 0), ([(6, 0, 0), (0, 0, 0), (0, 37, 0)], gi_928, [.inl (8, [(6, 1, 0), (8, 4, 0), (8, 5, 0)]), ac_1029], []), [((4, 6, 0), gi_929, hq_861, [], [1])])
theorem hd_1486 : con_1486.1 = (yX8_at, cX8_at, 3, (some .long)) := rfl
noncomputable def cu_1486 : List CUT2 := []
theorem ch_1486 : staG tb_X8_at 1 bt_RX8 [] ct_1253 [] [] cu_1486 11 con_1486 = true := by decide +kernel
theorem vl_1486 (l : Launch) : Vld2 l vwCl gTbl con_1486 := conR_ok3 gT_all (hd_1486) rfl pn_RX8 tk_X8_at bo_RX8 xo_RX8 (cto_1253 l) ch_1486 cut_nil
/-- RookHusting$Slots at -/
noncomputable def ac_1030 : AC := .inr (2, jl_n [js_5 38 9223372036854775807 9223372036854775807, js_4 7 1, js_5 201 9223372036854775807 9223372036854775807])
noncomputable def hq_862 : HP := [(false, .inl (8, [(6, 1, 0), (8, 4, 0), (8, 5, 0)])), (false, ac_1030)]
noncomputable def con_1487 : Con2 := ((yX8_at, cX8_at, 3, (some .long)), (0, 0), ([(6, 0, 0), (0, 0, 0), (0, 38, 0)], gi_928, [.inl (8, [(6, 1, 0), (8, 4, 0), (8, 5, 0)]), ac_1030], []), [((4, 6, 0), gi_929, hq_862, [], [1])])
theorem hd_1487 : con_1487.1 = (yX8_at, cX8_at, 3, (some .long)) := rfl
noncomputable def cu_1487 : List CUT2 := []
theorem ch_1487 : staG tb_X8_at 1 bt_RX8 [] ct_1253 [] [] cu_1487 11 con_1487 = true := by decide +kernel
theorem vl_1487 (l : Launch) : Vld2 l vwCl gTbl con_1487 := conR_ok3 gT_all (hd_1487) rfl pn_RX8 tk_X8_at bo_RX8 xo_RX8 (cto_1253 l) ch_1487 cut_nil
/-- RookHusting$Slots at -/
noncomputable def ac_1031 : AC := .inr (2, jl_n [js_5 39 9223372036854775807 9223372036854775807, js_4 7 1, js_5 200 9223372036854775807 9223372036854775807])
noncomputable def hq_863 : HP := [(false, .inl (8, [(6, 1, 0), (8, 4, 0), (8, 5, 0)])), (false, ac_1031)]
noncomputable def con_1488 : Con2 := ((yX8_at, cX8_at, 3, (some .long)), (0, 0), ([(6, 0, 0), (0, 0, 0), (0, 39, 0)], gi_928, [.inl (8, [(6, 1, 0), (8, 4, 0), (8, 5, 0)]), ac_1031], []), [((4, 6, 0), gi_929, hq_863, [], [1])])
theorem hd_1488 : con_1488.1 = (yX8_at, cX8_at, 3, (some .long)) := rfl
noncomputable def cu_1488 : List CUT2 := []
theorem ch_1488 : staG tb_X8_at 1 bt_RX8 [] ct_1253 [] [] cu_1488 11 con_1488 = true := by decide +kernel
theorem vl_1488 (l : Launch) : Vld2 l vwCl gTbl con_1488 := conR_ok3 gT_all (hd_1488) rfl pn_RX8 tk_X8_at bo_RX8 xo_RX8 (cto_1253 l) ch_1488 cut_nil
/-- RookHusting$Slots at -/
noncomputable def ac_1032 : AC := .inr (2, jl_n [js_5 40 9223372036854775807 9223372036854775807, js_4 7 1, js_5 199 9223372036854775807 9223372036854775807])
noncomputable def hq_864 : HP := [(false, .inl (8, [(6, 1, 0), (8, 4, 0), (8, 5, 0)])), (false, ac_1032)]
noncomputable def con_1489 : Con2 := ((yX8_at, cX8_at, 3, (some .long)), (0, 0), ([(6, 0, 0), (0, 0, 0), (0, 40, 0)], gi_928, [.inl (8, [(6, 1, 0), (8, 4, 0), (8, 5, 0)]), ac_1032], []), [((4, 6, 0), gi_929, hq_864, [], [1])])
theorem hd_1489 : con_1489.1 = (yX8_at, cX8_at, 3, (some .long)) := rfl
noncomputable def cu_1489 : List CUT2 := []
theorem ch_1489 : staG tb_X8_at 1 bt_RX8 [] ct_1253 [] [] cu_1489 11 con_1489 = true := by decide +kernel
theorem vl_1489 (l : Launch) : Vld2 l vwCl gTbl con_1489 := conR_ok3 gT_all (hd_1489) rfl pn_RX8 tk_X8_at bo_RX8 xo_RX8 (cto_1253 l) ch_1489 cut_nil
/-- RookHusting$Slots at -/
noncomputable def ac_1033 : AC := .inr (2, jl_n [js_5 41 9223372036854775807 9223372036854775807, js_4 7 1, js_5 198 9223372036854775807 9223372036854775807])
noncomputable def hq_865 : HP := [(false, .inl (8, [(6, 1, 0), (8, 4, 0), (8, 5, 0)])), (false, ac_1033)]
noncomputable def con_1490 : Con2 := ((yX8_at, cX8_at, 3, (some .long)), (0, 0), ([(6, 0, 0), (0, 0, 0), (0, 41, 0)], gi_928, [.inl (8, [(6, 1, 0), (8, 4, 0), (8, 5, 0)]), ac_1033], []), [((4, 6, 0), gi_929, hq_865, [], [1])])
theorem hd_1490 : con_1490.1 = (yX8_at, cX8_at, 3, (some .long)) := rfl
noncomputable def cu_1490 : List CUT2 := []
theorem ch_1490 : staG tb_X8_at 1 bt_RX8 [] ct_1253 [] [] cu_1490 11 con_1490 = true := by decide +kernel
theorem vl_1490 (l : Launch) : Vld2 l vwCl gTbl con_1490 := conR_ok3 gT_all (hd_1490) rfl pn_RX8 tk_X8_at bo_RX8 xo_RX8 (cto_1253 l) ch_1490 cut_nil
/-- RookHusting$Slots at -/
noncomputable def ac_1034 : AC := .inr (2, jl_n [js_5 42 9223372036854775807 9223372036854775807, js_4 7 1, js_5 197 9223372036854775807 9223372036854775807])
noncomputable def hq_866 : HP := [(false, .inl (8, [(6, 1, 0), (8, 4, 0), (8, 5, 0)])), (false, ac_1034)]
noncomputable def con_1491 : Con2 := ((yX8_at, cX8_at, 3, (some .long)), (0, 0), ([(6, 0, 0), (0, 0, 0), (0, 42, 0)], gi_928, [.inl (8, [(6, 1, 0), (8, 4, 0), (8, 5, 0)]), ac_1034], []), [((4, 6, 0), gi_929, hq_866, [], [1])])
theorem hd_1491 : con_1491.1 = (yX8_at, cX8_at, 3, (some .long)) := rfl
noncomputable def cu_1491 : List CUT2 := []
theorem ch_1491 : staG tb_X8_at 1 bt_RX8 [] ct_1253 [] [] cu_1491 11 con_1491 = true := by decide +kernel
theorem vl_1491 (l : Launch) : Vld2 l vwCl gTbl con_1491 := conR_ok3 gT_all (hd_1491) rfl pn_RX8 tk_X8_at bo_RX8 xo_RX8 (cto_1253 l) ch_1491 cut_nil
/-- RookHusting$Slots at -/
noncomputable def ac_1035 : AC := .inr (2, jl_n [js_5 43 9223372036854775807 9223372036854775807, js_4 7 1, js_5 196 9223372036854775807 9223372036854775807])
noncomputable def hq_867 : HP := [(false, .inl (8, [(6, 1, 0), (8, 4, 0), (8, 5, 0)])), (false, ac_1035)]
noncomputable def con_1492 : Con2 := ((yX8_at, cX8_at, 3, (some .long)), (0, 0), ([(6, 0, 0), (0, 0, 0), (0, 43, 0)], gi_928, [.inl (8, [(6, 1, 0), (8, 4, 0), (8, 5, 0)]), ac_1035], []), [((4, 6, 0), gi_929, hq_867, [], [1])])
theorem hd_1492 : con_1492.1 = (yX8_at, cX8_at, 3, (some .long)) := rfl
noncomputable def cu_1492 : List CUT2 := []
theorem ch_1492 : staG tb_X8_at 1 bt_RX8 [] ct_1253 [] [] cu_1492 11 con_1492 = true := by decide +kernel
theorem vl_1492 (l : Launch) : Vld2 l vwCl gTbl con_1492 := conR_ok3 gT_all (hd_1492) rfl pn_RX8 tk_X8_at bo_RX8 xo_RX8 (cto_1253 l) ch_1492 cut_nil
/-- RookHusting$Slots at -/
noncomputable def ac_1036 : AC := .inr (2, jl_n [js_5 44 9223372036854775807 9223372036854775807, js_4 7 1, js_5 195 9223372036854775807 9223372036854775807])
noncomputable def hq_868 : HP := [(false, .inl (8, [(6, 1, 0), (8, 4, 0), (8, 5, 0)])), (false, ac_1036)]
noncomputable def con_1493 : Con2 := ((yX8_at, cX8_at, 3, (some .long)), (0, 0), ([(6, 0, 0), (0, 0, 0), (0, 44, 0)], gi_928, [.inl (8, [(6, 1, 0), (8, 4, 0), (8, 5, 0)]), ac_1036], []), [((4, 6, 0), gi_929, hq_868, [], [1])])
theorem hd_1493 : con_1493.1 = (yX8_at, cX8_at, 3, (some .long)) := rfl
noncomputable def cu_1493 : List CUT2 := []
theorem ch_1493 : staG tb_X8_at 1 bt_RX8 [] ct_1253 [] [] cu_1493 11 con_1493 = true := by decide +kernel
theorem vl_1493 (l : Launch) : Vld2 l vwCl gTbl con_1493 := conR_ok3 gT_all (hd_1493) rfl pn_RX8 tk_X8_at bo_RX8 xo_RX8 (cto_1253 l) ch_1493 cut_nil
/-- RookHusting$Slots at -/
noncomputable def ac_1037 : AC := .inr (2, jl_n [js_5 45 9223372036854775807 9223372036854775807, js_4 7 1, js_5 194 9223372036854775807 9223372036854775807])
noncomputable def hq_869 : HP := [(false, .inl (8, [(6, 1, 0), (8, 4, 0), (8, 5, 0)])), (false, ac_1037)]
noncomputable def con_1494 : Con2 := ((yX8_at, cX8_at, 3, (some .long)), (0, 0), ([(6, 0, 0), (0, 0, 0), (0, 45, 0)], gi_928, [.inl (8, [(6, 1, 0), (8, 4, 0), (8, 5, 0)]), ac_1037], []), [((4, 6, 0), gi_929, hq_869, [], [1])])
theorem hd_1494 : con_1494.1 = (yX8_at, cX8_at, 3, (some .long)) := rfl
noncomputable def cu_1494 : List CUT2 := []
theorem ch_1494 : staG tb_X8_at 1 bt_RX8 [] ct_1253 [] [] cu_1494 11 con_1494 = true := by decide +kernel
theorem vl_1494 (l : Launch) : Vld2 l vwCl gTbl con_1494 := conR_ok3 gT_all (hd_1494) rfl pn_RX8 tk_X8_at bo_RX8 xo_RX8 (cto_1253 l) ch_1494 cut_nil
/-- RookHusting$Slots at -/
noncomputable def ac_1038 : AC := .inr (2, jl_n [js_5 46 9223372036854775807 9223372036854775807, js_4 7 1, js_5 193 9223372036854775807 9223372036854775807])
noncomputable def hq_870 : HP := [(false, .inl (8, [(6, 1, 0), (8, 4, 0), (8, 5, 0)])), (false, ac_1038)]
noncomputable def con_1495 : Con2 := ((yX8_at, cX8_at, 3, (some .long)), (0, 0), ([(6, 0, 0), (0, 0, 0), (0, 46, 0)], gi_928, [.inl (8, [(6, 1, 0), (8, 4, 0), (8, 5, 0)]), ac_1038], []), [((4, 6, 0), gi_929, hq_870, [], [1])])
theorem hd_1495 : con_1495.1 = (yX8_at, cX8_at, 3, (some .long)) := rfl
noncomputable def cu_1495 : List CUT2 := []
theorem ch_1495 : staG tb_X8_at 1 bt_RX8 [] ct_1253 [] [] cu_1495 11 con_1495 = true := by decide +kernel
theorem vl_1495 (l : Launch) : Vld2 l vwCl gTbl con_1495 := conR_ok3 gT_all (hd_1495) rfl pn_RX8 tk_X8_at bo_RX8 xo_RX8 (cto_1253 l) ch_1495 cut_nil
/-- RookHusting$Slots at -/
noncomputable def ac_1039 : AC := .inr (2, jl_n [js_5 47 9223372036854775807 9223372036854775807, js_4 7 1, js_5 192 9223372036854775807 9223372036854775807])
noncomputable def hq_871 : HP := [(false, .inl (8, [(6, 1, 0), (8, 4, 0), (8, 5, 0)])), (false, ac_1039)]
noncomputable def con_1496 : Con2 := ((yX8_at, cX8_at, 3, (some .long)), (0, 0), ([(6, 0, 0), (0, 0, 0), (0, 47, 0)], gi_928, [.inl (8, [(6, 1, 0), (8, 4, 0), (8, 5, 0)]), ac_1039], []), [((4, 6, 0), gi_929, hq_871, [], [1])])
theorem hd_1496 : con_1496.1 = (yX8_at, cX8_at, 3, (some .long)) := rfl
noncomputable def cu_1496 : List CUT2 := []
theorem ch_1496 : staG tb_X8_at 1 bt_RX8 [] ct_1253 [] [] cu_1496 11 con_1496 = true := by decide +kernel
theorem vl_1496 (l : Launch) : Vld2 l vwCl gTbl con_1496 := conR_ok3 gT_all (hd_1496) rfl pn_RX8 tk_X8_at bo_RX8 xo_RX8 (cto_1253 l) ch_1496 cut_nil
/-- RookHusting$Slots at -/
noncomputable def ac_1040 : AC := .inr (2, jl_n [js_5 48 9223372036854775807 9223372036854775807, js_4 7 1, js_5 191 9223372036854775807 9223372036854775807])
noncomputable def hq_872 : HP := [(false, .inl (8, [(6, 1, 0), (8, 4, 0), (8, 5, 0)])), (false, ac_1040)]
noncomputable def con_1497 : Con2 := ((yX8_at, cX8_at, 3, (some .long)), (0, 0), ([(6, 0, 0), (0, 0, 0), (0, 48, 0)], gi_928, [.inl (8, [(6, 1, 0), (8, 4, 0), (8, 5, 0)]), ac_1040], []), [((4, 6, 0), gi_929, hq_872, [], [1])])
theorem hd_1497 : con_1497.1 = (yX8_at, cX8_at, 3, (some .long)) := rfl
noncomputable def cu_1497 : List CUT2 := []
theorem ch_1497 : staG tb_X8_at 1 bt_RX8 [] ct_1253 [] [] cu_1497 11 con_1497 = true := by decide +kernel
theorem vl_1497 (l : Launch) : Vld2 l vwCl gTbl con_1497 := conR_ok3 gT_all (hd_1497) rfl pn_RX8 tk_X8_at bo_RX8 xo_RX8 (cto_1253 l) ch_1497 cut_nil
/-- RookHusting$Slots at -/
noncomputable def ac_1041 : AC := .inr (2, jl_n [js_5 49 9223372036854775807 9223372036854775807, js_4 7 1, js_5 190 9223372036854775807 9223372036854775807])
noncomputable def hq_873 : HP := [(false, .inl (8, [(6, 1, 0), (8, 4, 0), (8, 5, 0)])), (false, ac_1041)]
noncomputable def con_1498 : Con2 := ((yX8_at, cX8_at, 3, (some .long)), (0, 0), ([(6, 0, 0), (0, 0, 0), (0, 49, 0)], gi_928, [.inl (8, [(6, 1, 0), (8, 4, 0), (8, 5, 0)]), ac_1041], []), [((4, 6, 0), gi_929, hq_873, [], [1])])
theorem hd_1498 : con_1498.1 = (yX8_at, cX8_at, 3, (some .long)) := rfl
noncomputable def cu_1498 : List CUT2 := []
theorem ch_1498 : staG tb_X8_at 1 bt_RX8 [] ct_1253 [] [] cu_1498 11 con_1498 = true := by decide +kernel
theorem vl_1498 (l : Launch) : Vld2 l vwCl gTbl con_1498 := conR_ok3 gT_all (hd_1498) rfl pn_RX8 tk_X8_at bo_RX8 xo_RX8 (cto_1253 l) ch_1498 cut_nil
/-- RookHusting$Slots at -/
noncomputable def ac_1042 : AC := .inr (2, jl_n [js_5 50 9223372036854775807 9223372036854775807, js_4 7 1, js_5 189 9223372036854775807 9223372036854775807])
noncomputable def hq_874 : HP := [(false, .inl (8, [(6, 1, 0), (8, 4, 0), (8, 5, 0)])), (false, ac_1042)]
noncomputable def con_1499 : Con2 := ((yX8_at, cX8_at, 3, (some .long)), (0, 0), ([(6, 0, 0), (0, 0, 0), (0, 50, 0)], gi_928, [.inl (8, [(6, 1, 0), (8, 4, 0), (8, 5, 0)]), ac_1042], []), [((4, 6, 0), gi_929, hq_874, [], [1])])
theorem hd_1499 : con_1499.1 = (yX8_at, cX8_at, 3, (some .long)) := rfl
noncomputable def cu_1499 : List CUT2 := []
theorem ch_1499 : staG tb_X8_at 1 bt_RX8 [] ct_1253 [] [] cu_1499 11 con_1499 = true := by decide +kernel
theorem vl_1499 (l : Launch) : Vld2 l vwCl gTbl con_1499 := conR_ok3 gT_all (hd_1499) rfl pn_RX8 tk_X8_at bo_RX8 xo_RX8 (cto_1253 l) ch_1499 cut_nil
/-- RookHusting$Slots at -/
noncomputable def ac_1043 : AC := .inr (2, jl_n [js_5 51 9223372036854775807 9223372036854775807, js_4 7 1, js_5 188 9223372036854775807 9223372036854775807])
noncomputable def hq_875 : HP := [(false, .inl (8, [(6, 1, 0), (8, 4, 0), (8, 5, 0)])), (false, ac_1043)]
noncomputable def con_1500 : Con2 := ((yX8_at, cX8_at, 3, (some .long)), (0, 0), ([(6, 0, 0), (0, 0, 0), (0, 51, 0)], gi_928, [.inl (8, [(6, 1, 0), (8, 4, 0), (8, 5, 0)]), ac_1043], []), [((4, 6, 0), gi_929, hq_875, [], [1])])
theorem hd_1500 : con_1500.1 = (yX8_at, cX8_at, 3, (some .long)) := rfl
noncomputable def cu_1500 : List CUT2 := []
theorem ch_1500 : staG tb_X8_at 1 bt_RX8 [] ct_1253 [] [] cu_1500 11 con_1500 = true := by decide +kernel
theorem vl_1500 (l : Launch) : Vld2 l vwCl gTbl con_1500 := conR_ok3 gT_all (hd_1500) rfl pn_RX8 tk_X8_at bo_RX8 xo_RX8 (cto_1253 l) ch_1500 cut_nil
/-- RookHusting$Slots at -/
noncomputable def ac_1044 : AC := .inr (2, jl_n [js_5 52 9223372036854775807 9223372036854775807, js_4 7 1, js_5 187 9223372036854775807 9223372036854775807])
noncomputable def hq_876 : HP := [(false, .inl (8, [(6, 1, 0), (8, 4, 0), (8, 5, 0)])), (false, ac_1044)]
noncomputable def con_1501 : Con2 := ((yX8_at, cX8_at, 3, (some .long)), (0, 0), ([(6, 0, 0), (0, 0, 0), (0, 52, 0)], gi_928, [.inl (8, [(6, 1, 0), (8, 4, 0), (8, 5, 0)]), ac_1044], []), [((4, 6, 0), gi_929, hq_876, [], [1])])
theorem hd_1501 : con_1501.1 = (yX8_at, cX8_at, 3, (some .long)) := rfl
noncomputable def cu_1501 : List CUT2 := []
theorem ch_1501 : staG tb_X8_at 1 bt_RX8 [] ct_1253 [] [] cu_1501 11 con_1501 = true := by decide +kernel
theorem vl_1501 (l : Launch) : Vld2 l vwCl gTbl con_1501 := conR_ok3 gT_all (hd_1501) rfl pn_RX8 tk_X8_at bo_RX8 xo_RX8 (cto_1253 l) ch_1501 cut_nil
/-- RookHusting$Slots at -/
noncomputable def ac_1045 : AC := .inr (2, jl_n [js_5 53 9223372036854775807 9223372036854775807, js_4 7 1, js_5 186 9223372036854775807 9223372036854775807])
noncomputable def hq_877 : HP := [(false, .inl (8, [(6, 1, 0), (8, 4, 0), (8, 5, 0)])), (false, ac_1045)]
noncomputable def con_1502 : Con2 := ((yX8_at, cX8_at, 3, (some .long)), (0, 0), ([(6, 0, 0), (0, 0, 0), (0, 53, 0)], gi_928, [.inl (8, [(6, 1, 0), (8, 4, 0), (8, 5, 0)]), ac_1045], []), [((4, 6, 0), gi_929, hq_877, [], [1])])
theorem hd_1502 : con_1502.1 = (yX8_at, cX8_at, 3, (some .long)) := rfl
noncomputable def cu_1502 : List CUT2 := []
theorem ch_1502 : staG tb_X8_at 1 bt_RX8 [] ct_1253 [] [] cu_1502 11 con_1502 = true := by decide +kernel
theorem vl_1502 (l : Launch) : Vld2 l vwCl gTbl con_1502 := conR_ok3 gT_all (hd_1502) rfl pn_RX8 tk_X8_at bo_RX8 xo_RX8 (cto_1253 l) ch_1502 cut_nil
/-- RookHusting$Slots at -/
noncomputable def ac_1046 : AC := .inr (2, jl_n [js_5 54 9223372036854775807 9223372036854775807, js_4 7 1, js_5 185 9223372036854775807 9223372036854775807])
noncomputable def hq_878 : HP := [(false, .inl (8, [(6, 1, 0), (8, 4, 0), (8, 5, 0)])), (false, ac_1046)]
noncomputable def con_1503 : Con2 := ((yX8_at, cX8_at, 3, (some .long)), (0, 0), ([(6, 0, 0), (0, 0, 0), (0, 54, 0)], gi_928, [.inl (8, [(6, 1, 0), (8, 4, 0), (8, 5, 0)]), ac_1046], []), [((4, 6, 0), gi_929, hq_878, [], [1])])
theorem hd_1503 : con_1503.1 = (yX8_at, cX8_at, 3, (some .long)) := rfl
noncomputable def cu_1503 : List CUT2 := []
theorem ch_1503 : staG tb_X8_at 1 bt_RX8 [] ct_1253 [] [] cu_1503 11 con_1503 = true := by decide +kernel
theorem vl_1503 (l : Launch) : Vld2 l vwCl gTbl con_1503 := conR_ok3 gT_all (hd_1503) rfl pn_RX8 tk_X8_at bo_RX8 xo_RX8 (cto_1253 l) ch_1503 cut_nil
/-- RookHusting$Slots at -/
noncomputable def ac_1047 : AC := .inr (2, jl_n [js_5 55 9223372036854775807 9223372036854775807, js_4 7 1, js_5 184 9223372036854775807 9223372036854775807])
noncomputable def hq_879 : HP := [(false, .inl (8, [(6, 1, 0), (8, 4, 0), (8, 5, 0)])), (false, ac_1047)]
noncomputable def con_1504 : Con2 := ((yX8_at, cX8_at, 3, (some .long)), (0, 0), ([(6, 0, 0), (0, 0, 0), (0, 55, 0)], gi_928, [.inl (8, [(6, 1, 0), (8, 4, 0), (8, 5, 0)]), ac_1047], []), [((4, 6, 0), gi_929, hq_879, [], [1])])
theorem hd_1504 : con_1504.1 = (yX8_at, cX8_at, 3, (some .long)) := rfl
noncomputable def cu_1504 : List CUT2 := []
theorem ch_1504 : staG tb_X8_at 1 bt_RX8 [] ct_1253 [] [] cu_1504 11 con_1504 = true := by decide +kernel
theorem vl_1504 (l : Launch) : Vld2 l vwCl gTbl con_1504 := conR_ok3 gT_all (hd_1504) rfl pn_RX8 tk_X8_at bo_RX8 xo_RX8 (cto_1253 l) ch_1504 cut_nil
/-- RookHusting$Slots at -/
noncomputable def ac_1048 : AC := .inr (2, jl_n [js_5 56 9223372036854775807 9223372036854775807, js_4 7 1, js_5 183 9223372036854775807 9223372036854775807])
noncomputable def hq_880 : HP := [(false, .inl (8, [(6, 1, 0), (8, 4, 0), (8, 5, 0)])), (false, ac_1048)]
noncomputable def con_1505 : Con2 := ((yX8_at, cX8_at, 3, (some .long)), (0, 0), ([(6, 0, 0), (0, 0, 0), (0, 56, 0)], gi_928, [.inl (8, [(6, 1, 0), (8, 4, 0), (8, 5, 0)]), ac_1048], []), [((4, 6, 0), gi_929, hq_880, [], [1])])
theorem hd_1505 : con_1505.1 = (yX8_at, cX8_at, 3, (some .long)) := rfl
noncomputable def cu_1505 : List CUT2 := []
theorem ch_1505 : staG tb_X8_at 1 bt_RX8 [] ct_1253 [] [] cu_1505 11 con_1505 = true := by decide +kernel
theorem vl_1505 (l : Launch) : Vld2 l vwCl gTbl con_1505 := conR_ok3 gT_all (hd_1505) rfl pn_RX8 tk_X8_at bo_RX8 xo_RX8 (cto_1253 l) ch_1505 cut_nil
/-- RookHusting$Slots at -/
noncomputable def ac_1049 : AC := .inr (2, jl_n [js_5 57 9223372036854775807 9223372036854775807, js_4 7 1, js_5 182 9223372036854775807 9223372036854775807])
noncomputable def hq_881 : HP := [(false, .inl (8, [(6, 1, 0), (8, 4, 0), (8, 5, 0)])), (false, ac_1049)]
noncomputable def con_1506 : Con2 := ((yX8_at, cX8_at, 3, (some .long)), (0, 0), ([(6, 0, 0), (0, 0, 0), (0, 57, 0)], gi_928, [.inl (8, [(6, 1, 0), (8, 4, 0), (8, 5, 0)]), ac_1049], []), [((4, 6, 0), gi_929, hq_881, [], [1])])
theorem hd_1506 : con_1506.1 = (yX8_at, cX8_at, 3, (some .long)) := rfl
noncomputable def cu_1506 : List CUT2 := []
theorem ch_1506 : staG tb_X8_at 1 bt_RX8 [] ct_1253 [] [] cu_1506 11 con_1506 = true := by decide +kernel
theorem vl_1506 (l : Launch) : Vld2 l vwCl gTbl con_1506 := conR_ok3 gT_all (hd_1506) rfl pn_RX8 tk_X8_at bo_RX8 xo_RX8 (cto_1253 l) ch_1506 cut_nil
/-- RookHusting$Slots at -/
noncomputable def ac_1050 : AC := .inr (2, jl_n [js_5 58 9223372036854775807 9223372036854775807, js_4 7 1, js_5 181 9223372036854775807 9223372036854775807])
noncomputable def hq_882 : HP := [(false, .inl (8, [(6, 1, 0), (8, 4, 0), (8, 5, 0)])), (false, ac_1050)]
noncomputable def con_1507 : Con2 := ((yX8_at, cX8_at, 3, (some .long)), (0, 0), ([(6, 0, 0), (0, 0, 0), (0, 58, 0)], gi_928, [.inl (8, [(6, 1, 0), (8, 4, 0), (8, 5, 0)]), ac_1050], []), [((4, 6, 0), gi_929, hq_882, [], [1])])
theorem hd_1507 : con_1507.1 = (yX8_at, cX8_at, 3, (some .long)) := rfl
noncomputable def cu_1507 : List CUT2 := []
theorem ch_1507 : staG tb_X8_at 1 bt_RX8 [] ct_1253 [] [] cu_1507 11 con_1507 = true := by decide +kernel
theorem vl_1507 (l : Launch) : Vld2 l vwCl gTbl con_1507 := conR_ok3 gT_all (hd_1507) rfl pn_RX8 tk_X8_at bo_RX8 xo_RX8 (cto_1253 l) ch_1507 cut_nil
/-- RookHusting$Slots at -/
noncomputable def ac_1051 : AC := .inr (2, jl_n [js_5 59 9223372036854775807 9223372036854775807, js_4 7 1, js_5 180 9223372036854775807 9223372036854775807])
noncomputable def hq_883 : HP := [(false, .inl (8, [(6, 1, 0), (8, 4, 0), (8, 5, 0)])), (false, ac_1051)]
noncomputable def con_1508 : Con2 := ((yX8_at, cX8_at, 3, (some .long)), (0, 0), ([(6, 0, 0), (0, 0, 0), (0, 59, 0)], gi_928, [.inl (8, [(6, 1, 0), (8, 4, 0), (8, 5, 0)]), ac_1051], []), [((4, 6, 0), gi_929, hq_883, [], [1])])
theorem hd_1508 : con_1508.1 = (yX8_at, cX8_at, 3, (some .long)) := rfl
noncomputable def cu_1508 : List CUT2 := []
theorem ch_1508 : staG tb_X8_at 1 bt_RX8 [] ct_1253 [] [] cu_1508 11 con_1508 = true := by decide +kernel
theorem vl_1508 (l : Launch) : Vld2 l vwCl gTbl con_1508 := conR_ok3 gT_all (hd_1508) rfl pn_RX8 tk_X8_at bo_RX8 xo_RX8 (cto_1253 l) ch_1508 cut_nil
/-- RookHusting wrongSeen -/
noncomputable def ac_1052 : AC := .inr (2, jl_n [js_4 105 60, js_5 180 9223372036854775807 9223372036854775807])
noncomputable def hc_195 : List AC := [ac_804, .inl (9, [(6, 2, 0), (8, 20, 0)]), ac_805, .inl (8, [(6, 5, 0), (8, 39, 0), (6, 4, 0)]), ac_806, ac_1052]
noncomputable def hq_884 : HP := [(false, ac_804), (false, .inl (9, [(6, 2, 0), (8, 20, 0)])), (false, ac_805), (false, .inl (8, [(6, 5, 0), (8, 39, 0), (6, 4, 0)])), (false, ac_806), (false, ac_1052)]
noncomputable def gi_1072 : GI := jl_n [gp_429, jl_k 0 0, gp_583]
noncomputable def gi_1073 : GI := jl_n [gp_428, jl_z 16, gp_583]
noncomputable def gi_1074 : GI := jl_n [gp_429, gp_585, jl_z 1]
noncomputable def gi_1075 : GI := jl_n [gp_429, gp_587, jl_z 1]
noncomputable def gi_1076 : GI := jl_n [gp_429, gp_589, jl_z 1]
noncomputable def gi_1077 : GI := jl_n [gp_429, gp_591, jl_z 1]
noncomputable def gi_1078 : GI := jl_n [gp_429, gp_594, jl_z 1]
noncomputable def gi_1079 : GI := jl_n [gp_429, gp_596, jl_z 1]
noncomputable def gi_1080 : GI := jl_n [gp_429, gp_598, jl_z 1]
noncomputable def gi_1081 : GI := jl_n [gp_429, gp_600, jl_z 1]
noncomputable def gi_1082 : GI := jl_n [gp_429, gp_602, jl_z 1]
noncomputable def gi_1083 : GI := jl_n [gp_429, gp_604, jl_z 1]
noncomputable def gi_1084 : GI := jl_n [gp_429, gp_606, jl_z 1]
noncomputable def gi_1085 : GI := jl_n [gp_429, gp_608, jl_z 1]
noncomputable def gi_1086 : GI := jl_n [gp_429, gp_610, jl_z 1]
noncomputable def gi_1087 : GI := jl_n [gp_429, gp_612, jl_z 1]
noncomputable def gi_1088 : GI := jl_n [gp_429, gp_614, jl_z 1]
noncomputable def gi_1089 : GI := jl_n [gp_429, gp_616, jl_z 1]
noncomputable def gi_1090 : GI := jl_n [gp_429, gp_618, jl_z 1]
noncomputable def gi_1091 : GI := jl_n [gp_429, gp_620, jl_z 1]
noncomputable def gi_1092 : GI := jl_n [gp_429, gp_621, jl_z 1]
noncomputable def gi_1093 : GI := jl_n [gp_429, gp_623, jl_z 1]
noncomputable def con_1509 : Con2 := ((yX11_wrongSeen, cX11_wrongSeen, 5, (some .int)), (1, 22), ([(6, 0, 0), (0, 0, 0), (1, 2, 0)], gi_933, hc_195, []), [((0, (-2), 0), gi_934, hq_884, [], [1]), ((0, (-6), 0), gi_1072, hq_884, [], [1]), ((0, 0, 0), gi_1073, hq_884, [], [1]), ((0, 0, 0), gi_1074, hq_884, [], [1]), ((0, 0, 0), gi_1075, hq_884, [], [1]), ((0, 0, 0), gi_1076, hq_884, [], [1]), ((0, 0, 0), gi_1077, hq_884, [], [1]), ((0, 0, 0), gi_1078, hq_884, [], [1]), ((0, 0, 0), gi_1079, hq_884, [], [1]), ((0, 0, 0), gi_1080, hq_884, [], [1]), ((0, 0, 0), gi_1081, hq_884, [], [1]), ((0, 0, 0), gi_1082, hq_884, [], [1]), ((0, 0, 0), gi_1083, hq_884, [], [1]), ((0, 0, 0), gi_1084, hq_884, [], [1]), ((0, 0, 0), gi_1085, hq_884, [], [1]), ((0, 0, 0), gi_1086, hq_884, [], [1]), ((0, 0, 0), gi_1087, hq_884, [], [1]), ((0, 0, 0), gi_1088, hq_884, [], [1]), ((0, 0, 0), gi_1089, hq_884, [], [1]), ((0, 0, 0), gi_1090, hq_884, [], [1]), ((0, 0, 0), gi_1091, hq_884, [], [1]), ((0, 0, 0), gi_1092, hq_884, [], [1]), ((0, 0, 0), gi_1093, hq_884, [], [1])])
theorem hd_1509 : con_1509.1 = (yX11_wrongSeen, cX11_wrongSeen, 5, (some .int)) := rfl
theorem ck_RX11_473_1451 : COK2 RX11 vwCl gTbl 473 0 con_1451 := ⟨wd_1218, wd_131, mh_X8_at, .inr (.inr ⟨rfl, wd_1215, wd_1216, wd_1217, ⟨_, rfl, pd_X8_at⟩, 8, _, TX8, 3, rfl, rfl⟩)⟩
theorem ck_RX11_473_1454 : COK2 RX11 vwCl gTbl 473 0 con_1454 := ⟨wd_1218, wd_131, mh_X8_at, .inr (.inr ⟨rfl, wd_1215, wd_1216, wd_1217, ⟨_, rfl, pd_X8_at⟩, 8, _, TX8, 3, rfl, rfl⟩)⟩
theorem ck_RX11_473_1457 : COK2 RX11 vwCl gTbl 473 0 con_1457 := ⟨wd_1218, wd_131, mh_X8_at, .inr (.inr ⟨rfl, wd_1215, wd_1216, wd_1217, ⟨_, rfl, pd_X8_at⟩, 8, _, TX8, 3, rfl, rfl⟩)⟩
theorem ck_RX11_473_1460 : COK2 RX11 vwCl gTbl 473 0 con_1460 := ⟨wd_1218, wd_131, mh_X8_at, .inr (.inr ⟨rfl, wd_1215, wd_1216, wd_1217, ⟨_, rfl, pd_X8_at⟩, 8, _, TX8, 3, rfl, rfl⟩)⟩
theorem ck_RX11_473_1463 : COK2 RX11 vwCl gTbl 473 0 con_1463 := ⟨wd_1218, wd_131, mh_X8_at, .inr (.inr ⟨rfl, wd_1215, wd_1216, wd_1217, ⟨_, rfl, pd_X8_at⟩, 8, _, TX8, 3, rfl, rfl⟩)⟩
theorem ck_RX11_473_1466 : COK2 RX11 vwCl gTbl 473 0 con_1466 := ⟨wd_1218, wd_131, mh_X8_at, .inr (.inr ⟨rfl, wd_1215, wd_1216, wd_1217, ⟨_, rfl, pd_X8_at⟩, 8, _, TX8, 3, rfl, rfl⟩)⟩
theorem ck_RX11_473_1469 : COK2 RX11 vwCl gTbl 473 0 con_1469 := ⟨wd_1218, wd_131, mh_X8_at, .inr (.inr ⟨rfl, wd_1215, wd_1216, wd_1217, ⟨_, rfl, pd_X8_at⟩, 8, _, TX8, 3, rfl, rfl⟩)⟩
theorem ck_RX11_473_1472 : COK2 RX11 vwCl gTbl 473 0 con_1472 := ⟨wd_1218, wd_131, mh_X8_at, .inr (.inr ⟨rfl, wd_1215, wd_1216, wd_1217, ⟨_, rfl, pd_X8_at⟩, 8, _, TX8, 3, rfl, rfl⟩)⟩
theorem ck_RX11_473_1475 : COK2 RX11 vwCl gTbl 473 0 con_1475 := ⟨wd_1218, wd_131, mh_X8_at, .inr (.inr ⟨rfl, wd_1215, wd_1216, wd_1217, ⟨_, rfl, pd_X8_at⟩, 8, _, TX8, 3, rfl, rfl⟩)⟩
theorem ck_RX11_473_1478 : COK2 RX11 vwCl gTbl 473 0 con_1478 := ⟨wd_1218, wd_131, mh_X8_at, .inr (.inr ⟨rfl, wd_1215, wd_1216, wd_1217, ⟨_, rfl, pd_X8_at⟩, 8, _, TX8, 3, rfl, rfl⟩)⟩
theorem ck_RX11_473_1481 : COK2 RX11 vwCl gTbl 473 0 con_1481 := ⟨wd_1218, wd_131, mh_X8_at, .inr (.inr ⟨rfl, wd_1215, wd_1216, wd_1217, ⟨_, rfl, pd_X8_at⟩, 8, _, TX8, 3, rfl, rfl⟩)⟩
theorem ck_RX11_473_1484 : COK2 RX11 vwCl gTbl 473 0 con_1484 := ⟨wd_1218, wd_131, mh_X8_at, .inr (.inr ⟨rfl, wd_1215, wd_1216, wd_1217, ⟨_, rfl, pd_X8_at⟩, 8, _, TX8, 3, rfl, rfl⟩)⟩
theorem ck_RX11_473_1487 : COK2 RX11 vwCl gTbl 473 0 con_1487 := ⟨wd_1218, wd_131, mh_X8_at, .inr (.inr ⟨rfl, wd_1215, wd_1216, wd_1217, ⟨_, rfl, pd_X8_at⟩, 8, _, TX8, 3, rfl, rfl⟩)⟩
theorem ck_RX11_473_1490 : COK2 RX11 vwCl gTbl 473 0 con_1490 := ⟨wd_1218, wd_131, mh_X8_at, .inr (.inr ⟨rfl, wd_1215, wd_1216, wd_1217, ⟨_, rfl, pd_X8_at⟩, 8, _, TX8, 3, rfl, rfl⟩)⟩
theorem ck_RX11_473_1493 : COK2 RX11 vwCl gTbl 473 0 con_1493 := ⟨wd_1218, wd_131, mh_X8_at, .inr (.inr ⟨rfl, wd_1215, wd_1216, wd_1217, ⟨_, rfl, pd_X8_at⟩, 8, _, TX8, 3, rfl, rfl⟩)⟩
theorem ck_RX11_473_1496 : COK2 RX11 vwCl gTbl 473 0 con_1496 := ⟨wd_1218, wd_131, mh_X8_at, .inr (.inr ⟨rfl, wd_1215, wd_1216, wd_1217, ⟨_, rfl, pd_X8_at⟩, 8, _, TX8, 3, rfl, rfl⟩)⟩
theorem ck_RX11_473_1499 : COK2 RX11 vwCl gTbl 473 0 con_1499 := ⟨wd_1218, wd_131, mh_X8_at, .inr (.inr ⟨rfl, wd_1215, wd_1216, wd_1217, ⟨_, rfl, pd_X8_at⟩, 8, _, TX8, 3, rfl, rfl⟩)⟩
theorem ck_RX11_473_1502 : COK2 RX11 vwCl gTbl 473 0 con_1502 := ⟨wd_1218, wd_131, mh_X8_at, .inr (.inr ⟨rfl, wd_1215, wd_1216, wd_1217, ⟨_, rfl, pd_X8_at⟩, 8, _, TX8, 3, rfl, rfl⟩)⟩
theorem ck_RX11_473_1505 : COK2 RX11 vwCl gTbl 473 0 con_1505 := ⟨wd_1218, wd_131, mh_X8_at, .inr (.inr ⟨rfl, wd_1215, wd_1216, wd_1217, ⟨_, rfl, pd_X8_at⟩, 8, _, TX8, 3, rfl, rfl⟩)⟩
theorem ck_RX11_473_1508 : COK2 RX11 vwCl gTbl 473 0 con_1508 := ⟨wd_1218, wd_131, mh_X8_at, .inr (.inr ⟨rfl, wd_1215, wd_1216, wd_1217, ⟨_, rfl, pd_X8_at⟩, 8, _, TX8, 3, rfl, rfl⟩)⟩
theorem ck_RX11_473_1450 : COK2 RX11 vwCl gTbl 473 0 con_1450 := ⟨wd_1218, wd_131, mh_X8_at, .inr (.inr ⟨rfl, wd_1215, wd_1216, wd_1217, ⟨_, rfl, pd_X8_at⟩, 8, _, TX8, 3, rfl, rfl⟩)⟩
theorem ck_RX11_473_1453 : COK2 RX11 vwCl gTbl 473 0 con_1453 := ⟨wd_1218, wd_131, mh_X8_at, .inr (.inr ⟨rfl, wd_1215, wd_1216, wd_1217, ⟨_, rfl, pd_X8_at⟩, 8, _, TX8, 3, rfl, rfl⟩)⟩
theorem ck_RX11_473_1456 : COK2 RX11 vwCl gTbl 473 0 con_1456 := ⟨wd_1218, wd_131, mh_X8_at, .inr (.inr ⟨rfl, wd_1215, wd_1216, wd_1217, ⟨_, rfl, pd_X8_at⟩, 8, _, TX8, 3, rfl, rfl⟩)⟩
theorem ck_RX11_473_1459 : COK2 RX11 vwCl gTbl 473 0 con_1459 := ⟨wd_1218, wd_131, mh_X8_at, .inr (.inr ⟨rfl, wd_1215, wd_1216, wd_1217, ⟨_, rfl, pd_X8_at⟩, 8, _, TX8, 3, rfl, rfl⟩)⟩
theorem ck_RX11_473_1462 : COK2 RX11 vwCl gTbl 473 0 con_1462 := ⟨wd_1218, wd_131, mh_X8_at, .inr (.inr ⟨rfl, wd_1215, wd_1216, wd_1217, ⟨_, rfl, pd_X8_at⟩, 8, _, TX8, 3, rfl, rfl⟩)⟩
theorem ck_RX11_473_1465 : COK2 RX11 vwCl gTbl 473 0 con_1465 := ⟨wd_1218, wd_131, mh_X8_at, .inr (.inr ⟨rfl, wd_1215, wd_1216, wd_1217, ⟨_, rfl, pd_X8_at⟩, 8, _, TX8, 3, rfl, rfl⟩)⟩
theorem ck_RX11_473_1468 : COK2 RX11 vwCl gTbl 473 0 con_1468 := ⟨wd_1218, wd_131, mh_X8_at, .inr (.inr ⟨rfl, wd_1215, wd_1216, wd_1217, ⟨_, rfl, pd_X8_at⟩, 8, _, TX8, 3, rfl, rfl⟩)⟩
theorem ck_RX11_473_1471 : COK2 RX11 vwCl gTbl 473 0 con_1471 := ⟨wd_1218, wd_131, mh_X8_at, .inr (.inr ⟨rfl, wd_1215, wd_1216, wd_1217, ⟨_, rfl, pd_X8_at⟩, 8, _, TX8, 3, rfl, rfl⟩)⟩
theorem ck_RX11_473_1474 : COK2 RX11 vwCl gTbl 473 0 con_1474 := ⟨wd_1218, wd_131, mh_X8_at, .inr (.inr ⟨rfl, wd_1215, wd_1216, wd_1217, ⟨_, rfl, pd_X8_at⟩, 8, _, TX8, 3, rfl, rfl⟩)⟩
theorem ck_RX11_473_1477 : COK2 RX11 vwCl gTbl 473 0 con_1477 := ⟨wd_1218, wd_131, mh_X8_at, .inr (.inr ⟨rfl, wd_1215, wd_1216, wd_1217, ⟨_, rfl, pd_X8_at⟩, 8, _, TX8, 3, rfl, rfl⟩)⟩
theorem ck_RX11_473_1480 : COK2 RX11 vwCl gTbl 473 0 con_1480 := ⟨wd_1218, wd_131, mh_X8_at, .inr (.inr ⟨rfl, wd_1215, wd_1216, wd_1217, ⟨_, rfl, pd_X8_at⟩, 8, _, TX8, 3, rfl, rfl⟩)⟩
theorem ck_RX11_473_1483 : COK2 RX11 vwCl gTbl 473 0 con_1483 := ⟨wd_1218, wd_131, mh_X8_at, .inr (.inr ⟨rfl, wd_1215, wd_1216, wd_1217, ⟨_, rfl, pd_X8_at⟩, 8, _, TX8, 3, rfl, rfl⟩)⟩
theorem ck_RX11_473_1486 : COK2 RX11 vwCl gTbl 473 0 con_1486 := ⟨wd_1218, wd_131, mh_X8_at, .inr (.inr ⟨rfl, wd_1215, wd_1216, wd_1217, ⟨_, rfl, pd_X8_at⟩, 8, _, TX8, 3, rfl, rfl⟩)⟩
theorem ck_RX11_473_1489 : COK2 RX11 vwCl gTbl 473 0 con_1489 := ⟨wd_1218, wd_131, mh_X8_at, .inr (.inr ⟨rfl, wd_1215, wd_1216, wd_1217, ⟨_, rfl, pd_X8_at⟩, 8, _, TX8, 3, rfl, rfl⟩)⟩
theorem ck_RX11_473_1492 : COK2 RX11 vwCl gTbl 473 0 con_1492 := ⟨wd_1218, wd_131, mh_X8_at, .inr (.inr ⟨rfl, wd_1215, wd_1216, wd_1217, ⟨_, rfl, pd_X8_at⟩, 8, _, TX8, 3, rfl, rfl⟩)⟩
theorem ck_RX11_473_1495 : COK2 RX11 vwCl gTbl 473 0 con_1495 := ⟨wd_1218, wd_131, mh_X8_at, .inr (.inr ⟨rfl, wd_1215, wd_1216, wd_1217, ⟨_, rfl, pd_X8_at⟩, 8, _, TX8, 3, rfl, rfl⟩)⟩
theorem ck_RX11_473_1498 : COK2 RX11 vwCl gTbl 473 0 con_1498 := ⟨wd_1218, wd_131, mh_X8_at, .inr (.inr ⟨rfl, wd_1215, wd_1216, wd_1217, ⟨_, rfl, pd_X8_at⟩, 8, _, TX8, 3, rfl, rfl⟩)⟩
theorem ck_RX11_473_1501 : COK2 RX11 vwCl gTbl 473 0 con_1501 := ⟨wd_1218, wd_131, mh_X8_at, .inr (.inr ⟨rfl, wd_1215, wd_1216, wd_1217, ⟨_, rfl, pd_X8_at⟩, 8, _, TX8, 3, rfl, rfl⟩)⟩
theorem ck_RX11_473_1504 : COK2 RX11 vwCl gTbl 473 0 con_1504 := ⟨wd_1218, wd_131, mh_X8_at, .inr (.inr ⟨rfl, wd_1215, wd_1216, wd_1217, ⟨_, rfl, pd_X8_at⟩, 8, _, TX8, 3, rfl, rfl⟩)⟩
theorem ck_RX11_473_1507 : COK2 RX11 vwCl gTbl 473 0 con_1507 := ⟨wd_1218, wd_131, mh_X8_at, .inr (.inr ⟨rfl, wd_1215, wd_1216, wd_1217, ⟨_, rfl, pd_X8_at⟩, 8, _, TX8, 3, rfl, rfl⟩)⟩
theorem ck_RX11_473_1449 : COK2 RX11 vwCl gTbl 473 0 con_1449 := ⟨wd_1218, wd_131, mh_X8_at, .inr (.inr ⟨rfl, wd_1215, wd_1216, wd_1217, ⟨_, rfl, pd_X8_at⟩, 8, _, TX8, 3, rfl, rfl⟩)⟩
theorem ck_RX11_473_1452 : COK2 RX11 vwCl gTbl 473 0 con_1452 := ⟨wd_1218, wd_131, mh_X8_at, .inr (.inr ⟨rfl, wd_1215, wd_1216, wd_1217, ⟨_, rfl, pd_X8_at⟩, 8, _, TX8, 3, rfl, rfl⟩)⟩
theorem ck_RX11_473_1455 : COK2 RX11 vwCl gTbl 473 0 con_1455 := ⟨wd_1218, wd_131, mh_X8_at, .inr (.inr ⟨rfl, wd_1215, wd_1216, wd_1217, ⟨_, rfl, pd_X8_at⟩, 8, _, TX8, 3, rfl, rfl⟩)⟩
theorem ck_RX11_473_1458 : COK2 RX11 vwCl gTbl 473 0 con_1458 := ⟨wd_1218, wd_131, mh_X8_at, .inr (.inr ⟨rfl, wd_1215, wd_1216, wd_1217, ⟨_, rfl, pd_X8_at⟩, 8, _, TX8, 3, rfl, rfl⟩)⟩
theorem ck_RX11_473_1461 : COK2 RX11 vwCl gTbl 473 0 con_1461 := ⟨wd_1218, wd_131, mh_X8_at, .inr (.inr ⟨rfl, wd_1215, wd_1216, wd_1217, ⟨_, rfl, pd_X8_at⟩, 8, _, TX8, 3, rfl, rfl⟩)⟩
theorem ck_RX11_473_1464 : COK2 RX11 vwCl gTbl 473 0 con_1464 := ⟨wd_1218, wd_131, mh_X8_at, .inr (.inr ⟨rfl, wd_1215, wd_1216, wd_1217, ⟨_, rfl, pd_X8_at⟩, 8, _, TX8, 3, rfl, rfl⟩)⟩
theorem ck_RX11_473_1467 : COK2 RX11 vwCl gTbl 473 0 con_1467 := ⟨wd_1218, wd_131, mh_X8_at, .inr (.inr ⟨rfl, wd_1215, wd_1216, wd_1217, ⟨_, rfl, pd_X8_at⟩, 8, _, TX8, 3, rfl, rfl⟩)⟩
theorem ck_RX11_473_1470 : COK2 RX11 vwCl gTbl 473 0 con_1470 := ⟨wd_1218, wd_131, mh_X8_at, .inr (.inr ⟨rfl, wd_1215, wd_1216, wd_1217, ⟨_, rfl, pd_X8_at⟩, 8, _, TX8, 3, rfl, rfl⟩)⟩
theorem ck_RX11_473_1473 : COK2 RX11 vwCl gTbl 473 0 con_1473 := ⟨wd_1218, wd_131, mh_X8_at, .inr (.inr ⟨rfl, wd_1215, wd_1216, wd_1217, ⟨_, rfl, pd_X8_at⟩, 8, _, TX8, 3, rfl, rfl⟩)⟩
theorem ck_RX11_473_1476 : COK2 RX11 vwCl gTbl 473 0 con_1476 := ⟨wd_1218, wd_131, mh_X8_at, .inr (.inr ⟨rfl, wd_1215, wd_1216, wd_1217, ⟨_, rfl, pd_X8_at⟩, 8, _, TX8, 3, rfl, rfl⟩)⟩
theorem ck_RX11_473_1479 : COK2 RX11 vwCl gTbl 473 0 con_1479 := ⟨wd_1218, wd_131, mh_X8_at, .inr (.inr ⟨rfl, wd_1215, wd_1216, wd_1217, ⟨_, rfl, pd_X8_at⟩, 8, _, TX8, 3, rfl, rfl⟩)⟩
theorem ck_RX11_473_1482 : COK2 RX11 vwCl gTbl 473 0 con_1482 := ⟨wd_1218, wd_131, mh_X8_at, .inr (.inr ⟨rfl, wd_1215, wd_1216, wd_1217, ⟨_, rfl, pd_X8_at⟩, 8, _, TX8, 3, rfl, rfl⟩)⟩
theorem ck_RX11_473_1485 : COK2 RX11 vwCl gTbl 473 0 con_1485 := ⟨wd_1218, wd_131, mh_X8_at, .inr (.inr ⟨rfl, wd_1215, wd_1216, wd_1217, ⟨_, rfl, pd_X8_at⟩, 8, _, TX8, 3, rfl, rfl⟩)⟩
theorem ck_RX11_473_1488 : COK2 RX11 vwCl gTbl 473 0 con_1488 := ⟨wd_1218, wd_131, mh_X8_at, .inr (.inr ⟨rfl, wd_1215, wd_1216, wd_1217, ⟨_, rfl, pd_X8_at⟩, 8, _, TX8, 3, rfl, rfl⟩)⟩
theorem ck_RX11_473_1491 : COK2 RX11 vwCl gTbl 473 0 con_1491 := ⟨wd_1218, wd_131, mh_X8_at, .inr (.inr ⟨rfl, wd_1215, wd_1216, wd_1217, ⟨_, rfl, pd_X8_at⟩, 8, _, TX8, 3, rfl, rfl⟩)⟩
theorem ck_RX11_473_1494 : COK2 RX11 vwCl gTbl 473 0 con_1494 := ⟨wd_1218, wd_131, mh_X8_at, .inr (.inr ⟨rfl, wd_1215, wd_1216, wd_1217, ⟨_, rfl, pd_X8_at⟩, 8, _, TX8, 3, rfl, rfl⟩)⟩
theorem ck_RX11_473_1497 : COK2 RX11 vwCl gTbl 473 0 con_1497 := ⟨wd_1218, wd_131, mh_X8_at, .inr (.inr ⟨rfl, wd_1215, wd_1216, wd_1217, ⟨_, rfl, pd_X8_at⟩, 8, _, TX8, 3, rfl, rfl⟩)⟩
theorem ck_RX11_473_1500 : COK2 RX11 vwCl gTbl 473 0 con_1500 := ⟨wd_1218, wd_131, mh_X8_at, .inr (.inr ⟨rfl, wd_1215, wd_1216, wd_1217, ⟨_, rfl, pd_X8_at⟩, 8, _, TX8, 3, rfl, rfl⟩)⟩
theorem ck_RX11_473_1503 : COK2 RX11 vwCl gTbl 473 0 con_1503 := ⟨wd_1218, wd_131, mh_X8_at, .inr (.inr ⟨rfl, wd_1215, wd_1216, wd_1217, ⟨_, rfl, pd_X8_at⟩, 8, _, TX8, 3, rfl, rfl⟩)⟩
theorem ck_RX11_473_1506 : COK2 RX11 vwCl gTbl 473 0 con_1506 := ⟨wd_1218, wd_131, mh_X8_at, .inr (.inr ⟨rfl, wd_1215, wd_1216, wd_1217, ⟨_, rfl, pd_X8_at⟩, 8, _, TX8, 3, rfl, rfl⟩)⟩
theorem ck_RX11_420_1448 : COK2 RX11 vwCl gTbl 420 0 con_1448 := ⟨wd_1214, wd_131, mh_X8_hasRow, .inr (.inr ⟨rfl, wd_1211, wd_1212, wd_1213, ⟨_, rfl, pd_X8_hasRow⟩, 8, _, TX8, 3, rfl, rfl⟩)⟩
theorem ck_RX11_414_1447 : COK2 RX11 vwCl gTbl 414 1 con_1447 := ⟨wd_1210, wd_131, mh_X8_isSlot, .inl ⟨rfl, wd_1208, wd_1209, pd_X8_isSlot⟩⟩
noncomputable def ct_1509 : CTB2 := [(1, 414, 1, con_1447, []), (9, 139, 0, con_643, [0, 1, 2]), (23, 420, 0, con_1448, [3, 4]), (67, 473, 0, con_1506, [3, 5]), (67, 473, 0, con_1503, [3, 5]), (67, 473, 0, con_1500, [3, 5]), (67, 473, 0, con_1497, [3, 5]), (67, 473, 0, con_1494, [3, 5]), (67, 473, 0, con_1491, [3, 5]), (67, 473, 0, con_1488, [3, 5]), (67, 473, 0, con_1485, [3, 5]), (67, 473, 0, con_1482, [3, 5]), (67, 473, 0, con_1479, [3, 5]), (67, 473, 0, con_1476, [3, 5]), (67, 473, 0, con_1473, [3, 5]), (67, 473, 0, con_1470, [3, 5]), (67, 473, 0, con_1467, [3, 5]), (67, 473, 0, con_1464, [3, 5]), (67, 473, 0, con_1461, [3, 5]), (67, 473, 0, con_1458, [3, 5]), (67, 473, 0, con_1455, [3, 5]), (67, 473, 0, con_1452, [3, 5]), (67, 473, 0, con_1449, [3, 5]), (82, 476, 1, con_1258, []), (97, 473, 0, con_1507, [3, 5]), (97, 473, 0, con_1504, [3, 5]), (97, 473, 0, con_1501, [3, 5]), (97, 473, 0, con_1498, [3, 5]), (97, 473, 0, con_1495, [3, 5]), (97, 473, 0, con_1492, [3, 5]), (97, 473, 0, con_1489, [3, 5]), (97, 473, 0, con_1486, [3, 5]), (97, 473, 0, con_1483, [3, 5]), (97, 473, 0, con_1480, [3, 5]), (97, 473, 0, con_1477, [3, 5]), (97, 473, 0, con_1474, [3, 5]), (97, 473, 0, con_1471, [3, 5]), (97, 473, 0, con_1468, [3, 5]), (97, 473, 0, con_1465, [3, 5]), (97, 473, 0, con_1462, [3, 5]), (97, 473, 0, con_1459, [3, 5]), (97, 473, 0, con_1456, [3, 5]), (97, 473, 0, con_1453, [3, 5]), (97, 473, 0, con_1450, [3, 5]), (110, 476, 1, con_1260, []), (125, 473, 0, con_1508, [3, 5]), (125, 473, 0, con_1505, [3, 5]), (125, 473, 0, con_1502, [3, 5]), (125, 473, 0, con_1499, [3, 5]), (125, 473, 0, con_1496, [3, 5]), (125, 473, 0, con_1493, [3, 5]), (125, 473, 0, con_1490, [3, 5]), (125, 473, 0, con_1487, [3, 5]), (125, 473, 0, con_1484, [3, 5]), (125, 473, 0, con_1481, [3, 5]), (125, 473, 0, con_1478, [3, 5]), (125, 473, 0, con_1475, [3, 5]), (125, 473, 0, con_1472, [3, 5]), (125, 473, 0, con_1469, [3, 5]), (125, 473, 0, con_1466, [3, 5]), (125, 473, 0, con_1463, [3, 5]), (125, 473, 0, con_1460, [3, 5]), (125, 473, 0, con_1457, [3, 5]), (125, 473, 0, con_1454, [3, 5]), (125, 473, 0, con_1451, [3, 5]), (131, 476, 1, con_1262, [])]
noncomputable def gi_1094 : GI := jl_n [gp_429, jl_i 0 60, gp_582, jl_z 5]
noncomputable def gi_1095 : GI := jl_n [gp_429, jl_i 1 60, jl_r 3 (jl_m 0 60), gp_452, jl_z 5]
noncomputable def gi_1096 : GI := jl_n [gp_429, jl_i 4 60, jl_r 3 (jl_m 0 60), gp_484, jl_z 5]
noncomputable def gi_1097 : GI := jl_n [gp_429, jl_i 7 60, jl_r 3 (jl_m 0 60), gp_488, jl_z 5]
noncomputable def gi_1098 : GI := jl_n [gp_429, jl_i 10 60, jl_r 3 (jl_m 0 60), gp_435, jl_z 5]
noncomputable def gi_1099 : GI := jl_n [gp_429, jl_i 13 60, jl_r 3 (jl_m 0 60), gp_438, jl_z 5]
noncomputable def gi_1100 : GI := jl_n [gp_429, jl_i 16 60, jl_r 3 (jl_m 0 60), gp_441, jl_z 5]
noncomputable def gi_1101 : GI := jl_n [gp_429, jl_i 19 60, jl_r 3 (jl_m 0 60), gp_444, jl_z 5]
noncomputable def gi_1102 : GI := jl_n [gp_429, jl_i 22 60, gp_592, jl_r 36 (jl_u), jl_z 5]
noncomputable def gi_1103 : GI := jl_n [gp_429, jl_i 25 60, gp_592, gp_449, jl_z 5]
noncomputable def gi_1104 : GI := jl_n [gp_429, jl_i 28 60, gp_592, gp_454, jl_z 5]
noncomputable def gi_1105 : GI := jl_n [gp_429, jl_i 31 60, gp_592, gp_457, jl_z 5]
noncomputable def gi_1106 : GI := jl_n [gp_429, jl_i 34 60, jl_r 3 (jl_m 0 60), gp_461, jl_z 5]
noncomputable def gi_1107 : GI := jl_n [gp_429, jl_i 37 60, jl_r 3 (jl_m 0 60), gp_464, jl_z 5]
noncomputable def gi_1108 : GI := jl_n [gp_429, jl_i 40 60, jl_r 3 (jl_m 0 60), gp_467, jl_z 5]
noncomputable def gi_1109 : GI := jl_n [gp_429, jl_i 43 60, jl_r 3 (jl_m 0 60), gp_470, jl_z 5]
noncomputable def gi_1110 : GI := jl_n [gp_429, jl_i 46 60, jl_r 3 (jl_m 0 60), gp_473, jl_z 5]
noncomputable def gi_1111 : GI := jl_n [gp_429, jl_i 49 60, jl_r 3 (jl_m 0 60), gp_476, jl_z 5]
noncomputable def gi_1112 : GI := jl_n [gp_429, jl_i 52 60, jl_r 3 (jl_m 0 60), gp_479, jl_z 5]
noncomputable def gi_1113 : GI := jl_n [gp_429, jl_i 55 60, jl_r 3 (jl_m 0 60), gp_490]
noncomputable def gi_1114 : GI := jl_n [gp_429, gp_621, jl_z 5]
noncomputable def cu_1509_0 : List CUT2 := [((54, [lq 0 6 0, lq 1 0 0, lq 2 1 2, lq 3 1 41, lq 4 0 0], [], gi_1094, hq_884), [], ([], 60)), ((54, [lq 0 6 0, lq 1 0 0, lq 2 1 2, lq 3 1 41, lq 4 0 3], [], gi_1095, hq_884), [], ([], 57)), ((54, [lq 0 6 0, lq 1 0 0, lq 2 1 2, lq 3 1 41, lq 4 0 6], [], gi_1096, hq_884), [], ([], 54)), ((54, [lq 0 6 0, lq 1 0 0, lq 2 1 2, lq 3 1 41, lq 4 0 9], [], gi_1097, hq_884), [], ([], 51)), ((54, [lq 0 6 0, lq 1 0 0, lq 2 1 2, lq 3 1 41, lq 4 0 12], [], gi_1098, hq_884), [], ([], 48)), ((54, [lq 0 6 0, lq 1 0 0, lq 2 1 2, lq 3 1 41, lq 4 0 15], [], gi_1099, hq_884), [], ([], 45)), ((54, [lq 0 6 0, lq 1 0 0, lq 2 1 2, lq 3 1 41, lq 4 0 18], [], gi_1100, hq_884), [], ([], 42)), ((54, [lq 0 6 0, lq 1 0 0, lq 2 1 2, lq 3 1 41, lq 4 0 21], [], gi_1101, hq_884), [], ([], 39)), ((54, [lq 0 6 0, lq 1 0 0, lq 2 1 2, lq 3 1 41, lq 4 0 24], [], gi_1102, hq_884), [], ([], 36)), ((54, [lq 0 6 0, lq 1 0 0, lq 2 1 2, lq 3 1 41, lq 4 0 27], [], gi_1103, hq_884), [], ([], 33)), ((54, [lq 0 6 0, lq 1 0 0, lq 2 1 2, lq 3 1 41, lq 4 0 30], [], gi_1104, hq_884), [], ([], 30)), ((54, [lq 0 6 0, lq 1 0 0, lq 2 1 2, lq 3 1 41, lq 4 0 33], [], gi_1105, hq_884), [], ([], 27)), ((54, [lq 0 6 0, lq 1 0 0, lq 2 1 2, lq 3 1 41, lq 4 0 36], [], gi_1106, hq_884), [], ([], 24))]
noncomputable def cu_1509_1 : List CUT2 := [((54, [lq 0 6 0, lq 1 0 0, lq 2 1 2, lq 3 1 41, lq 4 0 39], [], gi_1107, hq_884), [], ([], 21)), ((54, [lq 0 6 0, lq 1 0 0, lq 2 1 2, lq 3 1 41, lq 4 0 42], [], gi_1108, hq_884), [], ([], 18)), ((54, [lq 0 6 0, lq 1 0 0, lq 2 1 2, lq 3 1 41, lq 4 0 45], [], gi_1109, hq_884), [], ([], 15)), ((54, [lq 0 6 0, lq 1 0 0, lq 2 1 2, lq 3 1 41, lq 4 0 48], [], gi_1110, hq_884), [], ([], 12)), ((54, [lq 0 6 0, lq 1 0 0, lq 2 1 2, lq 3 1 41, lq 4 0 51], [], gi_1111, hq_884), [], ([], 9)), ((54, [lq 0 6 0, lq 1 0 0, lq 2 1 2, lq 3 1 41, lq 4 0 54], [], gi_1112, hq_884), [], ([], 6)), ((54, [lq 0 6 0, lq 1 0 0, lq 2 1 2, lq 3 1 41, lq 4 0 57], [], gi_1113, hq_884), [], ([], 3)), ((54, [lq 0 6 0, lq 1 0 0, lq 2 1 2, lq 3 1 41, lq 4 0 60], [], gi_1114, hq_884), [], ([], 0))]
noncomputable def cu_1509 : List CUT2 := cu_1509_0 ++ (cu_1509_1)
theorem ch_1509 : staG tb_X11_wrongSeen 1 bt_RX11 [] ct_1509 [] [] cu_1509 44 con_1509 = true := by decide +kernel
theorem cc_1509_0 : cu_1509_0.all (cutG tb_X11_wrongSeen 1 bt_RX11 [] ct_1509 [] [] cu_1509 44 con_1509) = true := by decide +kernel
theorem cc_1509_1 : cu_1509_1.all (cutG tb_X11_wrongSeen 1 bt_RX11 [] ct_1509 [] [] cu_1509 44 con_1509) = true := by decide +kernel
theorem cto_1509 (l : Launch) : CTOK2 l RX11 vwCl gTbl ct_1509 := ct2_cons (vl_1447 l) ck_RX11_414_1447 (ct2_cons (vl_643 l) ck_RX11_139_643 (ct2_cons (vl_1448 l) ck_RX11_420_1448 (ct2_cons (vl_1506 l) ck_RX11_473_1506 (ct2_cons (vl_1503 l) ck_RX11_473_1503 (ct2_cons (vl_1500 l) ck_RX11_473_1500 (ct2_cons (vl_1497 l) ck_RX11_473_1497 (ct2_cons (vl_1494 l) ck_RX11_473_1494 (ct2_cons (vl_1491 l) ck_RX11_473_1491 (ct2_cons (vl_1488 l) ck_RX11_473_1488 (ct2_cons (vl_1485 l) ck_RX11_473_1485 (ct2_cons (vl_1482 l) ck_RX11_473_1482 (ct2_cons (vl_1479 l) ck_RX11_473_1479 (ct2_cons (vl_1476 l) ck_RX11_473_1476 (ct2_cons (vl_1473 l) ck_RX11_473_1473 (ct2_cons (vl_1470 l) ck_RX11_473_1470 (ct2_cons (vl_1467 l) ck_RX11_473_1467 (ct2_cons (vl_1464 l) ck_RX11_473_1464 (ct2_cons (vl_1461 l) ck_RX11_473_1461 (ct2_cons (vl_1458 l) ck_RX11_473_1458 (ct2_cons (vl_1455 l) ck_RX11_473_1455 (ct2_cons (vl_1452 l) ck_RX11_473_1452 (ct2_cons (vl_1449 l) ck_RX11_473_1449 (ct2_cons (vl_1258 l) ck_RX11_476_1258 (ct2_cons (vl_1507 l) ck_RX11_473_1507 (ct2_cons (vl_1504 l) ck_RX11_473_1504 (ct2_cons (vl_1501 l) ck_RX11_473_1501 (ct2_cons (vl_1498 l) ck_RX11_473_1498 (ct2_cons (vl_1495 l) ck_RX11_473_1495 (ct2_cons (vl_1492 l) ck_RX11_473_1492 (ct2_cons (vl_1489 l) ck_RX11_473_1489 (ct2_cons (vl_1486 l) ck_RX11_473_1486 (ct2_cons (vl_1483 l) ck_RX11_473_1483 (ct2_cons (vl_1480 l) ck_RX11_473_1480 (ct2_cons (vl_1477 l) ck_RX11_473_1477 (ct2_cons (vl_1474 l) ck_RX11_473_1474 (ct2_cons (vl_1471 l) ck_RX11_473_1471 (ct2_cons (vl_1468 l) ck_RX11_473_1468 (ct2_cons (vl_1465 l) ck_RX11_473_1465 (ct2_cons (vl_1462 l) ck_RX11_473_1462 (ct2_cons (vl_1459 l) ck_RX11_473_1459 (ct2_cons (vl_1456 l) ck_RX11_473_1456 (ct2_cons (vl_1453 l) ck_RX11_473_1453 (ct2_cons (vl_1450 l) ck_RX11_473_1450 (ct2_cons (vl_1260 l) ck_RX11_476_1260 (ct2_cons (vl_1508 l) ck_RX11_473_1508 (ct2_cons (vl_1505 l) ck_RX11_473_1505 (ct2_cons (vl_1502 l) ck_RX11_473_1502 (ct2_cons (vl_1499 l) ck_RX11_473_1499 (ct2_cons (vl_1496 l) ck_RX11_473_1496 (ct2_cons (vl_1493 l) ck_RX11_473_1493 (ct2_cons (vl_1490 l) ck_RX11_473_1490 (ct2_cons (vl_1487 l) ck_RX11_473_1487 (ct2_cons (vl_1484 l) ck_RX11_473_1484 (ct2_cons (vl_1481 l) ck_RX11_473_1481 (ct2_cons (vl_1478 l) ck_RX11_473_1478 (ct2_cons (vl_1475 l) ck_RX11_473_1475 (ct2_cons (vl_1472 l) ck_RX11_473_1472 (ct2_cons (vl_1469 l) ck_RX11_473_1469 (ct2_cons (vl_1466 l) ck_RX11_473_1466 (ct2_cons (vl_1463 l) ck_RX11_473_1463 (ct2_cons (vl_1460 l) ck_RX11_473_1460 (ct2_cons (vl_1457 l) ck_RX11_473_1457 (ct2_cons (vl_1454 l) ck_RX11_473_1454 (ct2_cons (vl_1451 l) ck_RX11_473_1451 (ct2_cons (vl_1262 l) ck_RX11_476_1262 (ct2_nil))))))))))))))))))))))))))))))))))))))))))))))))))))))))))))))))))
theorem vl_1509 (l : Launch) : Vld2 l vwCl gTbl con_1509 := conR_ok3 gT_all (hd_1509) rfl pn_RX11 tk_X11_wrongSeen bo_RX11 xo_RX11 (cto_1509 l) ch_1509 (cut_app (cut_all cc_1509_0) (cut_all cc_1509_1))
/-- RookHusting$Slots isSlot -/
noncomputable def con_1510 : Con2 := ((yX8_isSlot, cX8_isSlot, 1, (some .boolean)), (0, 0), ([(1, 0, 0)], [((-2147483648), (-1))], [], []), [((0, 0, 0), [((-2147483648), (-1)), (0, 0)], [], [], [1])])
theorem hd_1510 : con_1510.1 = (yX8_isSlot, cX8_isSlot, 1, (some .boolean)) := rfl
noncomputable def cu_1510 : List CUT2 := []
theorem ch_1510 : staG tb_X8_isSlot 1 bt_RX8 [] ct_1253 [] [] cu_1510 6 con_1510 = true := by decide +kernel
theorem vl_1510 (l : Launch) : Vld2 l vwCl gTbl con_1510 := conR_ok3 gT_all (hd_1510) rfl pn_RX8 tk_X8_isSlot bo_RX8 xo_RX8 (cto_1253 l) ch_1510 cut_nil
/-- RookHusting wrongSeen -/
noncomputable def gi_1115 : GI := jl_n [gp_625, gp_424]
noncomputable def gi_1116 : GI := jl_n [gp_625, gp_423, gp_425]
noncomputable def con_1511 : Con2 := ((yX11_wrongSeen, cX11_wrongSeen, 5, (some .int)), (1, 20), ([(6, 0, 0), (1, 1, 0), (1, 2, 0)], gi_1115, hc_191, []), [((0, (-2), 0), gi_1116, hq_639, [], [1])])
theorem hd_1511 : con_1511.1 = (yX11_wrongSeen, cX11_wrongSeen, 5, (some .int)) := rfl
theorem ck_RX11_414_1510 : COK2 RX11 vwCl gTbl 414 1 con_1510 := ⟨wd_1210, wd_131, mh_X8_isSlot, .inl ⟨rfl, wd_1208, wd_1209, pd_X8_isSlot⟩⟩
noncomputable def ct_1511 : CTB2 := [(1, 414, 1, con_1510, [])]
noncomputable def cu_1511 : List CUT2 := []
theorem ch_1511 : staG tb_X11_wrongSeen 1 bt_RX11 [] ct_1511 [] [] cu_1511 7 con_1511 = true := by decide +kernel
theorem cto_1511 (l : Launch) : CTOK2 l RX11 vwCl gTbl ct_1511 := ct2_cons (vl_1510 l) ck_RX11_414_1510 (ct2_nil)
theorem vl_1511 (l : Launch) : Vld2 l vwCl gTbl con_1511 := conR_ok3 gT_all (hd_1511) rfl pn_RX11 tk_X11_wrongSeen bo_RX11 xo_RX11 (cto_1511 l) ch_1511 cut_nil
/-- RookHusting$Slots at -/
noncomputable def gi_1117 : GI := jl_n [jl_z 6, gp_94]
noncomputable def con_1512 : Con2 := ((yX8_at, cX8_at, 3, (some .long)), (0, 0), ([(6, 0, 0), (0, 3, 0), (0, 0, 0)], [(0, 0), (0, 0), (0, 0), (0, 0), (0, 0), (0, 0), (0, 4)], [.inl (8, [(6, 1, 0), (8, 4, 0), (8, 5, 0)]), ac_809], []), [((4, 6, 0), gi_1117, hq_641, [], [1])])
theorem hd_1512 : con_1512.1 = (yX8_at, cX8_at, 3, (some .long)) := rfl
noncomputable def cu_1512 : List CUT2 := []
theorem ch_1512 : staG tb_X8_at 1 bt_RX8 [] ct_1253 [] [] cu_1512 11 con_1512 = true := by decide +kernel
theorem vl_1512 (l : Launch) : Vld2 l vwCl gTbl con_1512 := conR_ok3 gT_all (hd_1512) rfl pn_RX8 tk_X8_at bo_RX8 xo_RX8 (cto_1253 l) ch_1512 cut_nil
/-- RookHusting$Slots at -/
noncomputable def gi_1118 : GI := jl_n [jl_z 6, gp_361]
noncomputable def con_1513 : Con2 := ((yX8_at, cX8_at, 3, (some .long)), (0, 0), ([(6, 0, 0), (0, 3, 0), (0, 1, 0)], [(0, 0), (0, 0), (0, 0), (0, 0), (0, 0), (0, 0), (0, 16)], [.inl (8, [(6, 1, 0), (8, 4, 0), (8, 5, 0)]), ac_810], []), [((4, 6, 0), gi_1118, hq_642, [], [1])])
theorem hd_1513 : con_1513.1 = (yX8_at, cX8_at, 3, (some .long)) := rfl
noncomputable def cu_1513 : List CUT2 := []
theorem ch_1513 : staG tb_X8_at 1 bt_RX8 [] ct_1253 [] [] cu_1513 11 con_1513 = true := by decide +kernel
theorem vl_1513 (l : Launch) : Vld2 l vwCl gTbl con_1513 := conR_ok3 gT_all (hd_1513) rfl pn_RX8 tk_X8_at bo_RX8 xo_RX8 (cto_1253 l) ch_1513 cut_nil
/-- RookHusting$Slots at -/
noncomputable def gi_1119 : GI := jl_n [jl_z 6, jl_i 0 250, jl_z 1]
noncomputable def con_1514 : Con2 := ((yX8_at, cX8_at, 3, (some .long)), (0, 0), ([(6, 0, 0), (0, 3, 0), (0, 2, 0)], [(0, 0), (0, 0), (0, 0), (0, 0), (0, 0), (0, 0), (0, 250)], [.inl (8, [(6, 1, 0), (8, 4, 0), (8, 5, 0)]), ac_811], []), [((4, 6, 0), gi_1119, hq_643, [], [1])])
theorem hd_1514 : con_1514.1 = (yX8_at, cX8_at, 3, (some .long)) := rfl
noncomputable def cu_1514 : List CUT2 := []
theorem ch_1514 : staG tb_X8_at 1 bt_RX8 [] ct_1253 [] [] cu_1514 11 con_1514 = true := by decide +kernel
theorem vl_1514 (l : Launch) : Vld2 l vwCl gTbl con_1514 := conR_ok3 gT_all (hd_1514) rfl pn_RX8 tk_X8_at bo_RX8 xo_RX8 (cto_1253 l) ch_1514 cut_nil
/-- RookHusting$Slots at -/
noncomputable def con_1515 : Con2 := ((yX8_at, cX8_at, 3, (some .long)), (0, 0), ([(6, 0, 0), (0, 3, 0), (0, 3, 0)], [(0, 0), (0, 0), (0, 0), (0, 0), (0, 0), (0, 0), (0, 4)], [.inl (8, [(6, 1, 0), (8, 4, 0), (8, 5, 0)]), ac_812], []), [((4, 6, 0), gi_1117, hq_644, [], [1])])
theorem hd_1515 : con_1515.1 = (yX8_at, cX8_at, 3, (some .long)) := rfl
noncomputable def cu_1515 : List CUT2 := []
theorem ch_1515 : staG tb_X8_at 1 bt_RX8 [] ct_1253 [] [] cu_1515 11 con_1515 = true := by decide +kernel
theorem vl_1515 (l : Launch) : Vld2 l vwCl gTbl con_1515 := conR_ok3 gT_all (hd_1515) rfl pn_RX8 tk_X8_at bo_RX8 xo_RX8 (cto_1253 l) ch_1515 cut_nil
/-- RookHusting$Slots at -/
noncomputable def con_1516 : Con2 := ((yX8_at, cX8_at, 3, (some .long)), (0, 0), ([(6, 0, 0), (0, 3, 0), (0, 4, 0)], [(0, 0), (0, 0), (0, 0), (0, 0), (0, 0), (0, 0), (0, 16)], [.inl (8, [(6, 1, 0), (8, 4, 0), (8, 5, 0)]), ac_813], []), [((4, 6, 0), gi_1118, hq_645, [], [1])])
theorem hd_1516 : con_1516.1 = (yX8_at, cX8_at, 3, (some .long)) := rfl
noncomputable def cu_1516 : List CUT2 := []
theorem ch_1516 : staG tb_X8_at 1 bt_RX8 [] ct_1253 [] [] cu_1516 11 con_1516 = true := by decide +kernel
theorem vl_1516 (l : Launch) : Vld2 l vwCl gTbl con_1516 := conR_ok3 gT_all (hd_1516) rfl pn_RX8 tk_X8_at bo_RX8 xo_RX8 (cto_1253 l) ch_1516 cut_nil
/-- RookHusting$Slots at -/
noncomputable def con_1517 : Con2 := ((yX8_at, cX8_at, 3, (some .long)), (0, 0), ([(6, 0, 0), (0, 3, 0), (0, 5, 0)], [(0, 0), (0, 0), (0, 0), (0, 0), (0, 0), (0, 0), (0, 250)], [.inl (8, [(6, 1, 0), (8, 4, 0), (8, 5, 0)]), ac_814], []), [((4, 6, 0), gi_1119, hq_646, [], [1])])
theorem hd_1517 : con_1517.1 = (yX8_at, cX8_at, 3, (some .long)) := rfl
noncomputable def cu_1517 : List CUT2 := []
theorem ch_1517 : staG tb_X8_at 1 bt_RX8 [] ct_1253 [] [] cu_1517 11 con_1517 = true := by decide +kernel
theorem vl_1517 (l : Launch) : Vld2 l vwCl gTbl con_1517 := conR_ok3 gT_all (hd_1517) rfl pn_RX8 tk_X8_at bo_RX8 xo_RX8 (cto_1253 l) ch_1517 cut_nil
/-- RookHusting$Slots at -/
noncomputable def con_1518 : Con2 := ((yX8_at, cX8_at, 3, (some .long)), (0, 0), ([(6, 0, 0), (0, 3, 0), (0, 6, 0)], [(0, 0), (0, 0), (0, 0), (0, 0), (0, 0), (0, 0), (0, 4)], [.inl (8, [(6, 1, 0), (8, 4, 0), (8, 5, 0)]), ac_815], []), [((4, 6, 0), gi_1117, hq_647, [], [1])])
theorem hd_1518 : con_1518.1 = (yX8_at, cX8_at, 3, (some .long)) := rfl
noncomputable def cu_1518 : List CUT2 := []
theorem ch_1518 : staG tb_X8_at 1 bt_RX8 [] ct_1253 [] [] cu_1518 11 con_1518 = true := by decide +kernel
theorem vl_1518 (l : Launch) : Vld2 l vwCl gTbl con_1518 := conR_ok3 gT_all (hd_1518) rfl pn_RX8 tk_X8_at bo_RX8 xo_RX8 (cto_1253 l) ch_1518 cut_nil
/-- RookHusting$Slots at -/
noncomputable def con_1519 : Con2 := ((yX8_at, cX8_at, 3, (some .long)), (0, 0), ([(6, 0, 0), (0, 3, 0), (0, 7, 0)], [(0, 0), (0, 0), (0, 0), (0, 0), (0, 0), (0, 0), (0, 16)], [.inl (8, [(6, 1, 0), (8, 4, 0), (8, 5, 0)]), ac_816], []), [((4, 6, 0), gi_1118, hq_648, [], [1])])
theorem hd_1519 : con_1519.1 = (yX8_at, cX8_at, 3, (some .long)) := rfl
noncomputable def cu_1519 : List CUT2 := []
theorem ch_1519 : staG tb_X8_at 1 bt_RX8 [] ct_1253 [] [] cu_1519 11 con_1519 = true := by decide +kernel
theorem vl_1519 (l : Launch) : Vld2 l vwCl gTbl con_1519 := conR_ok3 gT_all (hd_1519) rfl pn_RX8 tk_X8_at bo_RX8 xo_RX8 (cto_1253 l) ch_1519 cut_nil
/-- RookHusting$Slots at -/
noncomputable def con_1520 : Con2 := ((yX8_at, cX8_at, 3, (some .long)), (0, 0), ([(6, 0, 0), (0, 3, 0), (0, 8, 0)], [(0, 0), (0, 0), (0, 0), (0, 0), (0, 0), (0, 0), (0, 250)], [.inl (8, [(6, 1, 0), (8, 4, 0), (8, 5, 0)]), ac_817], []), [((4, 6, 0), gi_1119, hq_649, [], [1])])
theorem hd_1520 : con_1520.1 = (yX8_at, cX8_at, 3, (some .long)) := rfl
noncomputable def cu_1520 : List CUT2 := []
theorem ch_1520 : staG tb_X8_at 1 bt_RX8 [] ct_1253 [] [] cu_1520 11 con_1520 = true := by decide +kernel
theorem vl_1520 (l : Launch) : Vld2 l vwCl gTbl con_1520 := conR_ok3 gT_all (hd_1520) rfl pn_RX8 tk_X8_at bo_RX8 xo_RX8 (cto_1253 l) ch_1520 cut_nil
/-- RookHusting isAsSeen -/
noncomputable def gi_1120 : GI := jl_n [gp_627, jl_z 9]
noncomputable def ac_1053 : AC := .inl (11, jl_n [vp_13, jl_8 11 4, jl_6 5 1, jl_8 18 6])
noncomputable def ac_1054 : AC := .inr (1, jl_n [js_1 25 4])
noncomputable def ac_1055 : AC := .inr (2, jl_n [js_5 180 9223372036854775807 9223372036854775807, js_4 85 60])
noncomputable def ac_1056 : AC := .inl (3, jl_n [jl_8 86 1, jl_6 6 1, jl_8 94 7])
noncomputable def hc_196 : List AC := [ac_1053, .inl (8, [(6, 3, 0), (8, 19, 0), (6, 2, 0)]), ac_1054, ac_1055, ac_1056, am_0]
noncomputable def gi_1121 : GI := jl_n [gp_627, jl_z 10]
noncomputable def hq_885 : HP := [(false, ac_1053), (false, .inl (8, [(6, 3, 0), (8, 19, 0), (6, 2, 0)])), (false, ac_1054), (false, ac_1055), (false, ac_1056), (false, am_0)]
noncomputable def con_1521 : Con2 := ((yX11_isAsSeen, cX11_isAsSeen, 4, (some .boolean)), (1, 22), ([(6, 0, 0), (0, 3, 0)], gi_1120, hc_196, []), [((0, 0, 0), gi_1121, hq_885, [], [1]), ((0, 1, 0), gi_1121, hq_885, [], [1])])
theorem hd_1521 : con_1521.1 = (yX11_isAsSeen, cX11_isAsSeen, 4, (some .boolean)) := rfl
theorem ck_RX11_473_1514 : COK2 RX11 vwCl gTbl 473 0 con_1514 := ⟨wd_1218, wd_131, mh_X8_at, .inr (.inr ⟨rfl, wd_1215, wd_1216, wd_1217, ⟨_, rfl, pd_X8_at⟩, 8, _, TX8, 3, rfl, rfl⟩)⟩
theorem ck_RX11_473_1517 : COK2 RX11 vwCl gTbl 473 0 con_1517 := ⟨wd_1218, wd_131, mh_X8_at, .inr (.inr ⟨rfl, wd_1215, wd_1216, wd_1217, ⟨_, rfl, pd_X8_at⟩, 8, _, TX8, 3, rfl, rfl⟩)⟩
theorem ck_RX11_473_1520 : COK2 RX11 vwCl gTbl 473 0 con_1520 := ⟨wd_1218, wd_131, mh_X8_at, .inr (.inr ⟨rfl, wd_1215, wd_1216, wd_1217, ⟨_, rfl, pd_X8_at⟩, 8, _, TX8, 3, rfl, rfl⟩)⟩
theorem ck_RX11_473_1513 : COK2 RX11 vwCl gTbl 473 0 con_1513 := ⟨wd_1218, wd_131, mh_X8_at, .inr (.inr ⟨rfl, wd_1215, wd_1216, wd_1217, ⟨_, rfl, pd_X8_at⟩, 8, _, TX8, 3, rfl, rfl⟩)⟩
theorem ck_RX11_473_1516 : COK2 RX11 vwCl gTbl 473 0 con_1516 := ⟨wd_1218, wd_131, mh_X8_at, .inr (.inr ⟨rfl, wd_1215, wd_1216, wd_1217, ⟨_, rfl, pd_X8_at⟩, 8, _, TX8, 3, rfl, rfl⟩)⟩
theorem ck_RX11_473_1519 : COK2 RX11 vwCl gTbl 473 0 con_1519 := ⟨wd_1218, wd_131, mh_X8_at, .inr (.inr ⟨rfl, wd_1215, wd_1216, wd_1217, ⟨_, rfl, pd_X8_at⟩, 8, _, TX8, 3, rfl, rfl⟩)⟩
theorem ck_RX11_473_1512 : COK2 RX11 vwCl gTbl 473 0 con_1512 := ⟨wd_1218, wd_131, mh_X8_at, .inr (.inr ⟨rfl, wd_1215, wd_1216, wd_1217, ⟨_, rfl, pd_X8_at⟩, 8, _, TX8, 3, rfl, rfl⟩)⟩
theorem ck_RX11_473_1515 : COK2 RX11 vwCl gTbl 473 0 con_1515 := ⟨wd_1218, wd_131, mh_X8_at, .inr (.inr ⟨rfl, wd_1215, wd_1216, wd_1217, ⟨_, rfl, pd_X8_at⟩, 8, _, TX8, 3, rfl, rfl⟩)⟩
theorem ck_RX11_473_1518 : COK2 RX11 vwCl gTbl 473 0 con_1518 := ⟨wd_1218, wd_131, mh_X8_at, .inr (.inr ⟨rfl, wd_1215, wd_1216, wd_1217, ⟨_, rfl, pd_X8_at⟩, 8, _, TX8, 3, rfl, rfl⟩)⟩
noncomputable def ct_1521 : CTB2 := [(21, 473, 0, con_1518, [1, 3]), (21, 473, 0, con_1515, [1, 3]), (21, 473, 0, con_1512, [1, 3]), (36, 473, 0, con_1519, [1, 3]), (36, 473, 0, con_1516, [1, 3]), (36, 473, 0, con_1513, [1, 3]), (60, 473, 0, con_1520, [1, 3]), (60, 473, 0, con_1517, [1, 3]), (60, 473, 0, con_1514, [1, 3])]
noncomputable def gi_1122 : GI := jl_n [gp_627, jl_z 12]
noncomputable def gi_1123 : GI := jl_n [gp_627, gp_628]
noncomputable def cu_1521 : List CUT2 := [((2, [lq 0 6 0, lq 1 0 3, lq 2 0 0], [], gi_1122, hq_885), [], ([], 9)), ((2, [lq 0 6 0, lq 1 0 3, lq 2 0 3, lq 3 1 97], [], gi_1123, hq_885), [], ([], 6)), ((2, [lq 0 6 0, lq 1 0 3, lq 2 0 6, lq 3 1 97], [], gi_1123, hq_885), [], ([], 3)), ((2, [lq 0 6 0, lq 1 0 3, lq 2 0 9, lq 3 1 97], [], gi_1123, hq_885), [], ([], 0))]
theorem ch_1521 : staG tb_X11_isAsSeen 1 bt_RX11 [] ct_1521 [] [] cu_1521 44 con_1521 = true := by decide +kernel
theorem cc_1521 : cu_1521.all (cutG tb_X11_isAsSeen 1 bt_RX11 [] ct_1521 [] [] cu_1521 44 con_1521) = true := by decide +kernel
theorem cto_1521 (l : Launch) : CTOK2 l RX11 vwCl gTbl ct_1521 := ct2_cons (vl_1518 l) ck_RX11_473_1518 (ct2_cons (vl_1515 l) ck_RX11_473_1515 (ct2_cons (vl_1512 l) ck_RX11_473_1512 (ct2_cons (vl_1519 l) ck_RX11_473_1519 (ct2_cons (vl_1516 l) ck_RX11_473_1516 (ct2_cons (vl_1513 l) ck_RX11_473_1513 (ct2_cons (vl_1520 l) ck_RX11_473_1520 (ct2_cons (vl_1517 l) ck_RX11_473_1517 (ct2_cons (vl_1514 l) ck_RX11_473_1514 (ct2_nil)))))))))
theorem vl_1521 (l : Launch) : Vld2 l vwCl gTbl con_1521 := conR_ok3 gT_all (hd_1521) rfl pn_RX11 tk_X11_isAsSeen bo_RX11 xo_RX11 (cto_1521 l) ch_1521 (cut_all cc_1521)
/-- RookHusting$Guesses keep -/
noncomputable def gi_1124 : GI := jl_n [jl_z 3, gp_383]
noncomputable def hc_197 : List AC := [.inl (2, [(1, 3, 0), (8, 4, 0), (8, 5, 0), (6, 2, 0)]), am_0, am_16]
noncomputable def gi_1125 : GI := jl_n [jl_z 3, gp_383, gp_383]
noncomputable def hq_886 : HP := [(true, .inl (2, [(1, 7, 0), (8, 4, 0), (8, 5, 0), (6, 2, 0)])), (false, am_0), (true, am_16)]
noncomputable def con_1522 : Con2 := ((yX2_keep, cX2_keep, 3, none), (1, 18), ([(6, 0, 0), (0, 5, 0), (6, 1, 0)], gi_1124, hc_197, []), [((9, 0, 0), gi_1125, hq_886, [], [1, 1, 1, 1])])
theorem hd_1522 : con_1522.1 = (yX2_keep, cX2_keep, 3, none) := rfl
noncomputable def ct_1522 : CTB2 := []
noncomputable def cu_1522 : List CUT2 := []
theorem ch_1522 : staG tb_X2_keep 1 bt_RX2 [] ct_1522 [] [] cu_1522 20 con_1522 = true := by decide +kernel
theorem cto_1522 (l : Launch) : CTOK2 l RX2 vwCl gTbl ct_1522 := ct2_nil
theorem vl_1522 (l : Launch) : Vld2 l vwCl gTbl con_1522 := conR_ok3 gT_all (hd_1522) rfl pn_RX2 tk_X2_keep bo_RX2 xo_RX2 (cto_1522 l) ch_1522 cut_nil
/-- RookHusting$Guesses keep -/
noncomputable def gi_1126 : GI := jl_n [gp_151, gp_383]
noncomputable def gi_1127 : GI := jl_n [gp_151, gp_383, gp_383]
noncomputable def con_1527 : Con2 := ((yX2_keep, cX2_keep, 3, none), (1, 18), ([(6, 0, 0), (1, 1, 0), (6, 1, 0)], gi_1126, hc_197, []), [((9, 0, 0), gi_1127, hq_886, [], [1, 1, 1, 1])])
theorem hd_1527 : con_1527.1 = (yX2_keep, cX2_keep, 3, none) := rfl
noncomputable def cu_1527 : List CUT2 := []
theorem ch_1527 : staG tb_X2_keep 1 bt_RX2 [] ct_1522 [] [] cu_1527 20 con_1527 = true := by decide +kernel
theorem vl_1527 (l : Launch) : Vld2 l vwCl gTbl con_1527 := conR_ok3 gT_all (hd_1527) rfl pn_RX2 tk_X2_keep bo_RX2 xo_RX2 (cto_1522 l) ch_1527 cut_nil
/-- RookHusting guessAll -/
noncomputable def gi_1128 : GI := jl_n [gp_631, gp_489]
noncomputable def ac_1057 : AC := .inl (11, jl_n [vp_143, jl_6 41 1, vp_71, vp_134, jl_8 14 1, jl_6 28 1, jl_8 16 1, vp_102])
noncomputable def ac_1058 : AC := .inl (4, jl_n [vp_125, vp_75, jl_8 41 2, jl_6 10 1])
noncomputable def ac_1059 : AC := .inl (3, jl_n [vp_78, jl_1 117 2])
noncomputable def ac_1060 : AC := .inl (2, jl_n [jl_1 118 1, jl_8 120 2, jl_6 44 1])
noncomputable def ac_1061 : AC := .inl (3, jl_n [vp_137, jl_1 134 2])
noncomputable def ac_1062 : AC := .inr (1, jl_n [js_1 141 4])
noncomputable def ac_1063 : AC := .inr (2, jl_n [js_5 180 9223372036854775807 9223372036854775807, js_4 201 60])
noncomputable def hc_198 : List AC := [ac_1057, .inl (9, [(6, 3, 0), (6, 11, 0)]), .inl (7, [(6, 4, 0), (6, 5, 0), (6, 6, 0), (1, 24, 0)]), ac_1058, am_3, am_1, am_1, am_1, .inl (1, [(6, 3, 0), (8, 43, 0)]), am_5, am_7, .inl (0, [(1, 44, 0), (6, 12, 0), (6, 13, 0), (6, 14, 0)]), ac_642, am_12, ac_643, ac_1059, am_4, am_0, am_11, am_0, am_1, am_0, am_4, am_10, am_0, am_0, am_9, ac_1060, .inl (7, [(6, 29, 0), (6, 30, 0), (6, 31, 0), (1, 124, 0)]), am_3, am_1, am_1, ac_1061, am_0, am_0, am_1, am_0, am_0, am_0, am_9, .inl (8, [(6, 42, 0), (8, 135, 0), (6, 41, 0)]), ac_1062, ac_1063, am_16]
noncomputable def gi_1129 : GI := jl_n [gp_631, gp_489, gp_632]
noncomputable def ac_1064 : AC := .inl (11, jl_n [vp_143, jl_6 41 1, vp_71, vp_134, jl_8 14 1, jl_6 28 1, jl_8 16 1, jl_c 1, jl_8 19 2])
noncomputable def ac_1065 : AC := .inl (3, jl_n [vp_78, jl_1 230 2])
noncomputable def ac_1066 : AC := .inl (2, jl_n [jl_1 231 1, jl_8 120 2, jl_6 44 1])
noncomputable def ac_1067 : AC := .inl (3, jl_n [vp_137, jl_1 247 2])
noncomputable def hq_887 : HP := [(true, ac_1064), (false, .inl (9, [(6, 3, 0), (6, 11, 0)])), (true, .inl (7, [(6, 4, 0), (6, 5, 0), (6, 6, 0), (1, 220, 0)])), (false, ac_1058), (true, am_3), (true, am_1), (true, am_1), (false, am_1), (false, .inl (1, [(6, 3, 0), (8, 43, 0)])), (false, am_5), (false, am_7), (false, .inl (0, [(1, 44, 0), (6, 12, 0), (6, 13, 0), (6, 14, 0)])), (false, ac_642), (false, am_12), (false, ac_643), (true, ac_1065), (false, am_4), (true, am_0), (false, am_11), (true, am_0), (true, am_1), (true, am_0), (false, am_4), (false, am_10), (true, am_0), (true, am_0), (true, am_9), (true, ac_1066), (true, .inl (7, [(6, 29, 0), (6, 30, 0), (6, 31, 0), (1, 237, 0)])), (true, am_3), (true, am_1), (true, am_1), (true, ac_1067), (true, am_0), (true, am_0), (true, am_1), (true, am_0), (true, am_0), (true, am_0), (true, am_9), (false, .inl (8, [(6, 42, 0), (8, 135, 0), (6, 41, 0)])), (false, ac_1062), (false, ac_1063), (true, am_16)]
noncomputable def con_1528 : Con2 := ((yX11_guessAll, cX11_guessAll, 4, none), (6, 151), ([(6, 0, 0), (0, 3, 0), (1, 2, 0)], gi_1128, hc_198, rq_6), [((9, 0, 0), gi_1129, hq_887, [], tg_1)])
theorem hd_1528 : con_1528.1 = (yX11_guessAll, cX11_guessAll, 4, none) := rfl
theorem ck_RX11_486_1527 : COK2 RX11 vwCl gTbl 486 0 con_1527 := ⟨wd_1234, wd_136, mh_X2_keep, .inr (.inr ⟨rfl, wd_1231, wd_1232, wd_1233, ⟨_, rfl, pd_X2_keep⟩, 2, _, TX2, 4, rfl, rfl⟩)⟩
theorem ck_RX11_486_1522 : COK2 RX11 vwCl gTbl 486 0 con_1522 := ⟨wd_1234, wd_136, mh_X2_keep, .inr (.inr ⟨rfl, wd_1231, wd_1232, wd_1233, ⟨_, rfl, pd_X2_keep⟩, 2, _, TX2, 4, rfl, rfl⟩)⟩
theorem ck_RX11_483_1521 : COK2 RX11 vwCl gTbl 483 0 con_1521 := ⟨wd_1230, wd_125, mh_X11_isAsSeen, .inr (.inr ⟨rfl, wd_1227, wd_1229, wd_43, ⟨_, rfl, pd_X11_isAsSeen⟩, 11, _, TX11, 16, rfl, rfl⟩)⟩
theorem ck_RX11_480_859 : COK2 RX11 vwCl gTbl 480 0 con_859 := ⟨wd_862, wd_133, mh_X7_placeMan, .inr (.inr ⟨rfl, wd_1226, wd_860, wd_861, ⟨_, rfl, pd_X7_placeMan⟩, 7, _, TX7, 4, rfl, rfl⟩)⟩
noncomputable def ct_1528 : CTB2 := [(1, 208, 0, con_900, [0, 1, 2, 3, 4, 5, 6, 7, 8, 9, 10, 11, 12, 13, 14, 15, 16, 17, 18, 19, 20, 21, 22, 23, 24, 25, 26]), (36, 332, 0, con_1212, [28, 2, 29, 4, 30, 5, 31, 6]), (45, 480, 0, con_859, [28, 29]), (73, 372, 0, con_899, [32, 3, 28, 16, 33, 18, 34, 30, 35, 29, 36, 22, 23, 37, 38, 39, 31]), (78, 483, 0, con_1521, [0, 40, 41, 42, 32, 33]), (105, 486, 0, con_1522, [27, 33, 43]), (105, 486, 0, con_1527, [27, 33, 43])]
noncomputable def gi_1130 : GI := jl_n [gp_631, gp_489, gp_633]
noncomputable def ac_1068 : AC := .inl (3, jl_n [vp_78, jl_1 234 2])
noncomputable def ac_1069 : AC := .inl (2, jl_n [jl_1 235 1, jl_8 120 2, jl_6 44 1])
noncomputable def ac_1070 : AC := .inl (3, jl_n [vp_137, jl_1 251 2])
noncomputable def hq_888 : HP := [(true, ac_1064), (false, .inl (9, [(6, 3, 0), (6, 11, 0)])), (true, .inl (7, [(6, 4, 0), (6, 5, 0), (6, 6, 0), (1, 224, 0)])), (false, ac_1058), (true, am_3), (true, am_1), (true, am_1), (false, am_1), (false, .inl (1, [(6, 3, 0), (8, 43, 0)])), (false, am_5), (false, am_7), (false, .inl (0, [(1, 44, 0), (6, 12, 0), (6, 13, 0), (6, 14, 0)])), (false, ac_642), (false, am_12), (false, ac_643), (true, ac_1068), (false, am_4), (true, am_0), (false, am_11), (true, am_0), (true, am_1), (true, am_0), (false, am_4), (false, am_10), (true, am_0), (true, am_0), (true, am_9), (true, ac_1069), (true, .inl (7, [(6, 29, 0), (6, 30, 0), (6, 31, 0), (1, 241, 0)])), (true, am_3), (true, am_1), (true, am_1), (true, ac_1070), (true, am_0), (true, am_0), (true, am_1), (true, am_0), (true, am_0), (true, am_0), (true, am_9), (false, .inl (8, [(6, 42, 0), (8, 135, 0), (6, 41, 0)])), (false, ac_1062), (false, ac_1063), (true, am_16)]
noncomputable def cu_1528 : List CUT2 := [((14, [lq 0 6 0, lq 1 0 3, lq 2 1 2, lq 3 1 204], [], gi_1130, hq_888), rq_6, ([(204, (-1))], 5))]
theorem ch_1528 : staG tb_X11_guessAll 1 bt_RX11 [] ct_1528 [] [] cu_1528 48 con_1528 = true := by decide +kernel
theorem cc_1528 : cu_1528.all (cutG tb_X11_guessAll 1 bt_RX11 [] ct_1528 [] [] cu_1528 48 con_1528) = true := by decide +kernel
theorem cto_1528 (l : Launch) : CTOK2 l RX11 vwCl gTbl ct_1528 := ct2_cons (vl_900 l) ck_RX11_208_900 (ct2_cons (vl_1212 l) ck_RX11_332_1212 (ct2_cons (vl_859 l) ck_RX11_480_859 (ct2_cons (vl_899 l) ck_RX11_372_899 (ct2_cons (vl_1521 l) ck_RX11_483_1521 (ct2_cons (vl_1522 l) ck_RX11_486_1522 (ct2_cons (vl_1527 l) ck_RX11_486_1527 (ct2_nil)))))))
theorem vl_1528 (l : Launch) : Vld2 l vwCl gTbl con_1528 := conR_ok3 gT_all (hd_1528) rfl pn_RX11 tk_X11_guessAll bo_RX11 xo_RX11 (cto_1528 l) ch_1528 (cut_all cc_1528)
/-- RookHusting$Slots at -/
noncomputable def con_1529 : Con2 := ((yX8_at, cX8_at, 3, (some .long)), (0, 0), ([(6, 0, 0), (0, 3, 0), (0, 9, 0)], [(0, 0), (0, 0), (0, 0), (0, 0), (0, 0), (0, 0), (0, 4)], [.inl (8, [(6, 1, 0), (8, 4, 0), (8, 5, 0)]), ac_818], []), [((4, 6, 0), gi_1117, hq_650, [], [1])])
theorem hd_1529 : con_1529.1 = (yX8_at, cX8_at, 3, (some .long)) := rfl
noncomputable def cu_1529 : List CUT2 := []
theorem ch_1529 : staG tb_X8_at 1 bt_RX8 [] ct_1253 [] [] cu_1529 11 con_1529 = true := by decide +kernel
theorem vl_1529 (l : Launch) : Vld2 l vwCl gTbl con_1529 := conR_ok3 gT_all (hd_1529) rfl pn_RX8 tk_X8_at bo_RX8 xo_RX8 (cto_1253 l) ch_1529 cut_nil
/-- RookHusting$Slots at -/
noncomputable def con_1530 : Con2 := ((yX8_at, cX8_at, 3, (some .long)), (0, 0), ([(6, 0, 0), (0, 3, 0), (0, 10, 0)], [(0, 0), (0, 0), (0, 0), (0, 0), (0, 0), (0, 0), (0, 16)], [.inl (8, [(6, 1, 0), (8, 4, 0), (8, 5, 0)]), ac_819], []), [((4, 6, 0), gi_1118, hq_651, [], [1])])
theorem hd_1530 : con_1530.1 = (yX8_at, cX8_at, 3, (some .long)) := rfl
noncomputable def cu_1530 : List CUT2 := []
theorem ch_1530 : staG tb_X8_at 1 bt_RX8 [] ct_1253 [] [] cu_1530 11 con_1530 = true := by decide +kernel
theorem vl_1530 (l : Launch) : Vld2 l vwCl gTbl con_1530 := conR_ok3 gT_all (hd_1530) rfl pn_RX8 tk_X8_at bo_RX8 xo_RX8 (cto_1253 l) ch_1530 cut_nil
/-- RookHusting$Slots at -/
noncomputable def con_1531 : Con2 := ((yX8_at, cX8_at, 3, (some .long)), (0, 0), ([(6, 0, 0), (0, 3, 0), (0, 11, 0)], [(0, 0), (0, 0), (0, 0), (0, 0), (0, 0), (0, 0), (0, 250)], [.inl (8, [(6, 1, 0), (8, 4, 0), (8, 5, 0)]), ac_820], []), [((4, 6, 0), gi_1119, hq_652, [], [1])])
theorem hd_1531 : con_1531.1 = (yX8_at, cX8_at, 3, (some .long)) := rfl
noncomputable def cu_1531 : List CUT2 := []
theorem ch_1531 : staG tb_X8_at 1 bt_RX8 [] ct_1253 [] [] cu_1531 11 con_1531 = true := by decide +kernel
theorem vl_1531 (l : Launch) : Vld2 l vwCl gTbl con_1531 := conR_ok3 gT_all (hd_1531) rfl pn_RX8 tk_X8_at bo_RX8 xo_RX8 (cto_1253 l) ch_1531 cut_nil
/-- RookHusting$Slots at -/
noncomputable def con_1532 : Con2 := ((yX8_at, cX8_at, 3, (some .long)), (0, 0), ([(6, 0, 0), (0, 3, 0), (0, 12, 0)], [(0, 0), (0, 0), (0, 0), (0, 0), (0, 0), (0, 0), (0, 4)], [.inl (8, [(6, 1, 0), (8, 4, 0), (8, 5, 0)]), ac_821], []), [((4, 6, 0), gi_1117, hq_653, [], [1])])
theorem hd_1532 : con_1532.1 = (yX8_at, cX8_at, 3, (some .long)) := rfl
noncomputable def cu_1532 : List CUT2 := []
theorem ch_1532 : staG tb_X8_at 1 bt_RX8 [] ct_1253 [] [] cu_1532 11 con_1532 = true := by decide +kernel
theorem vl_1532 (l : Launch) : Vld2 l vwCl gTbl con_1532 := conR_ok3 gT_all (hd_1532) rfl pn_RX8 tk_X8_at bo_RX8 xo_RX8 (cto_1253 l) ch_1532 cut_nil
/-- RookHusting$Slots at -/
noncomputable def con_1533 : Con2 := ((yX8_at, cX8_at, 3, (some .long)), (0, 0), ([(6, 0, 0), (0, 3, 0), (0, 13, 0)], [(0, 0), (0, 0), (0, 0), (0, 0), (0, 0), (0, 0), (0, 16)], [.inl (8, [(6, 1, 0), (8, 4, 0), (8, 5, 0)]), ac_822], []), [((4, 6, 0), gi_1118, hq_654, [], [1])])
theorem hd_1533 : con_1533.1 = (yX8_at, cX8_at, 3, (some .long)) := rfl
noncomputable def cu_1533 : List CUT2 := []
theorem ch_1533 : staG tb_X8_at 1 bt_RX8 [] ct_1253 [] [] cu_1533 11 con_1533 = true := by decide +kernel
theorem vl_1533 (l : Launch) : Vld2 l vwCl gTbl con_1533 := conR_ok3 gT_all (hd_1533) rfl pn_RX8 tk_X8_at bo_RX8 xo_RX8 (cto_1253 l) ch_1533 cut_nil
/-- RookHusting$Slots at -/
noncomputable def con_1534 : Con2 := ((yX8_at, cX8_at, 3, (some .long)), (0, 0), ([(6, 0, 0), (0, 3, 0), (0, 14, 0)], [(0, 0), (0, 0), (0, 0), (0, 0), (0, 0), (0, 0), (0, 250)], [.inl (8, [(6, 1, 0), (8, 4, 0), (8, 5, 0)]), ac_823], []), [((4, 6, 0), gi_1119, hq_655, [], [1])])
theorem hd_1534 : con_1534.1 = (yX8_at, cX8_at, 3, (some .long)) := rfl
noncomputable def cu_1534 : List CUT2 := []
theorem ch_1534 : staG tb_X8_at 1 bt_RX8 [] ct_1253 [] [] cu_1534 11 con_1534 = true := by decide +kernel
theorem vl_1534 (l : Launch) : Vld2 l vwCl gTbl con_1534 := conR_ok3 gT_all (hd_1534) rfl pn_RX8 tk_X8_at bo_RX8 xo_RX8 (cto_1253 l) ch_1534 cut_nil
/-- RookHusting$Slots at -/
noncomputable def con_1535 : Con2 := ((yX8_at, cX8_at, 3, (some .long)), (0, 0), ([(6, 0, 0), (0, 3, 0), (0, 15, 0)], [(0, 0), (0, 0), (0, 0), (0, 0), (0, 0), (0, 0), (0, 4)], [.inl (8, [(6, 1, 0), (8, 4, 0), (8, 5, 0)]), ac_824], []), [((4, 6, 0), gi_1117, hq_656, [], [1])])
theorem hd_1535 : con_1535.1 = (yX8_at, cX8_at, 3, (some .long)) := rfl
noncomputable def cu_1535 : List CUT2 := []
theorem ch_1535 : staG tb_X8_at 1 bt_RX8 [] ct_1253 [] [] cu_1535 11 con_1535 = true := by decide +kernel
theorem vl_1535 (l : Launch) : Vld2 l vwCl gTbl con_1535 := conR_ok3 gT_all (hd_1535) rfl pn_RX8 tk_X8_at bo_RX8 xo_RX8 (cto_1253 l) ch_1535 cut_nil
/-- RookHusting$Slots at -/
noncomputable def con_1536 : Con2 := ((yX8_at, cX8_at, 3, (some .long)), (0, 0), ([(6, 0, 0), (0, 3, 0), (0, 16, 0)], [(0, 0), (0, 0), (0, 0), (0, 0), (0, 0), (0, 0), (0, 16)], [.inl (8, [(6, 1, 0), (8, 4, 0), (8, 5, 0)]), ac_825], []), [((4, 6, 0), gi_1118, hq_657, [], [1])])
theorem hd_1536 : con_1536.1 = (yX8_at, cX8_at, 3, (some .long)) := rfl
noncomputable def cu_1536 : List CUT2 := []
theorem ch_1536 : staG tb_X8_at 1 bt_RX8 [] ct_1253 [] [] cu_1536 11 con_1536 = true := by decide +kernel
theorem vl_1536 (l : Launch) : Vld2 l vwCl gTbl con_1536 := conR_ok3 gT_all (hd_1536) rfl pn_RX8 tk_X8_at bo_RX8 xo_RX8 (cto_1253 l) ch_1536 cut_nil
/-- RookHusting$Slots at -/
noncomputable def con_1537 : Con2 := ((yX8_at, cX8_at, 3, (some .long)), (0, 0), ([(6, 0, 0), (0, 3, 0), (0, 17, 0)], [(0, 0), (0, 0), (0, 0), (0, 0), (0, 0), (0, 0), (0, 250)], [.inl (8, [(6, 1, 0), (8, 4, 0), (8, 5, 0)]), ac_826], []), [((4, 6, 0), gi_1119, hq_658, [], [1])])
theorem hd_1537 : con_1537.1 = (yX8_at, cX8_at, 3, (some .long)) := rfl
noncomputable def cu_1537 : List CUT2 := []
theorem ch_1537 : staG tb_X8_at 1 bt_RX8 [] ct_1253 [] [] cu_1537 11 con_1537 = true := by decide +kernel
theorem vl_1537 (l : Launch) : Vld2 l vwCl gTbl con_1537 := conR_ok3 gT_all (hd_1537) rfl pn_RX8 tk_X8_at bo_RX8 xo_RX8 (cto_1253 l) ch_1537 cut_nil
/-- RookHusting$Slots at -/
noncomputable def con_1538 : Con2 := ((yX8_at, cX8_at, 3, (some .long)), (0, 0), ([(6, 0, 0), (0, 3, 0), (0, 18, 0)], [(0, 0), (0, 0), (0, 0), (0, 0), (0, 0), (0, 0), (0, 4)], [.inl (8, [(6, 1, 0), (8, 4, 0), (8, 5, 0)]), ac_827], []), [((4, 6, 0), gi_1117, hq_659, [], [1])])
theorem hd_1538 : con_1538.1 = (yX8_at, cX8_at, 3, (some .long)) := rfl
noncomputable def cu_1538 : List CUT2 := []
theorem ch_1538 : staG tb_X8_at 1 bt_RX8 [] ct_1253 [] [] cu_1538 11 con_1538 = true := by decide +kernel
theorem vl_1538 (l : Launch) : Vld2 l vwCl gTbl con_1538 := conR_ok3 gT_all (hd_1538) rfl pn_RX8 tk_X8_at bo_RX8 xo_RX8 (cto_1253 l) ch_1538 cut_nil
/-- RookHusting$Slots at -/
noncomputable def con_1539 : Con2 := ((yX8_at, cX8_at, 3, (some .long)), (0, 0), ([(6, 0, 0), (0, 3, 0), (0, 19, 0)], [(0, 0), (0, 0), (0, 0), (0, 0), (0, 0), (0, 0), (0, 16)], [.inl (8, [(6, 1, 0), (8, 4, 0), (8, 5, 0)]), ac_828], []), [((4, 6, 0), gi_1118, hq_660, [], [1])])
theorem hd_1539 : con_1539.1 = (yX8_at, cX8_at, 3, (some .long)) := rfl
noncomputable def cu_1539 : List CUT2 := []
theorem ch_1539 : staG tb_X8_at 1 bt_RX8 [] ct_1253 [] [] cu_1539 11 con_1539 = true := by decide +kernel
theorem vl_1539 (l : Launch) : Vld2 l vwCl gTbl con_1539 := conR_ok3 gT_all (hd_1539) rfl pn_RX8 tk_X8_at bo_RX8 xo_RX8 (cto_1253 l) ch_1539 cut_nil
/-- RookHusting$Slots at -/
noncomputable def con_1540 : Con2 := ((yX8_at, cX8_at, 3, (some .long)), (0, 0), ([(6, 0, 0), (0, 3, 0), (0, 20, 0)], [(0, 0), (0, 0), (0, 0), (0, 0), (0, 0), (0, 0), (0, 250)], [.inl (8, [(6, 1, 0), (8, 4, 0), (8, 5, 0)]), ac_829], []), [((4, 6, 0), gi_1119, hq_661, [], [1])])
theorem hd_1540 : con_1540.1 = (yX8_at, cX8_at, 3, (some .long)) := rfl
noncomputable def cu_1540 : List CUT2 := []
theorem ch_1540 : staG tb_X8_at 1 bt_RX8 [] ct_1253 [] [] cu_1540 11 con_1540 = true := by decide +kernel
theorem vl_1540 (l : Launch) : Vld2 l vwCl gTbl con_1540 := conR_ok3 gT_all (hd_1540) rfl pn_RX8 tk_X8_at bo_RX8 xo_RX8 (cto_1253 l) ch_1540 cut_nil
/-- RookHusting$Slots at -/
noncomputable def con_1541 : Con2 := ((yX8_at, cX8_at, 3, (some .long)), (0, 0), ([(6, 0, 0), (0, 3, 0), (0, 21, 0)], [(0, 0), (0, 0), (0, 0), (0, 0), (0, 0), (0, 0), (0, 4)], [.inl (8, [(6, 1, 0), (8, 4, 0), (8, 5, 0)]), ac_830], []), [((4, 6, 0), gi_1117, hq_662, [], [1])])
theorem hd_1541 : con_1541.1 = (yX8_at, cX8_at, 3, (some .long)) := rfl
noncomputable def cu_1541 : List CUT2 := []
theorem ch_1541 : staG tb_X8_at 1 bt_RX8 [] ct_1253 [] [] cu_1541 11 con_1541 = true := by decide +kernel
theorem vl_1541 (l : Launch) : Vld2 l vwCl gTbl con_1541 := conR_ok3 gT_all (hd_1541) rfl pn_RX8 tk_X8_at bo_RX8 xo_RX8 (cto_1253 l) ch_1541 cut_nil
/-- RookHusting$Slots at -/
noncomputable def con_1542 : Con2 := ((yX8_at, cX8_at, 3, (some .long)), (0, 0), ([(6, 0, 0), (0, 3, 0), (0, 22, 0)], [(0, 0), (0, 0), (0, 0), (0, 0), (0, 0), (0, 0), (0, 16)], [.inl (8, [(6, 1, 0), (8, 4, 0), (8, 5, 0)]), ac_831], []), [((4, 6, 0), gi_1118, hq_663, [], [1])])
theorem hd_1542 : con_1542.1 = (yX8_at, cX8_at, 3, (some .long)) := rfl
noncomputable def cu_1542 : List CUT2 := []
theorem ch_1542 : staG tb_X8_at 1 bt_RX8 [] ct_1253 [] [] cu_1542 11 con_1542 = true := by decide +kernel
theorem vl_1542 (l : Launch) : Vld2 l vwCl gTbl con_1542 := conR_ok3 gT_all (hd_1542) rfl pn_RX8 tk_X8_at bo_RX8 xo_RX8 (cto_1253 l) ch_1542 cut_nil
/-- RookHusting$Slots at -/
noncomputable def con_1543 : Con2 := ((yX8_at, cX8_at, 3, (some .long)), (0, 0), ([(6, 0, 0), (0, 3, 0), (0, 23, 0)], [(0, 0), (0, 0), (0, 0), (0, 0), (0, 0), (0, 0), (0, 250)], [.inl (8, [(6, 1, 0), (8, 4, 0), (8, 5, 0)]), ac_832], []), [((4, 6, 0), gi_1119, hq_664, [], [1])])
theorem hd_1543 : con_1543.1 = (yX8_at, cX8_at, 3, (some .long)) := rfl
noncomputable def cu_1543 : List CUT2 := []
theorem ch_1543 : staG tb_X8_at 1 bt_RX8 [] ct_1253 [] [] cu_1543 11 con_1543 = true := by decide +kernel
theorem vl_1543 (l : Launch) : Vld2 l vwCl gTbl con_1543 := conR_ok3 gT_all (hd_1543) rfl pn_RX8 tk_X8_at bo_RX8 xo_RX8 (cto_1253 l) ch_1543 cut_nil
/-- RookHusting$Slots at -/
noncomputable def con_1544 : Con2 := ((yX8_at, cX8_at, 3, (some .long)), (0, 0), ([(6, 0, 0), (0, 3, 0), (0, 24, 0)], [(0, 0), (0, 0), (0, 0), (0, 0), (0, 0), (0, 0), (0, 4)], [.inl (8, [(6, 1, 0), (8, 4, 0), (8, 5, 0)]), ac_833], []), [((4, 6, 0), gi_1117, hq_665, [], [1])])
theorem hd_1544 : con_1544.1 = (yX8_at, cX8_at, 3, (some .long)) := rfl
noncomputable def cu_1544 : List CUT2 := []
theorem ch_1544 : staG tb_X8_at 1 bt_RX8 [] ct_1253 [] [] cu_1544 11 con_1544 = true := by decide +kernel
theorem vl_1544 (l : Launch) : Vld2 l vwCl gTbl con_1544 := conR_ok3 gT_all (hd_1544) rfl pn_RX8 tk_X8_at bo_RX8 xo_RX8 (cto_1253 l) ch_1544 cut_nil
/-- RookHusting$Slots at -/
noncomputable def con_1545 : Con2 := ((yX8_at, cX8_at, 3, (some .long)), (0, 0), ([(6, 0, 0), (0, 3, 0), (0, 25, 0)], [(0, 0), (0, 0), (0, 0), (0, 0), (0, 0), (0, 0), (0, 16)], [.inl (8, [(6, 1, 0), (8, 4, 0), (8, 5, 0)]), ac_834], []), [((4, 6, 0), gi_1118, hq_666, [], [1])])
theorem hd_1545 : con_1545.1 = (yX8_at, cX8_at, 3, (some .long)) := rfl
noncomputable def cu_1545 : List CUT2 := []
theorem ch_1545 : staG tb_X8_at 1 bt_RX8 [] ct_1253 [] [] cu_1545 11 con_1545 = true := by decide +kernel
theorem vl_1545 (l : Launch) : Vld2 l vwCl gTbl con_1545 := conR_ok3 gT_all (hd_1545) rfl pn_RX8 tk_X8_at bo_RX8 xo_RX8 (cto_1253 l) ch_1545 cut_nil
/-- RookHusting$Slots at -/
noncomputable def con_1546 : Con2 := ((yX8_at, cX8_at, 3, (some .long)), (0, 0), ([(6, 0, 0), (0, 3, 0), (0, 26, 0)], [(0, 0), (0, 0), (0, 0), (0, 0), (0, 0), (0, 0), (0, 250)], [.inl (8, [(6, 1, 0), (8, 4, 0), (8, 5, 0)]), ac_835], []), [((4, 6, 0), gi_1119, hq_667, [], [1])])
theorem hd_1546 : con_1546.1 = (yX8_at, cX8_at, 3, (some .long)) := rfl
noncomputable def cu_1546 : List CUT2 := []
theorem ch_1546 : staG tb_X8_at 1 bt_RX8 [] ct_1253 [] [] cu_1546 11 con_1546 = true := by decide +kernel
theorem vl_1546 (l : Launch) : Vld2 l vwCl gTbl con_1546 := conR_ok3 gT_all (hd_1546) rfl pn_RX8 tk_X8_at bo_RX8 xo_RX8 (cto_1253 l) ch_1546 cut_nil
/-- RookHusting$Slots at -/
noncomputable def con_1547 : Con2 := ((yX8_at, cX8_at, 3, (some .long)), (0, 0), ([(6, 0, 0), (0, 3, 0), (0, 27, 0)], [(0, 0), (0, 0), (0, 0), (0, 0), (0, 0), (0, 0), (0, 4)], [.inl (8, [(6, 1, 0), (8, 4, 0), (8, 5, 0)]), ac_836], []), [((4, 6, 0), gi_1117, hq_668, [], [1])])
theorem hd_1547 : con_1547.1 = (yX8_at, cX8_at, 3, (some .long)) := rfl
noncomputable def cu_1547 : List CUT2 := []
theorem ch_1547 : staG tb_X8_at 1 bt_RX8 [] ct_1253 [] [] cu_1547 11 con_1547 = true := by decide +kernel
theorem vl_1547 (l : Launch) : Vld2 l vwCl gTbl con_1547 := conR_ok3 gT_all (hd_1547) rfl pn_RX8 tk_X8_at bo_RX8 xo_RX8 (cto_1253 l) ch_1547 cut_nil
/-- RookHusting$Slots at -/
noncomputable def con_1548 : Con2 := ((yX8_at, cX8_at, 3, (some .long)), (0, 0), ([(6, 0, 0), (0, 3, 0), (0, 28, 0)], [(0, 0), (0, 0), (0, 0), (0, 0), (0, 0), (0, 0), (0, 16)], [.inl (8, [(6, 1, 0), (8, 4, 0), (8, 5, 0)]), ac_837], []), [((4, 6, 0), gi_1118, hq_669, [], [1])])
theorem hd_1548 : con_1548.1 = (yX8_at, cX8_at, 3, (some .long)) := rfl
noncomputable def cu_1548 : List CUT2 := []
theorem ch_1548 : staG tb_X8_at 1 bt_RX8 [] ct_1253 [] [] cu_1548 11 con_1548 = true := by decide +kernel
theorem vl_1548 (l : Launch) : Vld2 l vwCl gTbl con_1548 := conR_ok3 gT_all (hd_1548) rfl pn_RX8 tk_X8_at bo_RX8 xo_RX8 (cto_1253 l) ch_1548 cut_nil
/-- RookHusting$Slots at -/
noncomputable def con_1549 : Con2 := ((yX8_at, cX8_at, 3, (some .long)), (0, 0), ([(6, 0, 0), (0, 3, 0), (0, 29, 0)], [(0, 0), (0, 0), (0, 0), (0, 0), (0, 0), (0, 0), (0, 250)], [.inl (8, [(6, 1, 0), (8, 4, 0), (8, 5, 0)]), ac_838], []), [((4, 6, 0), gi_1119, hq_670, [], [1])])
theorem hd_1549 : con_1549.1 = (yX8_at, cX8_at, 3, (some .long)) := rfl
noncomputable def cu_1549 : List CUT2 := []
theorem ch_1549 : staG tb_X8_at 1 bt_RX8 [] ct_1253 [] [] cu_1549 11 con_1549 = true := by decide +kernel
theorem vl_1549 (l : Launch) : Vld2 l vwCl gTbl con_1549 := conR_ok3 gT_all (hd_1549) rfl pn_RX8 tk_X8_at bo_RX8 xo_RX8 (cto_1253 l) ch_1549 cut_nil
/-- RookHusting$Slots at -/
noncomputable def con_1550 : Con2 := ((yX8_at, cX8_at, 3, (some .long)), (0, 0), ([(6, 0, 0), (0, 3, 0), (0, 30, 0)], [(0, 0), (0, 0), (0, 0), (0, 0), (0, 0), (0, 0), (0, 4)], [.inl (8, [(6, 1, 0), (8, 4, 0), (8, 5, 0)]), ac_839], []), [((4, 6, 0), gi_1117, hq_671, [], [1])])
theorem hd_1550 : con_1550.1 = (yX8_at, cX8_at, 3, (some .long)) := rfl
noncomputable def cu_1550 : List CUT2 := []
theorem ch_1550 : staG tb_X8_at 1 bt_RX8 [] ct_1253 [] [] cu_1550 11 con_1550 = true := by decide +kernel
theorem vl_1550 (l : Launch) : Vld2 l vwCl gTbl con_1550 := conR_ok3 gT_all (hd_1550) rfl pn_RX8 tk_X8_at bo_RX8 xo_RX8 (cto_1253 l) ch_1550 cut_nil
/-- RookHusting$Slots at -/
noncomputable def con_1551 : Con2 := ((yX8_at, cX8_at, 3, (some .long)), (0, 0), ([(6, 0, 0), (0, 3, 0), (0, 31, 0)], [(0, 0), (0, 0), (0, 0), (0, 0), (0, 0), (0, 0), (0, 16)], [.inl (8, [(6, 1, 0), (8, 4, 0), (8, 5, 0)]), ac_840], []), [((4, 6, 0), gi_1118, hq_672, [], [1])])
theorem hd_1551 : con_1551.1 = (yX8_at, cX8_at, 3, (some .long)) := rfl
noncomputable def cu_1551 : List CUT2 := []
theorem ch_1551 : staG tb_X8_at 1 bt_RX8 [] ct_1253 [] [] cu_1551 11 con_1551 = true := by decide +kernel
theorem vl_1551 (l : Launch) : Vld2 l vwCl gTbl con_1551 := conR_ok3 gT_all (hd_1551) rfl pn_RX8 tk_X8_at bo_RX8 xo_RX8 (cto_1253 l) ch_1551 cut_nil
/-- RookHusting$Slots at -/
noncomputable def con_1552 : Con2 := ((yX8_at, cX8_at, 3, (some .long)), (0, 0), ([(6, 0, 0), (0, 3, 0), (0, 32, 0)], [(0, 0), (0, 0), (0, 0), (0, 0), (0, 0), (0, 0), (0, 250)], [.inl (8, [(6, 1, 0), (8, 4, 0), (8, 5, 0)]), ac_841], []), [((4, 6, 0), gi_1119, hq_673, [], [1])])
theorem hd_1552 : con_1552.1 = (yX8_at, cX8_at, 3, (some .long)) := rfl
noncomputable def cu_1552 : List CUT2 := []
theorem ch_1552 : staG tb_X8_at 1 bt_RX8 [] ct_1253 [] [] cu_1552 11 con_1552 = true := by decide +kernel
theorem vl_1552 (l : Launch) : Vld2 l vwCl gTbl con_1552 := conR_ok3 gT_all (hd_1552) rfl pn_RX8 tk_X8_at bo_RX8 xo_RX8 (cto_1253 l) ch_1552 cut_nil
/-- RookHusting$Slots at -/
noncomputable def con_1553 : Con2 := ((yX8_at, cX8_at, 3, (some .long)), (0, 0), ([(6, 0, 0), (0, 3, 0), (0, 33, 0)], [(0, 0), (0, 0), (0, 0), (0, 0), (0, 0), (0, 0), (0, 4)], [.inl (8, [(6, 1, 0), (8, 4, 0), (8, 5, 0)]), ac_842], []), [((4, 6, 0), gi_1117, hq_674, [], [1])])
theorem hd_1553 : con_1553.1 = (yX8_at, cX8_at, 3, (some .long)) := rfl
noncomputable def cu_1553 : List CUT2 := []
theorem ch_1553 : staG tb_X8_at 1 bt_RX8 [] ct_1253 [] [] cu_1553 11 con_1553 = true := by decide +kernel
theorem vl_1553 (l : Launch) : Vld2 l vwCl gTbl con_1553 := conR_ok3 gT_all (hd_1553) rfl pn_RX8 tk_X8_at bo_RX8 xo_RX8 (cto_1253 l) ch_1553 cut_nil
/-- RookHusting$Slots at -/
noncomputable def con_1554 : Con2 := ((yX8_at, cX8_at, 3, (some .long)), (0, 0), ([(6, 0, 0), (0, 3, 0), (0, 34, 0)], [(0, 0), (0, 0), (0, 0), (0, 0), (0, 0), (0, 0), (0, 16)], [.inl (8, [(6, 1, 0), (8, 4, 0), (8, 5, 0)]), ac_843], []), [((4, 6, 0), gi_1118, hq_675, [], [1])])
theorem hd_1554 : con_1554.1 = (yX8_at, cX8_at, 3, (some .long)) := rfl
noncomputable def cu_1554 : List CUT2 := []
theorem ch_1554 : staG tb_X8_at 1 bt_RX8 [] ct_1253 [] [] cu_1554 11 con_1554 = true := by decide +kernel
theorem vl_1554 (l : Launch) : Vld2 l vwCl gTbl con_1554 := conR_ok3 gT_all (hd_1554) rfl pn_RX8 tk_X8_at bo_RX8 xo_RX8 (cto_1253 l) ch_1554 cut_nil
/-- RookHusting$Slots at -/
noncomputable def con_1555 : Con2 := ((yX8_at, cX8_at, 3, (some .long)), (0, 0), ([(6, 0, 0), (0, 3, 0), (0, 35, 0)], [(0, 0), (0, 0), (0, 0), (0, 0), (0, 0), (0, 0), (0, 250)], [.inl (8, [(6, 1, 0), (8, 4, 0), (8, 5, 0)]), ac_844], []), [((4, 6, 0), gi_1119, hq_676, [], [1])])
theorem hd_1555 : con_1555.1 = (yX8_at, cX8_at, 3, (some .long)) := rfl
noncomputable def cu_1555 : List CUT2 := []
theorem ch_1555 : staG tb_X8_at 1 bt_RX8 [] ct_1253 [] [] cu_1555 11 con_1555 = true := by decide +kernel
theorem vl_1555 (l : Launch) : Vld2 l vwCl gTbl con_1555 := conR_ok3 gT_all (hd_1555) rfl pn_RX8 tk_X8_at bo_RX8 xo_RX8 (cto_1253 l) ch_1555 cut_nil
/-- RookHusting$Slots at -/
noncomputable def con_1556 : Con2 := ((yX8_at, cX8_at, 3, (some .long)), (0, 0), ([(6, 0, 0), (0, 3, 0), (0, 36, 0)], [(0, 0), (0, 0), (0, 0), (0, 0), (0, 0), (0, 0), (0, 4)], [.inl (8, [(6, 1, 0), (8, 4, 0), (8, 5, 0)]), ac_845], []), [((4, 6, 0), gi_1117, hq_677, [], [1])])
theorem hd_1556 : con_1556.1 = (yX8_at, cX8_at, 3, (some .long)) := rfl
noncomputable def cu_1556 : List CUT2 := []
theorem ch_1556 : staG tb_X8_at 1 bt_RX8 [] ct_1253 [] [] cu_1556 11 con_1556 = true := by decide +kernel
theorem vl_1556 (l : Launch) : Vld2 l vwCl gTbl con_1556 := conR_ok3 gT_all (hd_1556) rfl pn_RX8 tk_X8_at bo_RX8 xo_RX8 (cto_1253 l) ch_1556 cut_nil
/-- RookHusting$Slots at -/
noncomputable def con_1557 : Con2 := ((yX8_at, cX8_at, 3, (some .long)), (0, 0), ([(6, 0, 0), (0, 3, 0), (0, 37, 0)], [(0, 0), (0, 0), (0, 0), (0, 0), (0, 0), (0, 0), (0, 16)], [.inl (8, [(6, 1, 0), (8, 4, 0), (8, 5, 0)]), ac_846], []), [((4, 6, 0), gi_1118, hq_678, [], [1])])
theorem hd_1557 : con_1557.1 = (yX8_at, cX8_at, 3, (some .long)) := rfl
noncomputable def cu_1557 : List CUT2 := []
theorem ch_1557 : staG tb_X8_at 1 bt_RX8 [] ct_1253 [] [] cu_1557 11 con_1557 = true := by decide +kernel
theorem vl_1557 (l : Launch) : Vld2 l vwCl gTbl con_1557 := conR_ok3 gT_all (hd_1557) rfl pn_RX8 tk_X8_at bo_RX8 xo_RX8 (cto_1253 l) ch_1557 cut_nil
/-- RookHusting$Slots at -/
noncomputable def con_1558 : Con2 := ((yX8_at, cX8_at, 3, (some .long)), (0, 0), ([(6, 0, 0), (0, 3, 0), (0, 38, 0)], [(0, 0), (0, 0), (0, 0), (0, 0), (0, 0), (0, 0), (0, 250)], [.inl (8, [(6, 1, 0), (8, 4, 0), (8, 5, 0)]), ac_847], []), [((4, 6, 0), gi_1119, hq_679, [], [1])])
theorem hd_1558 : con_1558.1 = (yX8_at, cX8_at, 3, (some .long)) := rfl
noncomputable def cu_1558 : List CUT2 := []
theorem ch_1558 : staG tb_X8_at 1 bt_RX8 [] ct_1253 [] [] cu_1558 11 con_1558 = true := by decide +kernel
theorem vl_1558 (l : Launch) : Vld2 l vwCl gTbl con_1558 := conR_ok3 gT_all (hd_1558) rfl pn_RX8 tk_X8_at bo_RX8 xo_RX8 (cto_1253 l) ch_1558 cut_nil
/-- RookHusting$Slots at -/
noncomputable def con_1559 : Con2 := ((yX8_at, cX8_at, 3, (some .long)), (0, 0), ([(6, 0, 0), (0, 3, 0), (0, 39, 0)], [(0, 0), (0, 0), (0, 0), (0, 0), (0, 0), (0, 0), (0, 4)], [.inl (8, [(6, 1, 0), (8, 4, 0), (8, 5, 0)]), ac_848], []), [((4, 6, 0), gi_1117, hq_680, [], [1])])
theorem hd_1559 : con_1559.1 = (yX8_at, cX8_at, 3, (some .long)) := rfl
noncomputable def cu_1559 : List CUT2 := []
theorem ch_1559 : staG tb_X8_at 1 bt_RX8 [] ct_1253 [] [] cu_1559 11 con_1559 = true := by decide +kernel
theorem vl_1559 (l : Launch) : Vld2 l vwCl gTbl con_1559 := conR_ok3 gT_all (hd_1559) rfl pn_RX8 tk_X8_at bo_RX8 xo_RX8 (cto_1253 l) ch_1559 cut_nil
/-- RookHusting$Slots at -/
noncomputable def con_1560 : Con2 := ((yX8_at, cX8_at, 3, (some .long)), (0, 0), ([(6, 0, 0), (0, 3, 0), (0, 40, 0)], [(0, 0), (0, 0), (0, 0), (0, 0), (0, 0), (0, 0), (0, 16)], [.inl (8, [(6, 1, 0), (8, 4, 0), (8, 5, 0)]), ac_849], []), [((4, 6, 0), gi_1118, hq_681, [], [1])])
theorem hd_1560 : con_1560.1 = (yX8_at, cX8_at, 3, (some .long)) := rfl
noncomputable def cu_1560 : List CUT2 := []
theorem ch_1560 : staG tb_X8_at 1 bt_RX8 [] ct_1253 [] [] cu_1560 11 con_1560 = true := by decide +kernel
theorem vl_1560 (l : Launch) : Vld2 l vwCl gTbl con_1560 := conR_ok3 gT_all (hd_1560) rfl pn_RX8 tk_X8_at bo_RX8 xo_RX8 (cto_1253 l) ch_1560 cut_nil
/-- RookHusting$Slots at -/
noncomputable def con_1561 : Con2 := ((yX8_at, cX8_at, 3, (some .long)), (0, 0), ([(6, 0, 0), (0, 3, 0), (0, 41, 0)], [(0, 0), (0, 0), (0, 0), (0, 0), (0, 0), (0, 0), (0, 250)], [.inl (8, [(6, 1, 0), (8, 4, 0), (8, 5, 0)]), ac_850], []), [((4, 6, 0), gi_1119, hq_682, [], [1])])
theorem hd_1561 : con_1561.1 = (yX8_at, cX8_at, 3, (some .long)) := rfl
noncomputable def cu_1561 : List CUT2 := []
theorem ch_1561 : staG tb_X8_at 1 bt_RX8 [] ct_1253 [] [] cu_1561 11 con_1561 = true := by decide +kernel
theorem vl_1561 (l : Launch) : Vld2 l vwCl gTbl con_1561 := conR_ok3 gT_all (hd_1561) rfl pn_RX8 tk_X8_at bo_RX8 xo_RX8 (cto_1253 l) ch_1561 cut_nil
/-- RookHusting$Slots at -/
noncomputable def con_1562 : Con2 := ((yX8_at, cX8_at, 3, (some .long)), (0, 0), ([(6, 0, 0), (0, 3, 0), (0, 42, 0)], [(0, 0), (0, 0), (0, 0), (0, 0), (0, 0), (0, 0), (0, 4)], [.inl (8, [(6, 1, 0), (8, 4, 0), (8, 5, 0)]), ac_851], []), [((4, 6, 0), gi_1117, hq_683, [], [1])])
theorem hd_1562 : con_1562.1 = (yX8_at, cX8_at, 3, (some .long)) := rfl
noncomputable def cu_1562 : List CUT2 := []
theorem ch_1562 : staG tb_X8_at 1 bt_RX8 [] ct_1253 [] [] cu_1562 11 con_1562 = true := by decide +kernel
theorem vl_1562 (l : Launch) : Vld2 l vwCl gTbl con_1562 := conR_ok3 gT_all (hd_1562) rfl pn_RX8 tk_X8_at bo_RX8 xo_RX8 (cto_1253 l) ch_1562 cut_nil
/-- RookHusting$Slots at -/
noncomputable def con_1563 : Con2 := ((yX8_at, cX8_at, 3, (some .long)), (0, 0), ([(6, 0, 0), (0, 3, 0), (0, 43, 0)], [(0, 0), (0, 0), (0, 0), (0, 0), (0, 0), (0, 0), (0, 16)], [.inl (8, [(6, 1, 0), (8, 4, 0), (8, 5, 0)]), ac_852], []), [((4, 6, 0), gi_1118, hq_684, [], [1])])
theorem hd_1563 : con_1563.1 = (yX8_at, cX8_at, 3, (some .long)) := rfl
noncomputable def cu_1563 : List CUT2 := []
theorem ch_1563 : staG tb_X8_at 1 bt_RX8 [] ct_1253 [] [] cu_1563 11 con_1563 = true := by decide +kernel
theorem vl_1563 (l : Launch) : Vld2 l vwCl gTbl con_1563 := conR_ok3 gT_all (hd_1563) rfl pn_RX8 tk_X8_at bo_RX8 xo_RX8 (cto_1253 l) ch_1563 cut_nil
/-- RookHusting$Slots at -/
noncomputable def con_1564 : Con2 := ((yX8_at, cX8_at, 3, (some .long)), (0, 0), ([(6, 0, 0), (0, 3, 0), (0, 44, 0)], [(0, 0), (0, 0), (0, 0), (0, 0), (0, 0), (0, 0), (0, 250)], [.inl (8, [(6, 1, 0), (8, 4, 0), (8, 5, 0)]), ac_853], []), [((4, 6, 0), gi_1119, hq_685, [], [1])])
theorem hd_1564 : con_1564.1 = (yX8_at, cX8_at, 3, (some .long)) := rfl
noncomputable def cu_1564 : List CUT2 := []
theorem ch_1564 : staG tb_X8_at 1 bt_RX8 [] ct_1253 [] [] cu_1564 11 con_1564 = true := by decide +kernel
theorem vl_1564 (l : Launch) : Vld2 l vwCl gTbl con_1564 := conR_ok3 gT_all (hd_1564) rfl pn_RX8 tk_X8_at bo_RX8 xo_RX8 (cto_1253 l) ch_1564 cut_nil
/-- RookHusting$Slots at -/
noncomputable def con_1565 : Con2 := ((yX8_at, cX8_at, 3, (some .long)), (0, 0), ([(6, 0, 0), (0, 3, 0), (0, 45, 0)], [(0, 0), (0, 0), (0, 0), (0, 0), (0, 0), (0, 0), (0, 4)], [.inl (8, [(6, 1, 0), (8, 4, 0), (8, 5, 0)]), ac_854], []), [((4, 6, 0), gi_1117, hq_686, [], [1])])
theorem hd_1565 : con_1565.1 = (yX8_at, cX8_at, 3, (some .long)) := rfl
noncomputable def cu_1565 : List CUT2 := []
theorem ch_1565 : staG tb_X8_at 1 bt_RX8 [] ct_1253 [] [] cu_1565 11 con_1565 = true := by decide +kernel
theorem vl_1565 (l : Launch) : Vld2 l vwCl gTbl con_1565 := conR_ok3 gT_all (hd_1565) rfl pn_RX8 tk_X8_at bo_RX8 xo_RX8 (cto_1253 l) ch_1565 cut_nil
/-- RookHusting$Slots at -/
noncomputable def con_1566 : Con2 := ((yX8_at, cX8_at, 3, (some .long)), (0, 0), ([(6, 0, 0), (0, 3, 0), (0, 46, 0)], [(0, 0), (0, 0), (0, 0), (0, 0), (0, 0), (0, 0), (0, 16)], [.inl (8, [(6, 1, 0), (8, 4, 0), (8, 5, 0)]), ac_855], []), [((4, 6, 0), gi_1118, hq_687, [], [1])])
theorem hd_1566 : con_1566.1 = (yX8_at, cX8_at, 3, (some .long)) := rfl
noncomputable def cu_1566 : List CUT2 := []
theorem ch_1566 : staG tb_X8_at 1 bt_RX8 [] ct_1253 [] [] cu_1566 11 con_1566 = true := by decide +kernel
theorem vl_1566 (l : Launch) : Vld2 l vwCl gTbl con_1566 := conR_ok3 gT_all (hd_1566) rfl pn_RX8 tk_X8_at bo_RX8 xo_RX8 (cto_1253 l) ch_1566 cut_nil
/-- RookHusting$Slots at -/
noncomputable def con_1567 : Con2 := ((yX8_at, cX8_at, 3, (some .long)), (0, 0), ([(6, 0, 0), (0, 3, 0), (0, 47, 0)], [(0, 0), (0, 0), (0, 0), (0, 0), (0, 0), (0, 0), (0, 250)], [.inl (8, [(6, 1, 0), (8, 4, 0), (8, 5, 0)]), ac_856], []), [((4, 6, 0), gi_1119, hq_688, [], [1])])
theorem hd_1567 : con_1567.1 = (yX8_at, cX8_at, 3, (some .long)) := rfl
noncomputable def cu_1567 : List CUT2 := []
theorem ch_1567 : staG tb_X8_at 1 bt_RX8 [] ct_1253 [] [] cu_1567 11 con_1567 = true := by decide +kernel
theorem vl_1567 (l : Launch) : Vld2 l vwCl gTbl con_1567 := conR_ok3 gT_all (hd_1567) rfl pn_RX8 tk_X8_at bo_RX8 xo_RX8 (cto_1253 l) ch_1567 cut_nil
/-- RookHusting$Slots at -/
noncomputable def con_1568 : Con2 := ((yX8_at, cX8_at, 3, (some .long)), (0, 0), ([(6, 0, 0), (0, 3, 0), (0, 48, 0)], [(0, 0), (0, 0), (0, 0), (0, 0), (0, 0), (0, 0), (0, 4)], [.inl (8, [(6, 1, 0), (8, 4, 0), (8, 5, 0)]), ac_857], []), [((4, 6, 0), gi_1117, hq_689, [], [1])])
theorem hd_1568 : con_1568.1 = (yX8_at, cX8_at, 3, (some .long)) := rfl
noncomputable def cu_1568 : List CUT2 := []
theorem ch_1568 : staG tb_X8_at 1 bt_RX8 [] ct_1253 [] [] cu_1568 11 con_1568 = true := by decide +kernel
theorem vl_1568 (l : Launch) : Vld2 l vwCl gTbl con_1568 := conR_ok3 gT_all (hd_1568) rfl pn_RX8 tk_X8_at bo_RX8 xo_RX8 (cto_1253 l) ch_1568 cut_nil
/-- RookHusting$Slots at -/
noncomputable def con_1569 : Con2 := ((yX8_at, cX8_at, 3, (some .long)), (0, 0), ([(6, 0, 0), (0, 3, 0), (0, 49, 0)], [(0, 0), (0, 0), (0, 0), (0, 0), (0, 0), (0, 0), (0, 16)], [.inl (8, [(6, 1, 0), (8, 4, 0), (8, 5, 0)]), ac_858], []), [((4, 6, 0), gi_1118, hq_690, [], [1])])
theorem hd_1569 : con_1569.1 = (yX8_at, cX8_at, 3, (some .long)) := rfl
noncomputable def cu_1569 : List CUT2 := []
theorem ch_1569 : staG tb_X8_at 1 bt_RX8 [] ct_1253 [] [] cu_1569 11 con_1569 = true := by decide +kernel
theorem vl_1569 (l : Launch) : Vld2 l vwCl gTbl con_1569 := conR_ok3 gT_all (hd_1569) rfl pn_RX8 tk_X8_at bo_RX8 xo_RX8 (cto_1253 l) ch_1569 cut_nil
/-- RookHusting$Slots at -/
noncomputable def con_1570 : Con2 := ((yX8_at, cX8_at, 3, (some .long)), (0, 0), ([(6, 0, 0), (0, 3, 0), (0, 50, 0)], [(0, 0), (0, 0), (0, 0), (0, 0), (0, 0), (0, 0), (0, 250)], [.inl (8, [(6, 1, 0), (8, 4, 0), (8, 5, 0)]), ac_859], []), [((4, 6, 0), gi_1119, hq_691, [], [1])])
theorem hd_1570 : con_1570.1 = (yX8_at, cX8_at, 3, (some .long)) := rfl
noncomputable def cu_1570 : List CUT2 := []
theorem ch_1570 : staG tb_X8_at 1 bt_RX8 [] ct_1253 [] [] cu_1570 11 con_1570 = true := by decide +kernel
theorem vl_1570 (l : Launch) : Vld2 l vwCl gTbl con_1570 := conR_ok3 gT_all (hd_1570) rfl pn_RX8 tk_X8_at bo_RX8 xo_RX8 (cto_1253 l) ch_1570 cut_nil
/-- RookHusting$Slots at -/
noncomputable def con_1571 : Con2 := ((yX8_at, cX8_at, 3, (some .long)), (0, 0), ([(6, 0, 0), (0, 3, 0), (0, 51, 0)], [(0, 0), (0, 0), (0, 0), (0, 0), (0, 0), (0, 0), (0, 4)], [.inl (8, [(6, 1, 0), (8, 4, 0), (8, 5, 0)]), ac_860], []), [((4, 6, 0), gi_1117, hq_692, [], [1])])
theorem hd_1571 : con_1571.1 = (yX8_at, cX8_at, 3, (some .long)) := rfl
noncomputable def cu_1571 : List CUT2 := []
theorem ch_1571 : staG tb_X8_at 1 bt_RX8 [] ct_1253 [] [] cu_1571 11 con_1571 = true := by decide +kernel
theorem vl_1571 (l : Launch) : Vld2 l vwCl gTbl con_1571 := conR_ok3 gT_all (hd_1571) rfl pn_RX8 tk_X8_at bo_RX8 xo_RX8 (cto_1253 l) ch_1571 cut_nil
/-- RookHusting$Slots at -/
noncomputable def con_1572 : Con2 := ((yX8_at, cX8_at, 3, (some .long)), (0, 0), ([(6, 0, 0), (0, 3, 0), (0, 52, 0)], [(0, 0), (0, 0), (0, 0), (0, 0), (0, 0), (0, 0), (0, 16)], [.inl (8, [(6, 1, 0), (8, 4, 0), (8, 5, 0)]), ac_861], []), [((4, 6, 0), gi_1118, hq_693, [], [1])])
theorem hd_1572 : con_1572.1 = (yX8_at, cX8_at, 3, (some .long)) := rfl
noncomputable def cu_1572 : List CUT2 := []
theorem ch_1572 : staG tb_X8_at 1 bt_RX8 [] ct_1253 [] [] cu_1572 11 con_1572 = true := by decide +kernel
theorem vl_1572 (l : Launch) : Vld2 l vwCl gTbl con_1572 := conR_ok3 gT_all (hd_1572) rfl pn_RX8 tk_X8_at bo_RX8 xo_RX8 (cto_1253 l) ch_1572 cut_nil
/-- RookHusting$Slots at -/
noncomputable def con_1573 : Con2 := ((yX8_at, cX8_at, 3, (some .long)), (0, 0), ([(6, 0, 0), (0, 3, 0), (0, 53, 0)], [(0, 0), (0, 0), (0, 0), (0, 0), (0, 0), (0, 0), (0, 250)], [.inl (8, [(6, 1, 0), (8, 4, 0), (8, 5, 0)]), ac_862], []), [((4, 6, 0), gi_1119, hq_694, [], [1])])
theorem hd_1573 : con_1573.1 = (yX8_at, cX8_at, 3, (some .long)) := rfl
noncomputable def cu_1573 : List CUT2 := []
theorem ch_1573 : staG tb_X8_at 1 bt_RX8 [] ct_1253 [] [] cu_1573 11 con_1573 = true := by decide +kernel
theorem vl_1573 (l : Launch) : Vld2 l vwCl gTbl con_1573 := conR_ok3 gT_all (hd_1573) rfl pn_RX8 tk_X8_at bo_RX8 xo_RX8 (cto_1253 l) ch_1573 cut_nil
/-- RookHusting$Slots at -/
noncomputable def con_1574 : Con2 := ((yX8_at, cX8_at, 3, (some .long)), (0, 0), ([(6, 0, 0), (0, 3, 0), (0, 54, 0)], [(0, 0), (0, 0), (0, 0), (0, 0), (0, 0), (0, 0), (0, 4)], [.inl (8, [(6, 1, 0), (8, 4, 0), (8, 5, 0)]), ac_863], []), [((4, 6, 0), gi_1117, hq_695, [], [1])])
theorem hd_1574 : con_1574.1 = (yX8_at, cX8_at, 3, (some .long)) := rfl
noncomputable def cu_1574 : List CUT2 := []
theorem ch_1574 : staG tb_X8_at 1 bt_RX8 [] ct_1253 [] [] cu_1574 11 con_1574 = true := by decide +kernel
theorem vl_1574 (l : Launch) : Vld2 l vwCl gTbl con_1574 := conR_ok3 gT_all (hd_1574) rfl pn_RX8 tk_X8_at bo_RX8 xo_RX8 (cto_1253 l) ch_1574 cut_nil
/-- RookHusting$Slots at -/
noncomputable def con_1575 : Con2 := ((yX8_at, cX8_at, 3, (some .long)), (0, 0), ([(6, 0, 0), (0, 3, 0), (0, 55, 0)], [(0, 0), (0, 0), (0, 0), (0, 0), (0, 0), (0, 0), (0, 16)], [.inl (8, [(6, 1, 0), (8, 4, 0), (8, 5, 0)]), ac_864], []), [((4, 6, 0), gi_1118, hq_696, [], [1])])
theorem hd_1575 : con_1575.1 = (yX8_at, cX8_at, 3, (some .long)) := rfl
noncomputable def cu_1575 : List CUT2 := []
theorem ch_1575 : staG tb_X8_at 1 bt_RX8 [] ct_1253 [] [] cu_1575 11 con_1575 = true := by decide +kernel
theorem vl_1575 (l : Launch) : Vld2 l vwCl gTbl con_1575 := conR_ok3 gT_all (hd_1575) rfl pn_RX8 tk_X8_at bo_RX8 xo_RX8 (cto_1253 l) ch_1575 cut_nil
/-- RookHusting$Slots at -/
noncomputable def con_1576 : Con2 := ((yX8_at, cX8_at, 3, (some .long)), (0, 0), ([(6, 0, 0), (0, 3, 0), (0, 56, 0)], [(0, 0), (0, 0), (0, 0), (0, 0), (0, 0), (0, 0), (0, 250)], [.inl (8, [(6, 1, 0), (8, 4, 0), (8, 5, 0)]), ac_865], []), [((4, 6, 0), gi_1119, hq_697, [], [1])])
theorem hd_1576 : con_1576.1 = (yX8_at, cX8_at, 3, (some .long)) := rfl
noncomputable def cu_1576 : List CUT2 := []
theorem ch_1576 : staG tb_X8_at 1 bt_RX8 [] ct_1253 [] [] cu_1576 11 con_1576 = true := by decide +kernel
theorem vl_1576 (l : Launch) : Vld2 l vwCl gTbl con_1576 := conR_ok3 gT_all (hd_1576) rfl pn_RX8 tk_X8_at bo_RX8 xo_RX8 (cto_1253 l) ch_1576 cut_nil
/-- RookHusting$Slots at -/
noncomputable def con_1577 : Con2 := ((yX8_at, cX8_at, 3, (some .long)), (0, 0), ([(6, 0, 0), (0, 3, 0), (0, 57, 0)], [(0, 0), (0, 0), (0, 0), (0, 0), (0, 0), (0, 0), (0, 4)], [.inl (8, [(6, 1, 0), (8, 4, 0), (8, 5, 0)]), ac_866], []), [((4, 6, 0), gi_1117, hq_698, [], [1])])
theorem hd_1577 : con_1577.1 = (yX8_at, cX8_at, 3, (some .long)) := rfl
noncomputable def cu_1577 : List CUT2 := []
theorem ch_1577 : staG tb_X8_at 1 bt_RX8 [] ct_1253 [] [] cu_1577 11 con_1577 = true := by decide +kernel
theorem vl_1577 (l : Launch) : Vld2 l vwCl gTbl con_1577 := conR_ok3 gT_all (hd_1577) rfl pn_RX8 tk_X8_at bo_RX8 xo_RX8 (cto_1253 l) ch_1577 cut_nil
/-- RookHusting$Slots at -/
noncomputable def gi_1131 : GI := jl_n [jl_z 6, gp_372]
noncomputable def con_1578 : Con2 := ((yX8_at, cX8_at, 3, (some .long)), (0, 0), ([(6, 0, 0), (0, 3, 0), (0, 58, 0)], gi_1118, [.inl (8, [(6, 1, 0), (8, 4, 0), (8, 5, 0)]), ac_867], []), [((4, 6, 0), gi_1131, hq_699, [], [1])])
theorem hd_1578 : con_1578.1 = (yX8_at, cX8_at, 3, (some .long)) := rfl
noncomputable def cu_1578 : List CUT2 := []
theorem ch_1578 : staG tb_X8_at 1 bt_RX8 [] ct_1253 [] [] cu_1578 11 con_1578 = true := by decide +kernel
theorem vl_1578 (l : Launch) : Vld2 l vwCl gTbl con_1578 := conR_ok3 gT_all (hd_1578) rfl pn_RX8 tk_X8_at bo_RX8 xo_RX8 (cto_1253 l) ch_1578 cut_nil
/-- RookHusting$Slots at -/
noncomputable def con_1579 : Con2 := ((yX8_at, cX8_at, 3, (some .long)), (0, 0), ([(6, 0, 0), (0, 3, 0), (0, 59, 0)], [(0, 0), (0, 0), (0, 0), (0, 0), (0, 0), (0, 0), (0, 250)], [.inl (8, [(6, 1, 0), (8, 4, 0), (8, 5, 0)]), ac_868], []), [((4, 6, 0), gi_1119, hq_700, [], [1])])
theorem hd_1579 : con_1579.1 = (yX8_at, cX8_at, 3, (some .long)) := rfl
noncomputable def cu_1579 : List CUT2 := []
theorem ch_1579 : staG tb_X8_at 1 bt_RX8 [] ct_1253 [] [] cu_1579 11 con_1579 = true := by decide +kernel
theorem vl_1579 (l : Launch) : Vld2 l vwCl gTbl con_1579 := conR_ok3 gT_all (hd_1579) rfl pn_RX8 tk_X8_at bo_RX8 xo_RX8 (cto_1253 l) ch_1579 cut_nil
/-- RookHusting isAsSeen -/
noncomputable def gi_1132 : GI := jl_n [gp_634, jl_z 9]
noncomputable def gi_1133 : GI := jl_n [gp_634, jl_z 10]
noncomputable def con_1580 : Con2 := ((yX11_isAsSeen, cX11_isAsSeen, 4, (some .boolean)), (1, 22), ([(6, 0, 0), (0, 3, 0)], gi_1132, hc_196, []), [((0, 0, 0), gi_1133, hq_885, [], [1]), ((0, 1, 0), gi_1133, hq_885, [], [1])])
theorem hd_1580 : con_1580.1 = (yX11_isAsSeen, cX11_isAsSeen, 4, (some .boolean)) := rfl
theorem ck_RX11_473_1531 : COK2 RX11 vwCl gTbl 473 0 con_1531 := ⟨wd_1218, wd_131, mh_X8_at, .inr (.inr ⟨rfl, wd_1215, wd_1216, wd_1217, ⟨_, rfl, pd_X8_at⟩, 8, _, TX8, 3, rfl, rfl⟩)⟩
theorem ck_RX11_473_1534 : COK2 RX11 vwCl gTbl 473 0 con_1534 := ⟨wd_1218, wd_131, mh_X8_at, .inr (.inr ⟨rfl, wd_1215, wd_1216, wd_1217, ⟨_, rfl, pd_X8_at⟩, 8, _, TX8, 3, rfl, rfl⟩)⟩
theorem ck_RX11_473_1537 : COK2 RX11 vwCl gTbl 473 0 con_1537 := ⟨wd_1218, wd_131, mh_X8_at, .inr (.inr ⟨rfl, wd_1215, wd_1216, wd_1217, ⟨_, rfl, pd_X8_at⟩, 8, _, TX8, 3, rfl, rfl⟩)⟩
theorem ck_RX11_473_1540 : COK2 RX11 vwCl gTbl 473 0 con_1540 := ⟨wd_1218, wd_131, mh_X8_at, .inr (.inr ⟨rfl, wd_1215, wd_1216, wd_1217, ⟨_, rfl, pd_X8_at⟩, 8, _, TX8, 3, rfl, rfl⟩)⟩
theorem ck_RX11_473_1543 : COK2 RX11 vwCl gTbl 473 0 con_1543 := ⟨wd_1218, wd_131, mh_X8_at, .inr (.inr ⟨rfl, wd_1215, wd_1216, wd_1217, ⟨_, rfl, pd_X8_at⟩, 8, _, TX8, 3, rfl, rfl⟩)⟩
theorem ck_RX11_473_1546 : COK2 RX11 vwCl gTbl 473 0 con_1546 := ⟨wd_1218, wd_131, mh_X8_at, .inr (.inr ⟨rfl, wd_1215, wd_1216, wd_1217, ⟨_, rfl, pd_X8_at⟩, 8, _, TX8, 3, rfl, rfl⟩)⟩
theorem ck_RX11_473_1549 : COK2 RX11 vwCl gTbl 473 0 con_1549 := ⟨wd_1218, wd_131, mh_X8_at, .inr (.inr ⟨rfl, wd_1215, wd_1216, wd_1217, ⟨_, rfl, pd_X8_at⟩, 8, _, TX8, 3, rfl, rfl⟩)⟩
theorem ck_RX11_473_1552 : COK2 RX11 vwCl gTbl 473 0 con_1552 := ⟨wd_1218, wd_131, mh_X8_at, .inr (.inr ⟨rfl, wd_1215, wd_1216, wd_1217, ⟨_, rfl, pd_X8_at⟩, 8, _, TX8, 3, rfl, rfl⟩)⟩
theorem ck_RX11_473_1555 : COK2 RX11 vwCl gTbl 473 0 con_1555 := ⟨wd_1218, wd_131, mh_X8_at, .inr (.inr ⟨rfl, wd_1215, wd_1216, wd_1217, ⟨_, rfl, pd_X8_at⟩, 8, _, TX8, 3, rfl, rfl⟩)⟩
theorem ck_RX11_473_1558 : COK2 RX11 vwCl gTbl 473 0 con_1558 := ⟨wd_1218, wd_131, mh_X8_at, .inr (.inr ⟨rfl, wd_1215, wd_1216, wd_1217, ⟨_, rfl, pd_X8_at⟩, 8, _, TX8, 3, rfl, rfl⟩)⟩
theorem ck_RX11_473_1561 : COK2 RX11 vwCl gTbl 473 0 con_1561 := ⟨wd_1218, wd_131, mh_X8_at, .inr (.inr ⟨rfl, wd_1215, wd_1216, wd_1217, ⟨_, rfl, pd_X8_at⟩, 8, _, TX8, 3, rfl, rfl⟩)⟩
theorem ck_RX11_473_1564 : COK2 RX11 vwCl gTbl 473 0 con_1564 := ⟨wd_1218, wd_131, mh_X8_at, .inr (.inr ⟨rfl, wd_1215, wd_1216, wd_1217, ⟨_, rfl, pd_X8_at⟩, 8, _, TX8, 3, rfl, rfl⟩)⟩
theorem ck_RX11_473_1567 : COK2 RX11 vwCl gTbl 473 0 con_1567 := ⟨wd_1218, wd_131, mh_X8_at, .inr (.inr ⟨rfl, wd_1215, wd_1216, wd_1217, ⟨_, rfl, pd_X8_at⟩, 8, _, TX8, 3, rfl, rfl⟩)⟩
theorem ck_RX11_473_1570 : COK2 RX11 vwCl gTbl 473 0 con_1570 := ⟨wd_1218, wd_131, mh_X8_at, .inr (.inr ⟨rfl, wd_1215, wd_1216, wd_1217, ⟨_, rfl, pd_X8_at⟩, 8, _, TX8, 3, rfl, rfl⟩)⟩
theorem ck_RX11_473_1573 : COK2 RX11 vwCl gTbl 473 0 con_1573 := ⟨wd_1218, wd_131, mh_X8_at, .inr (.inr ⟨rfl, wd_1215, wd_1216, wd_1217, ⟨_, rfl, pd_X8_at⟩, 8, _, TX8, 3, rfl, rfl⟩)⟩
theorem ck_RX11_473_1576 : COK2 RX11 vwCl gTbl 473 0 con_1576 := ⟨wd_1218, wd_131, mh_X8_at, .inr (.inr ⟨rfl, wd_1215, wd_1216, wd_1217, ⟨_, rfl, pd_X8_at⟩, 8, _, TX8, 3, rfl, rfl⟩)⟩
theorem ck_RX11_473_1579 : COK2 RX11 vwCl gTbl 473 0 con_1579 := ⟨wd_1218, wd_131, mh_X8_at, .inr (.inr ⟨rfl, wd_1215, wd_1216, wd_1217, ⟨_, rfl, pd_X8_at⟩, 8, _, TX8, 3, rfl, rfl⟩)⟩
theorem ck_RX11_473_1530 : COK2 RX11 vwCl gTbl 473 0 con_1530 := ⟨wd_1218, wd_131, mh_X8_at, .inr (.inr ⟨rfl, wd_1215, wd_1216, wd_1217, ⟨_, rfl, pd_X8_at⟩, 8, _, TX8, 3, rfl, rfl⟩)⟩
theorem ck_RX11_473_1533 : COK2 RX11 vwCl gTbl 473 0 con_1533 := ⟨wd_1218, wd_131, mh_X8_at, .inr (.inr ⟨rfl, wd_1215, wd_1216, wd_1217, ⟨_, rfl, pd_X8_at⟩, 8, _, TX8, 3, rfl, rfl⟩)⟩
theorem ck_RX11_473_1536 : COK2 RX11 vwCl gTbl 473 0 con_1536 := ⟨wd_1218, wd_131, mh_X8_at, .inr (.inr ⟨rfl, wd_1215, wd_1216, wd_1217, ⟨_, rfl, pd_X8_at⟩, 8, _, TX8, 3, rfl, rfl⟩)⟩
theorem ck_RX11_473_1539 : COK2 RX11 vwCl gTbl 473 0 con_1539 := ⟨wd_1218, wd_131, mh_X8_at, .inr (.inr ⟨rfl, wd_1215, wd_1216, wd_1217, ⟨_, rfl, pd_X8_at⟩, 8, _, TX8, 3, rfl, rfl⟩)⟩
theorem ck_RX11_473_1542 : COK2 RX11 vwCl gTbl 473 0 con_1542 := ⟨wd_1218, wd_131, mh_X8_at, .inr (.inr ⟨rfl, wd_1215, wd_1216, wd_1217, ⟨_, rfl, pd_X8_at⟩, 8, _, TX8, 3, rfl, rfl⟩)⟩
theorem ck_RX11_473_1545 : COK2 RX11 vwCl gTbl 473 0 con_1545 := ⟨wd_1218, wd_131, mh_X8_at, .inr (.inr ⟨rfl, wd_1215, wd_1216, wd_1217, ⟨_, rfl, pd_X8_at⟩, 8, _, TX8, 3, rfl, rfl⟩)⟩
theorem ck_RX11_473_1548 : COK2 RX11 vwCl gTbl 473 0 con_1548 := ⟨wd_1218, wd_131, mh_X8_at, .inr (.inr ⟨rfl, wd_1215, wd_1216, wd_1217, ⟨_, rfl, pd_X8_at⟩, 8, _, TX8, 3, rfl, rfl⟩)⟩
theorem ck_RX11_473_1551 : COK2 RX11 vwCl gTbl 473 0 con_1551 := ⟨wd_1218, wd_131, mh_X8_at, .inr (.inr ⟨rfl, wd_1215, wd_1216, wd_1217, ⟨_, rfl, pd_X8_at⟩, 8, _, TX8, 3, rfl, rfl⟩)⟩
theorem ck_RX11_473_1554 : COK2 RX11 vwCl gTbl 473 0 con_1554 := ⟨wd_1218, wd_131, mh_X8_at, .inr (.inr ⟨rfl, wd_1215, wd_1216, wd_1217, ⟨_, rfl, pd_X8_at⟩, 8, _, TX8, 3, rfl, rfl⟩)⟩
theorem ck_RX11_473_1557 : COK2 RX11 vwCl gTbl 473 0 con_1557 := ⟨wd_1218, wd_131, mh_X8_at, .inr (.inr ⟨rfl, wd_1215, wd_1216, wd_1217, ⟨_, rfl, pd_X8_at⟩, 8, _, TX8, 3, rfl, rfl⟩)⟩
theorem ck_RX11_473_1560 : COK2 RX11 vwCl gTbl 473 0 con_1560 := ⟨wd_1218, wd_131, mh_X8_at, .inr (.inr ⟨rfl, wd_1215, wd_1216, wd_1217, ⟨_, rfl, pd_X8_at⟩, 8, _, TX8, 3, rfl, rfl⟩)⟩
theorem ck_RX11_473_1563 : COK2 RX11 vwCl gTbl 473 0 con_1563 := ⟨wd_1218, wd_131, mh_X8_at, .inr (.inr ⟨rfl, wd_1215, wd_1216, wd_1217, ⟨_, rfl, pd_X8_at⟩, 8, _, TX8, 3, rfl, rfl⟩)⟩
theorem ck_RX11_473_1566 : COK2 RX11 vwCl gTbl 473 0 con_1566 := ⟨wd_1218, wd_131, mh_X8_at, .inr (.inr ⟨rfl, wd_1215, wd_1216, wd_1217, ⟨_, rfl, pd_X8_at⟩, 8, _, TX8, 3, rfl, rfl⟩)⟩
theorem ck_RX11_473_1569 : COK2 RX11 vwCl gTbl 473 0 con_1569 := ⟨wd_1218, wd_131, mh_X8_at, .inr (.inr ⟨rfl, wd_1215, wd_1216, wd_1217, ⟨_, rfl, pd_X8_at⟩, 8, _, TX8, 3, rfl, rfl⟩)⟩
theorem ck_RX11_473_1572 : COK2 RX11 vwCl gTbl 473 0 con_1572 := ⟨wd_1218, wd_131, mh_X8_at, .inr (.inr ⟨rfl, wd_1215, wd_1216, wd_1217, ⟨_, rfl, pd_X8_at⟩, 8, _, TX8, 3, rfl, rfl⟩)⟩
theorem ck_RX11_473_1575 : COK2 RX11 vwCl gTbl 473 0 con_1575 := ⟨wd_1218, wd_131, mh_X8_at, .inr (.inr ⟨rfl, wd_1215, wd_1216, wd_1217, ⟨_, rfl, pd_X8_at⟩, 8, _, TX8, 3, rfl, rfl⟩)⟩
theorem ck_RX11_473_1578 : COK2 RX11 vwCl gTbl 473 0 con_1578 := ⟨wd_1218, wd_131, mh_X8_at, .inr (.inr ⟨rfl, wd_1215, wd_1216, wd_1217, ⟨_, rfl, pd_X8_at⟩, 8, _, TX8, 3, rfl, rfl⟩)⟩
theorem ck_RX11_473_1529 : COK2 RX11 vwCl gTbl 473 0 con_1529 := ⟨wd_1218, wd_131, mh_X8_at, .inr (.inr ⟨rfl, wd_1215, wd_1216, wd_1217, ⟨_, rfl, pd_X8_at⟩, 8, _, TX8, 3, rfl, rfl⟩)⟩
theorem ck_RX11_473_1532 : COK2 RX11 vwCl gTbl 473 0 con_1532 := ⟨wd_1218, wd_131, mh_X8_at, .inr (.inr ⟨rfl, wd_1215, wd_1216, wd_1217, ⟨_, rfl, pd_X8_at⟩, 8, _, TX8, 3, rfl, rfl⟩)⟩
theorem ck_RX11_473_1535 : COK2 RX11 vwCl gTbl 473 0 con_1535 := ⟨wd_1218, wd_131, mh_X8_at, .inr (.inr ⟨rfl, wd_1215, wd_1216, wd_1217, ⟨_, rfl, pd_X8_at⟩, 8, _, TX8, 3, rfl, rfl⟩)⟩
theorem ck_RX11_473_1538 : COK2 RX11 vwCl gTbl 473 0 con_1538 := ⟨wd_1218, wd_131, mh_X8_at, .inr (.inr ⟨rfl, wd_1215, wd_1216, wd_1217, ⟨_, rfl, pd_X8_at⟩, 8, _, TX8, 3, rfl, rfl⟩)⟩
theorem ck_RX11_473_1541 : COK2 RX11 vwCl gTbl 473 0 con_1541 := ⟨wd_1218, wd_131, mh_X8_at, .inr (.inr ⟨rfl, wd_1215, wd_1216, wd_1217, ⟨_, rfl, pd_X8_at⟩, 8, _, TX8, 3, rfl, rfl⟩)⟩
theorem ck_RX11_473_1544 : COK2 RX11 vwCl gTbl 473 0 con_1544 := ⟨wd_1218, wd_131, mh_X8_at, .inr (.inr ⟨rfl, wd_1215, wd_1216, wd_1217, ⟨_, rfl, pd_X8_at⟩, 8, _, TX8, 3, rfl, rfl⟩)⟩
theorem ck_RX11_473_1547 : COK2 RX11 vwCl gTbl 473 0 con_1547 := ⟨wd_1218, wd_131, mh_X8_at, .inr (.inr ⟨rfl, wd_1215, wd_1216, wd_1217, ⟨_, rfl, pd_X8_at⟩, 8, _, TX8, 3, rfl, rfl⟩)⟩
theorem ck_RX11_473_1550 : COK2 RX11 vwCl gTbl 473 0 con_1550 := ⟨wd_1218, wd_131, mh_X8_at, .inr (.inr ⟨rfl, wd_1215, wd_1216, wd_1217, ⟨_, rfl, pd_X8_at⟩, 8, _, TX8, 3, rfl, rfl⟩)⟩
theorem ck_RX11_473_1553 : COK2 RX11 vwCl gTbl 473 0 con_1553 := ⟨wd_1218, wd_131, mh_X8_at, .inr (.inr ⟨rfl, wd_1215, wd_1216, wd_1217, ⟨_, rfl, pd_X8_at⟩, 8, _, TX8, 3, rfl, rfl⟩)⟩
theorem ck_RX11_473_1556 : COK2 RX11 vwCl gTbl 473 0 con_1556 := ⟨wd_1218, wd_131, mh_X8_at, .inr (.inr ⟨rfl, wd_1215, wd_1216, wd_1217, ⟨_, rfl, pd_X8_at⟩, 8, _, TX8, 3, rfl, rfl⟩)⟩
theorem ck_RX11_473_1559 : COK2 RX11 vwCl gTbl 473 0 con_1559 := ⟨wd_1218, wd_131, mh_X8_at, .inr (.inr ⟨rfl, wd_1215, wd_1216, wd_1217, ⟨_, rfl, pd_X8_at⟩, 8, _, TX8, 3, rfl, rfl⟩)⟩
theorem ck_RX11_473_1562 : COK2 RX11 vwCl gTbl 473 0 con_1562 := ⟨wd_1218, wd_131, mh_X8_at, .inr (.inr ⟨rfl, wd_1215, wd_1216, wd_1217, ⟨_, rfl, pd_X8_at⟩, 8, _, TX8, 3, rfl, rfl⟩)⟩
theorem ck_RX11_473_1565 : COK2 RX11 vwCl gTbl 473 0 con_1565 := ⟨wd_1218, wd_131, mh_X8_at, .inr (.inr ⟨rfl, wd_1215, wd_1216, wd_1217, ⟨_, rfl, pd_X8_at⟩, 8, _, TX8, 3, rfl, rfl⟩)⟩
theorem ck_RX11_473_1568 : COK2 RX11 vwCl gTbl 473 0 con_1568 := ⟨wd_1218, wd_131, mh_X8_at, .inr (.inr ⟨rfl, wd_1215, wd_1216, wd_1217, ⟨_, rfl, pd_X8_at⟩, 8, _, TX8, 3, rfl, rfl⟩)⟩
theorem ck_RX11_473_1571 : COK2 RX11 vwCl gTbl 473 0 con_1571 := ⟨wd_1218, wd_131, mh_X8_at, .inr (.inr ⟨rfl, wd_1215, wd_1216, wd_1217, ⟨_, rfl, pd_X8_at⟩, 8, _, TX8, 3, rfl, rfl⟩)⟩
theorem ck_RX11_473_1574 : COK2 RX11 vwCl gTbl 473 0 con_1574 := ⟨wd_1218, wd_131, mh_X8_at, .inr (.inr ⟨rfl, wd_1215, wd_1216, wd_1217, ⟨_, rfl, pd_X8_at⟩, 8, _, TX8, 3, rfl, rfl⟩)⟩
theorem ck_RX11_473_1577 : COK2 RX11 vwCl gTbl 473 0 con_1577 := ⟨wd_1218, wd_131, mh_X8_at, .inr (.inr ⟨rfl, wd_1215, wd_1216, wd_1217, ⟨_, rfl, pd_X8_at⟩, 8, _, TX8, 3, rfl, rfl⟩)⟩
noncomputable def ct_1580 : CTB2 := [(21, 473, 0, con_1577, [1, 3]), (21, 473, 0, con_1574, [1, 3]), (21, 473, 0, con_1571, [1, 3]), (21, 473, 0, con_1568, [1, 3]), (21, 473, 0, con_1565, [1, 3]), (21, 473, 0, con_1562, [1, 3]), (21, 473, 0, con_1559, [1, 3]), (21, 473, 0, con_1556, [1, 3]), (21, 473, 0, con_1553, [1, 3]), (21, 473, 0, con_1550, [1, 3]), (21, 473, 0, con_1547, [1, 3]), (21, 473, 0, con_1544, [1, 3]), (21, 473, 0, con_1541, [1, 3]), (21, 473, 0, con_1538, [1, 3]), (21, 473, 0, con_1535, [1, 3]), (21, 473, 0, con_1532, [1, 3]), (21, 473, 0, con_1529, [1, 3]), (21, 473, 0, con_1518, [1, 3]), (21, 473, 0, con_1515, [1, 3]), (21, 473, 0, con_1512, [1, 3]), (36, 473, 0, con_1578, [1, 3]), (36, 473, 0, con_1575, [1, 3]), (36, 473, 0, con_1572, [1, 3]), (36, 473, 0, con_1569, [1, 3]), (36, 473, 0, con_1566, [1, 3]), (36, 473, 0, con_1563, [1, 3]), (36, 473, 0, con_1560, [1, 3]), (36, 473, 0, con_1557, [1, 3]), (36, 473, 0, con_1554, [1, 3]), (36, 473, 0, con_1551, [1, 3]), (36, 473, 0, con_1548, [1, 3]), (36, 473, 0, con_1545, [1, 3]), (36, 473, 0, con_1542, [1, 3]), (36, 473, 0, con_1539, [1, 3]), (36, 473, 0, con_1536, [1, 3]), (36, 473, 0, con_1533, [1, 3]), (36, 473, 0, con_1530, [1, 3]), (36, 473, 0, con_1519, [1, 3]), (36, 473, 0, con_1516, [1, 3]), (36, 473, 0, con_1513, [1, 3]), (60, 473, 0, con_1579, [1, 3]), (60, 473, 0, con_1576, [1, 3]), (60, 473, 0, con_1573, [1, 3]), (60, 473, 0, con_1570, [1, 3]), (60, 473, 0, con_1567, [1, 3]), (60, 473, 0, con_1564, [1, 3]), (60, 473, 0, con_1561, [1, 3]), (60, 473, 0, con_1558, [1, 3]), (60, 473, 0, con_1555, [1, 3]), (60, 473, 0, con_1552, [1, 3]), (60, 473, 0, con_1549, [1, 3]), (60, 473, 0, con_1546, [1, 3]), (60, 473, 0, con_1543, [1, 3]), (60, 473, 0, con_1540, [1, 3]), (60, 473, 0, con_1537, [1, 3]), (60, 473, 0, con_1534, [1, 3]), (60, 473, 0, con_1531, [1, 3]), (60, 473, 0, con_1520, [1, 3]), (60, 473, 0, con_1517, [1, 3]), (60, 473, 0, con_1514, [1, 3])]
noncomputable def gi_1134 : GI := jl_n [gp_634, jl_z 12]
noncomputable def gi_1135 : GI := jl_n [gp_634, gp_628]
noncomputable def cu_1580_0 : List CUT2 := [((2, [lq 0 6 0, lq 1 0 3, lq 2 0 0], [], gi_1134, hq_885), [], ([], 60)), ((2, [lq 0 6 0, lq 1 0 3, lq 2 0 3, lq 3 1 97], [], gi_1135, hq_885), [], ([], 57)), ((2, [lq 0 6 0, lq 1 0 3, lq 2 0 6, lq 3 1 97], [], gi_1135, hq_885), [], ([], 54)), ((2, [lq 0 6 0, lq 1 0 3, lq 2 0 9, lq 3 1 97], [], gi_1135, hq_885), [], ([], 51)), ((2, [lq 0 6 0, lq 1 0 3, lq 2 0 12, lq 3 1 97], [], gi_1135, hq_885), [], ([], 48)), ((2, [lq 0 6 0, lq 1 0 3, lq 2 0 15, lq 3 1 97], [], gi_1135, hq_885), [], ([], 45)), ((2, [lq 0 6 0, lq 1 0 3, lq 2 0 18, lq 3 1 97], [], gi_1135, hq_885), [], ([], 42)), ((2, [lq 0 6 0, lq 1 0 3, lq 2 0 21, lq 3 1 97], [], gi_1135, hq_885), [], ([], 39)), ((2, [lq 0 6 0, lq 1 0 3, lq 2 0 24, lq 3 1 97], [], gi_1135, hq_885), [], ([], 36)), ((2, [lq 0 6 0, lq 1 0 3, lq 2 0 27, lq 3 1 97], [], gi_1135, hq_885), [], ([], 33)), ((2, [lq 0 6 0, lq 1 0 3, lq 2 0 30, lq 3 1 97], [], gi_1135, hq_885), [], ([], 30)), ((2, [lq 0 6 0, lq 1 0 3, lq 2 0 33, lq 3 1 97], [], gi_1135, hq_885), [], ([], 27)), ((2, [lq 0 6 0, lq 1 0 3, lq 2 0 36, lq 3 1 97], [], gi_1135, hq_885), [], ([], 24)), ((2, [lq 0 6 0, lq 1 0 3, lq 2 0 39, lq 3 1 97], [], gi_1135, hq_885), [], ([], 21)), ((2, [lq 0 6 0, lq 1 0 3, lq 2 0 42, lq 3 1 97], [], gi_1135, hq_885), [], ([], 18)), ((2, [lq 0 6 0, lq 1 0 3, lq 2 0 45, lq 3 1 97], [], gi_1135, hq_885), [], ([], 15)), ((2, [lq 0 6 0, lq 1 0 3, lq 2 0 48, lq 3 1 97], [], gi_1135, hq_885), [], ([], 12))]
noncomputable def cu_1580_1 : List CUT2 := [((2, [lq 0 6 0, lq 1 0 3, lq 2 0 51, lq 3 1 97], [], gi_1135, hq_885), [], ([], 9)), ((2, [lq 0 6 0, lq 1 0 3, lq 2 0 54, lq 3 1 97], [], gi_1135, hq_885), [], ([], 6)), ((2, [lq 0 6 0, lq 1 0 3, lq 2 0 57, lq 3 1 97], [], gi_1135, hq_885), [], ([], 3)), ((2, [lq 0 6 0, lq 1 0 3, lq 2 0 60, lq 3 1 97], [], gi_1135, hq_885), [], ([], 0))]
noncomputable def cu_1580 : List CUT2 := cu_1580_0 ++ (cu_1580_1)
theorem ch_1580 : staG tb_X11_isAsSeen 1 bt_RX11 [] ct_1580 [] [] cu_1580 44 con_1580 = true := by decide +kernel
theorem cc_1580_0 : cu_1580_0.all (cutG tb_X11_isAsSeen 1 bt_RX11 [] ct_1580 [] [] cu_1580 44 con_1580) = true := by decide +kernel
theorem cc_1580_1 : cu_1580_1.all (cutG tb_X11_isAsSeen 1 bt_RX11 [] ct_1580 [] [] cu_1580 44 con_1580) = true := by decide +kernel
theorem cto_1580 (l : Launch) : CTOK2 l RX11 vwCl gTbl ct_1580 := ct2_cons (vl_1577 l) ck_RX11_473_1577 (ct2_cons (vl_1574 l) ck_RX11_473_1574 (ct2_cons (vl_1571 l) ck_RX11_473_1571 (ct2_cons (vl_1568 l) ck_RX11_473_1568 (ct2_cons (vl_1565 l) ck_RX11_473_1565 (ct2_cons (vl_1562 l) ck_RX11_473_1562 (ct2_cons (vl_1559 l) ck_RX11_473_1559 (ct2_cons (vl_1556 l) ck_RX11_473_1556 (ct2_cons (vl_1553 l) ck_RX11_473_1553 (ct2_cons (vl_1550 l) ck_RX11_473_1550 (ct2_cons (vl_1547 l) ck_RX11_473_1547 (ct2_cons (vl_1544 l) ck_RX11_473_1544 (ct2_cons (vl_1541 l) ck_RX11_473_1541 (ct2_cons (vl_1538 l) ck_RX11_473_1538 (ct2_cons (vl_1535 l) ck_RX11_473_1535 (ct2_cons (vl_1532 l) ck_RX11_473_1532 (ct2_cons (vl_1529 l) ck_RX11_473_1529 (ct2_cons (vl_1518 l) ck_RX11_473_1518 (ct2_cons (vl_1515 l) ck_RX11_473_1515 (ct2_cons (vl_1512 l) ck_RX11_473_1512 (ct2_cons (vl_1578 l) ck_RX11_473_1578 (ct2_cons (vl_1575 l) ck_RX11_473_1575 (ct2_cons (vl_1572 l) ck_RX11_473_1572 (ct2_cons (vl_1569 l) ck_RX11_473_1569 (ct2_cons (vl_1566 l) ck_RX11_473_1566 (ct2_cons (vl_1563 l) ck_RX11_473_1563 (ct2_cons (vl_1560 l) ck_RX11_473_1560 (ct2_cons (vl_1557 l) ck_RX11_473_1557 (ct2_cons (vl_1554 l) ck_RX11_473_1554 (ct2_cons (vl_1551 l) ck_RX11_473_1551 (ct2_cons (vl_1548 l) ck_RX11_473_1548 (ct2_cons (vl_1545 l) ck_RX11_473_1545 (ct2_cons (vl_1542 l) ck_RX11_473_1542 (ct2_cons (vl_1539 l) ck_RX11_473_1539 (ct2_cons (vl_1536 l) ck_RX11_473_1536 (ct2_cons (vl_1533 l) ck_RX11_473_1533 (ct2_cons (vl_1530 l) ck_RX11_473_1530 (ct2_cons (vl_1519 l) ck_RX11_473_1519 (ct2_cons (vl_1516 l) ck_RX11_473_1516 (ct2_cons (vl_1513 l) ck_RX11_473_1513 (ct2_cons (vl_1579 l) ck_RX11_473_1579 (ct2_cons (vl_1576 l) ck_RX11_473_1576 (ct2_cons (vl_1573 l) ck_RX11_473_1573 (ct2_cons (vl_1570 l) ck_RX11_473_1570 (ct2_cons (vl_1567 l) ck_RX11_473_1567 (ct2_cons (vl_1564 l) ck_RX11_473_1564 (ct2_cons (vl_1561 l) ck_RX11_473_1561 (ct2_cons (vl_1558 l) ck_RX11_473_1558 (ct2_cons (vl_1555 l) ck_RX11_473_1555 (ct2_cons (vl_1552 l) ck_RX11_473_1552 (ct2_cons (vl_1549 l) ck_RX11_473_1549 (ct2_cons (vl_1546 l) ck_RX11_473_1546 (ct2_cons (vl_1543 l) ck_RX11_473_1543 (ct2_cons (vl_1540 l) ck_RX11_473_1540 (ct2_cons (vl_1537 l) ck_RX11_473_1537 (ct2_cons (vl_1534 l) ck_RX11_473_1534 (ct2_cons (vl_1531 l) ck_RX11_473_1531 (ct2_cons (vl_1520 l) ck_RX11_473_1520 (ct2_cons (vl_1517 l) ck_RX11_473_1517 (ct2_cons (vl_1514 l) ck_RX11_473_1514 (ct2_nil))))))))))))))))))))))))))))))))))))))))))))))))))))))))))))
theorem vl_1580 (l : Launch) : Vld2 l vwCl gTbl con_1580 := conR_ok3 gT_all (hd_1580) rfl pn_RX11 tk_X11_isAsSeen bo_RX11 xo_RX11 (cto_1580 l) ch_1580 (cut_app (cut_all cc_1580_0) (cut_all cc_1580_1))
/-- RookHusting guessAll -/
noncomputable def gi_1136 : GI := jl_n [gp_631, gp_487]
noncomputable def gi_1137 : GI := jl_n [gp_631, gp_487, gp_632]
noncomputable def con_1581 : Con2 := ((yX11_guessAll, cX11_guessAll, 4, none), (6, 151), ([(6, 0, 0), (0, 3, 0), (1, 2, 0)], gi_1136, hc_198, rq_6), [((9, 0, 0), gi_1137, hq_887, [], tg_1)])
theorem hd_1581 : con_1581.1 = (yX11_guessAll, cX11_guessAll, 4, none) := rfl
theorem ck_RX11_483_1580 : COK2 RX11 vwCl gTbl 483 0 con_1580 := ⟨wd_1230, wd_125, mh_X11_isAsSeen, .inr (.inr ⟨rfl, wd_1227, wd_1229, wd_43, ⟨_, rfl, pd_X11_isAsSeen⟩, 11, _, TX11, 16, rfl, rfl⟩)⟩
noncomputable def ct_1581 : CTB2 := [(1, 208, 0, con_900, [0, 1, 2, 3, 4, 5, 6, 7, 8, 9, 10, 11, 12, 13, 14, 15, 16, 17, 18, 19, 20, 21, 22, 23, 24, 25, 26]), (36, 332, 0, con_1212, [28, 2, 29, 4, 30, 5, 31, 6]), (45, 480, 0, con_859, [28, 29]), (73, 372, 0, con_899, [32, 3, 28, 16, 33, 18, 34, 30, 35, 29, 36, 22, 23, 37, 38, 39, 31]), (78, 483, 0, con_1580, [0, 40, 41, 42, 32, 33]), (105, 486, 0, con_1522, [27, 33, 43]), (105, 486, 0, con_1527, [27, 33, 43])]
noncomputable def gi_1138 : GI := jl_n [gp_631, gp_487, gp_633]
noncomputable def cu_1581 : List CUT2 := [((14, [lq 0 6 0, lq 1 0 3, lq 2 1 2, lq 3 1 204], [], gi_1138, hq_888), rq_6, ([(204, (-1))], 5))]
theorem ch_1581 : staG tb_X11_guessAll 1 bt_RX11 [] ct_1581 [] [] cu_1581 48 con_1581 = true := by decide +kernel
theorem cc_1581 : cu_1581.all (cutG tb_X11_guessAll 1 bt_RX11 [] ct_1581 [] [] cu_1581 48 con_1581) = true := by decide +kernel
theorem cto_1581 (l : Launch) : CTOK2 l RX11 vwCl gTbl ct_1581 := ct2_cons (vl_900 l) ck_RX11_208_900 (ct2_cons (vl_1212 l) ck_RX11_332_1212 (ct2_cons (vl_859 l) ck_RX11_480_859 (ct2_cons (vl_899 l) ck_RX11_372_899 (ct2_cons (vl_1580 l) ck_RX11_483_1580 (ct2_cons (vl_1522 l) ck_RX11_486_1522 (ct2_cons (vl_1527 l) ck_RX11_486_1527 (ct2_nil)))))))
theorem vl_1581 (l : Launch) : Vld2 l vwCl gTbl con_1581 := conR_ok3 gT_all (hd_1581) rfl pn_RX11 tk_X11_guessAll bo_RX11 xo_RX11 (cto_1581 l) ch_1581 (cut_all cc_1581)
/-- RookHusting isAsSeen -/
noncomputable def gi_1139 : GI := jl_n [gp_635, jl_z 9]
noncomputable def gi_1140 : GI := jl_n [gp_635, jl_z 10]
noncomputable def con_1582 : Con2 := ((yX11_isAsSeen, cX11_isAsSeen, 4, (some .boolean)), (1, 22), ([(6, 0, 0), (0, 3, 0)], gi_1139, hc_196, []), [((0, 0, 0), gi_1140, hq_885, [], [1]), ((0, 1, 0), gi_1140, hq_885, [], [1])])
theorem hd_1582 : con_1582.1 = (yX11_isAsSeen, cX11_isAsSeen, 4, (some .boolean)) := rfl
noncomputable def ct_1582 : CTB2 := [(21, 473, 0, con_1515, [1, 3]), (21, 473, 0, con_1512, [1, 3]), (36, 473, 0, con_1516, [1, 3]), (36, 473, 0, con_1513, [1, 3]), (60, 473, 0, con_1517, [1, 3]), (60, 473, 0, con_1514, [1, 3])]
noncomputable def gi_1141 : GI := jl_n [gp_635, jl_z 12]
noncomputable def gi_1142 : GI := jl_n [gp_635, gp_628]
noncomputable def cu_1582 : List CUT2 := [((2, [lq 0 6 0, lq 1 0 3, lq 2 0 0], [], gi_1141, hq_885), [], ([], 6)), ((2, [lq 0 6 0, lq 1 0 3, lq 2 0 3, lq 3 1 97], [], gi_1142, hq_885), [], ([], 3)), ((2, [lq 0 6 0, lq 1 0 3, lq 2 0 6, lq 3 1 97], [], gi_1142, hq_885), [], ([], 0))]
theorem ch_1582 : staG tb_X11_isAsSeen 1 bt_RX11 [] ct_1582 [] [] cu_1582 44 con_1582 = true := by decide +kernel
theorem cc_1582 : cu_1582.all (cutG tb_X11_isAsSeen 1 bt_RX11 [] ct_1582 [] [] cu_1582 44 con_1582) = true := by decide +kernel
theorem cto_1582 (l : Launch) : CTOK2 l RX11 vwCl gTbl ct_1582 := ct2_cons (vl_1515 l) ck_RX11_473_1515 (ct2_cons (vl_1512 l) ck_RX11_473_1512 (ct2_cons (vl_1516 l) ck_RX11_473_1516 (ct2_cons (vl_1513 l) ck_RX11_473_1513 (ct2_cons (vl_1517 l) ck_RX11_473_1517 (ct2_cons (vl_1514 l) ck_RX11_473_1514 (ct2_nil))))))
theorem vl_1582 (l : Launch) : Vld2 l vwCl gTbl con_1582 := conR_ok3 gT_all (hd_1582) rfl pn_RX11 tk_X11_isAsSeen bo_RX11 xo_RX11 (cto_1582 l) ch_1582 (cut_all cc_1582)
/-- RookHusting guessAll -/
noncomputable def gi_1143 : GI := jl_n [gp_631, gp_485]
noncomputable def gi_1144 : GI := jl_n [gp_631, gp_485, gp_632]
noncomputable def con_1583 : Con2 := ((yX11_guessAll, cX11_guessAll, 4, none), (6, 151), ([(6, 0, 0), (0, 3, 0), (1, 2, 0)], gi_1143, hc_198, rq_6), [((9, 0, 0), gi_1144, hq_887, [], tg_1)])
theorem hd_1583 : con_1583.1 = (yX11_guessAll, cX11_guessAll, 4, none) := rfl
theorem ck_RX11_483_1582 : COK2 RX11 vwCl gTbl 483 0 con_1582 := ⟨wd_1230, wd_125, mh_X11_isAsSeen, .inr (.inr ⟨rfl, wd_1227, wd_1229, wd_43, ⟨_, rfl, pd_X11_isAsSeen⟩, 11, _, TX11, 16, rfl, rfl⟩)⟩
noncomputable def ct_1583 : CTB2 := [(1, 208, 0, con_900, [0, 1, 2, 3, 4, 5, 6, 7, 8, 9, 10, 11, 12, 13, 14, 15, 16, 17, 18, 19, 20, 21, 22, 23, 24, 25, 26]), (36, 332, 0, con_1212, [28, 2, 29, 4, 30, 5, 31, 6]), (45, 480, 0, con_859, [28, 29]), (73, 372, 0, con_899, [32, 3, 28, 16, 33, 18, 34, 30, 35, 29, 36, 22, 23, 37, 38, 39, 31]), (78, 483, 0, con_1582, [0, 40, 41, 42, 32, 33]), (105, 486, 0, con_1522, [27, 33, 43]), (105, 486, 0, con_1527, [27, 33, 43])]
noncomputable def gi_1145 : GI := jl_n [gp_631, gp_485, gp_633]
noncomputable def cu_1583 : List CUT2 := [((14, [lq 0 6 0, lq 1 0 3, lq 2 1 2, lq 3 1 204], [], gi_1145, hq_888), rq_6, ([(204, (-1))], 5))]
theorem ch_1583 : staG tb_X11_guessAll 1 bt_RX11 [] ct_1583 [] [] cu_1583 48 con_1583 = true := by decide +kernel
theorem cc_1583 : cu_1583.all (cutG tb_X11_guessAll 1 bt_RX11 [] ct_1583 [] [] cu_1583 48 con_1583) = true := by decide +kernel
theorem cto_1583 (l : Launch) : CTOK2 l RX11 vwCl gTbl ct_1583 := ct2_cons (vl_900 l) ck_RX11_208_900 (ct2_cons (vl_1212 l) ck_RX11_332_1212 (ct2_cons (vl_859 l) ck_RX11_480_859 (ct2_cons (vl_899 l) ck_RX11_372_899 (ct2_cons (vl_1582 l) ck_RX11_483_1582 (ct2_cons (vl_1522 l) ck_RX11_486_1522 (ct2_cons (vl_1527 l) ck_RX11_486_1527 (ct2_nil)))))))
theorem vl_1583 (l : Launch) : Vld2 l vwCl gTbl con_1583 := conR_ok3 gT_all (hd_1583) rfl pn_RX11 tk_X11_guessAll bo_RX11 xo_RX11 (cto_1583 l) ch_1583 (cut_all cc_1583)
/-- RookHusting isAsSeen -/
noncomputable def gi_1146 : GI := jl_n [gp_636, jl_z 9]
noncomputable def gi_1147 : GI := jl_n [gp_636, jl_z 10]
noncomputable def con_1584 : Con2 := ((yX11_isAsSeen, cX11_isAsSeen, 4, (some .boolean)), (1, 22), ([(6, 0, 0), (0, 3, 0)], gi_1146, hc_196, []), [((0, 0, 0), gi_1147, hq_885, [], [1]), ((0, 1, 0), gi_1147, hq_885, [], [1])])
theorem hd_1584 : con_1584.1 = (yX11_isAsSeen, cX11_isAsSeen, 4, (some .boolean)) := rfl
noncomputable def ct_1584 : CTB2 := [(21, 473, 0, con_1574, [1, 3]), (21, 473, 0, con_1571, [1, 3]), (21, 473, 0, con_1568, [1, 3]), (21, 473, 0, con_1565, [1, 3]), (21, 473, 0, con_1562, [1, 3]), (21, 473, 0, con_1559, [1, 3]), (21, 473, 0, con_1556, [1, 3]), (21, 473, 0, con_1553, [1, 3]), (21, 473, 0, con_1550, [1, 3]), (21, 473, 0, con_1547, [1, 3]), (21, 473, 0, con_1544, [1, 3]), (21, 473, 0, con_1541, [1, 3]), (21, 473, 0, con_1538, [1, 3]), (21, 473, 0, con_1535, [1, 3]), (21, 473, 0, con_1532, [1, 3]), (21, 473, 0, con_1529, [1, 3]), (21, 473, 0, con_1518, [1, 3]), (21, 473, 0, con_1515, [1, 3]), (21, 473, 0, con_1512, [1, 3]), (36, 473, 0, con_1575, [1, 3]), (36, 473, 0, con_1572, [1, 3]), (36, 473, 0, con_1569, [1, 3]), (36, 473, 0, con_1566, [1, 3]), (36, 473, 0, con_1563, [1, 3]), (36, 473, 0, con_1560, [1, 3]), (36, 473, 0, con_1557, [1, 3]), (36, 473, 0, con_1554, [1, 3]), (36, 473, 0, con_1551, [1, 3]), (36, 473, 0, con_1548, [1, 3]), (36, 473, 0, con_1545, [1, 3]), (36, 473, 0, con_1542, [1, 3]), (36, 473, 0, con_1539, [1, 3]), (36, 473, 0, con_1536, [1, 3]), (36, 473, 0, con_1533, [1, 3]), (36, 473, 0, con_1530, [1, 3]), (36, 473, 0, con_1519, [1, 3]), (36, 473, 0, con_1516, [1, 3]), (36, 473, 0, con_1513, [1, 3]), (60, 473, 0, con_1576, [1, 3]), (60, 473, 0, con_1573, [1, 3]), (60, 473, 0, con_1570, [1, 3]), (60, 473, 0, con_1567, [1, 3]), (60, 473, 0, con_1564, [1, 3]), (60, 473, 0, con_1561, [1, 3]), (60, 473, 0, con_1558, [1, 3]), (60, 473, 0, con_1555, [1, 3]), (60, 473, 0, con_1552, [1, 3]), (60, 473, 0, con_1549, [1, 3]), (60, 473, 0, con_1546, [1, 3]), (60, 473, 0, con_1543, [1, 3]), (60, 473, 0, con_1540, [1, 3]), (60, 473, 0, con_1537, [1, 3]), (60, 473, 0, con_1534, [1, 3]), (60, 473, 0, con_1531, [1, 3]), (60, 473, 0, con_1520, [1, 3]), (60, 473, 0, con_1517, [1, 3]), (60, 473, 0, con_1514, [1, 3])]
noncomputable def gi_1148 : GI := jl_n [gp_636, jl_z 12]
noncomputable def gi_1149 : GI := jl_n [gp_636, gp_628]
noncomputable def cu_1584_0 : List CUT2 := [((2, [lq 0 6 0, lq 1 0 3, lq 2 0 0], [], gi_1148, hq_885), [], ([], 57)), ((2, [lq 0 6 0, lq 1 0 3, lq 2 0 3, lq 3 1 97], [], gi_1149, hq_885), [], ([], 54)), ((2, [lq 0 6 0, lq 1 0 3, lq 2 0 6, lq 3 1 97], [], gi_1149, hq_885), [], ([], 51)), ((2, [lq 0 6 0, lq 1 0 3, lq 2 0 9, lq 3 1 97], [], gi_1149, hq_885), [], ([], 48)), ((2, [lq 0 6 0, lq 1 0 3, lq 2 0 12, lq 3 1 97], [], gi_1149, hq_885), [], ([], 45)), ((2, [lq 0 6 0, lq 1 0 3, lq 2 0 15, lq 3 1 97], [], gi_1149, hq_885), [], ([], 42)), ((2, [lq 0 6 0, lq 1 0 3, lq 2 0 18, lq 3 1 97], [], gi_1149, hq_885), [], ([], 39)), ((2, [lq 0 6 0, lq 1 0 3, lq 2 0 21, lq 3 1 97], [], gi_1149, hq_885), [], ([], 36)), ((2, [lq 0 6 0, lq 1 0 3, lq 2 0 24, lq 3 1 97], [], gi_1149, hq_885), [], ([], 33)), ((2, [lq 0 6 0, lq 1 0 3, lq 2 0 27, lq 3 1 97], [], gi_1149, hq_885), [], ([], 30)), ((2, [lq 0 6 0, lq 1 0 3, lq 2 0 30, lq 3 1 97], [], gi_1149, hq_885), [], ([], 27)), ((2, [lq 0 6 0, lq 1 0 3, lq 2 0 33, lq 3 1 97], [], gi_1149, hq_885), [], ([], 24)), ((2, [lq 0 6 0, lq 1 0 3, lq 2 0 36, lq 3 1 97], [], gi_1149, hq_885), [], ([], 21)), ((2, [lq 0 6 0, lq 1 0 3, lq 2 0 39, lq 3 1 97], [], gi_1149, hq_885), [], ([], 18)), ((2, [lq 0 6 0, lq 1 0 3, lq 2 0 42, lq 3 1 97], [], gi_1149, hq_885), [], ([], 15)), ((2, [lq 0 6 0, lq 1 0 3, lq 2 0 45, lq 3 1 97], [], gi_1149, hq_885), [], ([], 12)), ((2, [lq 0 6 0, lq 1 0 3, lq 2 0 48, lq 3 1 97], [], gi_1149, hq_885), [], ([], 9))]
noncomputable def cu_1584_1 : List CUT2 := [((2, [lq 0 6 0, lq 1 0 3, lq 2 0 51, lq 3 1 97], [], gi_1149, hq_885), [], ([], 6)), ((2, [lq 0 6 0, lq 1 0 3, lq 2 0 54, lq 3 1 97], [], gi_1149, hq_885), [], ([], 3)), ((2, [lq 0 6 0, lq 1 0 3, lq 2 0 57, lq 3 1 97], [], gi_1149, hq_885), [], ([], 0))]
noncomputable def cu_1584 : List CUT2 := cu_1584_0 ++ (cu_1584_1)
theorem ch_1584 : staG tb_X11_isAsSeen 1 bt_RX11 [] ct_1584 [] [] cu_1584 44 con_1584 = true := by decide +kernel
theorem cc_1584_0 : cu_1584_0.all (cutG tb_X11_isAsSeen 1 bt_RX11 [] ct_1584 [] [] cu_1584 44 con_1584) = true := by decide +kernel
theorem cc_1584_1 : cu_1584_1.all (cutG tb_X11_isAsSeen 1 bt_RX11 [] ct_1584 [] [] cu_1584 44 con_1584) = true := by decide +kernel
theorem cto_1584 (l : Launch) : CTOK2 l RX11 vwCl gTbl ct_1584 := ct2_cons (vl_1574 l) ck_RX11_473_1574 (ct2_cons (vl_1571 l) ck_RX11_473_1571 (ct2_cons (vl_1568 l) ck_RX11_473_1568 (ct2_cons (vl_1565 l) ck_RX11_473_1565 (ct2_cons (vl_1562 l) ck_RX11_473_1562 (ct2_cons (vl_1559 l) ck_RX11_473_1559 (ct2_cons (vl_1556 l) ck_RX11_473_1556 (ct2_cons (vl_1553 l) ck_RX11_473_1553 (ct2_cons (vl_1550 l) ck_RX11_473_1550 (ct2_cons (vl_1547 l) ck_RX11_473_1547 (ct2_cons (vl_1544 l) ck_RX11_473_1544 (ct2_cons (vl_1541 l) ck_RX11_473_1541 (ct2_cons (vl_1538 l) ck_RX11_473_1538 (ct2_cons (vl_1535 l) ck_RX11_473_1535 (ct2_cons (vl_1532 l) ck_RX11_473_1532 (ct2_cons (vl_1529 l) ck_RX11_473_1529 (ct2_cons (vl_1518 l) ck_RX11_473_1518 (ct2_cons (vl_1515 l) ck_RX11_473_1515 (ct2_cons (vl_1512 l) ck_RX11_473_1512 (ct2_cons (vl_1575 l) ck_RX11_473_1575 (ct2_cons (vl_1572 l) ck_RX11_473_1572 (ct2_cons (vl_1569 l) ck_RX11_473_1569 (ct2_cons (vl_1566 l) ck_RX11_473_1566 (ct2_cons (vl_1563 l) ck_RX11_473_1563 (ct2_cons (vl_1560 l) ck_RX11_473_1560 (ct2_cons (vl_1557 l) ck_RX11_473_1557 (ct2_cons (vl_1554 l) ck_RX11_473_1554 (ct2_cons (vl_1551 l) ck_RX11_473_1551 (ct2_cons (vl_1548 l) ck_RX11_473_1548 (ct2_cons (vl_1545 l) ck_RX11_473_1545 (ct2_cons (vl_1542 l) ck_RX11_473_1542 (ct2_cons (vl_1539 l) ck_RX11_473_1539 (ct2_cons (vl_1536 l) ck_RX11_473_1536 (ct2_cons (vl_1533 l) ck_RX11_473_1533 (ct2_cons (vl_1530 l) ck_RX11_473_1530 (ct2_cons (vl_1519 l) ck_RX11_473_1519 (ct2_cons (vl_1516 l) ck_RX11_473_1516 (ct2_cons (vl_1513 l) ck_RX11_473_1513 (ct2_cons (vl_1576 l) ck_RX11_473_1576 (ct2_cons (vl_1573 l) ck_RX11_473_1573 (ct2_cons (vl_1570 l) ck_RX11_473_1570 (ct2_cons (vl_1567 l) ck_RX11_473_1567 (ct2_cons (vl_1564 l) ck_RX11_473_1564 (ct2_cons (vl_1561 l) ck_RX11_473_1561 (ct2_cons (vl_1558 l) ck_RX11_473_1558 (ct2_cons (vl_1555 l) ck_RX11_473_1555 (ct2_cons (vl_1552 l) ck_RX11_473_1552 (ct2_cons (vl_1549 l) ck_RX11_473_1549 (ct2_cons (vl_1546 l) ck_RX11_473_1546 (ct2_cons (vl_1543 l) ck_RX11_473_1543 (ct2_cons (vl_1540 l) ck_RX11_473_1540 (ct2_cons (vl_1537 l) ck_RX11_473_1537 (ct2_cons (vl_1534 l) ck_RX11_473_1534 (ct2_cons (vl_1531 l) ck_RX11_473_1531 (ct2_cons (vl_1520 l) ck_RX11_473_1520 (ct2_cons (vl_1517 l) ck_RX11_473_1517 (ct2_cons (vl_1514 l) ck_RX11_473_1514 (ct2_nil)))))))))))))))))))))))))))))))))))))))))))))))))))))))))
theorem vl_1584 (l : Launch) : Vld2 l vwCl gTbl con_1584 := conR_ok3 gT_all (hd_1584) rfl pn_RX11 tk_X11_isAsSeen bo_RX11 xo_RX11 (cto_1584 l) ch_1584 (cut_app (cut_all cc_1584_0) (cut_all cc_1584_1))
/-- RookHusting guessAll -/
noncomputable def gi_1150 : GI := jl_n [gp_631, gp_483]
noncomputable def gi_1151 : GI := jl_n [gp_631, gp_483, gp_632]
noncomputable def con_1585 : Con2 := ((yX11_guessAll, cX11_guessAll, 4, none), (6, 151), ([(6, 0, 0), (0, 3, 0), (1, 2, 0)], gi_1150, hc_198, rq_6), [((9, 0, 0), gi_1151, hq_887, [], tg_1)])
theorem hd_1585 : con_1585.1 = (yX11_guessAll, cX11_guessAll, 4, none) := rfl
theorem ck_RX11_483_1584 : COK2 RX11 vwCl gTbl 483 0 con_1584 := ⟨wd_1230, wd_125, mh_X11_isAsSeen, .inr (.inr ⟨rfl, wd_1227, wd_1229, wd_43, ⟨_, rfl, pd_X11_isAsSeen⟩, 11, _, TX11, 16, rfl, rfl⟩)⟩
noncomputable def ct_1585 : CTB2 := [(1, 208, 0, con_900, [0, 1, 2, 3, 4, 5, 6, 7, 8, 9, 10, 11, 12, 13, 14, 15, 16, 17, 18, 19, 20, 21, 22, 23, 24, 25, 26]), (36, 332, 0, con_1212, [28, 2, 29, 4, 30, 5, 31, 6]), (45, 480, 0, con_859, [28, 29]), (73, 372, 0, con_899, [32, 3, 28, 16, 33, 18, 34, 30, 35, 29, 36, 22, 23, 37, 38, 39, 31]), (78, 483, 0, con_1584, [0, 40, 41, 42, 32, 33]), (105, 486, 0, con_1522, [27, 33, 43]), (105, 486, 0, con_1527, [27, 33, 43])]
noncomputable def gi_1152 : GI := jl_n [gp_631, gp_483, gp_633]
noncomputable def cu_1585 : List CUT2 := [((14, [lq 0 6 0, lq 1 0 3, lq 2 1 2, lq 3 1 204], [], gi_1152, hq_888), rq_6, ([(204, (-1))], 5))]
theorem ch_1585 : staG tb_X11_guessAll 1 bt_RX11 [] ct_1585 [] [] cu_1585 48 con_1585 = true := by decide +kernel
theorem cc_1585 : cu_1585.all (cutG tb_X11_guessAll 1 bt_RX11 [] ct_1585 [] [] cu_1585 48 con_1585) = true := by decide +kernel
theorem cto_1585 (l : Launch) : CTOK2 l RX11 vwCl gTbl ct_1585 := ct2_cons (vl_900 l) ck_RX11_208_900 (ct2_cons (vl_1212 l) ck_RX11_332_1212 (ct2_cons (vl_859 l) ck_RX11_480_859 (ct2_cons (vl_899 l) ck_RX11_372_899 (ct2_cons (vl_1584 l) ck_RX11_483_1584 (ct2_cons (vl_1522 l) ck_RX11_486_1522 (ct2_cons (vl_1527 l) ck_RX11_486_1527 (ct2_nil)))))))
theorem vl_1585 (l : Launch) : Vld2 l vwCl gTbl con_1585 := conR_ok3 gT_all (hd_1585) rfl pn_RX11 tk_X11_guessAll bo_RX11 xo_RX11 (cto_1585 l) ch_1585 (cut_all cc_1585)
