/-! ===== contracts, 28 ===== -/
/-- RookHusting$Slots at -/
noncomputable def ac_957 : AC := .inr (2, jl_n [js_5 86 9223372036854775807 9223372036854775807, js_4 7 1, js_5 153 9223372036854775807 9223372036854775807])
noncomputable def hq_789 : HP := [(false, .inl (8, [(6, 1, 0), (8, 4, 0), (8, 5, 0)])), (false, ac_957)]
noncomputable def con_1412 : Con2 := ((yX8_at, cX8_at, 3, (some .long)), (0, 0), ([(6, 0, 0), (0, 1, 0), (0, 26, 0)], gi_928, [.inl (8, [(6, 1, 0), (8, 4, 0), (8, 5, 0)]), ac_957], []), [((4, 6, 0), gi_929, hq_789, [], [1])])
theorem hd_1412 : con_1412.1 = (yX8_at, cX8_at, 3, (some .long)) := rfl
noncomputable def ct_1412 : CTB2 := []
noncomputable def cu_1412 : List CUT2 := []
theorem ch_1412 : staG tb_X8_at 1 bt_RX8 [] ct_1412 [] [] cu_1412 11 con_1412 = true := by decide +kernel
theorem cto_1412 (l : Launch) : CTOK2 l RX8 vwCl gTbl ct_1412 := ct2_nil
theorem vl_1412 (l : Launch) : Vld2 l vwCl gTbl con_1412 := conR_ok3 gT_all (hd_1412) rfl pn_RX8 tk_X8_at bo_RX8 xo_RX8 (cto_1412 l) ch_1412 cut_nil
/-- RookHusting$Slots at -/
noncomputable def ac_958 : AC := .inr (2, jl_n [js_5 87 9223372036854775807 9223372036854775807, js_4 7 1, js_5 152 9223372036854775807 9223372036854775807])
noncomputable def hq_790 : HP := [(false, .inl (8, [(6, 1, 0), (8, 4, 0), (8, 5, 0)])), (false, ac_958)]
noncomputable def con_1413 : Con2 := ((yX8_at, cX8_at, 3, (some .long)), (0, 0), ([(6, 0, 0), (0, 1, 0), (0, 27, 0)], gi_928, [.inl (8, [(6, 1, 0), (8, 4, 0), (8, 5, 0)]), ac_958], []), [((4, 6, 0), gi_929, hq_790, [], [1])])
theorem hd_1413 : con_1413.1 = (yX8_at, cX8_at, 3, (some .long)) := rfl
noncomputable def ct_1413 : CTB2 := []
noncomputable def cu_1413 : List CUT2 := []
theorem ch_1413 : staG tb_X8_at 1 bt_RX8 [] ct_1413 [] [] cu_1413 11 con_1413 = true := by decide +kernel
theorem cto_1413 (l : Launch) : CTOK2 l RX8 vwCl gTbl ct_1413 := ct2_nil
theorem vl_1413 (l : Launch) : Vld2 l vwCl gTbl con_1413 := conR_ok3 gT_all (hd_1413) rfl pn_RX8 tk_X8_at bo_RX8 xo_RX8 (cto_1413 l) ch_1413 cut_nil
/-- RookHusting$Slots at -/
noncomputable def ac_959 : AC := .inr (2, jl_n [js_5 88 9223372036854775807 9223372036854775807, js_4 7 1, js_5 151 9223372036854775807 9223372036854775807])
noncomputable def hq_791 : HP := [(false, .inl (8, [(6, 1, 0), (8, 4, 0), (8, 5, 0)])), (false, ac_959)]
noncomputable def con_1414 : Con2 := ((yX8_at, cX8_at, 3, (some .long)), (0, 0), ([(6, 0, 0), (0, 1, 0), (0, 28, 0)], gi_928, [.inl (8, [(6, 1, 0), (8, 4, 0), (8, 5, 0)]), ac_959], []), [((4, 6, 0), gi_929, hq_791, [], [1])])
theorem hd_1414 : con_1414.1 = (yX8_at, cX8_at, 3, (some .long)) := rfl
noncomputable def ct_1414 : CTB2 := []
noncomputable def cu_1414 : List CUT2 := []
theorem ch_1414 : staG tb_X8_at 1 bt_RX8 [] ct_1414 [] [] cu_1414 11 con_1414 = true := by decide +kernel
theorem cto_1414 (l : Launch) : CTOK2 l RX8 vwCl gTbl ct_1414 := ct2_nil
theorem vl_1414 (l : Launch) : Vld2 l vwCl gTbl con_1414 := conR_ok3 gT_all (hd_1414) rfl pn_RX8 tk_X8_at bo_RX8 xo_RX8 (cto_1414 l) ch_1414 cut_nil
/-- RookHusting$Slots at -/
noncomputable def ac_960 : AC := .inr (2, jl_n [js_5 89 9223372036854775807 9223372036854775807, js_4 7 1, js_5 150 9223372036854775807 9223372036854775807])
noncomputable def hq_792 : HP := [(false, .inl (8, [(6, 1, 0), (8, 4, 0), (8, 5, 0)])), (false, ac_960)]
noncomputable def con_1415 : Con2 := ((yX8_at, cX8_at, 3, (some .long)), (0, 0), ([(6, 0, 0), (0, 1, 0), (0, 29, 0)], gi_928, [.inl (8, [(6, 1, 0), (8, 4, 0), (8, 5, 0)]), ac_960], []), [((4, 6, 0), gi_929, hq_792, [], [1])])
theorem hd_1415 : con_1415.1 = (yX8_at, cX8_at, 3, (some .long)) := rfl
noncomputable def ct_1415 : CTB2 := []
noncomputable def cu_1415 : List CUT2 := []
theorem ch_1415 : staG tb_X8_at 1 bt_RX8 [] ct_1415 [] [] cu_1415 11 con_1415 = true := by decide +kernel
theorem cto_1415 (l : Launch) : CTOK2 l RX8 vwCl gTbl ct_1415 := ct2_nil
theorem vl_1415 (l : Launch) : Vld2 l vwCl gTbl con_1415 := conR_ok3 gT_all (hd_1415) rfl pn_RX8 tk_X8_at bo_RX8 xo_RX8 (cto_1415 l) ch_1415 cut_nil
/-- RookHusting$Slots at -/
noncomputable def ac_961 : AC := .inr (2, jl_n [js_5 90 9223372036854775807 9223372036854775807, js_4 7 1, js_5 149 9223372036854775807 9223372036854775807])
noncomputable def hq_793 : HP := [(false, .inl (8, [(6, 1, 0), (8, 4, 0), (8, 5, 0)])), (false, ac_961)]
noncomputable def con_1416 : Con2 := ((yX8_at, cX8_at, 3, (some .long)), (0, 0), ([(6, 0, 0), (0, 1, 0), (0, 30, 0)], gi_928, [.inl (8, [(6, 1, 0), (8, 4, 0), (8, 5, 0)]), ac_961], []), [((4, 6, 0), gi_929, hq_793, [], [1])])
theorem hd_1416 : con_1416.1 = (yX8_at, cX8_at, 3, (some .long)) := rfl
noncomputable def ct_1416 : CTB2 := []
noncomputable def cu_1416 : List CUT2 := []
theorem ch_1416 : staG tb_X8_at 1 bt_RX8 [] ct_1416 [] [] cu_1416 11 con_1416 = true := by decide +kernel
theorem cto_1416 (l : Launch) : CTOK2 l RX8 vwCl gTbl ct_1416 := ct2_nil
theorem vl_1416 (l : Launch) : Vld2 l vwCl gTbl con_1416 := conR_ok3 gT_all (hd_1416) rfl pn_RX8 tk_X8_at bo_RX8 xo_RX8 (cto_1416 l) ch_1416 cut_nil
/-- RookHusting$Slots at -/
noncomputable def ac_962 : AC := .inr (2, jl_n [js_5 91 9223372036854775807 9223372036854775807, js_4 7 1, js_5 148 9223372036854775807 9223372036854775807])
noncomputable def hq_794 : HP := [(false, .inl (8, [(6, 1, 0), (8, 4, 0), (8, 5, 0)])), (false, ac_962)]
noncomputable def con_1417 : Con2 := ((yX8_at, cX8_at, 3, (some .long)), (0, 0), ([(6, 0, 0), (0, 1, 0), (0, 31, 0)], gi_928, [.inl (8, [(6, 1, 0), (8, 4, 0), (8, 5, 0)]), ac_962], []), [((4, 6, 0), gi_929, hq_794, [], [1])])
theorem hd_1417 : con_1417.1 = (yX8_at, cX8_at, 3, (some .long)) := rfl
noncomputable def ct_1417 : CTB2 := []
noncomputable def cu_1417 : List CUT2 := []
theorem ch_1417 : staG tb_X8_at 1 bt_RX8 [] ct_1417 [] [] cu_1417 11 con_1417 = true := by decide +kernel
theorem cto_1417 (l : Launch) : CTOK2 l RX8 vwCl gTbl ct_1417 := ct2_nil
theorem vl_1417 (l : Launch) : Vld2 l vwCl gTbl con_1417 := conR_ok3 gT_all (hd_1417) rfl pn_RX8 tk_X8_at bo_RX8 xo_RX8 (cto_1417 l) ch_1417 cut_nil
/-- RookHusting$Slots at -/
noncomputable def ac_963 : AC := .inr (2, jl_n [js_5 92 9223372036854775807 9223372036854775807, js_4 7 1, js_5 147 9223372036854775807 9223372036854775807])
noncomputable def hq_795 : HP := [(false, .inl (8, [(6, 1, 0), (8, 4, 0), (8, 5, 0)])), (false, ac_963)]
noncomputable def con_1418 : Con2 := ((yX8_at, cX8_at, 3, (some .long)), (0, 0), ([(6, 0, 0), (0, 1, 0), (0, 32, 0)], gi_928, [.inl (8, [(6, 1, 0), (8, 4, 0), (8, 5, 0)]), ac_963], []), [((4, 6, 0), gi_929, hq_795, [], [1])])
theorem hd_1418 : con_1418.1 = (yX8_at, cX8_at, 3, (some .long)) := rfl
noncomputable def ct_1418 : CTB2 := []
noncomputable def cu_1418 : List CUT2 := []
theorem ch_1418 : staG tb_X8_at 1 bt_RX8 [] ct_1418 [] [] cu_1418 11 con_1418 = true := by decide +kernel
theorem cto_1418 (l : Launch) : CTOK2 l RX8 vwCl gTbl ct_1418 := ct2_nil
theorem vl_1418 (l : Launch) : Vld2 l vwCl gTbl con_1418 := conR_ok3 gT_all (hd_1418) rfl pn_RX8 tk_X8_at bo_RX8 xo_RX8 (cto_1418 l) ch_1418 cut_nil
/-- RookHusting$Slots at -/
noncomputable def ac_964 : AC := .inr (2, jl_n [js_5 93 9223372036854775807 9223372036854775807, js_4 7 1, js_5 146 9223372036854775807 9223372036854775807])
noncomputable def hq_796 : HP := [(false, .inl (8, [(6, 1, 0), (8, 4, 0), (8, 5, 0)])), (false, ac_964)]
noncomputable def con_1419 : Con2 := ((yX8_at, cX8_at, 3, (some .long)), (0, 0), ([(6, 0, 0), (0, 1, 0), (0, 33, 0)], gi_928, [.inl (8, [(6, 1, 0), (8, 4, 0), (8, 5, 0)]), ac_964], []), [((4, 6, 0), gi_929, hq_796, [], [1])])
theorem hd_1419 : con_1419.1 = (yX8_at, cX8_at, 3, (some .long)) := rfl
noncomputable def ct_1419 : CTB2 := []
noncomputable def cu_1419 : List CUT2 := []
theorem ch_1419 : staG tb_X8_at 1 bt_RX8 [] ct_1419 [] [] cu_1419 11 con_1419 = true := by decide +kernel
theorem cto_1419 (l : Launch) : CTOK2 l RX8 vwCl gTbl ct_1419 := ct2_nil
theorem vl_1419 (l : Launch) : Vld2 l vwCl gTbl con_1419 := conR_ok3 gT_all (hd_1419) rfl pn_RX8 tk_X8_at bo_RX8 xo_RX8 (cto_1419 l) ch_1419 cut_nil
/-- RookHusting$Slots at -/
noncomputable def ac_965 : AC := .inr (2, jl_n [js_5 94 9223372036854775807 9223372036854775807, js_4 7 1, js_5 145 9223372036854775807 9223372036854775807])
noncomputable def hq_797 : HP := [(false, .inl (8, [(6, 1, 0), (8, 4, 0), (8, 5, 0)])), (false, ac_965)]
noncomputable def con_1420 : Con2 := ((yX8_at, cX8_at, 3, (some .long)), (0, 0), ([(6, 0, 0), (0, 1, 0), (0, 34, 0)], gi_928, [.inl (8, [(6, 1, 0), (8, 4, 0), (8, 5, 0)]), ac_965], []), [((4, 6, 0), gi_929, hq_797, [], [1])])
theorem hd_1420 : con_1420.1 = (yX8_at, cX8_at, 3, (some .long)) := rfl
noncomputable def ct_1420 : CTB2 := []
noncomputable def cu_1420 : List CUT2 := []
theorem ch_1420 : staG tb_X8_at 1 bt_RX8 [] ct_1420 [] [] cu_1420 11 con_1420 = true := by decide +kernel
theorem cto_1420 (l : Launch) : CTOK2 l RX8 vwCl gTbl ct_1420 := ct2_nil
theorem vl_1420 (l : Launch) : Vld2 l vwCl gTbl con_1420 := conR_ok3 gT_all (hd_1420) rfl pn_RX8 tk_X8_at bo_RX8 xo_RX8 (cto_1420 l) ch_1420 cut_nil
/-- RookHusting$Slots at -/
noncomputable def ac_966 : AC := .inr (2, jl_n [js_5 95 9223372036854775807 9223372036854775807, js_4 7 1, js_5 144 9223372036854775807 9223372036854775807])
noncomputable def hq_798 : HP := [(false, .inl (8, [(6, 1, 0), (8, 4, 0), (8, 5, 0)])), (false, ac_966)]
noncomputable def con_1421 : Con2 := ((yX8_at, cX8_at, 3, (some .long)), (0, 0), ([(6, 0, 0), (0, 1, 0), (0, 35, 0)], gi_928, [.inl (8, [(6, 1, 0), (8, 4, 0), (8, 5, 0)]), ac_966], []), [((4, 6, 0), gi_929, hq_798, [], [1])])
theorem hd_1421 : con_1421.1 = (yX8_at, cX8_at, 3, (some .long)) := rfl
noncomputable def ct_1421 : CTB2 := []
noncomputable def cu_1421 : List CUT2 := []
theorem ch_1421 : staG tb_X8_at 1 bt_RX8 [] ct_1421 [] [] cu_1421 11 con_1421 = true := by decide +kernel
theorem cto_1421 (l : Launch) : CTOK2 l RX8 vwCl gTbl ct_1421 := ct2_nil
theorem vl_1421 (l : Launch) : Vld2 l vwCl gTbl con_1421 := conR_ok3 gT_all (hd_1421) rfl pn_RX8 tk_X8_at bo_RX8 xo_RX8 (cto_1421 l) ch_1421 cut_nil
/-- RookHusting$Slots at -/
noncomputable def ac_967 : AC := .inr (2, jl_n [js_5 96 9223372036854775807 9223372036854775807, js_4 7 1, js_5 143 9223372036854775807 9223372036854775807])
noncomputable def hq_799 : HP := [(false, .inl (8, [(6, 1, 0), (8, 4, 0), (8, 5, 0)])), (false, ac_967)]
noncomputable def con_1422 : Con2 := ((yX8_at, cX8_at, 3, (some .long)), (0, 0), ([(6, 0, 0), (0, 1, 0), (0, 36, 0)], gi_928, [.inl (8, [(6, 1, 0), (8, 4, 0), (8, 5, 0)]), ac_967], []), [((4, 6, 0), gi_929, hq_799, [], [1])])
theorem hd_1422 : con_1422.1 = (yX8_at, cX8_at, 3, (some .long)) := rfl
noncomputable def ct_1422 : CTB2 := []
noncomputable def cu_1422 : List CUT2 := []
theorem ch_1422 : staG tb_X8_at 1 bt_RX8 [] ct_1422 [] [] cu_1422 11 con_1422 = true := by decide +kernel
theorem cto_1422 (l : Launch) : CTOK2 l RX8 vwCl gTbl ct_1422 := ct2_nil
theorem vl_1422 (l : Launch) : Vld2 l vwCl gTbl con_1422 := conR_ok3 gT_all (hd_1422) rfl pn_RX8 tk_X8_at bo_RX8 xo_RX8 (cto_1422 l) ch_1422 cut_nil
/-- RookHusting$Slots at -/
noncomputable def ac_968 : AC := .inr (2, jl_n [js_5 97 9223372036854775807 9223372036854775807, js_4 7 1, js_5 142 9223372036854775807 9223372036854775807])
noncomputable def hq_800 : HP := [(false, .inl (8, [(6, 1, 0), (8, 4, 0), (8, 5, 0)])), (false, ac_968)]
noncomputable def con_1423 : Con2 := ((yX8_at, cX8_at, 3, (some .long)), (0, 0), ([(6, 0, 0), (0, 1, 0), (0, 37, 0)], gi_928, [.inl (8, [(6, 1, 0), (8, 4, 0), (8, 5, 0)]), ac_968], []), [((4, 6, 0), gi_929, hq_800, [], [1])])
theorem hd_1423 : con_1423.1 = (yX8_at, cX8_at, 3, (some .long)) := rfl
noncomputable def ct_1423 : CTB2 := []
noncomputable def cu_1423 : List CUT2 := []
theorem ch_1423 : staG tb_X8_at 1 bt_RX8 [] ct_1423 [] [] cu_1423 11 con_1423 = true := by decide +kernel
theorem cto_1423 (l : Launch) : CTOK2 l RX8 vwCl gTbl ct_1423 := ct2_nil
theorem vl_1423 (l : Launch) : Vld2 l vwCl gTbl con_1423 := conR_ok3 gT_all (hd_1423) rfl pn_RX8 tk_X8_at bo_RX8 xo_RX8 (cto_1423 l) ch_1423 cut_nil
/-- RookHusting$Slots at -/
noncomputable def ac_969 : AC := .inr (2, jl_n [js_5 98 9223372036854775807 9223372036854775807, js_4 7 1, js_5 141 9223372036854775807 9223372036854775807])
noncomputable def hq_801 : HP := [(false, .inl (8, [(6, 1, 0), (8, 4, 0), (8, 5, 0)])), (false, ac_969)]
noncomputable def con_1424 : Con2 := ((yX8_at, cX8_at, 3, (some .long)), (0, 0), ([(6, 0, 0), (0, 1, 0), (0, 38, 0)], gi_928, [.inl (8, [(6, 1, 0), (8, 4, 0), (8, 5, 0)]), ac_969], []), [((4, 6, 0), gi_929, hq_801, [], [1])])
theorem hd_1424 : con_1424.1 = (yX8_at, cX8_at, 3, (some .long)) := rfl
noncomputable def ct_1424 : CTB2 := []
noncomputable def cu_1424 : List CUT2 := []
theorem ch_1424 : staG tb_X8_at 1 bt_RX8 [] ct_1424 [] [] cu_1424 11 con_1424 = true := by decide +kernel
theorem cto_1424 (l : Launch) : CTOK2 l RX8 vwCl gTbl ct_1424 := ct2_nil
theorem vl_1424 (l : Launch) : Vld2 l vwCl gTbl con_1424 := conR_ok3 gT_all (hd_1424) rfl pn_RX8 tk_X8_at bo_RX8 xo_RX8 (cto_1424 l) ch_1424 cut_nil
/-- RookHusting$Slots at -/
noncomputable def ac_970 : AC := .inr (2, jl_n [js_5 99 9223372036854775807 9223372036854775807, js_4 7 1, js_5 140 9223372036854775807 9223372036854775807])
noncomputable def hq_802 : HP := [(false, .inl (8, [(6, 1, 0), (8, 4, 0), (8, 5, 0)])), (false, ac_970)]
noncomputable def con_1425 : Con2 := ((yX8_at, cX8_at, 3, (some .long)), (0, 0), ([(6, 0, 0), (0, 1, 0), (0, 39, 0)], gi_928, [.inl (8, [(6, 1, 0), (8, 4, 0), (8, 5, 0)]), ac_970], []), [((4, 6, 0), gi_929, hq_802, [], [1])])
theorem hd_1425 : con_1425.1 = (yX8_at, cX8_at, 3, (some .long)) := rfl
noncomputable def ct_1425 : CTB2 := []
noncomputable def cu_1425 : List CUT2 := []
theorem ch_1425 : staG tb_X8_at 1 bt_RX8 [] ct_1425 [] [] cu_1425 11 con_1425 = true := by decide +kernel
theorem cto_1425 (l : Launch) : CTOK2 l RX8 vwCl gTbl ct_1425 := ct2_nil
theorem vl_1425 (l : Launch) : Vld2 l vwCl gTbl con_1425 := conR_ok3 gT_all (hd_1425) rfl pn_RX8 tk_X8_at bo_RX8 xo_RX8 (cto_1425 l) ch_1425 cut_nil
/-- RookHusting$Slots at -/
noncomputable def ac_971 : AC := .inr (2, jl_n [js_5 100 9223372036854775807 9223372036854775807, js_4 7 1, js_5 139 9223372036854775807 9223372036854775807])
noncomputable def hq_803 : HP := [(false, .inl (8, [(6, 1, 0), (8, 4, 0), (8, 5, 0)])), (false, ac_971)]
noncomputable def con_1426 : Con2 := ((yX8_at, cX8_at, 3, (some .long)), (0, 0), ([(6, 0, 0), (0, 1, 0), (0, 40, 0)], gi_928, [.inl (8, [(6, 1, 0), (8, 4, 0), (8, 5, 0)]), ac_971], []), [((4, 6, 0), gi_929, hq_803, [], [1])])
theorem hd_1426 : con_1426.1 = (yX8_at, cX8_at, 3, (some .long)) := rfl
noncomputable def ct_1426 : CTB2 := []
noncomputable def cu_1426 : List CUT2 := []
theorem ch_1426 : staG tb_X8_at 1 bt_RX8 [] ct_1426 [] [] cu_1426 11 con_1426 = true := by decide +kernel
theorem cto_1426 (l : Launch) : CTOK2 l RX8 vwCl gTbl ct_1426 := ct2_nil
theorem vl_1426 (l : Launch) : Vld2 l vwCl gTbl con_1426 := conR_ok3 gT_all (hd_1426) rfl pn_RX8 tk_X8_at bo_RX8 xo_RX8 (cto_1426 l) ch_1426 cut_nil
/-- RookHusting$Slots at -/
noncomputable def ac_972 : AC := .inr (2, jl_n [js_5 101 9223372036854775807 9223372036854775807, js_4 7 1, js_5 138 9223372036854775807 9223372036854775807])
noncomputable def hq_804 : HP := [(false, .inl (8, [(6, 1, 0), (8, 4, 0), (8, 5, 0)])), (false, ac_972)]
noncomputable def con_1427 : Con2 := ((yX8_at, cX8_at, 3, (some .long)), (0, 0), ([(6, 0, 0), (0, 1, 0), (0, 41, 0)], gi_928, [.inl (8, [(6, 1, 0), (8, 4, 0), (8, 5, 0)]), ac_972], []), [((4, 6, 0), gi_929, hq_804, [], [1])])
theorem hd_1427 : con_1427.1 = (yX8_at, cX8_at, 3, (some .long)) := rfl
noncomputable def ct_1427 : CTB2 := []
noncomputable def cu_1427 : List CUT2 := []
theorem ch_1427 : staG tb_X8_at 1 bt_RX8 [] ct_1427 [] [] cu_1427 11 con_1427 = true := by decide +kernel
theorem cto_1427 (l : Launch) : CTOK2 l RX8 vwCl gTbl ct_1427 := ct2_nil
theorem vl_1427 (l : Launch) : Vld2 l vwCl gTbl con_1427 := conR_ok3 gT_all (hd_1427) rfl pn_RX8 tk_X8_at bo_RX8 xo_RX8 (cto_1427 l) ch_1427 cut_nil
/-- RookHusting$Slots at -/
noncomputable def ac_973 : AC := .inr (2, jl_n [js_5 102 9223372036854775807 9223372036854775807, js_4 7 1, js_5 137 9223372036854775807 9223372036854775807])
noncomputable def hq_805 : HP := [(false, .inl (8, [(6, 1, 0), (8, 4, 0), (8, 5, 0)])), (false, ac_973)]
noncomputable def con_1428 : Con2 := ((yX8_at, cX8_at, 3, (some .long)), (0, 0), ([(6, 0, 0), (0, 1, 0), (0, 42, 0)], gi_928, [.inl (8, [(6, 1, 0), (8, 4, 0), (8, 5, 0)]), ac_973], []), [((4, 6, 0), gi_929, hq_805, [], [1])])
theorem hd_1428 : con_1428.1 = (yX8_at, cX8_at, 3, (some .long)) := rfl
noncomputable def ct_1428 : CTB2 := []
noncomputable def cu_1428 : List CUT2 := []
theorem ch_1428 : staG tb_X8_at 1 bt_RX8 [] ct_1428 [] [] cu_1428 11 con_1428 = true := by decide +kernel
theorem cto_1428 (l : Launch) : CTOK2 l RX8 vwCl gTbl ct_1428 := ct2_nil
theorem vl_1428 (l : Launch) : Vld2 l vwCl gTbl con_1428 := conR_ok3 gT_all (hd_1428) rfl pn_RX8 tk_X8_at bo_RX8 xo_RX8 (cto_1428 l) ch_1428 cut_nil
/-- RookHusting$Slots at -/
noncomputable def ac_974 : AC := .inr (2, jl_n [js_5 103 9223372036854775807 9223372036854775807, js_4 7 1, js_5 136 9223372036854775807 9223372036854775807])
noncomputable def hq_806 : HP := [(false, .inl (8, [(6, 1, 0), (8, 4, 0), (8, 5, 0)])), (false, ac_974)]
noncomputable def con_1429 : Con2 := ((yX8_at, cX8_at, 3, (some .long)), (0, 0), ([(6, 0, 0), (0, 1, 0), (0, 43, 0)], gi_928, [.inl (8, [(6, 1, 0), (8, 4, 0), (8, 5, 0)]), ac_974], []), [((4, 6, 0), gi_929, hq_806, [], [1])])
theorem hd_1429 : con_1429.1 = (yX8_at, cX8_at, 3, (some .long)) := rfl
noncomputable def ct_1429 : CTB2 := []
noncomputable def cu_1429 : List CUT2 := []
theorem ch_1429 : staG tb_X8_at 1 bt_RX8 [] ct_1429 [] [] cu_1429 11 con_1429 = true := by decide +kernel
theorem cto_1429 (l : Launch) : CTOK2 l RX8 vwCl gTbl ct_1429 := ct2_nil
theorem vl_1429 (l : Launch) : Vld2 l vwCl gTbl con_1429 := conR_ok3 gT_all (hd_1429) rfl pn_RX8 tk_X8_at bo_RX8 xo_RX8 (cto_1429 l) ch_1429 cut_nil
/-- RookHusting$Slots at -/
noncomputable def ac_975 : AC := .inr (2, jl_n [js_5 104 9223372036854775807 9223372036854775807, js_4 7 1, js_5 135 9223372036854775807 9223372036854775807])
noncomputable def hq_807 : HP := [(false, .inl (8, [(6, 1, 0), (8, 4, 0), (8, 5, 0)])), (false, ac_975)]
noncomputable def con_1430 : Con2 := ((yX8_at, cX8_at, 3, (some .long)), (0, 0), ([(6, 0, 0), (0, 1, 0), (0, 44, 0)], gi_928, [.inl (8, [(6, 1, 0), (8, 4, 0), (8, 5, 0)]), ac_975], []), [((4, 6, 0), gi_929, hq_807, [], [1])])
theorem hd_1430 : con_1430.1 = (yX8_at, cX8_at, 3, (some .long)) := rfl
noncomputable def ct_1430 : CTB2 := []
noncomputable def cu_1430 : List CUT2 := []
theorem ch_1430 : staG tb_X8_at 1 bt_RX8 [] ct_1430 [] [] cu_1430 11 con_1430 = true := by decide +kernel
theorem cto_1430 (l : Launch) : CTOK2 l RX8 vwCl gTbl ct_1430 := ct2_nil
theorem vl_1430 (l : Launch) : Vld2 l vwCl gTbl con_1430 := conR_ok3 gT_all (hd_1430) rfl pn_RX8 tk_X8_at bo_RX8 xo_RX8 (cto_1430 l) ch_1430 cut_nil
/-- RookHusting$Slots at -/
noncomputable def ac_976 : AC := .inr (2, jl_n [js_5 105 9223372036854775807 9223372036854775807, js_4 7 1, js_5 134 9223372036854775807 9223372036854775807])
noncomputable def hq_808 : HP := [(false, .inl (8, [(6, 1, 0), (8, 4, 0), (8, 5, 0)])), (false, ac_976)]
noncomputable def con_1431 : Con2 := ((yX8_at, cX8_at, 3, (some .long)), (0, 0), ([(6, 0, 0), (0, 1, 0), (0, 45, 0)], gi_928, [.inl (8, [(6, 1, 0), (8, 4, 0), (8, 5, 0)]), ac_976], []), [((4, 6, 0), gi_929, hq_808, [], [1])])
theorem hd_1431 : con_1431.1 = (yX8_at, cX8_at, 3, (some .long)) := rfl
noncomputable def ct_1431 : CTB2 := []
noncomputable def cu_1431 : List CUT2 := []
theorem ch_1431 : staG tb_X8_at 1 bt_RX8 [] ct_1431 [] [] cu_1431 11 con_1431 = true := by decide +kernel
theorem cto_1431 (l : Launch) : CTOK2 l RX8 vwCl gTbl ct_1431 := ct2_nil
theorem vl_1431 (l : Launch) : Vld2 l vwCl gTbl con_1431 := conR_ok3 gT_all (hd_1431) rfl pn_RX8 tk_X8_at bo_RX8 xo_RX8 (cto_1431 l) ch_1431 cut_nil
/-- RookHusting$Slots at -/
noncomputable def ac_977 : AC := .inr (2, jl_n [js_5 106 9223372036854775807 9223372036854775807, js_4 7 1, js_5 133 9223372036854775807 9223372036854775807])
noncomputable def hq_809 : HP := [(false, .inl (8, [(6, 1, 0), (8, 4, 0), (8, 5, 0)])), (false, ac_977)]
noncomputable def con_1432 : Con2 := ((yX8_at, cX8_at, 3, (some .long)), (0, 0), ([(6, 0, 0), (0, 1, 0), (0, 46, 0)], gi_928, [.inl (8, [(6, 1, 0), (8, 4, 0), (8, 5, 0)]), ac_977], []), [((4, 6, 0), gi_929, hq_809, [], [1])])
theorem hd_1432 : con_1432.1 = (yX8_at, cX8_at, 3, (some .long)) := rfl
noncomputable def ct_1432 : CTB2 := []
noncomputable def cu_1432 : List CUT2 := []
theorem ch_1432 : staG tb_X8_at 1 bt_RX8 [] ct_1432 [] [] cu_1432 11 con_1432 = true := by decide +kernel
theorem cto_1432 (l : Launch) : CTOK2 l RX8 vwCl gTbl ct_1432 := ct2_nil
theorem vl_1432 (l : Launch) : Vld2 l vwCl gTbl con_1432 := conR_ok3 gT_all (hd_1432) rfl pn_RX8 tk_X8_at bo_RX8 xo_RX8 (cto_1432 l) ch_1432 cut_nil
/-- RookHusting$Slots at -/
noncomputable def ac_978 : AC := .inr (2, jl_n [js_5 107 9223372036854775807 9223372036854775807, js_4 7 1, js_5 132 9223372036854775807 9223372036854775807])
noncomputable def hq_810 : HP := [(false, .inl (8, [(6, 1, 0), (8, 4, 0), (8, 5, 0)])), (false, ac_978)]
noncomputable def con_1433 : Con2 := ((yX8_at, cX8_at, 3, (some .long)), (0, 0), ([(6, 0, 0), (0, 1, 0), (0, 47, 0)], gi_928, [.inl (8, [(6, 1, 0), (8, 4, 0), (8, 5, 0)]), ac_978], []), [((4, 6, 0), gi_929, hq_810, [], [1])])
theorem hd_1433 : con_1433.1 = (yX8_at, cX8_at, 3, (some .long)) := rfl
noncomputable def ct_1433 : CTB2 := []
noncomputable def cu_1433 : List CUT2 := []
theorem ch_1433 : staG tb_X8_at 1 bt_RX8 [] ct_1433 [] [] cu_1433 11 con_1433 = true := by decide +kernel
theorem cto_1433 (l : Launch) : CTOK2 l RX8 vwCl gTbl ct_1433 := ct2_nil
theorem vl_1433 (l : Launch) : Vld2 l vwCl gTbl con_1433 := conR_ok3 gT_all (hd_1433) rfl pn_RX8 tk_X8_at bo_RX8 xo_RX8 (cto_1433 l) ch_1433 cut_nil
/-- RookHusting$Slots at -/
noncomputable def ac_979 : AC := .inr (2, jl_n [js_5 108 9223372036854775807 9223372036854775807, js_4 7 1, js_5 131 9223372036854775807 9223372036854775807])
noncomputable def hq_811 : HP := [(false, .inl (8, [(6, 1, 0), (8, 4, 0), (8, 5, 0)])), (false, ac_979)]
noncomputable def con_1434 : Con2 := ((yX8_at, cX8_at, 3, (some .long)), (0, 0), ([(6, 0, 0), (0, 1, 0), (0, 48, 0)], gi_928, [.inl (8, [(6, 1, 0), (8, 4, 0), (8, 5, 0)]), ac_979], []), [((4, 6, 0), gi_929, hq_811, [], [1])])
theorem hd_1434 : con_1434.1 = (yX8_at, cX8_at, 3, (some .long)) := rfl
noncomputable def ct_1434 : CTB2 := []
noncomputable def cu_1434 : List CUT2 := []
theorem ch_1434 : staG tb_X8_at 1 bt_RX8 [] ct_1434 [] [] cu_1434 11 con_1434 = true := by decide +kernel
theorem cto_1434 (l : Launch) : CTOK2 l RX8 vwCl gTbl ct_1434 := ct2_nil
theorem vl_1434 (l : Launch) : Vld2 l vwCl gTbl con_1434 := conR_ok3 gT_all (hd_1434) rfl pn_RX8 tk_X8_at bo_RX8 xo_RX8 (cto_1434 l) ch_1434 cut_nil
/-- RookHusting$Slots at -/
noncomputable def ac_980 : AC := .inr (2, jl_n [js_5 109 9223372036854775807 9223372036854775807, js_4 7 1, js_5 130 9223372036854775807 9223372036854775807])
noncomputable def hq_812 : HP := [(false, .inl (8, [(6, 1, 0), (8, 4, 0), (8, 5, 0)])), (false, ac_980)]
noncomputable def con_1435 : Con2 := ((yX8_at, cX8_at, 3, (some .long)), (0, 0), ([(6, 0, 0), (0, 1, 0), (0, 49, 0)], gi_928, [.inl (8, [(6, 1, 0), (8, 4, 0), (8, 5, 0)]), ac_980], []), [((4, 6, 0), gi_929, hq_812, [], [1])])
theorem hd_1435 : con_1435.1 = (yX8_at, cX8_at, 3, (some .long)) := rfl
noncomputable def ct_1435 : CTB2 := []
noncomputable def cu_1435 : List CUT2 := []
theorem ch_1435 : staG tb_X8_at 1 bt_RX8 [] ct_1435 [] [] cu_1435 11 con_1435 = true := by decide +kernel
theorem cto_1435 (l : Launch) : CTOK2 l RX8 vwCl gTbl ct_1435 := ct2_nil
theorem vl_1435 (l : Launch) : Vld2 l vwCl gTbl con_1435 := conR_ok3 gT_all (hd_1435) rfl pn_RX8 tk_X8_at bo_RX8 xo_RX8 (cto_1435 l) ch_1435 cut_nil
/-- RookHusting$Slots at -/
noncomputable def ac_981 : AC := .inr (2, jl_n [js_5 110 9223372036854775807 9223372036854775807, js_4 7 1, js_5 129 9223372036854775807 9223372036854775807])
noncomputable def hq_813 : HP := [(false, .inl (8, [(6, 1, 0), (8, 4, 0), (8, 5, 0)])), (false, ac_981)]
noncomputable def con_1436 : Con2 := ((yX8_at, cX8_at, 3, (some .long)), (0, 0), ([(6, 0, 0), (0, 1, 0), (0, 50, 0)], gi_928, [.inl (8, [(6, 1, 0), (8, 4, 0), (8, 5, 0)]), ac_981], []), [((4, 6, 0), gi_929, hq_813, [], [1])])
theorem hd_1436 : con_1436.1 = (yX8_at, cX8_at, 3, (some .long)) := rfl
noncomputable def ct_1436 : CTB2 := []
noncomputable def cu_1436 : List CUT2 := []
theorem ch_1436 : staG tb_X8_at 1 bt_RX8 [] ct_1436 [] [] cu_1436 11 con_1436 = true := by decide +kernel
theorem cto_1436 (l : Launch) : CTOK2 l RX8 vwCl gTbl ct_1436 := ct2_nil
theorem vl_1436 (l : Launch) : Vld2 l vwCl gTbl con_1436 := conR_ok3 gT_all (hd_1436) rfl pn_RX8 tk_X8_at bo_RX8 xo_RX8 (cto_1436 l) ch_1436 cut_nil
/-- RookHusting$Slots at -/
noncomputable def ac_982 : AC := .inr (2, jl_n [js_5 111 9223372036854775807 9223372036854775807, js_4 7 1, js_5 128 9223372036854775807 9223372036854775807])
noncomputable def hq_814 : HP := [(false, .inl (8, [(6, 1, 0), (8, 4, 0), (8, 5, 0)])), (false, ac_982)]
noncomputable def con_1437 : Con2 := ((yX8_at, cX8_at, 3, (some .long)), (0, 0), ([(6, 0, 0), (0, 1, 0), (0, 51, 0)], gi_928, [.inl (8, [(6, 1, 0), (8, 4, 0), (8, 5, 0)]), ac_982], []), [((4, 6, 0), gi_929, hq_814, [], [1])])
theorem hd_1437 : con_1437.1 = (yX8_at, cX8_at, 3, (some .long)) := rfl
noncomputable def ct_1437 : CTB2 := []
noncomputable def cu_1437 : List CUT2 := []
theorem ch_1437 : staG tb_X8_at 1 bt_RX8 [] ct_1437 [] [] cu_1437 11 con_1437 = true := by decide +kernel
theorem cto_1437 (l : Launch) : CTOK2 l RX8 vwCl gTbl ct_1437 := ct2_nil
theorem vl_1437 (l : Launch) : Vld2 l vwCl gTbl con_1437 := conR_ok3 gT_all (hd_1437) rfl pn_RX8 tk_X8_at bo_RX8 xo_RX8 (cto_1437 l) ch_1437 cut_nil
/-- RookHusting$Slots at -/
noncomputable def ac_983 : AC := .inr (2, jl_n [js_5 112 9223372036854775807 9223372036854775807, js_4 7 1, js_5 127 9223372036854775807 9223372036854775807])
noncomputable def hq_815 : HP := [(false, .inl (8, [(6, 1, 0), (8, 4, 0), (8, 5, 0)])), (false, ac_983)]
noncomputable def con_1438 : Con2 := ((yX8_at, cX8_at, 3, (some .long)), (0, 0), ([(6, 0, 0), (0, 1, 0), (0, 52, 0)], gi_928, [.inl (8, [(6, 1, 0), (8, 4, 0), (8, 5, 0)]), ac_983], []), [((4, 6, 0), gi_929, hq_815, [], [1])])
theorem hd_1438 : con_1438.1 = (yX8_at, cX8_at, 3, (some .long)) := rfl
noncomputable def ct_1438 : CTB2 := []
noncomputable def cu_1438 : List CUT2 := []
theorem ch_1438 : staG tb_X8_at 1 bt_RX8 [] ct_1438 [] [] cu_1438 11 con_1438 = true := by decide +kernel
theorem cto_1438 (l : Launch) : CTOK2 l RX8 vwCl gTbl ct_1438 := ct2_nil
theorem vl_1438 (l : Launch) : Vld2 l vwCl gTbl con_1438 := conR_ok3 gT_all (hd_1438) rfl pn_RX8 tk_X8_at bo_RX8 xo_RX8 (cto_1438 l) ch_1438 cut_nil
/-- RookHusting$Slots at -/
noncomputable def ac_984 : AC := .inr (2, jl_n [js_5 113 9223372036854775807 9223372036854775807, js_4 7 1, js_5 126 9223372036854775807 9223372036854775807])
noncomputable def hq_816 : HP := [(false, .inl (8, [(6, 1, 0), (8, 4, 0), (8, 5, 0)])), (false, ac_984)]
noncomputable def con_1439 : Con2 := ((yX8_at, cX8_at, 3, (some .long)), (0, 0), ([(6, 0, 0), (0, 1, 0), (0, 53, 0)], gi_928, [.inl (8, [(6, 1, 0), (8, 4, 0), (8, 5, 0)]), ac_984], []), [((4, 6, 0), gi_929, hq_816, [], [1])])
theorem hd_1439 : con_1439.1 = (yX8_at, cX8_at, 3, (some .long)) := rfl
noncomputable def ct_1439 : CTB2 := []
noncomputable def cu_1439 : List CUT2 := []
theorem ch_1439 : staG tb_X8_at 1 bt_RX8 [] ct_1439 [] [] cu_1439 11 con_1439 = true := by decide +kernel
theorem cto_1439 (l : Launch) : CTOK2 l RX8 vwCl gTbl ct_1439 := ct2_nil
theorem vl_1439 (l : Launch) : Vld2 l vwCl gTbl con_1439 := conR_ok3 gT_all (hd_1439) rfl pn_RX8 tk_X8_at bo_RX8 xo_RX8 (cto_1439 l) ch_1439 cut_nil
/-- RookHusting$Slots at -/
noncomputable def ac_985 : AC := .inr (2, jl_n [js_5 114 9223372036854775807 9223372036854775807, js_4 7 1, js_5 125 9223372036854775807 9223372036854775807])
noncomputable def hq_817 : HP := [(false, .inl (8, [(6, 1, 0), (8, 4, 0), (8, 5, 0)])), (false, ac_985)]
noncomputable def con_1440 : Con2 := ((yX8_at, cX8_at, 3, (some .long)), (0, 0), ([(6, 0, 0), (0, 1, 0), (0, 54, 0)], gi_928, [.inl (8, [(6, 1, 0), (8, 4, 0), (8, 5, 0)]), ac_985], []), [((4, 6, 0), gi_929, hq_817, [], [1])])
theorem hd_1440 : con_1440.1 = (yX8_at, cX8_at, 3, (some .long)) := rfl
noncomputable def ct_1440 : CTB2 := []
noncomputable def cu_1440 : List CUT2 := []
theorem ch_1440 : staG tb_X8_at 1 bt_RX8 [] ct_1440 [] [] cu_1440 11 con_1440 = true := by decide +kernel
theorem cto_1440 (l : Launch) : CTOK2 l RX8 vwCl gTbl ct_1440 := ct2_nil
theorem vl_1440 (l : Launch) : Vld2 l vwCl gTbl con_1440 := conR_ok3 gT_all (hd_1440) rfl pn_RX8 tk_X8_at bo_RX8 xo_RX8 (cto_1440 l) ch_1440 cut_nil
/-- RookHusting$Slots at -/
noncomputable def ac_986 : AC := .inr (2, jl_n [js_5 115 9223372036854775807 9223372036854775807, js_4 7 1, js_5 124 9223372036854775807 9223372036854775807])
noncomputable def hq_818 : HP := [(false, .inl (8, [(6, 1, 0), (8, 4, 0), (8, 5, 0)])), (false, ac_986)]
noncomputable def con_1441 : Con2 := ((yX8_at, cX8_at, 3, (some .long)), (0, 0), ([(6, 0, 0), (0, 1, 0), (0, 55, 0)], gi_928, [.inl (8, [(6, 1, 0), (8, 4, 0), (8, 5, 0)]), ac_986], []), [((4, 6, 0), gi_929, hq_818, [], [1])])
theorem hd_1441 : con_1441.1 = (yX8_at, cX8_at, 3, (some .long)) := rfl
noncomputable def ct_1441 : CTB2 := []
noncomputable def cu_1441 : List CUT2 := []
theorem ch_1441 : staG tb_X8_at 1 bt_RX8 [] ct_1441 [] [] cu_1441 11 con_1441 = true := by decide +kernel
theorem cto_1441 (l : Launch) : CTOK2 l RX8 vwCl gTbl ct_1441 := ct2_nil
theorem vl_1441 (l : Launch) : Vld2 l vwCl gTbl con_1441 := conR_ok3 gT_all (hd_1441) rfl pn_RX8 tk_X8_at bo_RX8 xo_RX8 (cto_1441 l) ch_1441 cut_nil
/-- RookHusting$Slots at -/
noncomputable def ac_987 : AC := .inr (2, jl_n [js_5 116 9223372036854775807 9223372036854775807, js_4 7 1, js_5 123 9223372036854775807 9223372036854775807])
noncomputable def hq_819 : HP := [(false, .inl (8, [(6, 1, 0), (8, 4, 0), (8, 5, 0)])), (false, ac_987)]
noncomputable def con_1442 : Con2 := ((yX8_at, cX8_at, 3, (some .long)), (0, 0), ([(6, 0, 0), (0, 1, 0), (0, 56, 0)], gi_928, [.inl (8, [(6, 1, 0), (8, 4, 0), (8, 5, 0)]), ac_987], []), [((4, 6, 0), gi_929, hq_819, [], [1])])
theorem hd_1442 : con_1442.1 = (yX8_at, cX8_at, 3, (some .long)) := rfl
noncomputable def ct_1442 : CTB2 := []
noncomputable def cu_1442 : List CUT2 := []
theorem ch_1442 : staG tb_X8_at 1 bt_RX8 [] ct_1442 [] [] cu_1442 11 con_1442 = true := by decide +kernel
theorem cto_1442 (l : Launch) : CTOK2 l RX8 vwCl gTbl ct_1442 := ct2_nil
theorem vl_1442 (l : Launch) : Vld2 l vwCl gTbl con_1442 := conR_ok3 gT_all (hd_1442) rfl pn_RX8 tk_X8_at bo_RX8 xo_RX8 (cto_1442 l) ch_1442 cut_nil
/-- RookHusting$Slots at -/
noncomputable def ac_988 : AC := .inr (2, jl_n [js_5 117 9223372036854775807 9223372036854775807, js_4 7 1, js_5 122 9223372036854775807 9223372036854775807])
noncomputable def hq_820 : HP := [(false, .inl (8, [(6, 1, 0), (8, 4, 0), (8, 5, 0)])), (false, ac_988)]
noncomputable def con_1443 : Con2 := ((yX8_at, cX8_at, 3, (some .long)), (0, 0), ([(6, 0, 0), (0, 1, 0), (0, 57, 0)], gi_928, [.inl (8, [(6, 1, 0), (8, 4, 0), (8, 5, 0)]), ac_988], []), [((4, 6, 0), gi_929, hq_820, [], [1])])
theorem hd_1443 : con_1443.1 = (yX8_at, cX8_at, 3, (some .long)) := rfl
noncomputable def ct_1443 : CTB2 := []
noncomputable def cu_1443 : List CUT2 := []
theorem ch_1443 : staG tb_X8_at 1 bt_RX8 [] ct_1443 [] [] cu_1443 11 con_1443 = true := by decide +kernel
theorem cto_1443 (l : Launch) : CTOK2 l RX8 vwCl gTbl ct_1443 := ct2_nil
theorem vl_1443 (l : Launch) : Vld2 l vwCl gTbl con_1443 := conR_ok3 gT_all (hd_1443) rfl pn_RX8 tk_X8_at bo_RX8 xo_RX8 (cto_1443 l) ch_1443 cut_nil
/-- RookHusting$Slots at -/
noncomputable def ac_989 : AC := .inr (2, jl_n [js_5 118 9223372036854775807 9223372036854775807, js_4 7 1, js_5 121 9223372036854775807 9223372036854775807])
noncomputable def hq_821 : HP := [(false, .inl (8, [(6, 1, 0), (8, 4, 0), (8, 5, 0)])), (false, ac_989)]
noncomputable def con_1444 : Con2 := ((yX8_at, cX8_at, 3, (some .long)), (0, 0), ([(6, 0, 0), (0, 1, 0), (0, 58, 0)], gi_928, [.inl (8, [(6, 1, 0), (8, 4, 0), (8, 5, 0)]), ac_989], []), [((4, 6, 0), gi_929, hq_821, [], [1])])
theorem hd_1444 : con_1444.1 = (yX8_at, cX8_at, 3, (some .long)) := rfl
noncomputable def ct_1444 : CTB2 := []
noncomputable def cu_1444 : List CUT2 := []
theorem ch_1444 : staG tb_X8_at 1 bt_RX8 [] ct_1444 [] [] cu_1444 11 con_1444 = true := by decide +kernel
theorem cto_1444 (l : Launch) : CTOK2 l RX8 vwCl gTbl ct_1444 := ct2_nil
theorem vl_1444 (l : Launch) : Vld2 l vwCl gTbl con_1444 := conR_ok3 gT_all (hd_1444) rfl pn_RX8 tk_X8_at bo_RX8 xo_RX8 (cto_1444 l) ch_1444 cut_nil
/-- RookHusting$Slots at -/
noncomputable def ac_990 : AC := .inr (2, jl_n [js_5 119 9223372036854775807 9223372036854775807, js_4 7 1, js_5 120 9223372036854775807 9223372036854775807])
noncomputable def hq_822 : HP := [(false, .inl (8, [(6, 1, 0), (8, 4, 0), (8, 5, 0)])), (false, ac_990)]
noncomputable def con_1445 : Con2 := ((yX8_at, cX8_at, 3, (some .long)), (0, 0), ([(6, 0, 0), (0, 1, 0), (0, 59, 0)], gi_928, [.inl (8, [(6, 1, 0), (8, 4, 0), (8, 5, 0)]), ac_990], []), [((4, 6, 0), gi_929, hq_822, [], [1])])
theorem hd_1445 : con_1445.1 = (yX8_at, cX8_at, 3, (some .long)) := rfl
noncomputable def ct_1445 : CTB2 := []
noncomputable def cu_1445 : List CUT2 := []
theorem ch_1445 : staG tb_X8_at 1 bt_RX8 [] ct_1445 [] [] cu_1445 11 con_1445 = true := by decide +kernel
theorem cto_1445 (l : Launch) : CTOK2 l RX8 vwCl gTbl ct_1445 := ct2_nil
theorem vl_1445 (l : Launch) : Vld2 l vwCl gTbl con_1445 := conR_ok3 gT_all (hd_1445) rfl pn_RX8 tk_X8_at bo_RX8 xo_RX8 (cto_1445 l) ch_1445 cut_nil
/-- RookHusting wrongSeen -/
noncomputable def ac_991 : AC := .inr (2, jl_n [js_5 60 9223372036854775807 9223372036854775807, js_4 105 60, js_5 120 9223372036854775807 9223372036854775807])
noncomputable def hc_194 : List AC := [ac_804, .inl (9, [(6, 2, 0), (8, 20, 0)]), ac_805, .inl (8, [(6, 5, 0), (8, 39, 0), (6, 4, 0)]), ac_806, ac_991]
noncomputable def hq_823 : HP := [(false, ac_804), (false, .inl (9, [(6, 2, 0), (8, 20, 0)])), (false, ac_805), (false, .inl (8, [(6, 5, 0), (8, 39, 0), (6, 4, 0)])), (false, ac_806), (false, ac_991)]
noncomputable def gi_1025 : GI := jl_n [jl_z 2, jl_i 0 4, jl_z 19, jl_i 0 16, jl_z 2, jl_i 1 5, jl_z 15, jl_m 0 60, jl_k 0 0, jl_r 2 (jl_m 0 60), jl_r 60 (jl_u), jl_z 1]
noncomputable def gi_1026 : GI := jl_n [jl_z 2, jl_i 0 4, jl_z 19, jl_i 0 16, jl_z 2, jl_i 1 5, jl_z 15, jl_m 0 60, jl_z 1, jl_r 2 (jl_m 0 60), jl_r 60 (jl_u), jl_z 1]
noncomputable def gi_1027 : GI := jl_n [jl_z 2, jl_i 0 4, jl_z 19, jl_i 0 16, jl_z 2, jl_i 1 5, jl_z 15, jl_m 0 60, jl_i 10 12, jl_r 2 (jl_m 0 60), jl_i 0 4, jl_i 0 16, jl_i 0 250, jl_i 0 4, jl_i 0 16, jl_i 0 250, jl_i 0 4, jl_i 0 16, jl_i 0 250, jl_i 0 4, jl_i 0 16, jl_i 0 250, jl_r 48 (jl_u), jl_z 1]
noncomputable def gi_1028 : GI := jl_n [jl_z 2, jl_i 0 4, jl_z 19, jl_i 0 16, jl_z 2, jl_i 1 5, jl_z 15, jl_m 0 60, jl_i 13 15, jl_r 2 (jl_m 0 60), jl_i 0 4, jl_i 0 16, jl_i 0 250, jl_i 0 4, jl_i 0 16, jl_i 0 250, jl_i 0 4, jl_i 0 16, jl_i 0 250, jl_i 0 4, jl_i 0 16, jl_i 0 250, jl_i 0 4, jl_i 0 16, jl_i 0 250, jl_r 45 (jl_u), jl_z 1]
noncomputable def gi_1029 : GI := jl_n [jl_z 2, jl_i 0 4, jl_z 19, jl_i 0 16, jl_z 2, jl_i 1 5, jl_z 15, jl_m 0 60, jl_i 16 18, jl_r 2 (jl_m 0 60), jl_i 0 4, jl_i 0 16, jl_i 0 250, jl_i 0 4, jl_i 0 16, jl_i 0 250, jl_i 0 4, jl_i 0 16, jl_i 0 250, jl_i 0 4, jl_i 0 16, jl_i 0 250, jl_i 0 4, jl_i 0 16, jl_i 0 250, jl_i 0 4, jl_i 0 16, jl_i 0 250, jl_r 42 (jl_u), jl_z 1]
noncomputable def gi_1030 : GI := jl_n [jl_z 2, jl_i 0 4, jl_z 19, jl_i 0 16, jl_z 2, jl_i 1 5, jl_z 15, jl_m 0 60, jl_i 19 21, jl_r 2 (jl_m 0 60), jl_i 0 4, jl_i 0 16, jl_i 0 250, jl_i 0 4, jl_i 0 16, jl_i 0 250, jl_i 0 4, jl_i 0 16, jl_i 0 250, jl_i 0 4, jl_i 0 16, jl_i 0 250, jl_i 0 4, jl_i 0 16, jl_i 0 250, jl_i 0 4, jl_i 0 16, jl_i 0 250, jl_i 0 4, jl_i 0 16, jl_i 0 250, jl_r 39 (jl_u), jl_z 1]
noncomputable def gi_1031 : GI := jl_n [jl_z 2, jl_i 0 4, jl_z 19, jl_i 0 16, jl_z 2, jl_i 1 5, jl_z 15, jl_m 0 60, jl_i 22 24, jl_r 2 (jl_m 0 60), jl_i 0 4, jl_i 0 16, jl_i 0 250, jl_i 0 4, jl_i 0 16, jl_i 0 250, jl_i 0 4, jl_i 0 16, jl_i 0 250, jl_i 0 4, jl_i 0 16, jl_i 0 250, jl_i 0 4, jl_i 0 16, jl_i 0 250, jl_i 0 4, jl_i 0 16, jl_i 0 250, jl_i 0 4, jl_i 0 16, jl_i 0 250, jl_i 0 4, jl_i 0 16, jl_i 0 250, jl_r 36 (jl_u), jl_z 1]
noncomputable def gi_1032 : GI := jl_n [jl_z 2, jl_i 0 4, jl_z 19, jl_i 0 16, jl_z 2, jl_i 1 5, jl_z 15, jl_m 0 60, jl_i 25 27, jl_r 2 (jl_m 0 60), jl_i 0 4, jl_i 0 16, jl_i 0 250, jl_i 0 4, jl_i 0 16, jl_i 0 250, jl_i 0 4, jl_i 0 16, jl_i 0 250, jl_i 0 4, jl_i 0 16, jl_i 0 250, jl_i 0 4, jl_i 0 16, jl_i 0 250, jl_i 0 4, jl_i 0 16, jl_i 0 250, jl_i 0 4, jl_i 0 16, jl_i 0 250, jl_i 0 4, jl_i 0 16, jl_i 0 250, jl_i 0 4, jl_i 0 16, jl_i 0 250, jl_r 33 (jl_u), jl_z 1]
noncomputable def gi_1033 : GI := jl_n [jl_z 2, jl_i 0 4, jl_z 19, jl_i 0 16, jl_z 2, jl_i 1 5, jl_z 15, jl_m 0 60, jl_i 1 3, jl_r 2 (jl_m 0 60), jl_i 0 4, jl_i 0 16, jl_i 0 250, jl_r 57 (jl_u), jl_z 1]
noncomputable def gi_1034 : GI := jl_n [jl_z 2, jl_i 0 4, jl_z 19, jl_i 0 16, jl_z 2, jl_i 1 5, jl_z 15, jl_m 0 60, jl_i 28 30, jl_r 2 (jl_m 0 60), jl_i 0 4, jl_i 0 16, jl_i 0 250, jl_i 0 4, jl_i 0 16, jl_i 0 250, jl_i 0 4, jl_i 0 16, jl_i 0 250, jl_i 0 4, jl_i 0 16, jl_i 0 250, jl_i 0 4, jl_i 0 16, jl_i 0 250, jl_i 0 4, jl_i 0 16, jl_i 0 250, jl_i 0 4, jl_i 0 16, jl_i 0 250, jl_i 0 4, jl_i 0 16, jl_i 0 250, jl_i 0 4, jl_i 0 16, jl_i 0 250, jl_i 0 4, jl_i 0 16, jl_i 0 250, jl_r 30 (jl_u), jl_z 1]
noncomputable def gi_1035 : GI := jl_n [jl_z 2, jl_i 0 4, jl_z 19, jl_i 0 16, jl_z 2, jl_i 1 5, jl_z 15, jl_m 0 60, jl_i 31 33, jl_r 2 (jl_m 0 60), jl_i 0 4, jl_i 0 16, jl_i 0 250, jl_i 0 4, jl_i 0 16, jl_i 0 250, jl_i 0 4, jl_i 0 16, jl_i 0 250, jl_i 0 4, jl_i 0 16, jl_i 0 250, jl_i 0 4, jl_i 0 16, jl_i 0 250, jl_i 0 4, jl_i 0 16, jl_i 0 250, jl_i 0 4, jl_i 0 16, jl_i 0 250, jl_i 0 4, jl_i 0 16, jl_i 0 250, jl_i 0 4, jl_i 0 16, jl_i 0 250, jl_i 0 4, jl_i 0 16, jl_i 0 250, jl_i 0 4, jl_i 0 16, jl_i 0 250, jl_r 27 (jl_u), jl_z 1]
noncomputable def gi_1036 : GI := jl_n [jl_z 2, jl_i 0 4, jl_z 19, jl_i 0 16, jl_z 2, jl_i 1 5, jl_z 15, jl_m 0 60, jl_i 34 36, jl_r 2 (jl_m 0 60), jl_i 0 4, jl_i 0 16, jl_i 0 250, jl_i 0 4, jl_i 0 16, jl_i 0 250, jl_i 0 4, jl_i 0 16, jl_i 0 250, jl_i 0 4, jl_i 0 16, jl_i 0 250, jl_i 0 4, jl_i 0 16, jl_i 0 250, jl_i 0 4, jl_i 0 16, jl_i 0 250, jl_i 0 4, jl_i 0 16, jl_i 0 250, jl_i 0 4, jl_i 0 16, jl_i 0 250, jl_i 0 4, jl_i 0 16, jl_i 0 250, jl_i 0 4, jl_i 0 16, jl_i 0 250, jl_i 0 4, jl_i 0 16, jl_i 0 250, jl_i 0 4, jl_i 0 16, jl_i 0 250, jl_r 24 (jl_u), jl_z 1]
noncomputable def gi_1037 : GI := jl_n [jl_z 2, jl_i 0 4, jl_z 19, jl_i 0 16, jl_z 2, jl_i 1 5, jl_z 15, jl_m 0 60, jl_i 37 39, jl_r 2 (jl_m 0 60), jl_i 0 4, jl_i 0 16, jl_i 0 250, jl_i 0 4, jl_i 0 16, jl_i 0 250, jl_i 0 4, jl_i 0 16, jl_i 0 250, jl_i 0 4, jl_i 0 16, jl_i 0 250, jl_i 0 4, jl_i 0 16, jl_i 0 250, jl_i 0 4, jl_i 0 16, jl_i 0 250, jl_i 0 4, jl_i 0 16, jl_i 0 250, jl_i 0 4, jl_i 0 16, jl_i 0 250, jl_i 0 4, jl_i 0 16, jl_i 0 250, jl_i 0 4, jl_i 0 16, jl_i 0 250, jl_i 0 4, jl_i 0 16, jl_i 0 250, jl_i 0 4, jl_i 0 16, jl_i 0 250, jl_i 0 4, jl_i 0 16, jl_i 0 250, jl_r 21 (jl_u), jl_z 1]
noncomputable def gi_1038 : GI := jl_n [jl_z 2, jl_i 0 4, jl_z 19, jl_i 0 16, jl_z 2, jl_i 1 5, jl_z 15, jl_m 0 60, jl_i 40 42, jl_r 2 (jl_m 0 60), jl_i 0 4, jl_i 0 16, jl_i 0 250, jl_i 0 4, jl_i 0 16, jl_i 0 250, jl_i 0 4, jl_i 0 16, jl_i 0 250, jl_i 0 4, jl_i 0 16, jl_i 0 250, jl_i 0 4, jl_i 0 16, jl_i 0 250, jl_i 0 4, jl_i 0 16, jl_i 0 250, jl_i 0 4, jl_i 0 16, jl_i 0 250, jl_i 0 4, jl_i 0 16, jl_i 0 250, jl_i 0 4, jl_i 0 16, jl_i 0 250, jl_i 0 4, jl_i 0 16, jl_i 0 250, jl_i 0 4, jl_i 0 16, jl_i 0 250, jl_i 0 4, jl_i 0 16, jl_i 0 250, jl_i 0 4, jl_i 0 16, jl_i 0 250, jl_i 0 4, jl_i 0 16, jl_i 0 250, jl_r 18 (jl_u), jl_z 1]
noncomputable def gi_1039 : GI := jl_n [jl_z 2, jl_i 0 4, jl_z 19, jl_i 0 16, jl_z 2, jl_i 1 5, jl_z 15, jl_m 0 60, jl_i 43 45, jl_r 2 (jl_m 0 60), jl_i 0 4, jl_i 0 16, jl_i 0 250, jl_i 0 4, jl_i 0 16, jl_i 0 250, jl_i 0 4, jl_i 0 16, jl_i 0 250, jl_i 0 4, jl_i 0 16, jl_i 0 250, jl_i 0 4, jl_i 0 16, jl_i 0 250, jl_i 0 4, jl_i 0 16, jl_i 0 250, jl_i 0 4, jl_i 0 16, jl_i 0 250, jl_i 0 4, jl_i 0 16, jl_i 0 250, jl_i 0 4, jl_i 0 16, jl_i 0 250, jl_i 0 4, jl_i 0 16, jl_i 0 250, jl_i 0 4, jl_i 0 16, jl_i 0 250, jl_i 0 4, jl_i 0 16, jl_i 0 250, jl_i 0 4, jl_i 0 16, jl_i 0 250, jl_i 0 4, jl_i 0 16, jl_i 0 250, jl_i 0 4, jl_i 0 16, jl_i 0 250, jl_r 15 (jl_u), jl_z 1]
noncomputable def gi_1040 : GI := jl_n [jl_z 2, jl_i 0 4, jl_z 19, jl_i 0 16, jl_z 2, jl_i 1 5, jl_z 15, jl_m 0 60, jl_i 46 48, jl_r 2 (jl_m 0 60), jl_i 0 4, jl_i 0 16, jl_i 0 250, jl_i 0 4, jl_i 0 16, jl_i 0 250, jl_i 0 4, jl_i 0 16, jl_i 0 250, jl_i 0 4, jl_i 0 16, jl_i 0 250, jl_i 0 4, jl_i 0 16, jl_i 0 250, jl_i 0 4, jl_i 0 16, jl_i 0 250, jl_i 0 4, jl_i 0 16, jl_i 0 250, jl_i 0 4, jl_i 0 16, jl_i 0 250, jl_i 0 4, jl_i 0 16, jl_i 0 250, jl_i 0 4, jl_i 0 16, jl_i 0 250, jl_i 0 4, jl_i 0 16, jl_i 0 250, jl_i 0 4, jl_i 0 16, jl_i 0 250, jl_i 0 4, jl_i 0 16, jl_i 0 250, jl_i 0 4, jl_i 0 16, jl_i 0 250, jl_i 0 4, jl_i 0 16, jl_i 0 250, jl_i 0 4, jl_i 0 16, jl_i 0 250, jl_r 12 (jl_u), jl_z 1]
noncomputable def gi_1041 : GI := jl_n [jl_z 2, jl_i 0 4, jl_z 19, jl_i 0 16, jl_z 2, jl_i 1 5, jl_z 15, jl_m 0 60, jl_i 49 51, jl_r 2 (jl_m 0 60), jl_i 0 4, jl_i 0 16, jl_i 0 250, jl_i 0 4, jl_i 0 16, jl_i 0 250, jl_i 0 4, jl_i 0 16, jl_i 0 250, jl_i 0 4, jl_i 0 16, jl_i 0 250, jl_i 0 4, jl_i 0 16, jl_i 0 250, jl_i 0 4, jl_i 0 16, jl_i 0 250, jl_i 0 4, jl_i 0 16, jl_i 0 250, jl_i 0 4, jl_i 0 16, jl_i 0 250, jl_i 0 4, jl_i 0 16, jl_i 0 250, jl_i 0 4, jl_i 0 16, jl_i 0 250, jl_i 0 4, jl_i 0 16, jl_i 0 250, jl_i 0 4, jl_i 0 16, jl_i 0 250, jl_i 0 4, jl_i 0 16, jl_i 0 250, jl_i 0 4, jl_i 0 16, jl_i 0 250, jl_i 0 4, jl_i 0 16, jl_i 0 250, jl_i 0 4, jl_i 0 16, jl_i 0 250, jl_i 0 4, jl_i 0 16, jl_i 0 250, jl_r 9 (jl_u), jl_z 1]
noncomputable def gi_1042 : GI := jl_n [jl_z 2, jl_i 0 4, jl_z 19, jl_i 0 16, jl_z 2, jl_i 1 5, jl_z 15, jl_m 0 60, jl_i 52 54, jl_r 2 (jl_m 0 60), jl_i 0 4, jl_i 0 16, jl_i 0 250, jl_i 0 4, jl_i 0 16, jl_i 0 250, jl_i 0 4, jl_i 0 16, jl_i 0 250, jl_i 0 4, jl_i 0 16, jl_i 0 250, jl_i 0 4, jl_i 0 16, jl_i 0 250, jl_i 0 4, jl_i 0 16, jl_i 0 250, jl_i 0 4, jl_i 0 16, jl_i 0 250, jl_i 0 4, jl_i 0 16, jl_i 0 250, jl_i 0 4, jl_i 0 16, jl_i 0 250, jl_i 0 4, jl_i 0 16, jl_i 0 250, jl_i 0 4, jl_i 0 16, jl_i 0 250, jl_i 0 4, jl_i 0 16, jl_i 0 250, jl_i 0 4, jl_i 0 16, jl_i 0 250, jl_i 0 4, jl_i 0 16, jl_i 0 250, jl_i 0 4, jl_i 0 16, jl_i 0 250, jl_i 0 4, jl_i 0 16, jl_i 0 250, jl_i 0 4, jl_i 0 16, jl_i 0 250, jl_i 0 4, jl_i 0 16, jl_i 0 250, jl_r 6 (jl_u), jl_z 1]
noncomputable def gi_1043 : GI := jl_n [jl_z 2, jl_i 0 4, jl_z 19, jl_i 0 16, jl_z 2, jl_i 1 5, jl_z 15, jl_m 0 60, jl_i 55 57, jl_r 2 (jl_m 0 60), jl_i 0 4, jl_i 0 16, jl_i 0 250, jl_i 0 4, jl_i 0 16, jl_i 0 250, jl_i 0 4, jl_i 0 16, jl_i 0 250, jl_i 0 4, jl_i 0 16, jl_i 0 250, jl_i 0 4, jl_i 0 16, jl_i 0 250, jl_i 0 4, jl_i 0 16, jl_i 0 250, jl_i 0 4, jl_i 0 16, jl_i 0 250, jl_i 0 4, jl_i 0 16, jl_i 0 250, jl_i 0 4, jl_i 0 16, jl_i 0 250, jl_i 0 4, jl_i 0 16, jl_i 0 250, jl_i 0 4, jl_i 0 16, jl_i 0 250, jl_i 0 4, jl_i 0 16, jl_i 0 250, jl_i 0 4, jl_i 0 16, jl_i 0 250, jl_i 0 4, jl_i 0 16, jl_i 0 250, jl_i 0 4, jl_i 0 16, jl_i 0 250, jl_i 0 4, jl_i 0 16, jl_i 0 250, jl_i 0 4, jl_i 0 16, jl_i 0 250, jl_i 0 4, jl_i 0 16, jl_i 0 250, jl_i 0 4, jl_i 0 16, jl_i 0 250, jl_r 3 (jl_u), jl_z 1]
noncomputable def gi_1044 : GI := jl_n [jl_z 2, jl_i 0 4, jl_z 19, jl_i 0 16, jl_z 2, jl_i 1 5, jl_z 15, jl_m 0 60, jl_i 4 6, jl_r 2 (jl_m 0 60), jl_i 0 4, jl_i 0 16, jl_i 0 250, jl_i 0 4, jl_i 0 16, jl_i 0 250, jl_r 54 (jl_u), jl_z 1]
noncomputable def gi_1045 : GI := jl_n [jl_z 2, jl_i 0 4, jl_z 19, jl_i 0 16, jl_z 2, jl_i 1 5, jl_z 15, jl_m 0 60, jl_i 58 60, jl_r 2 (jl_m 0 60), jl_i 0 4, jl_i 0 16, jl_i 0 250, jl_i 0 4, jl_i 0 16, jl_i 0 250, jl_i 0 4, jl_i 0 16, jl_i 0 250, jl_i 0 4, jl_i 0 16, jl_i 0 250, jl_i 0 4, jl_i 0 16, jl_i 0 250, jl_i 0 4, jl_i 0 16, jl_i 0 250, jl_i 0 4, jl_i 0 16, jl_i 0 250, jl_i 0 4, jl_i 0 16, jl_i 0 250, jl_i 0 4, jl_i 0 16, jl_i 0 250, jl_i 0 4, jl_i 0 16, jl_i 0 250, jl_i 0 4, jl_i 0 16, jl_i 0 250, jl_i 0 4, jl_i 0 16, jl_i 0 250, jl_i 0 4, jl_i 0 16, jl_i 0 250, jl_i 0 4, jl_i 0 16, jl_i 0 250, jl_i 0 4, jl_i 0 16, jl_i 0 250, jl_i 0 4, jl_i 0 16, jl_i 0 250, jl_i 0 4, jl_i 0 16, jl_i 0 250, jl_i 0 4, jl_i 0 16, jl_i 0 250, jl_i 0 4, jl_i 0 16, jl_i 0 250, jl_i 0 4, jl_i 0 16, jl_i 0 250, jl_z 1]
noncomputable def gi_1046 : GI := jl_n [jl_z 2, jl_i 0 4, jl_z 19, jl_i 0 16, jl_z 2, jl_i 1 5, jl_z 15, jl_m 0 60, jl_i 7 9, jl_r 2 (jl_m 0 60), jl_i 0 4, jl_i 0 16, jl_i 0 250, jl_i 0 4, jl_i 0 16, jl_i 0 250, jl_i 0 4, jl_i 0 16, jl_i 0 250, jl_r 51 (jl_u), jl_z 1]
noncomputable def con_1446 : Con2 := ((yX11_wrongSeen, cX11_wrongSeen, 5, (some .int)), (1, 22), ([(6, 0, 0), (0, 1, 0), (1, 2, 0)], gi_933, hc_194, []), [((0, (-2), 0), gi_934, hq_823, [], [1]), ((0, (-6), 0), gi_1025, hq_823, [], [1]), ((0, 0, 0), gi_1026, hq_823, [], [1]), ((0, 0, 0), gi_1027, hq_823, [], [1]), ((0, 0, 0), gi_1028, hq_823, [], [1]), ((0, 0, 0), gi_1029, hq_823, [], [1]), ((0, 0, 0), gi_1030, hq_823, [], [1]), ((0, 0, 0), gi_1031, hq_823, [], [1]), ((0, 0, 0), gi_1032, hq_823, [], [1]), ((0, 0, 0), gi_1033, hq_823, [], [1]), ((0, 0, 0), gi_1034, hq_823, [], [1]), ((0, 0, 0), gi_1035, hq_823, [], [1]), ((0, 0, 0), gi_1036, hq_823, [], [1]), ((0, 0, 0), gi_1037, hq_823, [], [1]), ((0, 0, 0), gi_1038, hq_823, [], [1]), ((0, 0, 0), gi_1039, hq_823, [], [1]), ((0, 0, 0), gi_1040, hq_823, [], [1]), ((0, 0, 0), gi_1041, hq_823, [], [1]), ((0, 0, 0), gi_1042, hq_823, [], [1]), ((0, 0, 0), gi_1043, hq_823, [], [1]), ((0, 0, 0), gi_1044, hq_823, [], [1]), ((0, 0, 0), gi_1045, hq_823, [], [1]), ((0, 0, 0), gi_1046, hq_823, [], [1])])
theorem hd_1446 : con_1446.1 = (yX11_wrongSeen, cX11_wrongSeen, 5, (some .int)) := rfl
theorem ck_RX11_473_1388 : COK2 RX11 vwCl gTbl 473 0 con_1388 := ⟨wd_1218, wd_131, mh_X8_at, .inr (.inr ⟨rfl, wd_1215, wd_1216, wd_1217, ⟨_, rfl, pd_X8_at⟩, 8, _, TX8, 3, rfl, rfl⟩)⟩
theorem ck_RX11_473_1391 : COK2 RX11 vwCl gTbl 473 0 con_1391 := ⟨wd_1218, wd_131, mh_X8_at, .inr (.inr ⟨rfl, wd_1215, wd_1216, wd_1217, ⟨_, rfl, pd_X8_at⟩, 8, _, TX8, 3, rfl, rfl⟩)⟩
theorem ck_RX11_473_1394 : COK2 RX11 vwCl gTbl 473 0 con_1394 := ⟨wd_1218, wd_131, mh_X8_at, .inr (.inr ⟨rfl, wd_1215, wd_1216, wd_1217, ⟨_, rfl, pd_X8_at⟩, 8, _, TX8, 3, rfl, rfl⟩)⟩
theorem ck_RX11_473_1397 : COK2 RX11 vwCl gTbl 473 0 con_1397 := ⟨wd_1218, wd_131, mh_X8_at, .inr (.inr ⟨rfl, wd_1215, wd_1216, wd_1217, ⟨_, rfl, pd_X8_at⟩, 8, _, TX8, 3, rfl, rfl⟩)⟩
theorem ck_RX11_473_1400 : COK2 RX11 vwCl gTbl 473 0 con_1400 := ⟨wd_1218, wd_131, mh_X8_at, .inr (.inr ⟨rfl, wd_1215, wd_1216, wd_1217, ⟨_, rfl, pd_X8_at⟩, 8, _, TX8, 3, rfl, rfl⟩)⟩
theorem ck_RX11_473_1403 : COK2 RX11 vwCl gTbl 473 0 con_1403 := ⟨wd_1218, wd_131, mh_X8_at, .inr (.inr ⟨rfl, wd_1215, wd_1216, wd_1217, ⟨_, rfl, pd_X8_at⟩, 8, _, TX8, 3, rfl, rfl⟩)⟩
theorem ck_RX11_473_1406 : COK2 RX11 vwCl gTbl 473 0 con_1406 := ⟨wd_1218, wd_131, mh_X8_at, .inr (.inr ⟨rfl, wd_1215, wd_1216, wd_1217, ⟨_, rfl, pd_X8_at⟩, 8, _, TX8, 3, rfl, rfl⟩)⟩
theorem ck_RX11_473_1409 : COK2 RX11 vwCl gTbl 473 0 con_1409 := ⟨wd_1218, wd_131, mh_X8_at, .inr (.inr ⟨rfl, wd_1215, wd_1216, wd_1217, ⟨_, rfl, pd_X8_at⟩, 8, _, TX8, 3, rfl, rfl⟩)⟩
theorem ck_RX11_473_1412 : COK2 RX11 vwCl gTbl 473 0 con_1412 := ⟨wd_1218, wd_131, mh_X8_at, .inr (.inr ⟨rfl, wd_1215, wd_1216, wd_1217, ⟨_, rfl, pd_X8_at⟩, 8, _, TX8, 3, rfl, rfl⟩)⟩
theorem ck_RX11_473_1415 : COK2 RX11 vwCl gTbl 473 0 con_1415 := ⟨wd_1218, wd_131, mh_X8_at, .inr (.inr ⟨rfl, wd_1215, wd_1216, wd_1217, ⟨_, rfl, pd_X8_at⟩, 8, _, TX8, 3, rfl, rfl⟩)⟩
theorem ck_RX11_473_1418 : COK2 RX11 vwCl gTbl 473 0 con_1418 := ⟨wd_1218, wd_131, mh_X8_at, .inr (.inr ⟨rfl, wd_1215, wd_1216, wd_1217, ⟨_, rfl, pd_X8_at⟩, 8, _, TX8, 3, rfl, rfl⟩)⟩
theorem ck_RX11_473_1421 : COK2 RX11 vwCl gTbl 473 0 con_1421 := ⟨wd_1218, wd_131, mh_X8_at, .inr (.inr ⟨rfl, wd_1215, wd_1216, wd_1217, ⟨_, rfl, pd_X8_at⟩, 8, _, TX8, 3, rfl, rfl⟩)⟩
theorem ck_RX11_473_1424 : COK2 RX11 vwCl gTbl 473 0 con_1424 := ⟨wd_1218, wd_131, mh_X8_at, .inr (.inr ⟨rfl, wd_1215, wd_1216, wd_1217, ⟨_, rfl, pd_X8_at⟩, 8, _, TX8, 3, rfl, rfl⟩)⟩
theorem ck_RX11_473_1427 : COK2 RX11 vwCl gTbl 473 0 con_1427 := ⟨wd_1218, wd_131, mh_X8_at, .inr (.inr ⟨rfl, wd_1215, wd_1216, wd_1217, ⟨_, rfl, pd_X8_at⟩, 8, _, TX8, 3, rfl, rfl⟩)⟩
theorem ck_RX11_473_1430 : COK2 RX11 vwCl gTbl 473 0 con_1430 := ⟨wd_1218, wd_131, mh_X8_at, .inr (.inr ⟨rfl, wd_1215, wd_1216, wd_1217, ⟨_, rfl, pd_X8_at⟩, 8, _, TX8, 3, rfl, rfl⟩)⟩
theorem ck_RX11_473_1433 : COK2 RX11 vwCl gTbl 473 0 con_1433 := ⟨wd_1218, wd_131, mh_X8_at, .inr (.inr ⟨rfl, wd_1215, wd_1216, wd_1217, ⟨_, rfl, pd_X8_at⟩, 8, _, TX8, 3, rfl, rfl⟩)⟩
theorem ck_RX11_473_1436 : COK2 RX11 vwCl gTbl 473 0 con_1436 := ⟨wd_1218, wd_131, mh_X8_at, .inr (.inr ⟨rfl, wd_1215, wd_1216, wd_1217, ⟨_, rfl, pd_X8_at⟩, 8, _, TX8, 3, rfl, rfl⟩)⟩
theorem ck_RX11_473_1439 : COK2 RX11 vwCl gTbl 473 0 con_1439 := ⟨wd_1218, wd_131, mh_X8_at, .inr (.inr ⟨rfl, wd_1215, wd_1216, wd_1217, ⟨_, rfl, pd_X8_at⟩, 8, _, TX8, 3, rfl, rfl⟩)⟩
theorem ck_RX11_473_1442 : COK2 RX11 vwCl gTbl 473 0 con_1442 := ⟨wd_1218, wd_131, mh_X8_at, .inr (.inr ⟨rfl, wd_1215, wd_1216, wd_1217, ⟨_, rfl, pd_X8_at⟩, 8, _, TX8, 3, rfl, rfl⟩)⟩
theorem ck_RX11_473_1445 : COK2 RX11 vwCl gTbl 473 0 con_1445 := ⟨wd_1218, wd_131, mh_X8_at, .inr (.inr ⟨rfl, wd_1215, wd_1216, wd_1217, ⟨_, rfl, pd_X8_at⟩, 8, _, TX8, 3, rfl, rfl⟩)⟩
theorem ck_RX11_473_1387 : COK2 RX11 vwCl gTbl 473 0 con_1387 := ⟨wd_1218, wd_131, mh_X8_at, .inr (.inr ⟨rfl, wd_1215, wd_1216, wd_1217, ⟨_, rfl, pd_X8_at⟩, 8, _, TX8, 3, rfl, rfl⟩)⟩
theorem ck_RX11_473_1390 : COK2 RX11 vwCl gTbl 473 0 con_1390 := ⟨wd_1218, wd_131, mh_X8_at, .inr (.inr ⟨rfl, wd_1215, wd_1216, wd_1217, ⟨_, rfl, pd_X8_at⟩, 8, _, TX8, 3, rfl, rfl⟩)⟩
theorem ck_RX11_473_1393 : COK2 RX11 vwCl gTbl 473 0 con_1393 := ⟨wd_1218, wd_131, mh_X8_at, .inr (.inr ⟨rfl, wd_1215, wd_1216, wd_1217, ⟨_, rfl, pd_X8_at⟩, 8, _, TX8, 3, rfl, rfl⟩)⟩
theorem ck_RX11_473_1396 : COK2 RX11 vwCl gTbl 473 0 con_1396 := ⟨wd_1218, wd_131, mh_X8_at, .inr (.inr ⟨rfl, wd_1215, wd_1216, wd_1217, ⟨_, rfl, pd_X8_at⟩, 8, _, TX8, 3, rfl, rfl⟩)⟩
theorem ck_RX11_473_1399 : COK2 RX11 vwCl gTbl 473 0 con_1399 := ⟨wd_1218, wd_131, mh_X8_at, .inr (.inr ⟨rfl, wd_1215, wd_1216, wd_1217, ⟨_, rfl, pd_X8_at⟩, 8, _, TX8, 3, rfl, rfl⟩)⟩
theorem ck_RX11_473_1402 : COK2 RX11 vwCl gTbl 473 0 con_1402 := ⟨wd_1218, wd_131, mh_X8_at, .inr (.inr ⟨rfl, wd_1215, wd_1216, wd_1217, ⟨_, rfl, pd_X8_at⟩, 8, _, TX8, 3, rfl, rfl⟩)⟩
theorem ck_RX11_473_1405 : COK2 RX11 vwCl gTbl 473 0 con_1405 := ⟨wd_1218, wd_131, mh_X8_at, .inr (.inr ⟨rfl, wd_1215, wd_1216, wd_1217, ⟨_, rfl, pd_X8_at⟩, 8, _, TX8, 3, rfl, rfl⟩)⟩
theorem ck_RX11_473_1408 : COK2 RX11 vwCl gTbl 473 0 con_1408 := ⟨wd_1218, wd_131, mh_X8_at, .inr (.inr ⟨rfl, wd_1215, wd_1216, wd_1217, ⟨_, rfl, pd_X8_at⟩, 8, _, TX8, 3, rfl, rfl⟩)⟩
theorem ck_RX11_473_1411 : COK2 RX11 vwCl gTbl 473 0 con_1411 := ⟨wd_1218, wd_131, mh_X8_at, .inr (.inr ⟨rfl, wd_1215, wd_1216, wd_1217, ⟨_, rfl, pd_X8_at⟩, 8, _, TX8, 3, rfl, rfl⟩)⟩
theorem ck_RX11_473_1414 : COK2 RX11 vwCl gTbl 473 0 con_1414 := ⟨wd_1218, wd_131, mh_X8_at, .inr (.inr ⟨rfl, wd_1215, wd_1216, wd_1217, ⟨_, rfl, pd_X8_at⟩, 8, _, TX8, 3, rfl, rfl⟩)⟩
theorem ck_RX11_473_1417 : COK2 RX11 vwCl gTbl 473 0 con_1417 := ⟨wd_1218, wd_131, mh_X8_at, .inr (.inr ⟨rfl, wd_1215, wd_1216, wd_1217, ⟨_, rfl, pd_X8_at⟩, 8, _, TX8, 3, rfl, rfl⟩)⟩
theorem ck_RX11_473_1420 : COK2 RX11 vwCl gTbl 473 0 con_1420 := ⟨wd_1218, wd_131, mh_X8_at, .inr (.inr ⟨rfl, wd_1215, wd_1216, wd_1217, ⟨_, rfl, pd_X8_at⟩, 8, _, TX8, 3, rfl, rfl⟩)⟩
theorem ck_RX11_473_1423 : COK2 RX11 vwCl gTbl 473 0 con_1423 := ⟨wd_1218, wd_131, mh_X8_at, .inr (.inr ⟨rfl, wd_1215, wd_1216, wd_1217, ⟨_, rfl, pd_X8_at⟩, 8, _, TX8, 3, rfl, rfl⟩)⟩
theorem ck_RX11_473_1426 : COK2 RX11 vwCl gTbl 473 0 con_1426 := ⟨wd_1218, wd_131, mh_X8_at, .inr (.inr ⟨rfl, wd_1215, wd_1216, wd_1217, ⟨_, rfl, pd_X8_at⟩, 8, _, TX8, 3, rfl, rfl⟩)⟩
theorem ck_RX11_473_1429 : COK2 RX11 vwCl gTbl 473 0 con_1429 := ⟨wd_1218, wd_131, mh_X8_at, .inr (.inr ⟨rfl, wd_1215, wd_1216, wd_1217, ⟨_, rfl, pd_X8_at⟩, 8, _, TX8, 3, rfl, rfl⟩)⟩
theorem ck_RX11_473_1432 : COK2 RX11 vwCl gTbl 473 0 con_1432 := ⟨wd_1218, wd_131, mh_X8_at, .inr (.inr ⟨rfl, wd_1215, wd_1216, wd_1217, ⟨_, rfl, pd_X8_at⟩, 8, _, TX8, 3, rfl, rfl⟩)⟩
theorem ck_RX11_473_1435 : COK2 RX11 vwCl gTbl 473 0 con_1435 := ⟨wd_1218, wd_131, mh_X8_at, .inr (.inr ⟨rfl, wd_1215, wd_1216, wd_1217, ⟨_, rfl, pd_X8_at⟩, 8, _, TX8, 3, rfl, rfl⟩)⟩
theorem ck_RX11_473_1438 : COK2 RX11 vwCl gTbl 473 0 con_1438 := ⟨wd_1218, wd_131, mh_X8_at, .inr (.inr ⟨rfl, wd_1215, wd_1216, wd_1217, ⟨_, rfl, pd_X8_at⟩, 8, _, TX8, 3, rfl, rfl⟩)⟩
theorem ck_RX11_473_1441 : COK2 RX11 vwCl gTbl 473 0 con_1441 := ⟨wd_1218, wd_131, mh_X8_at, .inr (.inr ⟨rfl, wd_1215, wd_1216, wd_1217, ⟨_, rfl, pd_X8_at⟩, 8, _, TX8, 3, rfl, rfl⟩)⟩
theorem ck_RX11_473_1444 : COK2 RX11 vwCl gTbl 473 0 con_1444 := ⟨wd_1218, wd_131, mh_X8_at, .inr (.inr ⟨rfl, wd_1215, wd_1216, wd_1217, ⟨_, rfl, pd_X8_at⟩, 8, _, TX8, 3, rfl, rfl⟩)⟩
theorem ck_RX11_473_1386 : COK2 RX11 vwCl gTbl 473 0 con_1386 := ⟨wd_1218, wd_131, mh_X8_at, .inr (.inr ⟨rfl, wd_1215, wd_1216, wd_1217, ⟨_, rfl, pd_X8_at⟩, 8, _, TX8, 3, rfl, rfl⟩)⟩
theorem ck_RX11_473_1389 : COK2 RX11 vwCl gTbl 473 0 con_1389 := ⟨wd_1218, wd_131, mh_X8_at, .inr (.inr ⟨rfl, wd_1215, wd_1216, wd_1217, ⟨_, rfl, pd_X8_at⟩, 8, _, TX8, 3, rfl, rfl⟩)⟩
theorem ck_RX11_473_1392 : COK2 RX11 vwCl gTbl 473 0 con_1392 := ⟨wd_1218, wd_131, mh_X8_at, .inr (.inr ⟨rfl, wd_1215, wd_1216, wd_1217, ⟨_, rfl, pd_X8_at⟩, 8, _, TX8, 3, rfl, rfl⟩)⟩
theorem ck_RX11_473_1395 : COK2 RX11 vwCl gTbl 473 0 con_1395 := ⟨wd_1218, wd_131, mh_X8_at, .inr (.inr ⟨rfl, wd_1215, wd_1216, wd_1217, ⟨_, rfl, pd_X8_at⟩, 8, _, TX8, 3, rfl, rfl⟩)⟩
theorem ck_RX11_473_1398 : COK2 RX11 vwCl gTbl 473 0 con_1398 := ⟨wd_1218, wd_131, mh_X8_at, .inr (.inr ⟨rfl, wd_1215, wd_1216, wd_1217, ⟨_, rfl, pd_X8_at⟩, 8, _, TX8, 3, rfl, rfl⟩)⟩
theorem ck_RX11_473_1401 : COK2 RX11 vwCl gTbl 473 0 con_1401 := ⟨wd_1218, wd_131, mh_X8_at, .inr (.inr ⟨rfl, wd_1215, wd_1216, wd_1217, ⟨_, rfl, pd_X8_at⟩, 8, _, TX8, 3, rfl, rfl⟩)⟩
theorem ck_RX11_473_1404 : COK2 RX11 vwCl gTbl 473 0 con_1404 := ⟨wd_1218, wd_131, mh_X8_at, .inr (.inr ⟨rfl, wd_1215, wd_1216, wd_1217, ⟨_, rfl, pd_X8_at⟩, 8, _, TX8, 3, rfl, rfl⟩)⟩
theorem ck_RX11_473_1407 : COK2 RX11 vwCl gTbl 473 0 con_1407 := ⟨wd_1218, wd_131, mh_X8_at, .inr (.inr ⟨rfl, wd_1215, wd_1216, wd_1217, ⟨_, rfl, pd_X8_at⟩, 8, _, TX8, 3, rfl, rfl⟩)⟩
theorem ck_RX11_473_1410 : COK2 RX11 vwCl gTbl 473 0 con_1410 := ⟨wd_1218, wd_131, mh_X8_at, .inr (.inr ⟨rfl, wd_1215, wd_1216, wd_1217, ⟨_, rfl, pd_X8_at⟩, 8, _, TX8, 3, rfl, rfl⟩)⟩
theorem ck_RX11_473_1413 : COK2 RX11 vwCl gTbl 473 0 con_1413 := ⟨wd_1218, wd_131, mh_X8_at, .inr (.inr ⟨rfl, wd_1215, wd_1216, wd_1217, ⟨_, rfl, pd_X8_at⟩, 8, _, TX8, 3, rfl, rfl⟩)⟩
theorem ck_RX11_473_1416 : COK2 RX11 vwCl gTbl 473 0 con_1416 := ⟨wd_1218, wd_131, mh_X8_at, .inr (.inr ⟨rfl, wd_1215, wd_1216, wd_1217, ⟨_, rfl, pd_X8_at⟩, 8, _, TX8, 3, rfl, rfl⟩)⟩
theorem ck_RX11_473_1419 : COK2 RX11 vwCl gTbl 473 0 con_1419 := ⟨wd_1218, wd_131, mh_X8_at, .inr (.inr ⟨rfl, wd_1215, wd_1216, wd_1217, ⟨_, rfl, pd_X8_at⟩, 8, _, TX8, 3, rfl, rfl⟩)⟩
theorem ck_RX11_473_1422 : COK2 RX11 vwCl gTbl 473 0 con_1422 := ⟨wd_1218, wd_131, mh_X8_at, .inr (.inr ⟨rfl, wd_1215, wd_1216, wd_1217, ⟨_, rfl, pd_X8_at⟩, 8, _, TX8, 3, rfl, rfl⟩)⟩
theorem ck_RX11_473_1425 : COK2 RX11 vwCl gTbl 473 0 con_1425 := ⟨wd_1218, wd_131, mh_X8_at, .inr (.inr ⟨rfl, wd_1215, wd_1216, wd_1217, ⟨_, rfl, pd_X8_at⟩, 8, _, TX8, 3, rfl, rfl⟩)⟩
theorem ck_RX11_473_1428 : COK2 RX11 vwCl gTbl 473 0 con_1428 := ⟨wd_1218, wd_131, mh_X8_at, .inr (.inr ⟨rfl, wd_1215, wd_1216, wd_1217, ⟨_, rfl, pd_X8_at⟩, 8, _, TX8, 3, rfl, rfl⟩)⟩
theorem ck_RX11_473_1431 : COK2 RX11 vwCl gTbl 473 0 con_1431 := ⟨wd_1218, wd_131, mh_X8_at, .inr (.inr ⟨rfl, wd_1215, wd_1216, wd_1217, ⟨_, rfl, pd_X8_at⟩, 8, _, TX8, 3, rfl, rfl⟩)⟩
theorem ck_RX11_473_1434 : COK2 RX11 vwCl gTbl 473 0 con_1434 := ⟨wd_1218, wd_131, mh_X8_at, .inr (.inr ⟨rfl, wd_1215, wd_1216, wd_1217, ⟨_, rfl, pd_X8_at⟩, 8, _, TX8, 3, rfl, rfl⟩)⟩
theorem ck_RX11_473_1437 : COK2 RX11 vwCl gTbl 473 0 con_1437 := ⟨wd_1218, wd_131, mh_X8_at, .inr (.inr ⟨rfl, wd_1215, wd_1216, wd_1217, ⟨_, rfl, pd_X8_at⟩, 8, _, TX8, 3, rfl, rfl⟩)⟩
theorem ck_RX11_473_1440 : COK2 RX11 vwCl gTbl 473 0 con_1440 := ⟨wd_1218, wd_131, mh_X8_at, .inr (.inr ⟨rfl, wd_1215, wd_1216, wd_1217, ⟨_, rfl, pd_X8_at⟩, 8, _, TX8, 3, rfl, rfl⟩)⟩
theorem ck_RX11_473_1443 : COK2 RX11 vwCl gTbl 473 0 con_1443 := ⟨wd_1218, wd_131, mh_X8_at, .inr (.inr ⟨rfl, wd_1215, wd_1216, wd_1217, ⟨_, rfl, pd_X8_at⟩, 8, _, TX8, 3, rfl, rfl⟩)⟩
theorem ck_RX11_420_1385 : COK2 RX11 vwCl gTbl 420 0 con_1385 := ⟨wd_1214, wd_131, mh_X8_hasRow, .inr (.inr ⟨rfl, wd_1211, wd_1212, wd_1213, ⟨_, rfl, pd_X8_hasRow⟩, 8, _, TX8, 3, rfl, rfl⟩)⟩
theorem ck_RX11_414_1384 : COK2 RX11 vwCl gTbl 414 1 con_1384 := ⟨wd_1210, wd_131, mh_X8_isSlot, .inl ⟨rfl, wd_1208, wd_1209, pd_X8_isSlot⟩⟩
noncomputable def ct_1446 : CTB2 := [(1, 414, 1, con_1384, []), (9, 139, 0, con_643, [0, 1, 2]), (23, 420, 0, con_1385, [3, 4]), (67, 473, 0, con_1443, [3, 5]), (67, 473, 0, con_1440, [3, 5]), (67, 473, 0, con_1437, [3, 5]), (67, 473, 0, con_1434, [3, 5]), (67, 473, 0, con_1431, [3, 5]), (67, 473, 0, con_1428, [3, 5]), (67, 473, 0, con_1425, [3, 5]), (67, 473, 0, con_1422, [3, 5]), (67, 473, 0, con_1419, [3, 5]), (67, 473, 0, con_1416, [3, 5]), (67, 473, 0, con_1413, [3, 5]), (67, 473, 0, con_1410, [3, 5]), (67, 473, 0, con_1407, [3, 5]), (67, 473, 0, con_1404, [3, 5]), (67, 473, 0, con_1401, [3, 5]), (67, 473, 0, con_1398, [3, 5]), (67, 473, 0, con_1395, [3, 5]), (67, 473, 0, con_1392, [3, 5]), (67, 473, 0, con_1389, [3, 5]), (67, 473, 0, con_1386, [3, 5]), (82, 476, 1, con_1258, []), (97, 473, 0, con_1444, [3, 5]), (97, 473, 0, con_1441, [3, 5]), (97, 473, 0, con_1438, [3, 5]), (97, 473, 0, con_1435, [3, 5]), (97, 473, 0, con_1432, [3, 5]), (97, 473, 0, con_1429, [3, 5]), (97, 473, 0, con_1426, [3, 5]), (97, 473, 0, con_1423, [3, 5]), (97, 473, 0, con_1420, [3, 5]), (97, 473, 0, con_1417, [3, 5]), (97, 473, 0, con_1414, [3, 5]), (97, 473, 0, con_1411, [3, 5]), (97, 473, 0, con_1408, [3, 5]), (97, 473, 0, con_1405, [3, 5]), (97, 473, 0, con_1402, [3, 5]), (97, 473, 0, con_1399, [3, 5]), (97, 473, 0, con_1396, [3, 5]), (97, 473, 0, con_1393, [3, 5]), (97, 473, 0, con_1390, [3, 5]), (97, 473, 0, con_1387, [3, 5]), (110, 476, 1, con_1260, []), (125, 473, 0, con_1445, [3, 5]), (125, 473, 0, con_1442, [3, 5]), (125, 473, 0, con_1439, [3, 5]), (125, 473, 0, con_1436, [3, 5]), (125, 473, 0, con_1433, [3, 5]), (125, 473, 0, con_1430, [3, 5]), (125, 473, 0, con_1427, [3, 5]), (125, 473, 0, con_1424, [3, 5]), (125, 473, 0, con_1421, [3, 5]), (125, 473, 0, con_1418, [3, 5]), (125, 473, 0, con_1415, [3, 5]), (125, 473, 0, con_1412, [3, 5]), (125, 473, 0, con_1409, [3, 5]), (125, 473, 0, con_1406, [3, 5]), (125, 473, 0, con_1403, [3, 5]), (125, 473, 0, con_1400, [3, 5]), (125, 473, 0, con_1397, [3, 5]), (125, 473, 0, con_1394, [3, 5]), (125, 473, 0, con_1391, [3, 5]), (125, 473, 0, con_1388, [3, 5]), (131, 476, 1, con_1262, [])]
noncomputable def gi_1047 : GI := jl_n [jl_z 2, jl_i 0 4, jl_z 19, jl_i 0 16, jl_z 2, jl_i 1 5, jl_z 15, jl_m 0 60, jl_i 0 60, jl_r 2 (jl_m 0 60), jl_r 60 (jl_u), jl_z 5]
noncomputable def gi_1048 : GI := jl_n [jl_z 2, jl_i 0 4, jl_z 19, jl_i 0 16, jl_z 2, jl_i 1 5, jl_z 15, jl_m 0 60, jl_i 1 60, jl_r 2 (jl_m 0 60), jl_i 0 4, jl_i 0 16, jl_i 0 250, jl_r 57 (jl_u), jl_z 5]
noncomputable def gi_1049 : GI := jl_n [jl_z 2, jl_i 0 4, jl_z 19, jl_i 0 16, jl_z 2, jl_i 1 5, jl_z 15, jl_m 0 60, jl_i 4 60, jl_r 2 (jl_m 0 60), jl_i 0 4, jl_i 0 16, jl_i 0 250, jl_i 0 4, jl_i 0 16, jl_i 0 250, jl_r 54 (jl_u), jl_z 5]
noncomputable def gi_1050 : GI := jl_n [jl_z 2, jl_i 0 4, jl_z 19, jl_i 0 16, jl_z 2, jl_i 1 5, jl_z 15, jl_m 0 60, jl_i 7 60, jl_r 2 (jl_m 0 60), jl_i 0 4, jl_i 0 16, jl_i 0 250, jl_i 0 4, jl_i 0 16, jl_i 0 250, jl_i 0 4, jl_i 0 16, jl_i 0 250, jl_r 51 (jl_u), jl_z 5]
noncomputable def gi_1051 : GI := jl_n [jl_z 2, jl_i 0 4, jl_z 19, jl_i 0 16, jl_z 2, jl_i 1 5, jl_z 15, jl_m 0 60, jl_i 10 60, jl_r 2 (jl_m 0 60), jl_i 0 4, jl_i 0 16, jl_i 0 250, jl_i 0 4, jl_i 0 16, jl_i 0 250, jl_i 0 4, jl_i 0 16, jl_i 0 250, jl_i 0 4, jl_i 0 16, jl_i 0 250, jl_r 48 (jl_u), jl_z 5]
noncomputable def gi_1052 : GI := jl_n [jl_z 2, jl_i 0 4, jl_z 19, jl_i 0 16, jl_z 2, jl_i 1 5, jl_z 15, jl_m 0 60, jl_i 13 60, jl_r 2 (jl_m 0 60), jl_i 0 4, jl_i 0 16, jl_i 0 250, jl_i 0 4, jl_i 0 16, jl_i 0 250, jl_i 0 4, jl_i 0 16, jl_i 0 250, jl_i 0 4, jl_i 0 16, jl_i 0 250, jl_i 0 4, jl_i 0 16, jl_i 0 250, jl_r 45 (jl_u), jl_z 5]
noncomputable def gi_1053 : GI := jl_n [jl_z 2, jl_i 0 4, jl_z 19, jl_i 0 16, jl_z 2, jl_i 1 5, jl_z 15, jl_m 0 60, jl_i 16 60, jl_r 2 (jl_m 0 60), jl_i 0 4, jl_i 0 16, jl_i 0 250, jl_i 0 4, jl_i 0 16, jl_i 0 250, jl_i 0 4, jl_i 0 16, jl_i 0 250, jl_i 0 4, jl_i 0 16, jl_i 0 250, jl_i 0 4, jl_i 0 16, jl_i 0 250, jl_i 0 4, jl_i 0 16, jl_i 0 250, jl_r 42 (jl_u), jl_z 5]
noncomputable def gi_1054 : GI := jl_n [jl_z 2, jl_i 0 4, jl_z 19, jl_i 0 16, jl_z 2, jl_i 1 5, jl_z 15, jl_m 0 60, jl_i 19 60, jl_r 2 (jl_m 0 60), jl_i 0 4, jl_i 0 16, jl_i 0 250, jl_i 0 4, jl_i 0 16, jl_i 0 250, jl_i 0 4, jl_i 0 16, jl_i 0 250, jl_i 0 4, jl_i 0 16, jl_i 0 250, jl_i 0 4, jl_i 0 16, jl_i 0 250, jl_i 0 4, jl_i 0 16, jl_i 0 250, jl_i 0 4, jl_i 0 16, jl_i 0 250, jl_r 39 (jl_u), jl_z 5]
noncomputable def gi_1055 : GI := jl_n [jl_z 2, jl_i 0 4, jl_z 19, jl_i 0 16, jl_z 2, jl_i 1 5, jl_z 15, jl_m 0 60, jl_i 22 60, jl_r 2 (jl_m 0 60), jl_i 0 4, jl_i 0 16, jl_i 0 250, jl_i 0 4, jl_i 0 16, jl_i 0 250, jl_i 0 4, jl_i 0 16, jl_i 0 250, jl_i 0 4, jl_i 0 16, jl_i 0 250, jl_i 0 4, jl_i 0 16, jl_i 0 250, jl_i 0 4, jl_i 0 16, jl_i 0 250, jl_i 0 4, jl_i 0 16, jl_i 0 250, jl_i 0 4, jl_i 0 16, jl_i 0 250, jl_r 36 (jl_u), jl_z 5]
noncomputable def gi_1056 : GI := jl_n [jl_z 2, jl_i 0 4, jl_z 19, jl_i 0 16, jl_z 2, jl_i 1 5, jl_z 15, jl_m 0 60, jl_i 25 60, jl_r 2 (jl_m 0 60), jl_i 0 4, jl_i 0 16, jl_i 0 250, jl_i 0 4, jl_i 0 16, jl_i 0 250, jl_i 0 4, jl_i 0 16, jl_i 0 250, jl_i 0 4, jl_i 0 16, jl_i 0 250, jl_i 0 4, jl_i 0 16, jl_i 0 250, jl_i 0 4, jl_i 0 16, jl_i 0 250, jl_i 0 4, jl_i 0 16, jl_i 0 250, jl_i 0 4, jl_i 0 16, jl_i 0 250, jl_i 0 4, jl_i 0 16, jl_i 0 250, jl_r 33 (jl_u), jl_z 5]
noncomputable def gi_1057 : GI := jl_n [jl_z 2, jl_i 0 4, jl_z 19, jl_i 0 16, jl_z 2, jl_i 1 5, jl_z 15, jl_m 0 60, jl_i 28 60, jl_r 2 (jl_m 0 60), jl_i 0 4, jl_i 0 16, jl_i 0 250, jl_i 0 4, jl_i 0 16, jl_i 0 250, jl_i 0 4, jl_i 0 16, jl_i 0 250, jl_i 0 4, jl_i 0 16, jl_i 0 250, jl_i 0 4, jl_i 0 16, jl_i 0 250, jl_i 0 4, jl_i 0 16, jl_i 0 250, jl_i 0 4, jl_i 0 16, jl_i 0 250, jl_i 0 4, jl_i 0 16, jl_i 0 250, jl_i 0 4, jl_i 0 16, jl_i 0 250, jl_i 0 4, jl_i 0 16, jl_i 0 250, jl_r 30 (jl_u), jl_z 5]
noncomputable def gi_1058 : GI := jl_n [jl_z 2, jl_i 0 4, jl_z 19, jl_i 0 16, jl_z 2, jl_i 1 5, jl_z 15, jl_m 0 60, jl_i 31 60, jl_r 2 (jl_m 0 60), jl_i 0 4, jl_i 0 16, jl_i 0 250, jl_i 0 4, jl_i 0 16, jl_i 0 250, jl_i 0 4, jl_i 0 16, jl_i 0 250, jl_i 0 4, jl_i 0 16, jl_i 0 250, jl_i 0 4, jl_i 0 16, jl_i 0 250, jl_i 0 4, jl_i 0 16, jl_i 0 250, jl_i 0 4, jl_i 0 16, jl_i 0 250, jl_i 0 4, jl_i 0 16, jl_i 0 250, jl_i 0 4, jl_i 0 16, jl_i 0 250, jl_i 0 4, jl_i 0 16, jl_i 0 250, jl_i 0 4, jl_i 0 16, jl_i 0 250, jl_r 27 (jl_u), jl_z 5]
noncomputable def gi_1059 : GI := jl_n [jl_z 2, jl_i 0 4, jl_z 19, jl_i 0 16, jl_z 2, jl_i 1 5, jl_z 15, jl_m 0 60, jl_i 34 60, jl_r 2 (jl_m 0 60), jl_i 0 4, jl_i 0 16, jl_i 0 250, jl_i 0 4, jl_i 0 16, jl_i 0 250, jl_i 0 4, jl_i 0 16, jl_i 0 250, jl_i 0 4, jl_i 0 16, jl_i 0 250, jl_i 0 4, jl_i 0 16, jl_i 0 250, jl_i 0 4, jl_i 0 16, jl_i 0 250, jl_i 0 4, jl_i 0 16, jl_i 0 250, jl_i 0 4, jl_i 0 16, jl_i 0 250, jl_i 0 4, jl_i 0 16, jl_i 0 250, jl_i 0 4, jl_i 0 16, jl_i 0 250, jl_i 0 4, jl_i 0 16, jl_i 0 250, jl_i 0 4, jl_i 0 16, jl_i 0 250, jl_r 24 (jl_u), jl_z 5]
noncomputable def gi_1060 : GI := jl_n [jl_z 2, jl_i 0 4, jl_z 19, jl_i 0 16, jl_z 2, jl_i 1 5, jl_z 15, jl_m 0 60, jl_i 37 60, jl_r 2 (jl_m 0 60), jl_i 0 4, jl_i 0 16, jl_i 0 250, jl_i 0 4, jl_i 0 16, jl_i 0 250, jl_i 0 4, jl_i 0 16, jl_i 0 250, jl_i 0 4, jl_i 0 16, jl_i 0 250, jl_i 0 4, jl_i 0 16, jl_i 0 250, jl_i 0 4, jl_i 0 16, jl_i 0 250, jl_i 0 4, jl_i 0 16, jl_i 0 250, jl_i 0 4, jl_i 0 16, jl_i 0 250, jl_i 0 4, jl_i 0 16, jl_i 0 250, jl_i 0 4, jl_i 0 16, jl_i 0 250, jl_i 0 4, jl_i 0 16, jl_i 0 250, jl_i 0 4, jl_i 0 16, jl_i 0 250, jl_i 0 4, jl_i 0 16, jl_i 0 250, jl_r 21 (jl_u), jl_z 5]
noncomputable def gi_1061 : GI := jl_n [jl_z 2, jl_i 0 4, jl_z 19, jl_i 0 16, jl_z 2, jl_i 1 5, jl_z 15, jl_m 0 60, jl_i 40 60, jl_r 2 (jl_m 0 60), jl_i 0 4, jl_i 0 16, jl_i 0 250, jl_i 0 4, jl_i 0 16, jl_i 0 250, jl_i 0 4, jl_i 0 16, jl_i 0 250, jl_i 0 4, jl_i 0 16, jl_i 0 250, jl_i 0 4, jl_i 0 16, jl_i 0 250, jl_i 0 4, jl_i 0 16, jl_i 0 250, jl_i 0 4, jl_i 0 16, jl_i 0 250, jl_i 0 4, jl_i 0 16, jl_i 0 250, jl_i 0 4, jl_i 0 16, jl_i 0 250, jl_i 0 4, jl_i 0 16, jl_i 0 250, jl_i 0 4, jl_i 0 16, jl_i 0 250, jl_i 0 4, jl_i 0 16, jl_i 0 250, jl_i 0 4, jl_i 0 16, jl_i 0 250, jl_i 0 4, jl_i 0 16, jl_i 0 250, jl_r 18 (jl_u), jl_z 5]
noncomputable def gi_1062 : GI := jl_n [jl_z 2, jl_i 0 4, jl_z 19, jl_i 0 16, jl_z 2, jl_i 1 5, jl_z 15, jl_m 0 60, jl_i 43 60, jl_r 2 (jl_m 0 60), jl_i 0 4, jl_i 0 16, jl_i 0 250, jl_i 0 4, jl_i 0 16, jl_i 0 250, jl_i 0 4, jl_i 0 16, jl_i 0 250, jl_i 0 4, jl_i 0 16, jl_i 0 250, jl_i 0 4, jl_i 0 16, jl_i 0 250, jl_i 0 4, jl_i 0 16, jl_i 0 250, jl_i 0 4, jl_i 0 16, jl_i 0 250, jl_i 0 4, jl_i 0 16, jl_i 0 250, jl_i 0 4, jl_i 0 16, jl_i 0 250, jl_i 0 4, jl_i 0 16, jl_i 0 250, jl_i 0 4, jl_i 0 16, jl_i 0 250, jl_i 0 4, jl_i 0 16, jl_i 0 250, jl_i 0 4, jl_i 0 16, jl_i 0 250, jl_i 0 4, jl_i 0 16, jl_i 0 250, jl_i 0 4, jl_i 0 16, jl_i 0 250, jl_r 15 (jl_u), jl_z 5]
noncomputable def gi_1063 : GI := jl_n [jl_z 2, jl_i 0 4, jl_z 19, jl_i 0 16, jl_z 2, jl_i 1 5, jl_z 15, jl_m 0 60, jl_i 46 60, jl_r 2 (jl_m 0 60), jl_i 0 4, jl_i 0 16, jl_i 0 250, jl_i 0 4, jl_i 0 16, jl_i 0 250, jl_i 0 4, jl_i 0 16, jl_i 0 250, jl_i 0 4, jl_i 0 16, jl_i 0 250, jl_i 0 4, jl_i 0 16, jl_i 0 250, jl_i 0 4, jl_i 0 16, jl_i 0 250, jl_i 0 4, jl_i 0 16, jl_i 0 250, jl_i 0 4, jl_i 0 16, jl_i 0 250, jl_i 0 4, jl_i 0 16, jl_i 0 250, jl_i 0 4, jl_i 0 16, jl_i 0 250, jl_i 0 4, jl_i 0 16, jl_i 0 250, jl_i 0 4, jl_i 0 16, jl_i 0 250, jl_i 0 4, jl_i 0 16, jl_i 0 250, jl_i 0 4, jl_i 0 16, jl_i 0 250, jl_i 0 4, jl_i 0 16, jl_i 0 250, jl_i 0 4, jl_i 0 16, jl_i 0 250, jl_r 12 (jl_u), jl_z 5]
noncomputable def gi_1064 : GI := jl_n [jl_z 2, jl_i 0 4, jl_z 19, jl_i 0 16, jl_z 2, jl_i 1 5, jl_z 15, jl_m 0 60, jl_i 49 60, jl_r 2 (jl_m 0 60), jl_i 0 4, jl_i 0 16, jl_i 0 250, jl_i 0 4, jl_i 0 16, jl_i 0 250, jl_i 0 4, jl_i 0 16, jl_i 0 250, jl_i 0 4, jl_i 0 16, jl_i 0 250, jl_i 0 4, jl_i 0 16, jl_i 0 250, jl_i 0 4, jl_i 0 16, jl_i 0 250, jl_i 0 4, jl_i 0 16, jl_i 0 250, jl_i 0 4, jl_i 0 16, jl_i 0 250, jl_i 0 4, jl_i 0 16, jl_i 0 250, jl_i 0 4, jl_i 0 16, jl_i 0 250, jl_i 0 4, jl_i 0 16, jl_i 0 250, jl_i 0 4, jl_i 0 16, jl_i 0 250, jl_i 0 4, jl_i 0 16, jl_i 0 250, jl_i 0 4, jl_i 0 16, jl_i 0 250, jl_i 0 4, jl_i 0 16, jl_i 0 250, jl_i 0 4, jl_i 0 16, jl_i 0 250, jl_i 0 4, jl_i 0 16, jl_i 0 250, jl_r 9 (jl_u), jl_z 5]
noncomputable def gi_1065 : GI := jl_n [jl_z 2, jl_i 0 4, jl_z 19, jl_i 0 16, jl_z 2, jl_i 1 5, jl_z 15, jl_m 0 60, jl_i 52 60, jl_r 2 (jl_m 0 60), jl_i 0 4, jl_i 0 16, jl_i 0 250, jl_i 0 4, jl_i 0 16, jl_i 0 250, jl_i 0 4, jl_i 0 16, jl_i 0 250, jl_i 0 4, jl_i 0 16, jl_i 0 250, jl_i 0 4, jl_i 0 16, jl_i 0 250, jl_i 0 4, jl_i 0 16, jl_i 0 250, jl_i 0 4, jl_i 0 16, jl_i 0 250, jl_i 0 4, jl_i 0 16, jl_i 0 250, jl_i 0 4, jl_i 0 16, jl_i 0 250, jl_i 0 4, jl_i 0 16, jl_i 0 250, jl_i 0 4, jl_i 0 16, jl_i 0 250, jl_i 0 4, jl_i 0 16, jl_i 0 250, jl_i 0 4, jl_i 0 16, jl_i 0 250, jl_i 0 4, jl_i 0 16, jl_i 0 250, jl_i 0 4, jl_i 0 16, jl_i 0 250, jl_i 0 4, jl_i 0 16, jl_i 0 250, jl_i 0 4, jl_i 0 16, jl_i 0 250, jl_i 0 4, jl_i 0 16, jl_i 0 250, jl_r 6 (jl_u), jl_z 5]
noncomputable def gi_1066 : GI := jl_n [jl_z 2, jl_i 0 4, jl_z 19, jl_i 0 16, jl_z 2, jl_i 1 5, jl_z 15, jl_m 0 60, jl_i 55 60, jl_r 2 (jl_m 0 60), jl_i 0 4, jl_i 0 16, jl_i 0 250, jl_i 0 4, jl_i 0 16, jl_i 0 250, jl_i 0 4, jl_i 0 16, jl_i 0 250, jl_i 0 4, jl_i 0 16, jl_i 0 250, jl_i 0 4, jl_i 0 16, jl_i 0 250, jl_i 0 4, jl_i 0 16, jl_i 0 250, jl_i 0 4, jl_i 0 16, jl_i 0 250, jl_i 0 4, jl_i 0 16, jl_i 0 250, jl_i 0 4, jl_i 0 16, jl_i 0 250, jl_i 0 4, jl_i 0 16, jl_i 0 250, jl_i 0 4, jl_i 0 16, jl_i 0 250, jl_i 0 4, jl_i 0 16, jl_i 0 250, jl_i 0 4, jl_i 0 16, jl_i 0 250, jl_i 0 4, jl_i 0 16, jl_i 0 250, jl_i 0 4, jl_i 0 16, jl_i 0 250, jl_i 0 4, jl_i 0 16, jl_i 0 250, jl_i 0 4, jl_i 0 16, jl_i 0 250, jl_i 0 4, jl_i 0 16, jl_i 0 250, jl_i 0 4, jl_i 0 16, jl_i 0 250, jl_r 3 (jl_u), jl_z 5]
noncomputable def gi_1067 : GI := jl_n [jl_z 2, jl_i 0 4, jl_z 19, jl_i 0 16, jl_z 2, jl_i 1 5, jl_z 15, jl_m 0 60, jl_i 58 60, jl_r 2 (jl_m 0 60), jl_i 0 4, jl_i 0 16, jl_i 0 250, jl_i 0 4, jl_i 0 16, jl_i 0 250, jl_i 0 4, jl_i 0 16, jl_i 0 250, jl_i 0 4, jl_i 0 16, jl_i 0 250, jl_i 0 4, jl_i 0 16, jl_i 0 250, jl_i 0 4, jl_i 0 16, jl_i 0 250, jl_i 0 4, jl_i 0 16, jl_i 0 250, jl_i 0 4, jl_i 0 16, jl_i 0 250, jl_i 0 4, jl_i 0 16, jl_i 0 250, jl_i 0 4, jl_i 0 16, jl_i 0 250, jl_i 0 4, jl_i 0 16, jl_i 0 250, jl_i 0 4, jl_i 0 16, jl_i 0 250, jl_i 0 4, jl_i 0 16, jl_i 0 250, jl_i 0 4, jl_i 0 16, jl_i 0 250, jl_i 0 4, jl_i 0 16, jl_i 0 250, jl_i 0 4, jl_i 0 16, jl_i 0 250, jl_i 0 4, jl_i 0 16, jl_i 0 250, jl_i 0 4, jl_i 0 16, jl_i 0 250, jl_i 0 4, jl_i 0 16, jl_i 0 250, jl_i 0 4, jl_i 0 16, jl_i 0 250, jl_z 5]
noncomputable def cu_1446_0 : List CUT2 := [((54, [(0, (6, 0, 0)), (1, (0, 1, 0)), (2, (1, 2, 0)), (3, (1, 42, 0)), (4, (0, 0, 0))], [], gi_1047, hq_823), [], ([], 60)), ((54, [(0, (6, 0, 0)), (1, (0, 1, 0)), (2, (1, 2, 0)), (3, (1, 42, 0)), (4, (0, 3, 0))], [], gi_1048, hq_823), [], ([], 57)), ((54, [(0, (6, 0, 0)), (1, (0, 1, 0)), (2, (1, 2, 0)), (3, (1, 42, 0)), (4, (0, 6, 0))], [], gi_1049, hq_823), [], ([], 54)), ((54, [(0, (6, 0, 0)), (1, (0, 1, 0)), (2, (1, 2, 0)), (3, (1, 42, 0)), (4, (0, 9, 0))], [], gi_1050, hq_823), [], ([], 51)), ((54, [(0, (6, 0, 0)), (1, (0, 1, 0)), (2, (1, 2, 0)), (3, (1, 42, 0)), (4, (0, 12, 0))], [], gi_1051, hq_823), [], ([], 48)), ((54, [(0, (6, 0, 0)), (1, (0, 1, 0)), (2, (1, 2, 0)), (3, (1, 42, 0)), (4, (0, 15, 0))], [], gi_1052, hq_823), [], ([], 45)), ((54, [(0, (6, 0, 0)), (1, (0, 1, 0)), (2, (1, 2, 0)), (3, (1, 42, 0)), (4, (0, 18, 0))], [], gi_1053, hq_823), [], ([], 42)), ((54, [(0, (6, 0, 0)), (1, (0, 1, 0)), (2, (1, 2, 0)), (3, (1, 42, 0)), (4, (0, 21, 0))], [], gi_1054, hq_823), [], ([], 39)), ((54, [(0, (6, 0, 0)), (1, (0, 1, 0)), (2, (1, 2, 0)), (3, (1, 42, 0)), (4, (0, 24, 0))], [], gi_1055, hq_823), [], ([], 36)), ((54, [(0, (6, 0, 0)), (1, (0, 1, 0)), (2, (1, 2, 0)), (3, (1, 42, 0)), (4, (0, 27, 0))], [], gi_1056, hq_823), [], ([], 33)), ((54, [(0, (6, 0, 0)), (1, (0, 1, 0)), (2, (1, 2, 0)), (3, (1, 42, 0)), (4, (0, 30, 0))], [], gi_1057, hq_823), [], ([], 30)), ((54, [(0, (6, 0, 0)), (1, (0, 1, 0)), (2, (1, 2, 0)), (3, (1, 42, 0)), (4, (0, 33, 0))], [], gi_1058, hq_823), [], ([], 27)), ((54, [(0, (6, 0, 0)), (1, (0, 1, 0)), (2, (1, 2, 0)), (3, (1, 42, 0)), (4, (0, 36, 0))], [], gi_1059, hq_823), [], ([], 24))]
noncomputable def cu_1446_1 : List CUT2 := [((54, [(0, (6, 0, 0)), (1, (0, 1, 0)), (2, (1, 2, 0)), (3, (1, 42, 0)), (4, (0, 39, 0))], [], gi_1060, hq_823), [], ([], 21)), ((54, [(0, (6, 0, 0)), (1, (0, 1, 0)), (2, (1, 2, 0)), (3, (1, 42, 0)), (4, (0, 42, 0))], [], gi_1061, hq_823), [], ([], 18)), ((54, [(0, (6, 0, 0)), (1, (0, 1, 0)), (2, (1, 2, 0)), (3, (1, 42, 0)), (4, (0, 45, 0))], [], gi_1062, hq_823), [], ([], 15)), ((54, [(0, (6, 0, 0)), (1, (0, 1, 0)), (2, (1, 2, 0)), (3, (1, 42, 0)), (4, (0, 48, 0))], [], gi_1063, hq_823), [], ([], 12)), ((54, [(0, (6, 0, 0)), (1, (0, 1, 0)), (2, (1, 2, 0)), (3, (1, 42, 0)), (4, (0, 51, 0))], [], gi_1064, hq_823), [], ([], 9)), ((54, [(0, (6, 0, 0)), (1, (0, 1, 0)), (2, (1, 2, 0)), (3, (1, 42, 0)), (4, (0, 54, 0))], [], gi_1065, hq_823), [], ([], 6)), ((54, [(0, (6, 0, 0)), (1, (0, 1, 0)), (2, (1, 2, 0)), (3, (1, 42, 0)), (4, (0, 57, 0))], [], gi_1066, hq_823), [], ([], 3)), ((54, [(0, (6, 0, 0)), (1, (0, 1, 0)), (2, (1, 2, 0)), (3, (1, 42, 0)), (4, (0, 60, 0))], [], gi_1067, hq_823), [], ([], 0))]
noncomputable def cu_1446 : List CUT2 := cu_1446_0 ++ (cu_1446_1)
theorem ch_1446 : staG tb_X11_wrongSeen 1 bt_RX11 [] ct_1446 [] [] cu_1446 44 con_1446 = true := by decide +kernel
theorem cc_1446_0 : cu_1446_0.all (cutG tb_X11_wrongSeen 1 bt_RX11 [] ct_1446 [] [] cu_1446 44 con_1446) = true := by decide +kernel
theorem cc_1446_1 : cu_1446_1.all (cutG tb_X11_wrongSeen 1 bt_RX11 [] ct_1446 [] [] cu_1446 44 con_1446) = true := by decide +kernel
theorem cto_1446 (l : Launch) : CTOK2 l RX11 vwCl gTbl ct_1446 := ct2_cons (vl_1384 l) ck_RX11_414_1384 (ct2_cons (vl_643 l) ck_RX11_139_643 (ct2_cons (vl_1385 l) ck_RX11_420_1385 (ct2_cons (vl_1443 l) ck_RX11_473_1443 (ct2_cons (vl_1440 l) ck_RX11_473_1440 (ct2_cons (vl_1437 l) ck_RX11_473_1437 (ct2_cons (vl_1434 l) ck_RX11_473_1434 (ct2_cons (vl_1431 l) ck_RX11_473_1431 (ct2_cons (vl_1428 l) ck_RX11_473_1428 (ct2_cons (vl_1425 l) ck_RX11_473_1425 (ct2_cons (vl_1422 l) ck_RX11_473_1422 (ct2_cons (vl_1419 l) ck_RX11_473_1419 (ct2_cons (vl_1416 l) ck_RX11_473_1416 (ct2_cons (vl_1413 l) ck_RX11_473_1413 (ct2_cons (vl_1410 l) ck_RX11_473_1410 (ct2_cons (vl_1407 l) ck_RX11_473_1407 (ct2_cons (vl_1404 l) ck_RX11_473_1404 (ct2_cons (vl_1401 l) ck_RX11_473_1401 (ct2_cons (vl_1398 l) ck_RX11_473_1398 (ct2_cons (vl_1395 l) ck_RX11_473_1395 (ct2_cons (vl_1392 l) ck_RX11_473_1392 (ct2_cons (vl_1389 l) ck_RX11_473_1389 (ct2_cons (vl_1386 l) ck_RX11_473_1386 (ct2_cons (vl_1258 l) ck_RX11_476_1258 (ct2_cons (vl_1444 l) ck_RX11_473_1444 (ct2_cons (vl_1441 l) ck_RX11_473_1441 (ct2_cons (vl_1438 l) ck_RX11_473_1438 (ct2_cons (vl_1435 l) ck_RX11_473_1435 (ct2_cons (vl_1432 l) ck_RX11_473_1432 (ct2_cons (vl_1429 l) ck_RX11_473_1429 (ct2_cons (vl_1426 l) ck_RX11_473_1426 (ct2_cons (vl_1423 l) ck_RX11_473_1423 (ct2_cons (vl_1420 l) ck_RX11_473_1420 (ct2_cons (vl_1417 l) ck_RX11_473_1417 (ct2_cons (vl_1414 l) ck_RX11_473_1414 (ct2_cons (vl_1411 l) ck_RX11_473_1411 (ct2_cons (vl_1408 l) ck_RX11_473_1408 (ct2_cons (vl_1405 l) ck_RX11_473_1405 (ct2_cons (vl_1402 l) ck_RX11_473_1402 (ct2_cons (vl_1399 l) ck_RX11_473_1399 (ct2_cons (vl_1396 l) ck_RX11_473_1396 (ct2_cons (vl_1393 l) ck_RX11_473_1393 (ct2_cons (vl_1390 l) ck_RX11_473_1390 (ct2_cons (vl_1387 l) ck_RX11_473_1387 (ct2_cons (vl_1260 l) ck_RX11_476_1260 (ct2_cons (vl_1445 l) ck_RX11_473_1445 (ct2_cons (vl_1442 l) ck_RX11_473_1442 (ct2_cons (vl_1439 l) ck_RX11_473_1439 (ct2_cons (vl_1436 l) ck_RX11_473_1436 (ct2_cons (vl_1433 l) ck_RX11_473_1433 (ct2_cons (vl_1430 l) ck_RX11_473_1430 (ct2_cons (vl_1427 l) ck_RX11_473_1427 (ct2_cons (vl_1424 l) ck_RX11_473_1424 (ct2_cons (vl_1421 l) ck_RX11_473_1421 (ct2_cons (vl_1418 l) ck_RX11_473_1418 (ct2_cons (vl_1415 l) ck_RX11_473_1415 (ct2_cons (vl_1412 l) ck_RX11_473_1412 (ct2_cons (vl_1409 l) ck_RX11_473_1409 (ct2_cons (vl_1406 l) ck_RX11_473_1406 (ct2_cons (vl_1403 l) ck_RX11_473_1403 (ct2_cons (vl_1400 l) ck_RX11_473_1400 (ct2_cons (vl_1397 l) ck_RX11_473_1397 (ct2_cons (vl_1394 l) ck_RX11_473_1394 (ct2_cons (vl_1391 l) ck_RX11_473_1391 (ct2_cons (vl_1388 l) ck_RX11_473_1388 (ct2_cons (vl_1262 l) ck_RX11_476_1262 (ct2_nil))))))))))))))))))))))))))))))))))))))))))))))))))))))))))))))))))
theorem vl_1446 (l : Launch) : Vld2 l vwCl gTbl con_1446 := conR_ok3 gT_all (hd_1446) rfl pn_RX11 tk_X11_wrongSeen bo_RX11 xo_RX11 (cto_1446 l) ch_1446 (cut_app (cut_all cc_1446_0) (cut_all cc_1446_1))
/-- RookHusting$Slots isSlot -/
noncomputable def con_1447 : Con2 := ((yX8_isSlot, cX8_isSlot, 1, (some .boolean)), (0, 0), ([(0, 0, 0)], [(0, 0)], [], []), [((0, 1, 0), [(0, 0), (0, 0)], [], [], [1])])
theorem hd_1447 : con_1447.1 = (yX8_isSlot, cX8_isSlot, 1, (some .boolean)) := rfl
noncomputable def ct_1447 : CTB2 := []
noncomputable def cu_1447 : List CUT2 := []
theorem ch_1447 : staG tb_X8_isSlot 1 bt_RX8 [] ct_1447 [] [] cu_1447 10 con_1447 = true := by decide +kernel
theorem cto_1447 (l : Launch) : CTOK2 l RX8 vwCl gTbl ct_1447 := ct2_nil
theorem vl_1447 (l : Launch) : Vld2 l vwCl gTbl con_1447 := conR_ok3 gT_all (hd_1447) rfl pn_RX8 tk_X8_isSlot bo_RX8 xo_RX8 (cto_1447 l) ch_1447 cut_nil
/-- RookHusting$Slots hasRow -/
noncomputable def gi_1068 : GI := jl_n [jl_z 5, jl_k 0 0, jl_r 3 (jl_m 0 60), jl_z 1]
noncomputable def gi_1069 : GI := jl_n [jl_z 5, jl_i 0 60, jl_r 3 (jl_m 0 60), jl_z 1]
noncomputable def con_1448 : Con2 := ((yX8_hasRow, cX8_hasRow, 2, (some .boolean)), (0, 0), ([(6, 0, 0), (0, 0, 0)], gi_925, [.inl (8, [(8, 2, 0), (8, 3, 0), (6, 1, 0)]), ac_808], []), [((0, 0, 0), gi_1068, hq_640, [], [1]), ((0, 1, 0), gi_1069, hq_640, [], [1])])
theorem hd_1448 : con_1448.1 = (yX8_hasRow, cX8_hasRow, 2, (some .boolean)) := rfl
noncomputable def ct_1448 : CTB2 := []
noncomputable def cu_1448 : List CUT2 := []
theorem ch_1448 : staG tb_X8_hasRow 1 bt_RX8 [] ct_1448 [] [] cu_1448 11 con_1448 = true := by decide +kernel
theorem cto_1448 (l : Launch) : CTOK2 l RX8 vwCl gTbl ct_1448 := ct2_nil
theorem vl_1448 (l : Launch) : Vld2 l vwCl gTbl con_1448 := conR_ok3 gT_all (hd_1448) rfl pn_RX8 tk_X8_hasRow bo_RX8 xo_RX8 (cto_1448 l) ch_1448 cut_nil
/-- RookHusting$Slots at -/
noncomputable def ac_992 : AC := .inr (2, jl_n [js_4 7 1, js_5 239 9223372036854775807 9223372036854775807])
noncomputable def hq_824 : HP := [(false, .inl (8, [(6, 1, 0), (8, 4, 0), (8, 5, 0)])), (false, ac_992)]
noncomputable def con_1449 : Con2 := ((yX8_at, cX8_at, 3, (some .long)), (0, 0), ([(6, 0, 0), (0, 0, 0), (0, 0, 0)], gi_928, [.inl (8, [(6, 1, 0), (8, 4, 0), (8, 5, 0)]), ac_992], []), [((4, 6, 0), gi_929, hq_824, [], [1])])
theorem hd_1449 : con_1449.1 = (yX8_at, cX8_at, 3, (some .long)) := rfl
noncomputable def ct_1449 : CTB2 := []
noncomputable def cu_1449 : List CUT2 := []
theorem ch_1449 : staG tb_X8_at 1 bt_RX8 [] ct_1449 [] [] cu_1449 11 con_1449 = true := by decide +kernel
theorem cto_1449 (l : Launch) : CTOK2 l RX8 vwCl gTbl ct_1449 := ct2_nil
theorem vl_1449 (l : Launch) : Vld2 l vwCl gTbl con_1449 := conR_ok3 gT_all (hd_1449) rfl pn_RX8 tk_X8_at bo_RX8 xo_RX8 (cto_1449 l) ch_1449 cut_nil
/-- RookHusting$Slots at -/
noncomputable def gi_1070 : GI := jl_n [jl_z 7, jl_u]
noncomputable def ac_993 : AC := .inr (2, jl_n [js_5 1 9223372036854775807 9223372036854775807, js_4 8 1, js_5 238 9223372036854775807 9223372036854775807])
noncomputable def gi_1071 : GI := jl_n [jl_z 7, jl_u, jl_z 1]
noncomputable def hq_825 : HP := [(false, .inl (8, [(6, 1, 0), (8, 4, 0), (8, 5, 0)])), (false, ac_993)]
noncomputable def con_1450 : Con2 := ((yX8_at, cX8_at, 3, (some .long)), (0, 0), ([(6, 0, 0), (0, 0, 0), (0, 1, 0)], gi_1070, [.inl (8, [(6, 1, 0), (8, 4, 0), (8, 5, 0)]), ac_993], []), [((4, 7, 0), gi_1071, hq_825, [], [1])])
theorem hd_1450 : con_1450.1 = (yX8_at, cX8_at, 3, (some .long)) := rfl
noncomputable def ct_1450 : CTB2 := []
noncomputable def cu_1450 : List CUT2 := []
theorem ch_1450 : staG tb_X8_at 1 bt_RX8 [] ct_1450 [] [] cu_1450 11 con_1450 = true := by decide +kernel
theorem cto_1450 (l : Launch) : CTOK2 l RX8 vwCl gTbl ct_1450 := ct2_nil
theorem vl_1450 (l : Launch) : Vld2 l vwCl gTbl con_1450 := conR_ok3 gT_all (hd_1450) rfl pn_RX8 tk_X8_at bo_RX8 xo_RX8 (cto_1450 l) ch_1450 cut_nil
/-- RookHusting$Slots at -/
noncomputable def ac_994 : AC := .inr (2, jl_n [js_5 2 9223372036854775807 9223372036854775807, js_4 7 1, js_5 237 9223372036854775807 9223372036854775807])
noncomputable def hq_826 : HP := [(false, .inl (8, [(6, 1, 0), (8, 4, 0), (8, 5, 0)])), (false, ac_994)]
noncomputable def con_1451 : Con2 := ((yX8_at, cX8_at, 3, (some .long)), (0, 0), ([(6, 0, 0), (0, 0, 0), (0, 2, 0)], gi_928, [.inl (8, [(6, 1, 0), (8, 4, 0), (8, 5, 0)]), ac_994], []), [((4, 6, 0), gi_929, hq_826, [], [1])])
theorem hd_1451 : con_1451.1 = (yX8_at, cX8_at, 3, (some .long)) := rfl
noncomputable def ct_1451 : CTB2 := []
noncomputable def cu_1451 : List CUT2 := []
theorem ch_1451 : staG tb_X8_at 1 bt_RX8 [] ct_1451 [] [] cu_1451 11 con_1451 = true := by decide +kernel
theorem cto_1451 (l : Launch) : CTOK2 l RX8 vwCl gTbl ct_1451 := ct2_nil
theorem vl_1451 (l : Launch) : Vld2 l vwCl gTbl con_1451 := conR_ok3 gT_all (hd_1451) rfl pn_RX8 tk_X8_at bo_RX8 xo_RX8 (cto_1451 l) ch_1451 cut_nil
/-- RookHusting$Slots at -/
noncomputable def ac_995 : AC := .inr (2, jl_n [js_5 3 9223372036854775807 9223372036854775807, js_4 7 1, js_5 236 9223372036854775807 9223372036854775807])
noncomputable def hq_827 : HP := [(false, .inl (8, [(6, 1, 0), (8, 4, 0), (8, 5, 0)])), (false, ac_995)]
noncomputable def con_1452 : Con2 := ((yX8_at, cX8_at, 3, (some .long)), (0, 0), ([(6, 0, 0), (0, 0, 0), (0, 3, 0)], gi_928, [.inl (8, [(6, 1, 0), (8, 4, 0), (8, 5, 0)]), ac_995], []), [((4, 6, 0), gi_929, hq_827, [], [1])])
theorem hd_1452 : con_1452.1 = (yX8_at, cX8_at, 3, (some .long)) := rfl
noncomputable def ct_1452 : CTB2 := []
noncomputable def cu_1452 : List CUT2 := []
theorem ch_1452 : staG tb_X8_at 1 bt_RX8 [] ct_1452 [] [] cu_1452 11 con_1452 = true := by decide +kernel
theorem cto_1452 (l : Launch) : CTOK2 l RX8 vwCl gTbl ct_1452 := ct2_nil
theorem vl_1452 (l : Launch) : Vld2 l vwCl gTbl con_1452 := conR_ok3 gT_all (hd_1452) rfl pn_RX8 tk_X8_at bo_RX8 xo_RX8 (cto_1452 l) ch_1452 cut_nil
/-- RookHusting$Slots at -/
noncomputable def ac_996 : AC := .inr (2, jl_n [js_5 4 9223372036854775807 9223372036854775807, js_4 7 1, js_5 235 9223372036854775807 9223372036854775807])
noncomputable def hq_828 : HP := [(false, .inl (8, [(6, 1, 0), (8, 4, 0), (8, 5, 0)])), (false, ac_996)]
noncomputable def con_1453 : Con2 := ((yX8_at, cX8_at, 3, (some .long)), (0, 0), ([(6, 0, 0), (0, 0, 0), (0, 4, 0)], gi_928, [.inl (8, [(6, 1, 0), (8, 4, 0), (8, 5, 0)]), ac_996], []), [((4, 6, 0), gi_929, hq_828, [], [1])])
theorem hd_1453 : con_1453.1 = (yX8_at, cX8_at, 3, (some .long)) := rfl
noncomputable def ct_1453 : CTB2 := []
noncomputable def cu_1453 : List CUT2 := []
theorem ch_1453 : staG tb_X8_at 1 bt_RX8 [] ct_1453 [] [] cu_1453 11 con_1453 = true := by decide +kernel
theorem cto_1453 (l : Launch) : CTOK2 l RX8 vwCl gTbl ct_1453 := ct2_nil
theorem vl_1453 (l : Launch) : Vld2 l vwCl gTbl con_1453 := conR_ok3 gT_all (hd_1453) rfl pn_RX8 tk_X8_at bo_RX8 xo_RX8 (cto_1453 l) ch_1453 cut_nil
/-- RookHusting$Slots at -/
noncomputable def ac_997 : AC := .inr (2, jl_n [js_5 5 9223372036854775807 9223372036854775807, js_4 7 1, js_5 234 9223372036854775807 9223372036854775807])
noncomputable def hq_829 : HP := [(false, .inl (8, [(6, 1, 0), (8, 4, 0), (8, 5, 0)])), (false, ac_997)]
noncomputable def con_1454 : Con2 := ((yX8_at, cX8_at, 3, (some .long)), (0, 0), ([(6, 0, 0), (0, 0, 0), (0, 5, 0)], gi_928, [.inl (8, [(6, 1, 0), (8, 4, 0), (8, 5, 0)]), ac_997], []), [((4, 6, 0), gi_929, hq_829, [], [1])])
theorem hd_1454 : con_1454.1 = (yX8_at, cX8_at, 3, (some .long)) := rfl
noncomputable def ct_1454 : CTB2 := []
noncomputable def cu_1454 : List CUT2 := []
theorem ch_1454 : staG tb_X8_at 1 bt_RX8 [] ct_1454 [] [] cu_1454 11 con_1454 = true := by decide +kernel
theorem cto_1454 (l : Launch) : CTOK2 l RX8 vwCl gTbl ct_1454 := ct2_nil
theorem vl_1454 (l : Launch) : Vld2 l vwCl gTbl con_1454 := conR_ok3 gT_all (hd_1454) rfl pn_RX8 tk_X8_at bo_RX8 xo_RX8 (cto_1454 l) ch_1454 cut_nil
/-- RookHusting$Slots at -/
noncomputable def ac_998 : AC := .inr (2, jl_n [js_5 6 9223372036854775807 9223372036854775807, js_4 7 1, js_5 233 9223372036854775807 9223372036854775807])
noncomputable def hq_830 : HP := [(false, .inl (8, [(6, 1, 0), (8, 4, 0), (8, 5, 0)])), (false, ac_998)]
noncomputable def con_1455 : Con2 := ((yX8_at, cX8_at, 3, (some .long)), (0, 0), ([(6, 0, 0), (0, 0, 0), (0, 6, 0)], gi_928, [.inl (8, [(6, 1, 0), (8, 4, 0), (8, 5, 0)]), ac_998], []), [((4, 6, 0), gi_929, hq_830, [], [1])])
theorem hd_1455 : con_1455.1 = (yX8_at, cX8_at, 3, (some .long)) := rfl
noncomputable def ct_1455 : CTB2 := []
noncomputable def cu_1455 : List CUT2 := []
theorem ch_1455 : staG tb_X8_at 1 bt_RX8 [] ct_1455 [] [] cu_1455 11 con_1455 = true := by decide +kernel
theorem cto_1455 (l : Launch) : CTOK2 l RX8 vwCl gTbl ct_1455 := ct2_nil
theorem vl_1455 (l : Launch) : Vld2 l vwCl gTbl con_1455 := conR_ok3 gT_all (hd_1455) rfl pn_RX8 tk_X8_at bo_RX8 xo_RX8 (cto_1455 l) ch_1455 cut_nil
/-- RookHusting$Slots at -/
noncomputable def ac_999 : AC := .inr (2, jl_n [js_5 7 9223372036854775807 9223372036854775807, js_4 7 1, js_5 232 9223372036854775807 9223372036854775807])
noncomputable def hq_831 : HP := [(false, .inl (8, [(6, 1, 0), (8, 4, 0), (8, 5, 0)])), (false, ac_999)]
noncomputable def con_1456 : Con2 := ((yX8_at, cX8_at, 3, (some .long)), (0, 0), ([(6, 0, 0), (0, 0, 0), (0, 7, 0)], gi_928, [.inl (8, [(6, 1, 0), (8, 4, 0), (8, 5, 0)]), ac_999], []), [((4, 6, 0), gi_929, hq_831, [], [1])])
theorem hd_1456 : con_1456.1 = (yX8_at, cX8_at, 3, (some .long)) := rfl
noncomputable def ct_1456 : CTB2 := []
noncomputable def cu_1456 : List CUT2 := []
theorem ch_1456 : staG tb_X8_at 1 bt_RX8 [] ct_1456 [] [] cu_1456 11 con_1456 = true := by decide +kernel
theorem cto_1456 (l : Launch) : CTOK2 l RX8 vwCl gTbl ct_1456 := ct2_nil
theorem vl_1456 (l : Launch) : Vld2 l vwCl gTbl con_1456 := conR_ok3 gT_all (hd_1456) rfl pn_RX8 tk_X8_at bo_RX8 xo_RX8 (cto_1456 l) ch_1456 cut_nil
/-- RookHusting$Slots at -/
noncomputable def ac_1000 : AC := .inr (2, jl_n [js_5 8 9223372036854775807 9223372036854775807, js_4 7 1, js_5 231 9223372036854775807 9223372036854775807])
noncomputable def hq_832 : HP := [(false, .inl (8, [(6, 1, 0), (8, 4, 0), (8, 5, 0)])), (false, ac_1000)]
noncomputable def con_1457 : Con2 := ((yX8_at, cX8_at, 3, (some .long)), (0, 0), ([(6, 0, 0), (0, 0, 0), (0, 8, 0)], gi_928, [.inl (8, [(6, 1, 0), (8, 4, 0), (8, 5, 0)]), ac_1000], []), [((4, 6, 0), gi_929, hq_832, [], [1])])
theorem hd_1457 : con_1457.1 = (yX8_at, cX8_at, 3, (some .long)) := rfl
noncomputable def ct_1457 : CTB2 := []
noncomputable def cu_1457 : List CUT2 := []
theorem ch_1457 : staG tb_X8_at 1 bt_RX8 [] ct_1457 [] [] cu_1457 11 con_1457 = true := by decide +kernel
theorem cto_1457 (l : Launch) : CTOK2 l RX8 vwCl gTbl ct_1457 := ct2_nil
theorem vl_1457 (l : Launch) : Vld2 l vwCl gTbl con_1457 := conR_ok3 gT_all (hd_1457) rfl pn_RX8 tk_X8_at bo_RX8 xo_RX8 (cto_1457 l) ch_1457 cut_nil
/-- RookHusting$Slots at -/
noncomputable def ac_1001 : AC := .inr (2, jl_n [js_5 9 9223372036854775807 9223372036854775807, js_4 7 1, js_5 230 9223372036854775807 9223372036854775807])
noncomputable def hq_833 : HP := [(false, .inl (8, [(6, 1, 0), (8, 4, 0), (8, 5, 0)])), (false, ac_1001)]
noncomputable def con_1458 : Con2 := ((yX8_at, cX8_at, 3, (some .long)), (0, 0), ([(6, 0, 0), (0, 0, 0), (0, 9, 0)], gi_928, [.inl (8, [(6, 1, 0), (8, 4, 0), (8, 5, 0)]), ac_1001], []), [((4, 6, 0), gi_929, hq_833, [], [1])])
theorem hd_1458 : con_1458.1 = (yX8_at, cX8_at, 3, (some .long)) := rfl
noncomputable def ct_1458 : CTB2 := []
noncomputable def cu_1458 : List CUT2 := []
theorem ch_1458 : staG tb_X8_at 1 bt_RX8 [] ct_1458 [] [] cu_1458 11 con_1458 = true := by decide +kernel
theorem cto_1458 (l : Launch) : CTOK2 l RX8 vwCl gTbl ct_1458 := ct2_nil
theorem vl_1458 (l : Launch) : Vld2 l vwCl gTbl con_1458 := conR_ok3 gT_all (hd_1458) rfl pn_RX8 tk_X8_at bo_RX8 xo_RX8 (cto_1458 l) ch_1458 cut_nil
/-- RookHusting$Slots at -/
noncomputable def ac_1002 : AC := .inr (2, jl_n [js_5 10 9223372036854775807 9223372036854775807, js_4 7 1, js_5 229 9223372036854775807 9223372036854775807])
noncomputable def hq_834 : HP := [(false, .inl (8, [(6, 1, 0), (8, 4, 0), (8, 5, 0)])), (false, ac_1002)]
noncomputable def con_1459 : Con2 := ((yX8_at, cX8_at, 3, (some .long)), (0, 0), ([(6, 0, 0), (0, 0, 0), (0, 10, 0)], gi_928, [.inl (8, [(6, 1, 0), (8, 4, 0), (8, 5, 0)]), ac_1002], []), [((4, 6, 0), gi_929, hq_834, [], [1])])
theorem hd_1459 : con_1459.1 = (yX8_at, cX8_at, 3, (some .long)) := rfl
noncomputable def ct_1459 : CTB2 := []
noncomputable def cu_1459 : List CUT2 := []
theorem ch_1459 : staG tb_X8_at 1 bt_RX8 [] ct_1459 [] [] cu_1459 11 con_1459 = true := by decide +kernel
theorem cto_1459 (l : Launch) : CTOK2 l RX8 vwCl gTbl ct_1459 := ct2_nil
theorem vl_1459 (l : Launch) : Vld2 l vwCl gTbl con_1459 := conR_ok3 gT_all (hd_1459) rfl pn_RX8 tk_X8_at bo_RX8 xo_RX8 (cto_1459 l) ch_1459 cut_nil
/-- RookHusting$Slots at -/
noncomputable def ac_1003 : AC := .inr (2, jl_n [js_5 11 9223372036854775807 9223372036854775807, js_4 7 1, js_5 228 9223372036854775807 9223372036854775807])
noncomputable def hq_835 : HP := [(false, .inl (8, [(6, 1, 0), (8, 4, 0), (8, 5, 0)])), (false, ac_1003)]
noncomputable def con_1460 : Con2 := ((yX8_at, cX8_at, 3, (some .long)), (0, 0), ([(6, 0, 0), (0, 0, 0), (0, 11, 0)], gi_928, [.inl (8, [(6, 1, 0), (8, 4, 0), (8, 5, 0)]), ac_1003], []), [((4, 6, 0), gi_929, hq_835, [], [1])])
theorem hd_1460 : con_1460.1 = (yX8_at, cX8_at, 3, (some .long)) := rfl
noncomputable def ct_1460 : CTB2 := []
noncomputable def cu_1460 : List CUT2 := []
theorem ch_1460 : staG tb_X8_at 1 bt_RX8 [] ct_1460 [] [] cu_1460 11 con_1460 = true := by decide +kernel
theorem cto_1460 (l : Launch) : CTOK2 l RX8 vwCl gTbl ct_1460 := ct2_nil
theorem vl_1460 (l : Launch) : Vld2 l vwCl gTbl con_1460 := conR_ok3 gT_all (hd_1460) rfl pn_RX8 tk_X8_at bo_RX8 xo_RX8 (cto_1460 l) ch_1460 cut_nil
/-- RookHusting$Slots at -/
noncomputable def ac_1004 : AC := .inr (2, jl_n [js_5 12 9223372036854775807 9223372036854775807, js_4 7 1, js_5 227 9223372036854775807 9223372036854775807])
noncomputable def hq_836 : HP := [(false, .inl (8, [(6, 1, 0), (8, 4, 0), (8, 5, 0)])), (false, ac_1004)]
noncomputable def con_1461 : Con2 := ((yX8_at, cX8_at, 3, (some .long)), (0, 0), ([(6, 0, 0), (0, 0, 0), (0, 12, 0)], gi_928, [.inl (8, [(6, 1, 0), (8, 4, 0), (8, 5, 0)]), ac_1004], []), [((4, 6, 0), gi_929, hq_836, [], [1])])
theorem hd_1461 : con_1461.1 = (yX8_at, cX8_at, 3, (some .long)) := rfl
noncomputable def ct_1461 : CTB2 := []
noncomputable def cu_1461 : List CUT2 := []
theorem ch_1461 : staG tb_X8_at 1 bt_RX8 [] ct_1461 [] [] cu_1461 11 con_1461 = true := by decide +kernel
theorem cto_1461 (l : Launch) : CTOK2 l RX8 vwCl gTbl ct_1461 := ct2_nil
theorem vl_1461 (l : Launch) : Vld2 l vwCl gTbl con_1461 := conR_ok3 gT_all (hd_1461) rfl pn_RX8 tk_X8_at bo_RX8 xo_RX8 (cto_1461 l) ch_1461 cut_nil
/-- RookHusting$Slots at -/
noncomputable def ac_1005 : AC := .inr (2, jl_n [js_5 13 9223372036854775807 9223372036854775807, js_4 7 1, js_5 226 9223372036854775807 9223372036854775807])
noncomputable def hq_837 : HP := [(false, .inl (8, [(6, 1, 0), (8, 4, 0), (8, 5, 0)])), (false, ac_1005)]
noncomputable def con_1462 : Con2 := ((yX8_at, cX8_at, 3, (some .long)), (0, 0), ([(6, 0, 0), (0, 0, 0), (0, 13, 0)], gi_928, [.inl (8, [(6, 1, 0), (8, 4, 0), (8, 5, 0)]), ac_1005], []), [((4, 6, 0), gi_929, hq_837, [], [1])])
theorem hd_1462 : con_1462.1 = (yX8_at, cX8_at, 3, (some .long)) := rfl
noncomputable def ct_1462 : CTB2 := []
noncomputable def cu_1462 : List CUT2 := []
theorem ch_1462 : staG tb_X8_at 1 bt_RX8 [] ct_1462 [] [] cu_1462 11 con_1462 = true := by decide +kernel
theorem cto_1462 (l : Launch) : CTOK2 l RX8 vwCl gTbl ct_1462 := ct2_nil
theorem vl_1462 (l : Launch) : Vld2 l vwCl gTbl con_1462 := conR_ok3 gT_all (hd_1462) rfl pn_RX8 tk_X8_at bo_RX8 xo_RX8 (cto_1462 l) ch_1462 cut_nil
/-- RookHusting$Slots at -/
noncomputable def ac_1006 : AC := .inr (2, jl_n [js_5 14 9223372036854775807 9223372036854775807, js_4 7 1, js_5 225 9223372036854775807 9223372036854775807])
noncomputable def hq_838 : HP := [(false, .inl (8, [(6, 1, 0), (8, 4, 0), (8, 5, 0)])), (false, ac_1006)]
noncomputable def con_1463 : Con2 := ((yX8_at, cX8_at, 3, (some .long)), (0, 0), ([(6, 0, 0), (0, 0, 0), (0, 14, 0)], gi_928, [.inl (8, [(6, 1, 0), (8, 4, 0), (8, 5, 0)]), ac_1006], []), [((4, 6, 0), gi_929, hq_838, [], [1])])
theorem hd_1463 : con_1463.1 = (yX8_at, cX8_at, 3, (some .long)) := rfl
noncomputable def ct_1463 : CTB2 := []
noncomputable def cu_1463 : List CUT2 := []
theorem ch_1463 : staG tb_X8_at 1 bt_RX8 [] ct_1463 [] [] cu_1463 11 con_1463 = true := by decide +kernel
theorem cto_1463 (l : Launch) : CTOK2 l RX8 vwCl gTbl ct_1463 := ct2_nil
theorem vl_1463 (l : Launch) : Vld2 l vwCl gTbl con_1463 := conR_ok3 gT_all (hd_1463) rfl pn_RX8 tk_X8_at bo_RX8 xo_RX8 (cto_1463 l) ch_1463 cut_nil
/-- RookHusting$Slots at -/
noncomputable def ac_1007 : AC := .inr (2, jl_n [js_5 15 9223372036854775807 9223372036854775807, js_4 7 1, js_5 224 9223372036854775807 9223372036854775807])
noncomputable def hq_839 : HP := [(false, .inl (8, [(6, 1, 0), (8, 4, 0), (8, 5, 0)])), (false, ac_1007)]
noncomputable def con_1464 : Con2 := ((yX8_at, cX8_at, 3, (some .long)), (0, 0), ([(6, 0, 0), (0, 0, 0), (0, 15, 0)], gi_928, [.inl (8, [(6, 1, 0), (8, 4, 0), (8, 5, 0)]), ac_1007], []), [((4, 6, 0), gi_929, hq_839, [], [1])])
theorem hd_1464 : con_1464.1 = (yX8_at, cX8_at, 3, (some .long)) := rfl
noncomputable def ct_1464 : CTB2 := []
noncomputable def cu_1464 : List CUT2 := []
theorem ch_1464 : staG tb_X8_at 1 bt_RX8 [] ct_1464 [] [] cu_1464 11 con_1464 = true := by decide +kernel
theorem cto_1464 (l : Launch) : CTOK2 l RX8 vwCl gTbl ct_1464 := ct2_nil
theorem vl_1464 (l : Launch) : Vld2 l vwCl gTbl con_1464 := conR_ok3 gT_all (hd_1464) rfl pn_RX8 tk_X8_at bo_RX8 xo_RX8 (cto_1464 l) ch_1464 cut_nil
/-- RookHusting$Slots at -/
noncomputable def ac_1008 : AC := .inr (2, jl_n [js_5 16 9223372036854775807 9223372036854775807, js_4 7 1, js_5 223 9223372036854775807 9223372036854775807])
noncomputable def hq_840 : HP := [(false, .inl (8, [(6, 1, 0), (8, 4, 0), (8, 5, 0)])), (false, ac_1008)]
noncomputable def con_1465 : Con2 := ((yX8_at, cX8_at, 3, (some .long)), (0, 0), ([(6, 0, 0), (0, 0, 0), (0, 16, 0)], gi_928, [.inl (8, [(6, 1, 0), (8, 4, 0), (8, 5, 0)]), ac_1008], []), [((4, 6, 0), gi_929, hq_840, [], [1])])
theorem hd_1465 : con_1465.1 = (yX8_at, cX8_at, 3, (some .long)) := rfl
noncomputable def ct_1465 : CTB2 := []
noncomputable def cu_1465 : List CUT2 := []
theorem ch_1465 : staG tb_X8_at 1 bt_RX8 [] ct_1465 [] [] cu_1465 11 con_1465 = true := by decide +kernel
theorem cto_1465 (l : Launch) : CTOK2 l RX8 vwCl gTbl ct_1465 := ct2_nil
theorem vl_1465 (l : Launch) : Vld2 l vwCl gTbl con_1465 := conR_ok3 gT_all (hd_1465) rfl pn_RX8 tk_X8_at bo_RX8 xo_RX8 (cto_1465 l) ch_1465 cut_nil
/-- RookHusting$Slots at -/
noncomputable def ac_1009 : AC := .inr (2, jl_n [js_5 17 9223372036854775807 9223372036854775807, js_4 7 1, js_5 222 9223372036854775807 9223372036854775807])
noncomputable def hq_841 : HP := [(false, .inl (8, [(6, 1, 0), (8, 4, 0), (8, 5, 0)])), (false, ac_1009)]
noncomputable def con_1466 : Con2 := ((yX8_at, cX8_at, 3, (some .long)), (0, 0), ([(6, 0, 0), (0, 0, 0), (0, 17, 0)], gi_928, [.inl (8, [(6, 1, 0), (8, 4, 0), (8, 5, 0)]), ac_1009], []), [((4, 6, 0), gi_929, hq_841, [], [1])])
theorem hd_1466 : con_1466.1 = (yX8_at, cX8_at, 3, (some .long)) := rfl
noncomputable def ct_1466 : CTB2 := []
noncomputable def cu_1466 : List CUT2 := []
theorem ch_1466 : staG tb_X8_at 1 bt_RX8 [] ct_1466 [] [] cu_1466 11 con_1466 = true := by decide +kernel
theorem cto_1466 (l : Launch) : CTOK2 l RX8 vwCl gTbl ct_1466 := ct2_nil
theorem vl_1466 (l : Launch) : Vld2 l vwCl gTbl con_1466 := conR_ok3 gT_all (hd_1466) rfl pn_RX8 tk_X8_at bo_RX8 xo_RX8 (cto_1466 l) ch_1466 cut_nil
/-- RookHusting$Slots at -/
noncomputable def ac_1010 : AC := .inr (2, jl_n [js_5 18 9223372036854775807 9223372036854775807, js_4 7 1, js_5 221 9223372036854775807 9223372036854775807])
noncomputable def hq_842 : HP := [(false, .inl (8, [(6, 1, 0), (8, 4, 0), (8, 5, 0)])), (false, ac_1010)]
noncomputable def con_1467 : Con2 := ((yX8_at, cX8_at, 3, (some .long)), (0, 0), ([(6, 0, 0), (0, 0, 0), (0, 18, 0)], gi_928, [.inl (8, [(6, 1, 0), (8, 4, 0), (8, 5, 0)]), ac_1010], []), [((4, 6, 0), gi_929, hq_842, [], [1])])
theorem hd_1467 : con_1467.1 = (yX8_at, cX8_at, 3, (some .long)) := rfl
noncomputable def ct_1467 : CTB2 := []
noncomputable def cu_1467 : List CUT2 := []
theorem ch_1467 : staG tb_X8_at 1 bt_RX8 [] ct_1467 [] [] cu_1467 11 con_1467 = true := by decide +kernel
theorem cto_1467 (l : Launch) : CTOK2 l RX8 vwCl gTbl ct_1467 := ct2_nil
theorem vl_1467 (l : Launch) : Vld2 l vwCl gTbl con_1467 := conR_ok3 gT_all (hd_1467) rfl pn_RX8 tk_X8_at bo_RX8 xo_RX8 (cto_1467 l) ch_1467 cut_nil
/-- RookHusting$Slots at -/
noncomputable def ac_1011 : AC := .inr (2, jl_n [js_5 19 9223372036854775807 9223372036854775807, js_4 7 1, js_5 220 9223372036854775807 9223372036854775807])
noncomputable def hq_843 : HP := [(false, .inl (8, [(6, 1, 0), (8, 4, 0), (8, 5, 0)])), (false, ac_1011)]
noncomputable def con_1468 : Con2 := ((yX8_at, cX8_at, 3, (some .long)), (0, 0), ([(6, 0, 0), (0, 0, 0), (0, 19, 0)], gi_928, [.inl (8, [(6, 1, 0), (8, 4, 0), (8, 5, 0)]), ac_1011], []), [((4, 6, 0), gi_929, hq_843, [], [1])])
theorem hd_1468 : con_1468.1 = (yX8_at, cX8_at, 3, (some .long)) := rfl
noncomputable def ct_1468 : CTB2 := []
noncomputable def cu_1468 : List CUT2 := []
theorem ch_1468 : staG tb_X8_at 1 bt_RX8 [] ct_1468 [] [] cu_1468 11 con_1468 = true := by decide +kernel
theorem cto_1468 (l : Launch) : CTOK2 l RX8 vwCl gTbl ct_1468 := ct2_nil
theorem vl_1468 (l : Launch) : Vld2 l vwCl gTbl con_1468 := conR_ok3 gT_all (hd_1468) rfl pn_RX8 tk_X8_at bo_RX8 xo_RX8 (cto_1468 l) ch_1468 cut_nil
/-- RookHusting$Slots at -/
noncomputable def ac_1012 : AC := .inr (2, jl_n [js_5 20 9223372036854775807 9223372036854775807, js_4 7 1, js_5 219 9223372036854775807 9223372036854775807])
noncomputable def hq_844 : HP := [(false, .inl (8, [(6, 1, 0), (8, 4, 0), (8, 5, 0)])), (false, ac_1012)]
noncomputable def con_1469 : Con2 := ((yX8_at, cX8_at, 3, (some .long)), (0, 0), ([(6, 0, 0), (0, 0, 0), (0, 20, 0)], gi_928, [.inl (8, [(6, 1, 0), (8, 4, 0), (8, 5, 0)]), ac_1012], []), [((4, 6, 0), gi_929, hq_844, [], [1])])
theorem hd_1469 : con_1469.1 = (yX8_at, cX8_at, 3, (some .long)) := rfl
noncomputable def ct_1469 : CTB2 := []
noncomputable def cu_1469 : List CUT2 := []
theorem ch_1469 : staG tb_X8_at 1 bt_RX8 [] ct_1469 [] [] cu_1469 11 con_1469 = true := by decide +kernel
theorem cto_1469 (l : Launch) : CTOK2 l RX8 vwCl gTbl ct_1469 := ct2_nil
theorem vl_1469 (l : Launch) : Vld2 l vwCl gTbl con_1469 := conR_ok3 gT_all (hd_1469) rfl pn_RX8 tk_X8_at bo_RX8 xo_RX8 (cto_1469 l) ch_1469 cut_nil
/-- RookHusting$Slots at -/
noncomputable def ac_1013 : AC := .inr (2, jl_n [js_5 21 9223372036854775807 9223372036854775807, js_4 7 1, js_5 218 9223372036854775807 9223372036854775807])
noncomputable def hq_845 : HP := [(false, .inl (8, [(6, 1, 0), (8, 4, 0), (8, 5, 0)])), (false, ac_1013)]
noncomputable def con_1470 : Con2 := ((yX8_at, cX8_at, 3, (some .long)), (0, 0), ([(6, 0, 0), (0, 0, 0), (0, 21, 0)], gi_928, [.inl (8, [(6, 1, 0), (8, 4, 0), (8, 5, 0)]), ac_1013], []), [((4, 6, 0), gi_929, hq_845, [], [1])])
theorem hd_1470 : con_1470.1 = (yX8_at, cX8_at, 3, (some .long)) := rfl
noncomputable def ct_1470 : CTB2 := []
noncomputable def cu_1470 : List CUT2 := []
theorem ch_1470 : staG tb_X8_at 1 bt_RX8 [] ct_1470 [] [] cu_1470 11 con_1470 = true := by decide +kernel
theorem cto_1470 (l : Launch) : CTOK2 l RX8 vwCl gTbl ct_1470 := ct2_nil
theorem vl_1470 (l : Launch) : Vld2 l vwCl gTbl con_1470 := conR_ok3 gT_all (hd_1470) rfl pn_RX8 tk_X8_at bo_RX8 xo_RX8 (cto_1470 l) ch_1470 cut_nil
/-- RookHusting$Slots at -/
noncomputable def ac_1014 : AC := .inr (2, jl_n [js_5 22 9223372036854775807 9223372036854775807, js_4 7 1, js_5 217 9223372036854775807 9223372036854775807])
noncomputable def hq_846 : HP := [(false, .inl (8, [(6, 1, 0), (8, 4, 0), (8, 5, 0)])), (false, ac_1014)]
noncomputable def con_1471 : Con2 := ((yX8_at, cX8_at, 3, (some .long)), (0, 0), ([(6, 0, 0), (0, 0, 0), (0, 22, 0)], gi_928, [.inl (8, [(6, 1, 0), (8, 4, 0), (8, 5, 0)]), ac_1014], []), [((4, 6, 0), gi_929, hq_846, [], [1])])
theorem hd_1471 : con_1471.1 = (yX8_at, cX8_at, 3, (some .long)) := rfl
noncomputable def ct_1471 : CTB2 := []
noncomputable def cu_1471 : List CUT2 := []
theorem ch_1471 : staG tb_X8_at 1 bt_RX8 [] ct_1471 [] [] cu_1471 11 con_1471 = true := by decide +kernel
theorem cto_1471 (l : Launch) : CTOK2 l RX8 vwCl gTbl ct_1471 := ct2_nil
theorem vl_1471 (l : Launch) : Vld2 l vwCl gTbl con_1471 := conR_ok3 gT_all (hd_1471) rfl pn_RX8 tk_X8_at bo_RX8 xo_RX8 (cto_1471 l) ch_1471 cut_nil
/-- RookHusting$Slots at -/
noncomputable def ac_1015 : AC := .inr (2, jl_n [js_5 23 9223372036854775807 9223372036854775807, js_4 7 1, js_5 216 9223372036854775807 9223372036854775807])
noncomputable def hq_847 : HP := [(false, .inl (8, [(6, 1, 0), (8, 4, 0), (8, 5, 0)])), (false, ac_1015)]
noncomputable def con_1472 : Con2 := ((yX8_at, cX8_at, 3, (some .long)), (0, 0), ([(6, 0, 0), (0, 0, 0), (0, 23, 0)], gi_928, [.inl (8, [(6, 1, 0), (8, 4, 0), (8, 5, 0)]), ac_1015], []), [((4, 6, 0), gi_929, hq_847, [], [1])])
theorem hd_1472 : con_1472.1 = (yX8_at, cX8_at, 3, (some .long)) := rfl
noncomputable def ct_1472 : CTB2 := []
noncomputable def cu_1472 : List CUT2 := []
theorem ch_1472 : staG tb_X8_at 1 bt_RX8 [] ct_1472 [] [] cu_1472 11 con_1472 = true := by decide +kernel
theorem cto_1472 (l : Launch) : CTOK2 l RX8 vwCl gTbl ct_1472 := ct2_nil
theorem vl_1472 (l : Launch) : Vld2 l vwCl gTbl con_1472 := conR_ok3 gT_all (hd_1472) rfl pn_RX8 tk_X8_at bo_RX8 xo_RX8 (cto_1472 l) ch_1472 cut_nil
/-- RookHusting$Slots at -/
noncomputable def ac_1016 : AC := .inr (2, jl_n [js_5 24 9223372036854775807 9223372036854775807, js_4 7 1, js_5 215 9223372036854775807 9223372036854775807])
noncomputable def hq_848 : HP := [(false, .inl (8, [(6, 1, 0), (8, 4, 0), (8, 5, 0)])), (false, ac_1016)]
noncomputable def con_1473 : Con2 := ((yX8_at, cX8_at, 3, (some .long)), (0, 0), ([(6, 0, 0), (0, 0, 0), (0, 24, 0)], gi_928, [.inl (8, [(6, 1, 0), (8, 4, 0), (8, 5, 0)]), ac_1016], []), [((4, 6, 0), gi_929, hq_848, [], [1])])
theorem hd_1473 : con_1473.1 = (yX8_at, cX8_at, 3, (some .long)) := rfl
noncomputable def ct_1473 : CTB2 := []
noncomputable def cu_1473 : List CUT2 := []
theorem ch_1473 : staG tb_X8_at 1 bt_RX8 [] ct_1473 [] [] cu_1473 11 con_1473 = true := by decide +kernel
theorem cto_1473 (l : Launch) : CTOK2 l RX8 vwCl gTbl ct_1473 := ct2_nil
theorem vl_1473 (l : Launch) : Vld2 l vwCl gTbl con_1473 := conR_ok3 gT_all (hd_1473) rfl pn_RX8 tk_X8_at bo_RX8 xo_RX8 (cto_1473 l) ch_1473 cut_nil
/-- RookHusting$Slots at -/
noncomputable def ac_1017 : AC := .inr (2, jl_n [js_5 25 9223372036854775807 9223372036854775807, js_4 7 1, js_5 214 9223372036854775807 9223372036854775807])
noncomputable def hq_849 : HP := [(false, .inl (8, [(6, 1, 0), (8, 4, 0), (8, 5, 0)])), (false, ac_1017)]
noncomputable def con_1474 : Con2 := ((yX8_at, cX8_at, 3, (some .long)), (0, 0), ([(6, 0, 0), (0, 0, 0), (0, 25, 0)], gi_928, [.inl (8, [(6, 1, 0), (8, 4, 0), (8, 5, 0)]), ac_1017], []), [((4, 6, 0), gi_929, hq_849, [], [1])])
theorem hd_1474 : con_1474.1 = (yX8_at, cX8_at, 3, (some .long)) := rfl
noncomputable def ct_1474 : CTB2 := []
noncomputable def cu_1474 : List CUT2 := []
theorem ch_1474 : staG tb_X8_at 1 bt_RX8 [] ct_1474 [] [] cu_1474 11 con_1474 = true := by decide +kernel
theorem cto_1474 (l : Launch) : CTOK2 l RX8 vwCl gTbl ct_1474 := ct2_nil
theorem vl_1474 (l : Launch) : Vld2 l vwCl gTbl con_1474 := conR_ok3 gT_all (hd_1474) rfl pn_RX8 tk_X8_at bo_RX8 xo_RX8 (cto_1474 l) ch_1474 cut_nil
/-- RookHusting$Slots at -/
noncomputable def ac_1018 : AC := .inr (2, jl_n [js_5 26 9223372036854775807 9223372036854775807, js_4 7 1, js_5 213 9223372036854775807 9223372036854775807])
noncomputable def hq_850 : HP := [(false, .inl (8, [(6, 1, 0), (8, 4, 0), (8, 5, 0)])), (false, ac_1018)]
noncomputable def con_1475 : Con2 := ((yX8_at, cX8_at, 3, (some .long)), (0, 0), ([(6, 0, 0), (0, 0, 0), (0, 26, 0)], gi_928, [.inl (8, [(6, 1, 0), (8, 4, 0), (8, 5, 0)]), ac_1018], []), [((4, 6, 0), gi_929, hq_850, [], [1])])
theorem hd_1475 : con_1475.1 = (yX8_at, cX8_at, 3, (some .long)) := rfl
noncomputable def ct_1475 : CTB2 := []
noncomputable def cu_1475 : List CUT2 := []
theorem ch_1475 : staG tb_X8_at 1 bt_RX8 [] ct_1475 [] [] cu_1475 11 con_1475 = true := by decide +kernel
theorem cto_1475 (l : Launch) : CTOK2 l RX8 vwCl gTbl ct_1475 := ct2_nil
theorem vl_1475 (l : Launch) : Vld2 l vwCl gTbl con_1475 := conR_ok3 gT_all (hd_1475) rfl pn_RX8 tk_X8_at bo_RX8 xo_RX8 (cto_1475 l) ch_1475 cut_nil
/-- RookHusting$Slots at -/
noncomputable def ac_1019 : AC := .inr (2, jl_n [js_5 27 9223372036854775807 9223372036854775807, js_4 7 1, js_5 212 9223372036854775807 9223372036854775807])
noncomputable def hq_851 : HP := [(false, .inl (8, [(6, 1, 0), (8, 4, 0), (8, 5, 0)])), (false, ac_1019)]
noncomputable def con_1476 : Con2 := ((yX8_at, cX8_at, 3, (some .long)), (0, 0), ([(6, 0, 0), (0, 0, 0), (0, 27, 0)], gi_928, [.inl (8, [(6, 1, 0), (8, 4, 0), (8, 5, 0)]), ac_1019], []), [((4, 6, 0), gi_929, hq_851, [], [1])])
theorem hd_1476 : con_1476.1 = (yX8_at, cX8_at, 3, (some .long)) := rfl
noncomputable def ct_1476 : CTB2 := []
noncomputable def cu_1476 : List CUT2 := []
theorem ch_1476 : staG tb_X8_at 1 bt_RX8 [] ct_1476 [] [] cu_1476 11 con_1476 = true := by decide +kernel
theorem cto_1476 (l : Launch) : CTOK2 l RX8 vwCl gTbl ct_1476 := ct2_nil
theorem vl_1476 (l : Launch) : Vld2 l vwCl gTbl con_1476 := conR_ok3 gT_all (hd_1476) rfl pn_RX8 tk_X8_at bo_RX8 xo_RX8 (cto_1476 l) ch_1476 cut_nil
/-- RookHusting$Slots at -/
noncomputable def ac_1020 : AC := .inr (2, jl_n [js_5 28 9223372036854775807 9223372036854775807, js_4 7 1, js_5 211 9223372036854775807 9223372036854775807])
noncomputable def hq_852 : HP := [(false, .inl (8, [(6, 1, 0), (8, 4, 0), (8, 5, 0)])), (false, ac_1020)]
noncomputable def con_1477 : Con2 := ((yX8_at, cX8_at, 3, (some .long)), (0, 0), ([(6, 0, 0), (0, 0, 0), (0, 28, 0)], gi_928, [.inl (8, [(6, 1, 0), (8, 4, 0), (8, 5, 0)]), ac_1020], []), [((4, 6, 0), gi_929, hq_852, [], [1])])
theorem hd_1477 : con_1477.1 = (yX8_at, cX8_at, 3, (some .long)) := rfl
noncomputable def ct_1477 : CTB2 := []
noncomputable def cu_1477 : List CUT2 := []
theorem ch_1477 : staG tb_X8_at 1 bt_RX8 [] ct_1477 [] [] cu_1477 11 con_1477 = true := by decide +kernel
theorem cto_1477 (l : Launch) : CTOK2 l RX8 vwCl gTbl ct_1477 := ct2_nil
theorem vl_1477 (l : Launch) : Vld2 l vwCl gTbl con_1477 := conR_ok3 gT_all (hd_1477) rfl pn_RX8 tk_X8_at bo_RX8 xo_RX8 (cto_1477 l) ch_1477 cut_nil
/-- RookHusting$Slots at -/
noncomputable def ac_1021 : AC := .inr (2, jl_n [js_5 29 9223372036854775807 9223372036854775807, js_4 7 1, js_5 210 9223372036854775807 9223372036854775807])
noncomputable def hq_853 : HP := [(false, .inl (8, [(6, 1, 0), (8, 4, 0), (8, 5, 0)])), (false, ac_1021)]
noncomputable def con_1478 : Con2 := ((yX8_at, cX8_at, 3, (some .long)), (0, 0), ([(6, 0, 0), (0, 0, 0), (0, 29, 0)], gi_928, [.inl (8, [(6, 1, 0), (8, 4, 0), (8, 5, 0)]), ac_1021], []), [((4, 6, 0), gi_929, hq_853, [], [1])])
theorem hd_1478 : con_1478.1 = (yX8_at, cX8_at, 3, (some .long)) := rfl
noncomputable def ct_1478 : CTB2 := []
noncomputable def cu_1478 : List CUT2 := []
theorem ch_1478 : staG tb_X8_at 1 bt_RX8 [] ct_1478 [] [] cu_1478 11 con_1478 = true := by decide +kernel
theorem cto_1478 (l : Launch) : CTOK2 l RX8 vwCl gTbl ct_1478 := ct2_nil
theorem vl_1478 (l : Launch) : Vld2 l vwCl gTbl con_1478 := conR_ok3 gT_all (hd_1478) rfl pn_RX8 tk_X8_at bo_RX8 xo_RX8 (cto_1478 l) ch_1478 cut_nil
/-- RookHusting$Slots at -/
noncomputable def ac_1022 : AC := .inr (2, jl_n [js_5 30 9223372036854775807 9223372036854775807, js_4 7 1, js_5 209 9223372036854775807 9223372036854775807])
noncomputable def hq_854 : HP := [(false, .inl (8, [(6, 1, 0), (8, 4, 0), (8, 5, 0)])), (false, ac_1022)]
noncomputable def con_1479 : Con2 := ((yX8_at, cX8_at, 3, (some .long)), (0, 0), ([(6, 0, 0), (0, 0, 0), (0, 30, 0)], gi_928, [.inl (8, [(6, 1, 0), (8, 4, 0), (8, 5, 0)]), ac_1022], []), [((4, 6, 0), gi_929, hq_854, [], [1])])
theorem hd_1479 : con_1479.1 = (yX8_at, cX8_at, 3, (some .long)) := rfl
noncomputable def ct_1479 : CTB2 := []
noncomputable def cu_1479 : List CUT2 := []
theorem ch_1479 : staG tb_X8_at 1 bt_RX8 [] ct_1479 [] [] cu_1479 11 con_1479 = true := by decide +kernel
theorem cto_1479 (l : Launch) : CTOK2 l RX8 vwCl gTbl ct_1479 := ct2_nil
theorem vl_1479 (l : Launch) : Vld2 l vwCl gTbl con_1479 := conR_ok3 gT_all (hd_1479) rfl pn_RX8 tk_X8_at bo_RX8 xo_RX8 (cto_1479 l) ch_1479 cut_nil
/-- RookHusting$Slots at -/
noncomputable def ac_1023 : AC := .inr (2, jl_n [js_5 31 9223372036854775807 9223372036854775807, js_4 7 1, js_5 208 9223372036854775807 9223372036854775807])
noncomputable def hq_855 : HP := [(false, .inl (8, [(6, 1, 0), (8, 4, 0), (8, 5, 0)])), (false, ac_1023)]
noncomputable def con_1480 : Con2 := ((yX8_at, cX8_at, 3, (some .long)), (0, 0), ([(6, 0, 0), (0, 0, 0), (0, 31, 0)], gi_928, [.inl (8, [(6, 1, 0), (8, 4, 0), (8, 5, 0)]), ac_1023], []), [((4, 6, 0), gi_929, hq_855, [], [1])])
theorem hd_1480 : con_1480.1 = (yX8_at, cX8_at, 3, (some .long)) := rfl
noncomputable def ct_1480 : CTB2 := []
noncomputable def cu_1480 : List CUT2 := []
theorem ch_1480 : staG tb_X8_at 1 bt_RX8 [] ct_1480 [] [] cu_1480 11 con_1480 = true := by decide +kernel
theorem cto_1480 (l : Launch) : CTOK2 l RX8 vwCl gTbl ct_1480 := ct2_nil
theorem vl_1480 (l : Launch) : Vld2 l vwCl gTbl con_1480 := conR_ok3 gT_all (hd_1480) rfl pn_RX8 tk_X8_at bo_RX8 xo_RX8 (cto_1480 l) ch_1480 cut_nil
/-- RookHusting$Slots at -/
noncomputable def ac_1024 : AC := .inr (2, jl_n [js_5 32 9223372036854775807 9223372036854775807, js_4 7 1, js_5 207 9223372036854775807 9223372036854775807])
noncomputable def hq_856 : HP := [(false, .inl (8, [(6, 1, 0), (8, 4, 0), (8, 5, 0)])), (false, ac_1024)]
noncomputable def con_1481 : Con2 := ((yX8_at, cX8_at, 3, (some .long)), (0, 0), ([(6, 0, 0), (0, 0, 0), (0, 32, 0)], gi_928, [.inl (8, [(6, 1, 0), (8, 4, 0), (8, 5, 0)]), ac_1024], []), [((4, 6, 0), gi_929, hq_856, [], [1])])
theorem hd_1481 : con_1481.1 = (yX8_at, cX8_at, 3, (some .long)) := rfl
noncomputable def ct_1481 : CTB2 := []
noncomputable def cu_1481 : List CUT2 := []
theorem ch_1481 : staG tb_X8_at 1 bt_RX8 [] ct_1481 [] [] cu_1481 11 con_1481 = true := by decide +kernel
theorem cto_1481 (l : Launch) : CTOK2 l RX8 vwCl gTbl ct_1481 := ct2_nil
theorem vl_1481 (l : Launch) : Vld2 l vwCl gTbl con_1481 := conR_ok3 gT_all (hd_1481) rfl pn_RX8 tk_X8_at bo_RX8 xo_RX8 (cto_1481 l) ch_1481 cut_nil
/-- RookHusting$Slots at -/
noncomputable def ac_1025 : AC := .inr (2, jl_n [js_5 33 9223372036854775807 9223372036854775807, js_4 7 1, js_5 206 9223372036854775807 9223372036854775807])
noncomputable def hq_857 : HP := [(false, .inl (8, [(6, 1, 0), (8, 4, 0), (8, 5, 0)])), (false, ac_1025)]
noncomputable def con_1482 : Con2 := ((yX8_at, cX8_at, 3, (some .long)), (0, 0), ([(6, 0, 0), (0, 0, 0), (0, 33, 0)], gi_928, [.inl (8, [(6, 1, 0), (8, 4, 0), (8, 5, 0)]), ac_1025], []), [((4, 6, 0), gi_929, hq_857, [], [1])])
theorem hd_1482 : con_1482.1 = (yX8_at, cX8_at, 3, (some .long)) := rfl
noncomputable def ct_1482 : CTB2 := []
noncomputable def cu_1482 : List CUT2 := []
theorem ch_1482 : staG tb_X8_at 1 bt_RX8 [] ct_1482 [] [] cu_1482 11 con_1482 = true := by decide +kernel
theorem cto_1482 (l : Launch) : CTOK2 l RX8 vwCl gTbl ct_1482 := ct2_nil
theorem vl_1482 (l : Launch) : Vld2 l vwCl gTbl con_1482 := conR_ok3 gT_all (hd_1482) rfl pn_RX8 tk_X8_at bo_RX8 xo_RX8 (cto_1482 l) ch_1482 cut_nil
/-- RookHusting$Slots at -/
noncomputable def ac_1026 : AC := .inr (2, jl_n [js_5 34 9223372036854775807 9223372036854775807, js_4 7 1, js_5 205 9223372036854775807 9223372036854775807])
noncomputable def hq_858 : HP := [(false, .inl (8, [(6, 1, 0), (8, 4, 0), (8, 5, 0)])), (false, ac_1026)]
noncomputable def con_1483 : Con2 := ((yX8_at, cX8_at, 3, (some .long)), (0, 0), ([(6, 0, 0), (0, 0, 0), (0, 34, 0)], gi_928, [.inl (8, [(6, 1, 0), (8, 4, 0), (8, 5, 0)]), ac_1026], []), [((4, 6, 0), gi_929, hq_858, [], [1])])
theorem hd_1483 : con_1483.1 = (yX8_at, cX8_at, 3, (some .long)) := rfl
noncomputable def ct_1483 : CTB2 := []
noncomputable def cu_1483 : List CUT2 := []
theorem ch_1483 : staG tb_X8_at 1 bt_RX8 [] ct_1483 [] [] cu_1483 11 con_1483 = true := by decide +kernel
theorem cto_1483 (l : Launch) : CTOK2 l RX8 vwCl gTbl ct_1483 := ct2_nil
theorem vl_1483 (l : Launch) : Vld2 l vwCl gTbl con_1483 := conR_ok3 gT_all (hd_1483) rfl pn_RX8 tk_X8_at bo_RX8 xo_RX8 (cto_1483 l) ch_1483 cut_nil
/-- RookHusting$Slots at -/
noncomputable def ac_1027 : AC := .inr (2, jl_n [js_5 35 9223372036854775807 9223372036854775807, js_4 7 1, js_5 204 9223372036854775807 9223372036854775807])
noncomputable def hq_859 : HP := [(false, .inl (8, [(6, 1, 0), (8, 4, 0), (8, 5, 0)])), (false, ac_1027)]
noncomputable def con_1484 : Con2 := ((yX8_at, cX8_at, 3, (some .long)), (0, 0), ([(6, 0, 0), (0, 0, 0), (0, 35, 0)], gi_928, [.inl (8, [(6, 1, 0), (8, 4, 0), (8, 5, 0)]), ac_1027], []), [((4, 6, 0), gi_929, hq_859, [], [1])])
theorem hd_1484 : con_1484.1 = (yX8_at, cX8_at, 3, (some .long)) := rfl
noncomputable def ct_1484 : CTB2 := []
noncomputable def cu_1484 : List CUT2 := []
theorem ch_1484 : staG tb_X8_at 1 bt_RX8 [] ct_1484 [] [] cu_1484 11 con_1484 = true := by decide +kernel
theorem cto_1484 (l : Launch) : CTOK2 l RX8 vwCl gTbl ct_1484 := ct2_nil
theorem vl_1484 (l : Launch) : Vld2 l vwCl gTbl con_1484 := conR_ok3 gT_all (hd_1484) rfl pn_RX8 tk_X8_at bo_RX8 xo_RX8 (cto_1484 l) ch_1484 cut_nil
/-- RookHusting$Slots at -/
noncomputable def ac_1028 : AC := .inr (2, jl_n [js_5 36 9223372036854775807 9223372036854775807, js_4 7 1, js_5 203 9223372036854775807 9223372036854775807])
noncomputable def hq_860 : HP := [(false, .inl (8, [(6, 1, 0), (8, 4, 0), (8, 5, 0)])), (false, ac_1028)]
noncomputable def con_1485 : Con2 := ((yX8_at, cX8_at, 3, (some .long)), (0, 0), ([(6, 0, 0), (0, 0, 0), (0, 36, 0)], gi_928, [.inl (8, [(6, 1, 0), (8, 4, 0), (8, 5, 0)]), ac_1028], []), [((4, 6, 0), gi_929, hq_860, [], [1])])
theorem hd_1485 : con_1485.1 = (yX8_at, cX8_at, 3, (some .long)) := rfl
noncomputable def ct_1485 : CTB2 := []
noncomputable def cu_1485 : List CUT2 := []
theorem ch_1485 : staG tb_X8_at 1 bt_RX8 [] ct_1485 [] [] cu_1485 11 con_1485 = true := by decide +kernel
theorem cto_1485 (l : Launch) : CTOK2 l RX8 vwCl gTbl ct_1485 := ct2_nil
theorem vl_1485 (l : Launch) : Vld2 l vwCl gTbl con_1485 := conR_ok3 gT_all (hd_1485) rfl pn_RX8 tk_X8_at bo_RX8 xo_RX8 (cto_1485 l) ch_1485 cut_nil
/-- RookHusting$Slots at -/
noncomputable def ac_1029 : AC := .inr (2, jl_n [js_5 37 9223372036854775807 9223372036854775807, js_4 7 1, js_5 202 9223372036854775807 9223372036854775807])
noncomputable def hq_861 : HP := [(false, .inl (8, [(6, 1, 0), (8, 4, 0), (8, 5, 0)])), (false, ac_1029)]
noncomputable def con_1486 : Con2 := ((yX8_at, cX8_at, 3, (some .long)), (0, 0), ([(6, 0, 0), (0, 0, 0), (0, 37, 0)], gi_928, [.inl (8, [(6, 1, 0), (8, 4, 0), (8, 5, 0)]), ac_1029], []), [((4, 6, 0), gi_929, hq_861, [], [1])])
theorem hd_1486 : con_1486.1 = (yX8_at, cX8_at, 3, (some .long)) := rfl
noncomputable def ct_1486 : CTB2 := []
noncomputable def cu_1486 : List CUT2 := []
theorem ch_1486 : staG tb_X8_at 1 bt_RX8 [] ct_1486 [] [] cu_1486 11 con_1486 = true := by decide +kernel
theorem cto_1486 (l : Launch) : CTOK2 l RX8 vwCl gTbl ct_1486 := ct2_nil
theorem vl_1486 (l : Launch) : Vld2 l vwCl gTbl con_1486 := conR_ok3 gT_all (hd_1486) rfl pn_RX8 tk_X8_at bo_RX8 xo_RX8 (cto_1486 l) ch_1486 cut_nil
/-- RookHusting$Slots at -/
noncomputable def ac_1030 : AC := .inr (2, jl_n [js_5 38 9223372036854775807 9223372036854775807, js_4 7 1, js_5 201 9223372036854775807 9223372036854775807])
noncomputable def hq_862 : HP := [(false, .inl (8, [(6, 1, 0), (8, 4, 0), (8, 5, 0)])), (false, ac_1030)]
noncomputable def con_1487 : Con2 := ((yX8_at, cX8_at, 3, (some .long)), (0, 0), ([(6, 0, 0), (0, 0, 0), (0, 38, 0)], gi_928, [.inl (8, [(6, 1, 0), (8, 4, 0), (8, 5, 0)]), ac_1030], []), [((4, 6, 0), gi_929, hq_862, [], [1])])
theorem hd_1487 : con_1487.1 = (yX8_at, cX8_at, 3, (some .long)) := rfl
noncomputable def ct_1487 : CTB2 := []
noncomputable def cu_1487 : List CUT2 := []
theorem ch_1487 : staG tb_X8_at 1 bt_RX8 [] ct_1487 [] [] cu_1487 11 con_1487 = true := by decide +kernel
theorem cto_1487 (l : Launch) : CTOK2 l RX8 vwCl gTbl ct_1487 := ct2_nil
theorem vl_1487 (l : Launch) : Vld2 l vwCl gTbl con_1487 := conR_ok3 gT_all (hd_1487) rfl pn_RX8 tk_X8_at bo_RX8 xo_RX8 (cto_1487 l) ch_1487 cut_nil
/-- RookHusting$Slots at -/
noncomputable def ac_1031 : AC := .inr (2, jl_n [js_5 39 9223372036854775807 9223372036854775807, js_4 7 1, js_5 200 9223372036854775807 9223372036854775807])
noncomputable def hq_863 : HP := [(false, .inl (8, [(6, 1, 0), (8, 4, 0), (8, 5, 0)])), (false, ac_1031)]
noncomputable def con_1488 : Con2 := ((yX8_at, cX8_at, 3, (some .long)), (0, 0), ([(6, 0, 0), (0, 0, 0), (0, 39, 0)], gi_928, [.inl (8, [(6, 1, 0), (8, 4, 0), (8, 5, 0)]), ac_1031], []), [((4, 6, 0), gi_929, hq_863, [], [1])])
theorem hd_1488 : con_1488.1 = (yX8_at, cX8_at, 3, (some .long)) := rfl
noncomputable def ct_1488 : CTB2 := []
noncomputable def cu_1488 : List CUT2 := []
theorem ch_1488 : staG tb_X8_at 1 bt_RX8 [] ct_1488 [] [] cu_1488 11 con_1488 = true := by decide +kernel
theorem cto_1488 (l : Launch) : CTOK2 l RX8 vwCl gTbl ct_1488 := ct2_nil
theorem vl_1488 (l : Launch) : Vld2 l vwCl gTbl con_1488 := conR_ok3 gT_all (hd_1488) rfl pn_RX8 tk_X8_at bo_RX8 xo_RX8 (cto_1488 l) ch_1488 cut_nil
/-- RookHusting$Slots at -/
noncomputable def ac_1032 : AC := .inr (2, jl_n [js_5 40 9223372036854775807 9223372036854775807, js_4 7 1, js_5 199 9223372036854775807 9223372036854775807])
noncomputable def hq_864 : HP := [(false, .inl (8, [(6, 1, 0), (8, 4, 0), (8, 5, 0)])), (false, ac_1032)]
noncomputable def con_1489 : Con2 := ((yX8_at, cX8_at, 3, (some .long)), (0, 0), ([(6, 0, 0), (0, 0, 0), (0, 40, 0)], gi_928, [.inl (8, [(6, 1, 0), (8, 4, 0), (8, 5, 0)]), ac_1032], []), [((4, 6, 0), gi_929, hq_864, [], [1])])
theorem hd_1489 : con_1489.1 = (yX8_at, cX8_at, 3, (some .long)) := rfl
noncomputable def ct_1489 : CTB2 := []
noncomputable def cu_1489 : List CUT2 := []
theorem ch_1489 : staG tb_X8_at 1 bt_RX8 [] ct_1489 [] [] cu_1489 11 con_1489 = true := by decide +kernel
theorem cto_1489 (l : Launch) : CTOK2 l RX8 vwCl gTbl ct_1489 := ct2_nil
theorem vl_1489 (l : Launch) : Vld2 l vwCl gTbl con_1489 := conR_ok3 gT_all (hd_1489) rfl pn_RX8 tk_X8_at bo_RX8 xo_RX8 (cto_1489 l) ch_1489 cut_nil
/-- RookHusting$Slots at -/
noncomputable def ac_1033 : AC := .inr (2, jl_n [js_5 41 9223372036854775807 9223372036854775807, js_4 7 1, js_5 198 9223372036854775807 9223372036854775807])
noncomputable def hq_865 : HP := [(false, .inl (8, [(6, 1, 0), (8, 4, 0), (8, 5, 0)])), (false, ac_1033)]
noncomputable def con_1490 : Con2 := ((yX8_at, cX8_at, 3, (some .long)), (0, 0), ([(6, 0, 0), (0, 0, 0), (0, 41, 0)], gi_928, [.inl (8, [(6, 1, 0), (8, 4, 0), (8, 5, 0)]), ac_1033], []), [((4, 6, 0), gi_929, hq_865, [], [1])])
theorem hd_1490 : con_1490.1 = (yX8_at, cX8_at, 3, (some .long)) := rfl
noncomputable def ct_1490 : CTB2 := []
noncomputable def cu_1490 : List CUT2 := []
theorem ch_1490 : staG tb_X8_at 1 bt_RX8 [] ct_1490 [] [] cu_1490 11 con_1490 = true := by decide +kernel
theorem cto_1490 (l : Launch) : CTOK2 l RX8 vwCl gTbl ct_1490 := ct2_nil
theorem vl_1490 (l : Launch) : Vld2 l vwCl gTbl con_1490 := conR_ok3 gT_all (hd_1490) rfl pn_RX8 tk_X8_at bo_RX8 xo_RX8 (cto_1490 l) ch_1490 cut_nil
/-- RookHusting$Slots at -/
noncomputable def ac_1034 : AC := .inr (2, jl_n [js_5 42 9223372036854775807 9223372036854775807, js_4 7 1, js_5 197 9223372036854775807 9223372036854775807])
noncomputable def hq_866 : HP := [(false, .inl (8, [(6, 1, 0), (8, 4, 0), (8, 5, 0)])), (false, ac_1034)]
noncomputable def con_1491 : Con2 := ((yX8_at, cX8_at, 3, (some .long)), (0, 0), ([(6, 0, 0), (0, 0, 0), (0, 42, 0)], gi_928, [.inl (8, [(6, 1, 0), (8, 4, 0), (8, 5, 0)]), ac_1034], []), [((4, 6, 0), gi_929, hq_866, [], [1])])
theorem hd_1491 : con_1491.1 = (yX8_at, cX8_at, 3, (some .long)) := rfl
noncomputable def ct_1491 : CTB2 := []
noncomputable def cu_1491 : List CUT2 := []
theorem ch_1491 : staG tb_X8_at 1 bt_RX8 [] ct_1491 [] [] cu_1491 11 con_1491 = true := by decide +kernel
theorem cto_1491 (l : Launch) : CTOK2 l RX8 vwCl gTbl ct_1491 := ct2_nil
theorem vl_1491 (l : Launch) : Vld2 l vwCl gTbl con_1491 := conR_ok3 gT_all (hd_1491) rfl pn_RX8 tk_X8_at bo_RX8 xo_RX8 (cto_1491 l) ch_1491 cut_nil
/-- RookHusting$Slots at -/
noncomputable def ac_1035 : AC := .inr (2, jl_n [js_5 43 9223372036854775807 9223372036854775807, js_4 7 1, js_5 196 9223372036854775807 9223372036854775807])
noncomputable def hq_867 : HP := [(false, .inl (8, [(6, 1, 0), (8, 4, 0), (8, 5, 0)])), (false, ac_1035)]
noncomputable def con_1492 : Con2 := ((yX8_at, cX8_at, 3, (some .long)), (0, 0), ([(6, 0, 0), (0, 0, 0), (0, 43, 0)], gi_928, [.inl (8, [(6, 1, 0), (8, 4, 0), (8, 5, 0)]), ac_1035], []), [((4, 6, 0), gi_929, hq_867, [], [1])])
theorem hd_1492 : con_1492.1 = (yX8_at, cX8_at, 3, (some .long)) := rfl
noncomputable def ct_1492 : CTB2 := []
noncomputable def cu_1492 : List CUT2 := []
theorem ch_1492 : staG tb_X8_at 1 bt_RX8 [] ct_1492 [] [] cu_1492 11 con_1492 = true := by decide +kernel
theorem cto_1492 (l : Launch) : CTOK2 l RX8 vwCl gTbl ct_1492 := ct2_nil
theorem vl_1492 (l : Launch) : Vld2 l vwCl gTbl con_1492 := conR_ok3 gT_all (hd_1492) rfl pn_RX8 tk_X8_at bo_RX8 xo_RX8 (cto_1492 l) ch_1492 cut_nil
/-- RookHusting$Slots at -/
noncomputable def ac_1036 : AC := .inr (2, jl_n [js_5 44 9223372036854775807 9223372036854775807, js_4 7 1, js_5 195 9223372036854775807 9223372036854775807])
noncomputable def hq_868 : HP := [(false, .inl (8, [(6, 1, 0), (8, 4, 0), (8, 5, 0)])), (false, ac_1036)]
noncomputable def con_1493 : Con2 := ((yX8_at, cX8_at, 3, (some .long)), (0, 0), ([(6, 0, 0), (0, 0, 0), (0, 44, 0)], gi_928, [.inl (8, [(6, 1, 0), (8, 4, 0), (8, 5, 0)]), ac_1036], []), [((4, 6, 0), gi_929, hq_868, [], [1])])
theorem hd_1493 : con_1493.1 = (yX8_at, cX8_at, 3, (some .long)) := rfl
noncomputable def ct_1493 : CTB2 := []
noncomputable def cu_1493 : List CUT2 := []
theorem ch_1493 : staG tb_X8_at 1 bt_RX8 [] ct_1493 [] [] cu_1493 11 con_1493 = true := by decide +kernel
theorem cto_1493 (l : Launch) : CTOK2 l RX8 vwCl gTbl ct_1493 := ct2_nil
theorem vl_1493 (l : Launch) : Vld2 l vwCl gTbl con_1493 := conR_ok3 gT_all (hd_1493) rfl pn_RX8 tk_X8_at bo_RX8 xo_RX8 (cto_1493 l) ch_1493 cut_nil
/-- RookHusting$Slots at -/
noncomputable def ac_1037 : AC := .inr (2, jl_n [js_5 45 9223372036854775807 9223372036854775807, js_4 7 1, js_5 194 9223372036854775807 9223372036854775807])
noncomputable def hq_869 : HP := [(false, .inl (8, [(6, 1, 0), (8, 4, 0), (8, 5, 0)])), (false, ac_1037)]
noncomputable def con_1494 : Con2 := ((yX8_at, cX8_at, 3, (some .long)), (0, 0), ([(6, 0, 0), (0, 0, 0), (0, 45, 0)], gi_928, [.inl (8, [(6, 1, 0), (8, 4, 0), (8, 5, 0)]), ac_1037], []), [((4, 6, 0), gi_929, hq_869, [], [1])])
theorem hd_1494 : con_1494.1 = (yX8_at, cX8_at, 3, (some .long)) := rfl
noncomputable def ct_1494 : CTB2 := []
noncomputable def cu_1494 : List CUT2 := []
theorem ch_1494 : staG tb_X8_at 1 bt_RX8 [] ct_1494 [] [] cu_1494 11 con_1494 = true := by decide +kernel
theorem cto_1494 (l : Launch) : CTOK2 l RX8 vwCl gTbl ct_1494 := ct2_nil
theorem vl_1494 (l : Launch) : Vld2 l vwCl gTbl con_1494 := conR_ok3 gT_all (hd_1494) rfl pn_RX8 tk_X8_at bo_RX8 xo_RX8 (cto_1494 l) ch_1494 cut_nil
/-- RookHusting$Slots at -/
noncomputable def ac_1038 : AC := .inr (2, jl_n [js_5 46 9223372036854775807 9223372036854775807, js_4 7 1, js_5 193 9223372036854775807 9223372036854775807])
noncomputable def hq_870 : HP := [(false, .inl (8, [(6, 1, 0), (8, 4, 0), (8, 5, 0)])), (false, ac_1038)]
noncomputable def con_1495 : Con2 := ((yX8_at, cX8_at, 3, (some .long)), (0, 0), ([(6, 0, 0), (0, 0, 0), (0, 46, 0)], gi_928, [.inl (8, [(6, 1, 0), (8, 4, 0), (8, 5, 0)]), ac_1038], []), [((4, 6, 0), gi_929, hq_870, [], [1])])
theorem hd_1495 : con_1495.1 = (yX8_at, cX8_at, 3, (some .long)) := rfl
noncomputable def ct_1495 : CTB2 := []
noncomputable def cu_1495 : List CUT2 := []
theorem ch_1495 : staG tb_X8_at 1 bt_RX8 [] ct_1495 [] [] cu_1495 11 con_1495 = true := by decide +kernel
theorem cto_1495 (l : Launch) : CTOK2 l RX8 vwCl gTbl ct_1495 := ct2_nil
theorem vl_1495 (l : Launch) : Vld2 l vwCl gTbl con_1495 := conR_ok3 gT_all (hd_1495) rfl pn_RX8 tk_X8_at bo_RX8 xo_RX8 (cto_1495 l) ch_1495 cut_nil
/-- RookHusting$Slots at -/
noncomputable def ac_1039 : AC := .inr (2, jl_n [js_5 47 9223372036854775807 9223372036854775807, js_4 7 1, js_5 192 9223372036854775807 9223372036854775807])
noncomputable def hq_871 : HP := [(false, .inl (8, [(6, 1, 0), (8, 4, 0), (8, 5, 0)])), (false, ac_1039)]
noncomputable def con_1496 : Con2 := ((yX8_at, cX8_at, 3, (some .long)), (0, 0), ([(6, 0, 0), (0, 0, 0), (0, 47, 0)], gi_928, [.inl (8, [(6, 1, 0), (8, 4, 0), (8, 5, 0)]), ac_1039], []), [((4, 6, 0), gi_929, hq_871, [], [1])])
theorem hd_1496 : con_1496.1 = (yX8_at, cX8_at, 3, (some .long)) := rfl
noncomputable def ct_1496 : CTB2 := []
noncomputable def cu_1496 : List CUT2 := []
theorem ch_1496 : staG tb_X8_at 1 bt_RX8 [] ct_1496 [] [] cu_1496 11 con_1496 = true := by decide +kernel
theorem cto_1496 (l : Launch) : CTOK2 l RX8 vwCl gTbl ct_1496 := ct2_nil
theorem vl_1496 (l : Launch) : Vld2 l vwCl gTbl con_1496 := conR_ok3 gT_all (hd_1496) rfl pn_RX8 tk_X8_at bo_RX8 xo_RX8 (cto_1496 l) ch_1496 cut_nil
/-- RookHusting$Slots at -/
noncomputable def ac_1040 : AC := .inr (2, jl_n [js_5 48 9223372036854775807 9223372036854775807, js_4 7 1, js_5 191 9223372036854775807 9223372036854775807])
noncomputable def hq_872 : HP := [(false, .inl (8, [(6, 1, 0), (8, 4, 0), (8, 5, 0)])), (false, ac_1040)]
noncomputable def con_1497 : Con2 := ((yX8_at, cX8_at, 3, (some .long)), (0, 0), ([(6, 0, 0), (0, 0, 0), (0, 48, 0)], gi_928, [.inl (8, [(6, 1, 0), (8, 4, 0), (8, 5, 0)]), ac_1040], []), [((4, 6, 0), gi_929, hq_872, [], [1])])
theorem hd_1497 : con_1497.1 = (yX8_at, cX8_at, 3, (some .long)) := rfl
noncomputable def ct_1497 : CTB2 := []
noncomputable def cu_1497 : List CUT2 := []
theorem ch_1497 : staG tb_X8_at 1 bt_RX8 [] ct_1497 [] [] cu_1497 11 con_1497 = true := by decide +kernel
theorem cto_1497 (l : Launch) : CTOK2 l RX8 vwCl gTbl ct_1497 := ct2_nil
theorem vl_1497 (l : Launch) : Vld2 l vwCl gTbl con_1497 := conR_ok3 gT_all (hd_1497) rfl pn_RX8 tk_X8_at bo_RX8 xo_RX8 (cto_1497 l) ch_1497 cut_nil
/-- RookHusting$Slots at -/
noncomputable def ac_1041 : AC := .inr (2, jl_n [js_5 49 9223372036854775807 9223372036854775807, js_4 7 1, js_5 190 9223372036854775807 9223372036854775807])
noncomputable def hq_873 : HP := [(false, .inl (8, [(6, 1, 0), (8, 4, 0), (8, 5, 0)])), (false, ac_1041)]
noncomputable def con_1498 : Con2 := ((yX8_at, cX8_at, 3, (some .long)), (0, 0), ([(6, 0, 0), (0, 0, 0), (0, 49, 0)], gi_928, [.inl (8, [(6, 1, 0), (8, 4, 0), (8, 5, 0)]), ac_1041], []), [((4, 6, 0), gi_929, hq_873, [], [1])])
theorem hd_1498 : con_1498.1 = (yX8_at, cX8_at, 3, (some .long)) := rfl
noncomputable def ct_1498 : CTB2 := []
noncomputable def cu_1498 : List CUT2 := []
theorem ch_1498 : staG tb_X8_at 1 bt_RX8 [] ct_1498 [] [] cu_1498 11 con_1498 = true := by decide +kernel
theorem cto_1498 (l : Launch) : CTOK2 l RX8 vwCl gTbl ct_1498 := ct2_nil
theorem vl_1498 (l : Launch) : Vld2 l vwCl gTbl con_1498 := conR_ok3 gT_all (hd_1498) rfl pn_RX8 tk_X8_at bo_RX8 xo_RX8 (cto_1498 l) ch_1498 cut_nil
/-- RookHusting$Slots at -/
noncomputable def ac_1042 : AC := .inr (2, jl_n [js_5 50 9223372036854775807 9223372036854775807, js_4 7 1, js_5 189 9223372036854775807 9223372036854775807])
noncomputable def hq_874 : HP := [(false, .inl (8, [(6, 1, 0), (8, 4, 0), (8, 5, 0)])), (false, ac_1042)]
noncomputable def con_1499 : Con2 := ((yX8_at, cX8_at, 3, (some .long)), (0, 0), ([(6, 0, 0), (0, 0, 0), (0, 50, 0)], gi_928, [.inl (8, [(6, 1, 0), (8, 4, 0), (8, 5, 0)]), ac_1042], []), [((4, 6, 0), gi_929, hq_874, [], [1])])
theorem hd_1499 : con_1499.1 = (yX8_at, cX8_at, 3, (some .long)) := rfl
noncomputable def ct_1499 : CTB2 := []
noncomputable def cu_1499 : List CUT2 := []
theorem ch_1499 : staG tb_X8_at 1 bt_RX8 [] ct_1499 [] [] cu_1499 11 con_1499 = true := by decide +kernel
theorem cto_1499 (l : Launch) : CTOK2 l RX8 vwCl gTbl ct_1499 := ct2_nil
theorem vl_1499 (l : Launch) : Vld2 l vwCl gTbl con_1499 := conR_ok3 gT_all (hd_1499) rfl pn_RX8 tk_X8_at bo_RX8 xo_RX8 (cto_1499 l) ch_1499 cut_nil
/-- RookHusting$Slots at -/
noncomputable def ac_1043 : AC := .inr (2, jl_n [js_5 51 9223372036854775807 9223372036854775807, js_4 7 1, js_5 188 9223372036854775807 9223372036854775807])
noncomputable def hq_875 : HP := [(false, .inl (8, [(6, 1, 0), (8, 4, 0), (8, 5, 0)])), (false, ac_1043)]
noncomputable def con_1500 : Con2 := ((yX8_at, cX8_at, 3, (some .long)), (0, 0), ([(6, 0, 0), (0, 0, 0), (0, 51, 0)], gi_928, [.inl (8, [(6, 1, 0), (8, 4, 0), (8, 5, 0)]), ac_1043], []), [((4, 6, 0), gi_929, hq_875, [], [1])])
theorem hd_1500 : con_1500.1 = (yX8_at, cX8_at, 3, (some .long)) := rfl
noncomputable def ct_1500 : CTB2 := []
noncomputable def cu_1500 : List CUT2 := []
theorem ch_1500 : staG tb_X8_at 1 bt_RX8 [] ct_1500 [] [] cu_1500 11 con_1500 = true := by decide +kernel
theorem cto_1500 (l : Launch) : CTOK2 l RX8 vwCl gTbl ct_1500 := ct2_nil
theorem vl_1500 (l : Launch) : Vld2 l vwCl gTbl con_1500 := conR_ok3 gT_all (hd_1500) rfl pn_RX8 tk_X8_at bo_RX8 xo_RX8 (cto_1500 l) ch_1500 cut_nil
/-- RookHusting$Slots at -/
noncomputable def ac_1044 : AC := .inr (2, jl_n [js_5 52 9223372036854775807 9223372036854775807, js_4 7 1, js_5 187 9223372036854775807 9223372036854775807])
noncomputable def hq_876 : HP := [(false, .inl (8, [(6, 1, 0), (8, 4, 0), (8, 5, 0)])), (false, ac_1044)]
noncomputable def con_1501 : Con2 := ((yX8_at, cX8_at, 3, (some .long)), (0, 0), ([(6, 0, 0), (0, 0, 0), (0, 52, 0)], gi_928, [.inl (8, [(6, 1, 0), (8, 4, 0), (8, 5, 0)]), ac_1044], []), [((4, 6, 0), gi_929, hq_876, [], [1])])
theorem hd_1501 : con_1501.1 = (yX8_at, cX8_at, 3, (some .long)) := rfl
noncomputable def ct_1501 : CTB2 := []
noncomputable def cu_1501 : List CUT2 := []
theorem ch_1501 : staG tb_X8_at 1 bt_RX8 [] ct_1501 [] [] cu_1501 11 con_1501 = true := by decide +kernel
theorem cto_1501 (l : Launch) : CTOK2 l RX8 vwCl gTbl ct_1501 := ct2_nil
theorem vl_1501 (l : Launch) : Vld2 l vwCl gTbl con_1501 := conR_ok3 gT_all (hd_1501) rfl pn_RX8 tk_X8_at bo_RX8 xo_RX8 (cto_1501 l) ch_1501 cut_nil
/-- RookHusting$Slots at -/
noncomputable def ac_1045 : AC := .inr (2, jl_n [js_5 53 9223372036854775807 9223372036854775807, js_4 7 1, js_5 186 9223372036854775807 9223372036854775807])
noncomputable def hq_877 : HP := [(false, .inl (8, [(6, 1, 0), (8, 4, 0), (8, 5, 0)])), (false, ac_1045)]
noncomputable def con_1502 : Con2 := ((yX8_at, cX8_at, 3, (some .long)), (0, 0), ([(6, 0, 0), (0, 0, 0), (0, 53, 0)], gi_928, [.inl (8, [(6, 1, 0), (8, 4, 0), (8, 5, 0)]), ac_1045], []), [((4, 6, 0), gi_929, hq_877, [], [1])])
theorem hd_1502 : con_1502.1 = (yX8_at, cX8_at, 3, (some .long)) := rfl
noncomputable def ct_1502 : CTB2 := []
noncomputable def cu_1502 : List CUT2 := []
theorem ch_1502 : staG tb_X8_at 1 bt_RX8 [] ct_1502 [] [] cu_1502 11 con_1502 = true := by decide +kernel
theorem cto_1502 (l : Launch) : CTOK2 l RX8 vwCl gTbl ct_1502 := ct2_nil
theorem vl_1502 (l : Launch) : Vld2 l vwCl gTbl con_1502 := conR_ok3 gT_all (hd_1502) rfl pn_RX8 tk_X8_at bo_RX8 xo_RX8 (cto_1502 l) ch_1502 cut_nil
/-- RookHusting$Slots at -/
noncomputable def ac_1046 : AC := .inr (2, jl_n [js_5 54 9223372036854775807 9223372036854775807, js_4 7 1, js_5 185 9223372036854775807 9223372036854775807])
noncomputable def hq_878 : HP := [(false, .inl (8, [(6, 1, 0), (8, 4, 0), (8, 5, 0)])), (false, ac_1046)]
noncomputable def con_1503 : Con2 := ((yX8_at, cX8_at, 3, (some .long)), (0, 0), ([(6, 0, 0), (0, 0, 0), (0, 54, 0)], gi_928, [.inl (8, [(6, 1, 0), (8, 4, 0), (8, 5, 0)]), ac_1046], []), [((4, 6, 0), gi_929, hq_878, [], [1])])
theorem hd_1503 : con_1503.1 = (yX8_at, cX8_at, 3, (some .long)) := rfl
noncomputable def ct_1503 : CTB2 := []
noncomputable def cu_1503 : List CUT2 := []
theorem ch_1503 : staG tb_X8_at 1 bt_RX8 [] ct_1503 [] [] cu_1503 11 con_1503 = true := by decide +kernel
theorem cto_1503 (l : Launch) : CTOK2 l RX8 vwCl gTbl ct_1503 := ct2_nil
theorem vl_1503 (l : Launch) : Vld2 l vwCl gTbl con_1503 := conR_ok3 gT_all (hd_1503) rfl pn_RX8 tk_X8_at bo_RX8 xo_RX8 (cto_1503 l) ch_1503 cut_nil
/-- RookHusting$Slots at -/
noncomputable def ac_1047 : AC := .inr (2, jl_n [js_5 55 9223372036854775807 9223372036854775807, js_4 7 1, js_5 184 9223372036854775807 9223372036854775807])
noncomputable def hq_879 : HP := [(false, .inl (8, [(6, 1, 0), (8, 4, 0), (8, 5, 0)])), (false, ac_1047)]
noncomputable def con_1504 : Con2 := ((yX8_at, cX8_at, 3, (some .long)), (0, 0), ([(6, 0, 0), (0, 0, 0), (0, 55, 0)], gi_928, [.inl (8, [(6, 1, 0), (8, 4, 0), (8, 5, 0)]), ac_1047], []), [((4, 6, 0), gi_929, hq_879, [], [1])])
theorem hd_1504 : con_1504.1 = (yX8_at, cX8_at, 3, (some .long)) := rfl
noncomputable def ct_1504 : CTB2 := []
noncomputable def cu_1504 : List CUT2 := []
theorem ch_1504 : staG tb_X8_at 1 bt_RX8 [] ct_1504 [] [] cu_1504 11 con_1504 = true := by decide +kernel
theorem cto_1504 (l : Launch) : CTOK2 l RX8 vwCl gTbl ct_1504 := ct2_nil
theorem vl_1504 (l : Launch) : Vld2 l vwCl gTbl con_1504 := conR_ok3 gT_all (hd_1504) rfl pn_RX8 tk_X8_at bo_RX8 xo_RX8 (cto_1504 l) ch_1504 cut_nil
/-- RookHusting$Slots at -/
noncomputable def ac_1048 : AC := .inr (2, jl_n [js_5 56 9223372036854775807 9223372036854775807, js_4 7 1, js_5 183 9223372036854775807 9223372036854775807])
noncomputable def hq_880 : HP := [(false, .inl (8, [(6, 1, 0), (8, 4, 0), (8, 5, 0)])), (false, ac_1048)]
noncomputable def con_1505 : Con2 := ((yX8_at, cX8_at, 3, (some .long)), (0, 0), ([(6, 0, 0), (0, 0, 0), (0, 56, 0)], gi_928, [.inl (8, [(6, 1, 0), (8, 4, 0), (8, 5, 0)]), ac_1048], []), [((4, 6, 0), gi_929, hq_880, [], [1])])
theorem hd_1505 : con_1505.1 = (yX8_at, cX8_at, 3, (some .long)) := rfl
noncomputable def ct_1505 : CTB2 := []
noncomputable def cu_1505 : List CUT2 := []
theorem ch_1505 : staG tb_X8_at 1 bt_RX8 [] ct_1505 [] [] cu_1505 11 con_1505 = true := by decide +kernel
theorem cto_1505 (l : Launch) : CTOK2 l RX8 vwCl gTbl ct_1505 := ct2_nil
theorem vl_1505 (l : Launch) : Vld2 l vwCl gTbl con_1505 := conR_ok3 gT_all (hd_1505) rfl pn_RX8 tk_X8_at bo_RX8 xo_RX8 (cto_1505 l) ch_1505 cut_nil
/-- RookHusting$Slots at -/
noncomputable def ac_1049 : AC := .inr (2, jl_n [js_5 57 9223372036854775807 9223372036854775807, js_4 7 1, js_5 182 9223372036854775807 9223372036854775807])
noncomputable def hq_881 : HP := [(false, .inl (8, [(6, 1, 0), (8, 4, 0), (8, 5, 0)])), (false, ac_1049)]
noncomputable def con_1506 : Con2 := ((yX8_at, cX8_at, 3, (some .long)), (0, 0), ([(6, 0, 0), (0, 0, 0), (0, 57, 0)], gi_928, [.inl (8, [(6, 1, 0), (8, 4, 0), (8, 5, 0)]), ac_1049], []), [((4, 6, 0), gi_929, hq_881, [], [1])])
theorem hd_1506 : con_1506.1 = (yX8_at, cX8_at, 3, (some .long)) := rfl
noncomputable def ct_1506 : CTB2 := []
noncomputable def cu_1506 : List CUT2 := []
theorem ch_1506 : staG tb_X8_at 1 bt_RX8 [] ct_1506 [] [] cu_1506 11 con_1506 = true := by decide +kernel
theorem cto_1506 (l : Launch) : CTOK2 l RX8 vwCl gTbl ct_1506 := ct2_nil
theorem vl_1506 (l : Launch) : Vld2 l vwCl gTbl con_1506 := conR_ok3 gT_all (hd_1506) rfl pn_RX8 tk_X8_at bo_RX8 xo_RX8 (cto_1506 l) ch_1506 cut_nil
/-- RookHusting$Slots at -/
noncomputable def ac_1050 : AC := .inr (2, jl_n [js_5 58 9223372036854775807 9223372036854775807, js_4 7 1, js_5 181 9223372036854775807 9223372036854775807])
noncomputable def hq_882 : HP := [(false, .inl (8, [(6, 1, 0), (8, 4, 0), (8, 5, 0)])), (false, ac_1050)]
noncomputable def con_1507 : Con2 := ((yX8_at, cX8_at, 3, (some .long)), (0, 0), ([(6, 0, 0), (0, 0, 0), (0, 58, 0)], gi_928, [.inl (8, [(6, 1, 0), (8, 4, 0), (8, 5, 0)]), ac_1050], []), [((4, 6, 0), gi_929, hq_882, [], [1])])
theorem hd_1507 : con_1507.1 = (yX8_at, cX8_at, 3, (some .long)) := rfl
noncomputable def ct_1507 : CTB2 := []
noncomputable def cu_1507 : List CUT2 := []
theorem ch_1507 : staG tb_X8_at 1 bt_RX8 [] ct_1507 [] [] cu_1507 11 con_1507 = true := by decide +kernel
theorem cto_1507 (l : Launch) : CTOK2 l RX8 vwCl gTbl ct_1507 := ct2_nil
theorem vl_1507 (l : Launch) : Vld2 l vwCl gTbl con_1507 := conR_ok3 gT_all (hd_1507) rfl pn_RX8 tk_X8_at bo_RX8 xo_RX8 (cto_1507 l) ch_1507 cut_nil
/-- RookHusting$Slots at -/
noncomputable def ac_1051 : AC := .inr (2, jl_n [js_5 59 9223372036854775807 9223372036854775807, js_4 7 1, js_5 180 9223372036854775807 9223372036854775807])
noncomputable def hq_883 : HP := [(false, .inl (8, [(6, 1, 0), (8, 4, 0), (8, 5, 0)])), (false, ac_1051)]
noncomputable def con_1508 : Con2 := ((yX8_at, cX8_at, 3, (some .long)), (0, 0), ([(6, 0, 0), (0, 0, 0), (0, 59, 0)], gi_928, [.inl (8, [(6, 1, 0), (8, 4, 0), (8, 5, 0)]), ac_1051], []), [((4, 6, 0), gi_929, hq_883, [], [1])])
theorem hd_1508 : con_1508.1 = (yX8_at, cX8_at, 3, (some .long)) := rfl
noncomputable def ct_1508 : CTB2 := []
noncomputable def cu_1508 : List CUT2 := []
theorem ch_1508 : staG tb_X8_at 1 bt_RX8 [] ct_1508 [] [] cu_1508 11 con_1508 = true := by decide +kernel
theorem cto_1508 (l : Launch) : CTOK2 l RX8 vwCl gTbl ct_1508 := ct2_nil
theorem vl_1508 (l : Launch) : Vld2 l vwCl gTbl con_1508 := conR_ok3 gT_all (hd_1508) rfl pn_RX8 tk_X8_at bo_RX8 xo_RX8 (cto_1508 l) ch_1508 cut_nil
/-- RookHusting wrongSeen -/
noncomputable def ac_1052 : AC := .inr (2, jl_n [js_4 105 60, js_5 180 9223372036854775807 9223372036854775807])
noncomputable def hc_195 : List AC := [ac_804, .inl (9, [(6, 2, 0), (8, 20, 0)]), ac_805, .inl (8, [(6, 5, 0), (8, 39, 0), (6, 4, 0)]), ac_806, ac_1052]
noncomputable def hq_884 : HP := [(false, ac_804), (false, .inl (9, [(6, 2, 0), (8, 20, 0)])), (false, ac_805), (false, .inl (8, [(6, 5, 0), (8, 39, 0), (6, 4, 0)])), (false, ac_806), (false, ac_1052)]
noncomputable def gi_1072 : GI := jl_n [jl_z 2, jl_i 0 4, jl_z 19, jl_i 0 16, jl_z 2, jl_i 1 5, jl_z 15, jl_k 0 0, jl_r 3 (jl_m 0 60), jl_r 60 (jl_u), jl_z 1]
noncomputable def gi_1073 : GI := jl_n [jl_z 2, jl_i 0 4, jl_z 19, jl_i 0 16, jl_z 2, jl_i 1 5, jl_z 16, jl_r 3 (jl_m 0 60), jl_r 60 (jl_u), jl_z 1]
noncomputable def gi_1074 : GI := jl_n [jl_z 2, jl_i 0 4, jl_z 19, jl_i 0 16, jl_z 2, jl_i 1 5, jl_z 15, jl_i 10 12, jl_r 3 (jl_m 0 60), jl_i 0 4, jl_i 0 16, jl_i 0 250, jl_i 0 4, jl_i 0 16, jl_i 0 250, jl_i 0 4, jl_i 0 16, jl_i 0 250, jl_i 0 4, jl_i 0 16, jl_i 0 250, jl_r 48 (jl_u), jl_z 1]
noncomputable def gi_1075 : GI := jl_n [jl_z 2, jl_i 0 4, jl_z 19, jl_i 0 16, jl_z 2, jl_i 1 5, jl_z 15, jl_i 13 15, jl_r 3 (jl_m 0 60), jl_i 0 4, jl_i 0 16, jl_i 0 250, jl_i 0 4, jl_i 0 16, jl_i 0 250, jl_i 0 4, jl_i 0 16, jl_i 0 250, jl_i 0 4, jl_i 0 16, jl_i 0 250, jl_i 0 4, jl_i 0 16, jl_i 0 250, jl_r 45 (jl_u), jl_z 1]
noncomputable def gi_1076 : GI := jl_n [jl_z 2, jl_i 0 4, jl_z 19, jl_i 0 16, jl_z 2, jl_i 1 5, jl_z 15, jl_i 16 18, jl_r 3 (jl_m 0 60), jl_i 0 4, jl_i 0 16, jl_i 0 250, jl_i 0 4, jl_i 0 16, jl_i 0 250, jl_i 0 4, jl_i 0 16, jl_i 0 250, jl_i 0 4, jl_i 0 16, jl_i 0 250, jl_i 0 4, jl_i 0 16, jl_i 0 250, jl_i 0 4, jl_i 0 16, jl_i 0 250, jl_r 42 (jl_u), jl_z 1]
noncomputable def gi_1077 : GI := jl_n [jl_z 2, jl_i 0 4, jl_z 19, jl_i 0 16, jl_z 2, jl_i 1 5, jl_z 15, jl_i 19 21, jl_r 3 (jl_m 0 60), jl_i 0 4, jl_i 0 16, jl_i 0 250, jl_i 0 4, jl_i 0 16, jl_i 0 250, jl_i 0 4, jl_i 0 16, jl_i 0 250, jl_i 0 4, jl_i 0 16, jl_i 0 250, jl_i 0 4, jl_i 0 16, jl_i 0 250, jl_i 0 4, jl_i 0 16, jl_i 0 250, jl_i 0 4, jl_i 0 16, jl_i 0 250, jl_r 39 (jl_u), jl_z 1]
noncomputable def gi_1078 : GI := jl_n [jl_z 2, jl_i 0 4, jl_z 19, jl_i 0 16, jl_z 2, jl_i 1 5, jl_z 15, jl_i 22 24, jl_r 3 (jl_m 0 60), jl_i 0 4, jl_i 0 16, jl_i 0 250, jl_i 0 4, jl_i 0 16, jl_i 0 250, jl_i 0 4, jl_i 0 16, jl_i 0 250, jl_i 0 4, jl_i 0 16, jl_i 0 250, jl_i 0 4, jl_i 0 16, jl_i 0 250, jl_i 0 4, jl_i 0 16, jl_i 0 250, jl_i 0 4, jl_i 0 16, jl_i 0 250, jl_i 0 4, jl_i 0 16, jl_i 0 250, jl_r 36 (jl_u), jl_z 1]
noncomputable def gi_1079 : GI := jl_n [jl_z 2, jl_i 0 4, jl_z 19, jl_i 0 16, jl_z 2, jl_i 1 5, jl_z 15, jl_i 25 27, jl_r 3 (jl_m 0 60), jl_i 0 4, jl_i 0 16, jl_i 0 250, jl_i 0 4, jl_i 0 16, jl_i 0 250, jl_i 0 4, jl_i 0 16, jl_i 0 250, jl_i 0 4, jl_i 0 16, jl_i 0 250, jl_i 0 4, jl_i 0 16, jl_i 0 250, jl_i 0 4, jl_i 0 16, jl_i 0 250, jl_i 0 4, jl_i 0 16, jl_i 0 250, jl_i 0 4, jl_i 0 16, jl_i 0 250, jl_i 0 4, jl_i 0 16, jl_i 0 250, jl_r 33 (jl_u), jl_z 1]
noncomputable def gi_1080 : GI := jl_n [jl_z 2, jl_i 0 4, jl_z 19, jl_i 0 16, jl_z 2, jl_i 1 5, jl_z 15, jl_i 1 3, jl_r 3 (jl_m 0 60), jl_i 0 4, jl_i 0 16, jl_i 0 250, jl_r 57 (jl_u), jl_z 1]
noncomputable def gi_1081 : GI := jl_n [jl_z 2, jl_i 0 4, jl_z 19, jl_i 0 16, jl_z 2, jl_i 1 5, jl_z 15, jl_i 28 30, jl_r 3 (jl_m 0 60), jl_i 0 4, jl_i 0 16, jl_i 0 250, jl_i 0 4, jl_i 0 16, jl_i 0 250, jl_i 0 4, jl_i 0 16, jl_i 0 250, jl_i 0 4, jl_i 0 16, jl_i 0 250, jl_i 0 4, jl_i 0 16, jl_i 0 250, jl_i 0 4, jl_i 0 16, jl_i 0 250, jl_i 0 4, jl_i 0 16, jl_i 0 250, jl_i 0 4, jl_i 0 16, jl_i 0 250, jl_i 0 4, jl_i 0 16, jl_i 0 250, jl_i 0 4, jl_i 0 16, jl_i 0 250, jl_r 30 (jl_u), jl_z 1]
noncomputable def gi_1082 : GI := jl_n [jl_z 2, jl_i 0 4, jl_z 19, jl_i 0 16, jl_z 2, jl_i 1 5, jl_z 15, jl_i 31 33, jl_r 3 (jl_m 0 60), jl_i 0 4, jl_i 0 16, jl_i 0 250, jl_i 0 4, jl_i 0 16, jl_i 0 250, jl_i 0 4, jl_i 0 16, jl_i 0 250, jl_i 0 4, jl_i 0 16, jl_i 0 250, jl_i 0 4, jl_i 0 16, jl_i 0 250, jl_i 0 4, jl_i 0 16, jl_i 0 250, jl_i 0 4, jl_i 0 16, jl_i 0 250, jl_i 0 4, jl_i 0 16, jl_i 0 250, jl_i 0 4, jl_i 0 16, jl_i 0 250, jl_i 0 4, jl_i 0 16, jl_i 0 250, jl_i 0 4, jl_i 0 16, jl_i 0 250, jl_r 27 (jl_u), jl_z 1]
noncomputable def gi_1083 : GI := jl_n [jl_z 2, jl_i 0 4, jl_z 19, jl_i 0 16, jl_z 2, jl_i 1 5, jl_z 15, jl_i 34 36, jl_r 3 (jl_m 0 60), jl_i 0 4, jl_i 0 16, jl_i 0 250, jl_i 0 4, jl_i 0 16, jl_i 0 250, jl_i 0 4, jl_i 0 16, jl_i 0 250, jl_i 0 4, jl_i 0 16, jl_i 0 250, jl_i 0 4, jl_i 0 16, jl_i 0 250, jl_i 0 4, jl_i 0 16, jl_i 0 250, jl_i 0 4, jl_i 0 16, jl_i 0 250, jl_i 0 4, jl_i 0 16, jl_i 0 250, jl_i 0 4, jl_i 0 16, jl_i 0 250, jl_i 0 4, jl_i 0 16, jl_i 0 250, jl_i 0 4, jl_i 0 16, jl_i 0 250, jl_i 0 4, jl_i 0 16, jl_i 0 250, jl_r 24 (jl_u), jl_z 1]
noncomputable def gi_1084 : GI := jl_n [jl_z 2, jl_i 0 4, jl_z 19, jl_i 0 16, jl_z 2, jl_i 1 5, jl_z 15, jl_i 37 39, jl_r 3 (jl_m 0 60), jl_i 0 4, jl_i 0 16, jl_i 0 250, jl_i 0 4, jl_i 0 16, jl_i 0 250, jl_i 0 4, jl_i 0 16, jl_i 0 250, jl_i 0 4, jl_i 0 16, jl_i 0 250, jl_i 0 4, jl_i 0 16, jl_i 0 250, jl_i 0 4, jl_i 0 16, jl_i 0 250, jl_i 0 4, jl_i 0 16, jl_i 0 250, jl_i 0 4, jl_i 0 16, jl_i 0 250, jl_i 0 4, jl_i 0 16, jl_i 0 250, jl_i 0 4, jl_i 0 16, jl_i 0 250, jl_i 0 4, jl_i 0 16, jl_i 0 250, jl_i 0 4, jl_i 0 16, jl_i 0 250, jl_i 0 4, jl_i 0 16, jl_i 0 250, jl_r 21 (jl_u), jl_z 1]
noncomputable def gi_1085 : GI := jl_n [jl_z 2, jl_i 0 4, jl_z 19, jl_i 0 16, jl_z 2, jl_i 1 5, jl_z 15, jl_i 40 42, jl_r 3 (jl_m 0 60), jl_i 0 4, jl_i 0 16, jl_i 0 250, jl_i 0 4, jl_i 0 16, jl_i 0 250, jl_i 0 4, jl_i 0 16, jl_i 0 250, jl_i 0 4, jl_i 0 16, jl_i 0 250, jl_i 0 4, jl_i 0 16, jl_i 0 250, jl_i 0 4, jl_i 0 16, jl_i 0 250, jl_i 0 4, jl_i 0 16, jl_i 0 250, jl_i 0 4, jl_i 0 16, jl_i 0 250, jl_i 0 4, jl_i 0 16, jl_i 0 250, jl_i 0 4, jl_i 0 16, jl_i 0 250, jl_i 0 4, jl_i 0 16, jl_i 0 250, jl_i 0 4, jl_i 0 16, jl_i 0 250, jl_i 0 4, jl_i 0 16, jl_i 0 250, jl_i 0 4, jl_i 0 16, jl_i 0 250, jl_r 18 (jl_u), jl_z 1]
noncomputable def gi_1086 : GI := jl_n [jl_z 2, jl_i 0 4, jl_z 19, jl_i 0 16, jl_z 2, jl_i 1 5, jl_z 15, jl_i 43 45, jl_r 3 (jl_m 0 60), jl_i 0 4, jl_i 0 16, jl_i 0 250, jl_i 0 4, jl_i 0 16, jl_i 0 250, jl_i 0 4, jl_i 0 16, jl_i 0 250, jl_i 0 4, jl_i 0 16, jl_i 0 250, jl_i 0 4, jl_i 0 16, jl_i 0 250, jl_i 0 4, jl_i 0 16, jl_i 0 250, jl_i 0 4, jl_i 0 16, jl_i 0 250, jl_i 0 4, jl_i 0 16, jl_i 0 250, jl_i 0 4, jl_i 0 16, jl_i 0 250, jl_i 0 4, jl_i 0 16, jl_i 0 250, jl_i 0 4, jl_i 0 16, jl_i 0 250, jl_i 0 4, jl_i 0 16, jl_i 0 250, jl_i 0 4, jl_i 0 16, jl_i 0 250, jl_i 0 4, jl_i 0 16, jl_i 0 250, jl_i 0 4, jl_i 0 16, jl_i 0 250, jl_r 15 (jl_u), jl_z 1]
noncomputable def gi_1087 : GI := jl_n [jl_z 2, jl_i 0 4, jl_z 19, jl_i 0 16, jl_z 2, jl_i 1 5, jl_z 15, jl_i 46 48, jl_r 3 (jl_m 0 60), jl_i 0 4, jl_i 0 16, jl_i 0 250, jl_i 0 4, jl_i 0 16, jl_i 0 250, jl_i 0 4, jl_i 0 16, jl_i 0 250, jl_i 0 4, jl_i 0 16, jl_i 0 250, jl_i 0 4, jl_i 0 16, jl_i 0 250, jl_i 0 4, jl_i 0 16, jl_i 0 250, jl_i 0 4, jl_i 0 16, jl_i 0 250, jl_i 0 4, jl_i 0 16, jl_i 0 250, jl_i 0 4, jl_i 0 16, jl_i 0 250, jl_i 0 4, jl_i 0 16, jl_i 0 250, jl_i 0 4, jl_i 0 16, jl_i 0 250, jl_i 0 4, jl_i 0 16, jl_i 0 250, jl_i 0 4, jl_i 0 16, jl_i 0 250, jl_i 0 4, jl_i 0 16, jl_i 0 250, jl_i 0 4, jl_i 0 16, jl_i 0 250, jl_i 0 4, jl_i 0 16, jl_i 0 250, jl_r 12 (jl_u), jl_z 1]
noncomputable def gi_1088 : GI := jl_n [jl_z 2, jl_i 0 4, jl_z 19, jl_i 0 16, jl_z 2, jl_i 1 5, jl_z 15, jl_i 49 51, jl_r 3 (jl_m 0 60), jl_i 0 4, jl_i 0 16, jl_i 0 250, jl_i 0 4, jl_i 0 16, jl_i 0 250, jl_i 0 4, jl_i 0 16, jl_i 0 250, jl_i 0 4, jl_i 0 16, jl_i 0 250, jl_i 0 4, jl_i 0 16, jl_i 0 250, jl_i 0 4, jl_i 0 16, jl_i 0 250, jl_i 0 4, jl_i 0 16, jl_i 0 250, jl_i 0 4, jl_i 0 16, jl_i 0 250, jl_i 0 4, jl_i 0 16, jl_i 0 250, jl_i 0 4, jl_i 0 16, jl_i 0 250, jl_i 0 4, jl_i 0 16, jl_i 0 250, jl_i 0 4, jl_i 0 16, jl_i 0 250, jl_i 0 4, jl_i 0 16, jl_i 0 250, jl_i 0 4, jl_i 0 16, jl_i 0 250, jl_i 0 4, jl_i 0 16, jl_i 0 250, jl_i 0 4, jl_i 0 16, jl_i 0 250, jl_i 0 4, jl_i 0 16, jl_i 0 250, jl_r 9 (jl_u), jl_z 1]
noncomputable def gi_1089 : GI := jl_n [jl_z 2, jl_i 0 4, jl_z 19, jl_i 0 16, jl_z 2, jl_i 1 5, jl_z 15, jl_i 52 54, jl_r 3 (jl_m 0 60), jl_i 0 4, jl_i 0 16, jl_i 0 250, jl_i 0 4, jl_i 0 16, jl_i 0 250, jl_i 0 4, jl_i 0 16, jl_i 0 250, jl_i 0 4, jl_i 0 16, jl_i 0 250, jl_i 0 4, jl_i 0 16, jl_i 0 250, jl_i 0 4, jl_i 0 16, jl_i 0 250, jl_i 0 4, jl_i 0 16, jl_i 0 250, jl_i 0 4, jl_i 0 16, jl_i 0 250, jl_i 0 4, jl_i 0 16, jl_i 0 250, jl_i 0 4, jl_i 0 16, jl_i 0 250, jl_i 0 4, jl_i 0 16, jl_i 0 250, jl_i 0 4, jl_i 0 16, jl_i 0 250, jl_i 0 4, jl_i 0 16, jl_i 0 250, jl_i 0 4, jl_i 0 16, jl_i 0 250, jl_i 0 4, jl_i 0 16, jl_i 0 250, jl_i 0 4, jl_i 0 16, jl_i 0 250, jl_i 0 4, jl_i 0 16, jl_i 0 250, jl_i 0 4, jl_i 0 16, jl_i 0 250, jl_r 6 (jl_u), jl_z 1]
noncomputable def gi_1090 : GI := jl_n [jl_z 2, jl_i 0 4, jl_z 19, jl_i 0 16, jl_z 2, jl_i 1 5, jl_z 15, jl_i 55 57, jl_r 3 (jl_m 0 60), jl_i 0 4, jl_i 0 16, jl_i 0 250, jl_i 0 4, jl_i 0 16, jl_i 0 250, jl_i 0 4, jl_i 0 16, jl_i 0 250, jl_i 0 4, jl_i 0 16, jl_i 0 250, jl_i 0 4, jl_i 0 16, jl_i 0 250, jl_i 0 4, jl_i 0 16, jl_i 0 250, jl_i 0 4, jl_i 0 16, jl_i 0 250, jl_i 0 4, jl_i 0 16, jl_i 0 250, jl_i 0 4, jl_i 0 16, jl_i 0 250, jl_i 0 4, jl_i 0 16, jl_i 0 250, jl_i 0 4, jl_i 0 16, jl_i 0 250, jl_i 0 4, jl_i 0 16, jl_i 0 250, jl_i 0 4, jl_i 0 16, jl_i 0 250, jl_i 0 4, jl_i 0 16, jl_i 0 250, jl_i 0 4, jl_i 0 16, jl_i 0 250, jl_i 0 4, jl_i 0 16, jl_i 0 250, jl_i 0 4, jl_i 0 16, jl_i 0 250, jl_i 0 4, jl_i 0 16, jl_i 0 250, jl_i 0 4, jl_i 0 16, jl_i 0 250, jl_r 3 (jl_u), jl_z 1]
noncomputable def gi_1091 : GI := jl_n [jl_z 2, jl_i 0 4, jl_z 19, jl_i 0 16, jl_z 2, jl_i 1 5, jl_z 15, jl_i 4 6, jl_r 3 (jl_m 0 60), jl_i 0 4, jl_i 0 16, jl_i 0 250, jl_i 0 4, jl_i 0 16, jl_i 0 250, jl_r 54 (jl_u), jl_z 1]
noncomputable def gi_1092 : GI := jl_n [jl_z 2, jl_i 0 4, jl_z 19, jl_i 0 16, jl_z 2, jl_i 1 5, jl_z 15, jl_i 58 60, jl_r 3 (jl_m 0 60), jl_i 0 4, jl_i 0 16, jl_i 0 250, jl_i 0 4, jl_i 0 16, jl_i 0 250, jl_i 0 4, jl_i 0 16, jl_i 0 250, jl_i 0 4, jl_i 0 16, jl_i 0 250, jl_i 0 4, jl_i 0 16, jl_i 0 250, jl_i 0 4, jl_i 0 16, jl_i 0 250, jl_i 0 4, jl_i 0 16, jl_i 0 250, jl_i 0 4, jl_i 0 16, jl_i 0 250, jl_i 0 4, jl_i 0 16, jl_i 0 250, jl_i 0 4, jl_i 0 16, jl_i 0 250, jl_i 0 4, jl_i 0 16, jl_i 0 250, jl_i 0 4, jl_i 0 16, jl_i 0 250, jl_i 0 4, jl_i 0 16, jl_i 0 250, jl_i 0 4, jl_i 0 16, jl_i 0 250, jl_i 0 4, jl_i 0 16, jl_i 0 250, jl_i 0 4, jl_i 0 16, jl_i 0 250, jl_i 0 4, jl_i 0 16, jl_i 0 250, jl_i 0 4, jl_i 0 16, jl_i 0 250, jl_i 0 4, jl_i 0 16, jl_i 0 250, jl_i 0 4, jl_i 0 16, jl_i 0 250, jl_z 1]
noncomputable def gi_1093 : GI := jl_n [jl_z 2, jl_i 0 4, jl_z 19, jl_i 0 16, jl_z 2, jl_i 1 5, jl_z 15, jl_i 7 9, jl_r 3 (jl_m 0 60), jl_i 0 4, jl_i 0 16, jl_i 0 250, jl_i 0 4, jl_i 0 16, jl_i 0 250, jl_i 0 4, jl_i 0 16, jl_i 0 250, jl_r 51 (jl_u), jl_z 1]
noncomputable def con_1509 : Con2 := ((yX11_wrongSeen, cX11_wrongSeen, 5, (some .int)), (1, 22), ([(6, 0, 0), (0, 0, 0), (1, 2, 0)], gi_933, hc_195, []), [((0, (-2), 0), gi_934, hq_884, [], [1]), ((0, (-6), 0), gi_1072, hq_884, [], [1]), ((0, 0, 0), gi_1073, hq_884, [], [1]), ((0, 0, 0), gi_1074, hq_884, [], [1]), ((0, 0, 0), gi_1075, hq_884, [], [1]), ((0, 0, 0), gi_1076, hq_884, [], [1]), ((0, 0, 0), gi_1077, hq_884, [], [1]), ((0, 0, 0), gi_1078, hq_884, [], [1]), ((0, 0, 0), gi_1079, hq_884, [], [1]), ((0, 0, 0), gi_1080, hq_884, [], [1]), ((0, 0, 0), gi_1081, hq_884, [], [1]), ((0, 0, 0), gi_1082, hq_884, [], [1]), ((0, 0, 0), gi_1083, hq_884, [], [1]), ((0, 0, 0), gi_1084, hq_884, [], [1]), ((0, 0, 0), gi_1085, hq_884, [], [1]), ((0, 0, 0), gi_1086, hq_884, [], [1]), ((0, 0, 0), gi_1087, hq_884, [], [1]), ((0, 0, 0), gi_1088, hq_884, [], [1]), ((0, 0, 0), gi_1089, hq_884, [], [1]), ((0, 0, 0), gi_1090, hq_884, [], [1]), ((0, 0, 0), gi_1091, hq_884, [], [1]), ((0, 0, 0), gi_1092, hq_884, [], [1]), ((0, 0, 0), gi_1093, hq_884, [], [1])])
theorem hd_1509 : con_1509.1 = (yX11_wrongSeen, cX11_wrongSeen, 5, (some .int)) := rfl
theorem ck_RX11_473_1451 : COK2 RX11 vwCl gTbl 473 0 con_1451 := ⟨wd_1218, wd_131, mh_X8_at, .inr (.inr ⟨rfl, wd_1215, wd_1216, wd_1217, ⟨_, rfl, pd_X8_at⟩, 8, _, TX8, 3, rfl, rfl⟩)⟩
theorem ck_RX11_473_1454 : COK2 RX11 vwCl gTbl 473 0 con_1454 := ⟨wd_1218, wd_131, mh_X8_at, .inr (.inr ⟨rfl, wd_1215, wd_1216, wd_1217, ⟨_, rfl, pd_X8_at⟩, 8, _, TX8, 3, rfl, rfl⟩)⟩
theorem ck_RX11_473_1457 : COK2 RX11 vwCl gTbl 473 0 con_1457 := ⟨wd_1218, wd_131, mh_X8_at, .inr (.inr ⟨rfl, wd_1215, wd_1216, wd_1217, ⟨_, rfl, pd_X8_at⟩, 8, _, TX8, 3, rfl, rfl⟩)⟩
theorem ck_RX11_473_1460 : COK2 RX11 vwCl gTbl 473 0 con_1460 := ⟨wd_1218, wd_131, mh_X8_at, .inr (.inr ⟨rfl, wd_1215, wd_1216, wd_1217, ⟨_, rfl, pd_X8_at⟩, 8, _, TX8, 3, rfl, rfl⟩)⟩
theorem ck_RX11_473_1463 : COK2 RX11 vwCl gTbl 473 0 con_1463 := ⟨wd_1218, wd_131, mh_X8_at, .inr (.inr ⟨rfl, wd_1215, wd_1216, wd_1217, ⟨_, rfl, pd_X8_at⟩, 8, _, TX8, 3, rfl, rfl⟩)⟩
theorem ck_RX11_473_1466 : COK2 RX11 vwCl gTbl 473 0 con_1466 := ⟨wd_1218, wd_131, mh_X8_at, .inr (.inr ⟨rfl, wd_1215, wd_1216, wd_1217, ⟨_, rfl, pd_X8_at⟩, 8, _, TX8, 3, rfl, rfl⟩)⟩
theorem ck_RX11_473_1469 : COK2 RX11 vwCl gTbl 473 0 con_1469 := ⟨wd_1218, wd_131, mh_X8_at, .inr (.inr ⟨rfl, wd_1215, wd_1216, wd_1217, ⟨_, rfl, pd_X8_at⟩, 8, _, TX8, 3, rfl, rfl⟩)⟩
theorem ck_RX11_473_1472 : COK2 RX11 vwCl gTbl 473 0 con_1472 := ⟨wd_1218, wd_131, mh_X8_at, .inr (.inr ⟨rfl, wd_1215, wd_1216, wd_1217, ⟨_, rfl, pd_X8_at⟩, 8, _, TX8, 3, rfl, rfl⟩)⟩
theorem ck_RX11_473_1475 : COK2 RX11 vwCl gTbl 473 0 con_1475 := ⟨wd_1218, wd_131, mh_X8_at, .inr (.inr ⟨rfl, wd_1215, wd_1216, wd_1217, ⟨_, rfl, pd_X8_at⟩, 8, _, TX8, 3, rfl, rfl⟩)⟩
theorem ck_RX11_473_1478 : COK2 RX11 vwCl gTbl 473 0 con_1478 := ⟨wd_1218, wd_131, mh_X8_at, .inr (.inr ⟨rfl, wd_1215, wd_1216, wd_1217, ⟨_, rfl, pd_X8_at⟩, 8, _, TX8, 3, rfl, rfl⟩)⟩
theorem ck_RX11_473_1481 : COK2 RX11 vwCl gTbl 473 0 con_1481 := ⟨wd_1218, wd_131, mh_X8_at, .inr (.inr ⟨rfl, wd_1215, wd_1216, wd_1217, ⟨_, rfl, pd_X8_at⟩, 8, _, TX8, 3, rfl, rfl⟩)⟩
theorem ck_RX11_473_1484 : COK2 RX11 vwCl gTbl 473 0 con_1484 := ⟨wd_1218, wd_131, mh_X8_at, .inr (.inr ⟨rfl, wd_1215, wd_1216, wd_1217, ⟨_, rfl, pd_X8_at⟩, 8, _, TX8, 3, rfl, rfl⟩)⟩
theorem ck_RX11_473_1487 : COK2 RX11 vwCl gTbl 473 0 con_1487 := ⟨wd_1218, wd_131, mh_X8_at, .inr (.inr ⟨rfl, wd_1215, wd_1216, wd_1217, ⟨_, rfl, pd_X8_at⟩, 8, _, TX8, 3, rfl, rfl⟩)⟩
theorem ck_RX11_473_1490 : COK2 RX11 vwCl gTbl 473 0 con_1490 := ⟨wd_1218, wd_131, mh_X8_at, .inr (.inr ⟨rfl, wd_1215, wd_1216, wd_1217, ⟨_, rfl, pd_X8_at⟩, 8, _, TX8, 3, rfl, rfl⟩)⟩
theorem ck_RX11_473_1493 : COK2 RX11 vwCl gTbl 473 0 con_1493 := ⟨wd_1218, wd_131, mh_X8_at, .inr (.inr ⟨rfl, wd_1215, wd_1216, wd_1217, ⟨_, rfl, pd_X8_at⟩, 8, _, TX8, 3, rfl, rfl⟩)⟩
theorem ck_RX11_473_1496 : COK2 RX11 vwCl gTbl 473 0 con_1496 := ⟨wd_1218, wd_131, mh_X8_at, .inr (.inr ⟨rfl, wd_1215, wd_1216, wd_1217, ⟨_, rfl, pd_X8_at⟩, 8, _, TX8, 3, rfl, rfl⟩)⟩
theorem ck_RX11_473_1499 : COK2 RX11 vwCl gTbl 473 0 con_1499 := ⟨wd_1218, wd_131, mh_X8_at, .inr (.inr ⟨rfl, wd_1215, wd_1216, wd_1217, ⟨_, rfl, pd_X8_at⟩, 8, _, TX8, 3, rfl, rfl⟩)⟩
theorem ck_RX11_473_1502 : COK2 RX11 vwCl gTbl 473 0 con_1502 := ⟨wd_1218, wd_131, mh_X8_at, .inr (.inr ⟨rfl, wd_1215, wd_1216, wd_1217, ⟨_, rfl, pd_X8_at⟩, 8, _, TX8, 3, rfl, rfl⟩)⟩
theorem ck_RX11_473_1505 : COK2 RX11 vwCl gTbl 473 0 con_1505 := ⟨wd_1218, wd_131, mh_X8_at, .inr (.inr ⟨rfl, wd_1215, wd_1216, wd_1217, ⟨_, rfl, pd_X8_at⟩, 8, _, TX8, 3, rfl, rfl⟩)⟩
theorem ck_RX11_473_1508 : COK2 RX11 vwCl gTbl 473 0 con_1508 := ⟨wd_1218, wd_131, mh_X8_at, .inr (.inr ⟨rfl, wd_1215, wd_1216, wd_1217, ⟨_, rfl, pd_X8_at⟩, 8, _, TX8, 3, rfl, rfl⟩)⟩
theorem ck_RX11_473_1450 : COK2 RX11 vwCl gTbl 473 0 con_1450 := ⟨wd_1218, wd_131, mh_X8_at, .inr (.inr ⟨rfl, wd_1215, wd_1216, wd_1217, ⟨_, rfl, pd_X8_at⟩, 8, _, TX8, 3, rfl, rfl⟩)⟩
theorem ck_RX11_473_1453 : COK2 RX11 vwCl gTbl 473 0 con_1453 := ⟨wd_1218, wd_131, mh_X8_at, .inr (.inr ⟨rfl, wd_1215, wd_1216, wd_1217, ⟨_, rfl, pd_X8_at⟩, 8, _, TX8, 3, rfl, rfl⟩)⟩
theorem ck_RX11_473_1456 : COK2 RX11 vwCl gTbl 473 0 con_1456 := ⟨wd_1218, wd_131, mh_X8_at, .inr (.inr ⟨rfl, wd_1215, wd_1216, wd_1217, ⟨_, rfl, pd_X8_at⟩, 8, _, TX8, 3, rfl, rfl⟩)⟩
theorem ck_RX11_473_1459 : COK2 RX11 vwCl gTbl 473 0 con_1459 := ⟨wd_1218, wd_131, mh_X8_at, .inr (.inr ⟨rfl, wd_1215, wd_1216, wd_1217, ⟨_, rfl, pd_X8_at⟩, 8, _, TX8, 3, rfl, rfl⟩)⟩
theorem ck_RX11_473_1462 : COK2 RX11 vwCl gTbl 473 0 con_1462 := ⟨wd_1218, wd_131, mh_X8_at, .inr (.inr ⟨rfl, wd_1215, wd_1216, wd_1217, ⟨_, rfl, pd_X8_at⟩, 8, _, TX8, 3, rfl, rfl⟩)⟩
theorem ck_RX11_473_1465 : COK2 RX11 vwCl gTbl 473 0 con_1465 := ⟨wd_1218, wd_131, mh_X8_at, .inr (.inr ⟨rfl, wd_1215, wd_1216, wd_1217, ⟨_, rfl, pd_X8_at⟩, 8, _, TX8, 3, rfl, rfl⟩)⟩
theorem ck_RX11_473_1468 : COK2 RX11 vwCl gTbl 473 0 con_1468 := ⟨wd_1218, wd_131, mh_X8_at, .inr (.inr ⟨rfl, wd_1215, wd_1216, wd_1217, ⟨_, rfl, pd_X8_at⟩, 8, _, TX8, 3, rfl, rfl⟩)⟩
theorem ck_RX11_473_1471 : COK2 RX11 vwCl gTbl 473 0 con_1471 := ⟨wd_1218, wd_131, mh_X8_at, .inr (.inr ⟨rfl, wd_1215, wd_1216, wd_1217, ⟨_, rfl, pd_X8_at⟩, 8, _, TX8, 3, rfl, rfl⟩)⟩
theorem ck_RX11_473_1474 : COK2 RX11 vwCl gTbl 473 0 con_1474 := ⟨wd_1218, wd_131, mh_X8_at, .inr (.inr ⟨rfl, wd_1215, wd_1216, wd_1217, ⟨_, rfl, pd_X8_at⟩, 8, _, TX8, 3, rfl, rfl⟩)⟩
theorem ck_RX11_473_1477 : COK2 RX11 vwCl gTbl 473 0 con_1477 := ⟨wd_1218, wd_131, mh_X8_at, .inr (.inr ⟨rfl, wd_1215, wd_1216, wd_1217, ⟨_, rfl, pd_X8_at⟩, 8, _, TX8, 3, rfl, rfl⟩)⟩
theorem ck_RX11_473_1480 : COK2 RX11 vwCl gTbl 473 0 con_1480 := ⟨wd_1218, wd_131, mh_X8_at, .inr (.inr ⟨rfl, wd_1215, wd_1216, wd_1217, ⟨_, rfl, pd_X8_at⟩, 8, _, TX8, 3, rfl, rfl⟩)⟩
theorem ck_RX11_473_1483 : COK2 RX11 vwCl gTbl 473 0 con_1483 := ⟨wd_1218, wd_131, mh_X8_at, .inr (.inr ⟨rfl, wd_1215, wd_1216, wd_1217, ⟨_, rfl, pd_X8_at⟩, 8, _, TX8, 3, rfl, rfl⟩)⟩
theorem ck_RX11_473_1486 : COK2 RX11 vwCl gTbl 473 0 con_1486 := ⟨wd_1218, wd_131, mh_X8_at, .inr (.inr ⟨rfl, wd_1215, wd_1216, wd_1217, ⟨_, rfl, pd_X8_at⟩, 8, _, TX8, 3, rfl, rfl⟩)⟩
theorem ck_RX11_473_1489 : COK2 RX11 vwCl gTbl 473 0 con_1489 := ⟨wd_1218, wd_131, mh_X8_at, .inr (.inr ⟨rfl, wd_1215, wd_1216, wd_1217, ⟨_, rfl, pd_X8_at⟩, 8, _, TX8, 3, rfl, rfl⟩)⟩
theorem ck_RX11_473_1492 : COK2 RX11 vwCl gTbl 473 0 con_1492 := ⟨wd_1218, wd_131, mh_X8_at, .inr (.inr ⟨rfl, wd_1215, wd_1216, wd_1217, ⟨_, rfl, pd_X8_at⟩, 8, _, TX8, 3, rfl, rfl⟩)⟩
theorem ck_RX11_473_1495 : COK2 RX11 vwCl gTbl 473 0 con_1495 := ⟨wd_1218, wd_131, mh_X8_at, .inr (.inr ⟨rfl, wd_1215, wd_1216, wd_1217, ⟨_, rfl, pd_X8_at⟩, 8, _, TX8, 3, rfl, rfl⟩)⟩
theorem ck_RX11_473_1498 : COK2 RX11 vwCl gTbl 473 0 con_1498 := ⟨wd_1218, wd_131, mh_X8_at, .inr (.inr ⟨rfl, wd_1215, wd_1216, wd_1217, ⟨_, rfl, pd_X8_at⟩, 8, _, TX8, 3, rfl, rfl⟩)⟩
theorem ck_RX11_473_1501 : COK2 RX11 vwCl gTbl 473 0 con_1501 := ⟨wd_1218, wd_131, mh_X8_at, .inr (.inr ⟨rfl, wd_1215, wd_1216, wd_1217, ⟨_, rfl, pd_X8_at⟩, 8, _, TX8, 3, rfl, rfl⟩)⟩
theorem ck_RX11_473_1504 : COK2 RX11 vwCl gTbl 473 0 con_1504 := ⟨wd_1218, wd_131, mh_X8_at, .inr (.inr ⟨rfl, wd_1215, wd_1216, wd_1217, ⟨_, rfl, pd_X8_at⟩, 8, _, TX8, 3, rfl, rfl⟩)⟩
theorem ck_RX11_473_1507 : COK2 RX11 vwCl gTbl 473 0 con_1507 := ⟨wd_1218, wd_131, mh_X8_at, .inr (.inr ⟨rfl, wd_1215, wd_1216, wd_1217, ⟨_, rfl, pd_X8_at⟩, 8, _, TX8, 3, rfl, rfl⟩)⟩
theorem ck_RX11_473_1449 : COK2 RX11 vwCl gTbl 473 0 con_1449 := ⟨wd_1218, wd_131, mh_X8_at, .inr (.inr ⟨rfl, wd_1215, wd_1216, wd_1217, ⟨_, rfl, pd_X8_at⟩, 8, _, TX8, 3, rfl, rfl⟩)⟩
theorem ck_RX11_473_1452 : COK2 RX11 vwCl gTbl 473 0 con_1452 := ⟨wd_1218, wd_131, mh_X8_at, .inr (.inr ⟨rfl, wd_1215, wd_1216, wd_1217, ⟨_, rfl, pd_X8_at⟩, 8, _, TX8, 3, rfl, rfl⟩)⟩
theorem ck_RX11_473_1455 : COK2 RX11 vwCl gTbl 473 0 con_1455 := ⟨wd_1218, wd_131, mh_X8_at, .inr (.inr ⟨rfl, wd_1215, wd_1216, wd_1217, ⟨_, rfl, pd_X8_at⟩, 8, _, TX8, 3, rfl, rfl⟩)⟩
theorem ck_RX11_473_1458 : COK2 RX11 vwCl gTbl 473 0 con_1458 := ⟨wd_1218, wd_131, mh_X8_at, .inr (.inr ⟨rfl, wd_1215, wd_1216, wd_1217, ⟨_, rfl, pd_X8_at⟩, 8, _, TX8, 3, rfl, rfl⟩)⟩
theorem ck_RX11_473_1461 : COK2 RX11 vwCl gTbl 473 0 con_1461 := ⟨wd_1218, wd_131, mh_X8_at, .inr (.inr ⟨rfl, wd_1215, wd_1216, wd_1217, ⟨_, rfl, pd_X8_at⟩, 8, _, TX8, 3, rfl, rfl⟩)⟩
theorem ck_RX11_473_1464 : COK2 RX11 vwCl gTbl 473 0 con_1464 := ⟨wd_1218, wd_131, mh_X8_at, .inr (.inr ⟨rfl, wd_1215, wd_1216, wd_1217, ⟨_, rfl, pd_X8_at⟩, 8, _, TX8, 3, rfl, rfl⟩)⟩
theorem ck_RX11_473_1467 : COK2 RX11 vwCl gTbl 473 0 con_1467 := ⟨wd_1218, wd_131, mh_X8_at, .inr (.inr ⟨rfl, wd_1215, wd_1216, wd_1217, ⟨_, rfl, pd_X8_at⟩, 8, _, TX8, 3, rfl, rfl⟩)⟩
theorem ck_RX11_473_1470 : COK2 RX11 vwCl gTbl 473 0 con_1470 := ⟨wd_1218, wd_131, mh_X8_at, .inr (.inr ⟨rfl, wd_1215, wd_1216, wd_1217, ⟨_, rfl, pd_X8_at⟩, 8, _, TX8, 3, rfl, rfl⟩)⟩
theorem ck_RX11_473_1473 : COK2 RX11 vwCl gTbl 473 0 con_1473 := ⟨wd_1218, wd_131, mh_X8_at, .inr (.inr ⟨rfl, wd_1215, wd_1216, wd_1217, ⟨_, rfl, pd_X8_at⟩, 8, _, TX8, 3, rfl, rfl⟩)⟩
theorem ck_RX11_473_1476 : COK2 RX11 vwCl gTbl 473 0 con_1476 := ⟨wd_1218, wd_131, mh_X8_at, .inr (.inr ⟨rfl, wd_1215, wd_1216, wd_1217, ⟨_, rfl, pd_X8_at⟩, 8, _, TX8, 3, rfl, rfl⟩)⟩
theorem ck_RX11_473_1479 : COK2 RX11 vwCl gTbl 473 0 con_1479 := ⟨wd_1218, wd_131, mh_X8_at, .inr (.inr ⟨rfl, wd_1215, wd_1216, wd_1217, ⟨_, rfl, pd_X8_at⟩, 8, _, TX8, 3, rfl, rfl⟩)⟩
theorem ck_RX11_473_1482 : COK2 RX11 vwCl gTbl 473 0 con_1482 := ⟨wd_1218, wd_131, mh_X8_at, .inr (.inr ⟨rfl, wd_1215, wd_1216, wd_1217, ⟨_, rfl, pd_X8_at⟩, 8, _, TX8, 3, rfl, rfl⟩)⟩
theorem ck_RX11_473_1485 : COK2 RX11 vwCl gTbl 473 0 con_1485 := ⟨wd_1218, wd_131, mh_X8_at, .inr (.inr ⟨rfl, wd_1215, wd_1216, wd_1217, ⟨_, rfl, pd_X8_at⟩, 8, _, TX8, 3, rfl, rfl⟩)⟩
theorem ck_RX11_473_1488 : COK2 RX11 vwCl gTbl 473 0 con_1488 := ⟨wd_1218, wd_131, mh_X8_at, .inr (.inr ⟨rfl, wd_1215, wd_1216, wd_1217, ⟨_, rfl, pd_X8_at⟩, 8, _, TX8, 3, rfl, rfl⟩)⟩
theorem ck_RX11_473_1491 : COK2 RX11 vwCl gTbl 473 0 con_1491 := ⟨wd_1218, wd_131, mh_X8_at, .inr (.inr ⟨rfl, wd_1215, wd_1216, wd_1217, ⟨_, rfl, pd_X8_at⟩, 8, _, TX8, 3, rfl, rfl⟩)⟩
theorem ck_RX11_473_1494 : COK2 RX11 vwCl gTbl 473 0 con_1494 := ⟨wd_1218, wd_131, mh_X8_at, .inr (.inr ⟨rfl, wd_1215, wd_1216, wd_1217, ⟨_, rfl, pd_X8_at⟩, 8, _, TX8, 3, rfl, rfl⟩)⟩
theorem ck_RX11_473_1497 : COK2 RX11 vwCl gTbl 473 0 con_1497 := ⟨wd_1218, wd_131, mh_X8_at, .inr (.inr ⟨rfl, wd_1215, wd_1216, wd_1217, ⟨_, rfl, pd_X8_at⟩, 8, _, TX8, 3, rfl, rfl⟩)⟩
theorem ck_RX11_473_1500 : COK2 RX11 vwCl gTbl 473 0 con_1500 := ⟨wd_1218, wd_131, mh_X8_at, .inr (.inr ⟨rfl, wd_1215, wd_1216, wd_1217, ⟨_, rfl, pd_X8_at⟩, 8, _, TX8, 3, rfl, rfl⟩)⟩
theorem ck_RX11_473_1503 : COK2 RX11 vwCl gTbl 473 0 con_1503 := ⟨wd_1218, wd_131, mh_X8_at, .inr (.inr ⟨rfl, wd_1215, wd_1216, wd_1217, ⟨_, rfl, pd_X8_at⟩, 8, _, TX8, 3, rfl, rfl⟩)⟩
theorem ck_RX11_473_1506 : COK2 RX11 vwCl gTbl 473 0 con_1506 := ⟨wd_1218, wd_131, mh_X8_at, .inr (.inr ⟨rfl, wd_1215, wd_1216, wd_1217, ⟨_, rfl, pd_X8_at⟩, 8, _, TX8, 3, rfl, rfl⟩)⟩
theorem ck_RX11_420_1448 : COK2 RX11 vwCl gTbl 420 0 con_1448 := ⟨wd_1214, wd_131, mh_X8_hasRow, .inr (.inr ⟨rfl, wd_1211, wd_1212, wd_1213, ⟨_, rfl, pd_X8_hasRow⟩, 8, _, TX8, 3, rfl, rfl⟩)⟩
theorem ck_RX11_414_1447 : COK2 RX11 vwCl gTbl 414 1 con_1447 := ⟨wd_1210, wd_131, mh_X8_isSlot, .inl ⟨rfl, wd_1208, wd_1209, pd_X8_isSlot⟩⟩
noncomputable def ct_1509 : CTB2 := [(1, 414, 1, con_1447, []), (9, 139, 0, con_643, [0, 1, 2]), (23, 420, 0, con_1448, [3, 4]), (67, 473, 0, con_1506, [3, 5]), (67, 473, 0, con_1503, [3, 5]), (67, 473, 0, con_1500, [3, 5]), (67, 473, 0, con_1497, [3, 5]), (67, 473, 0, con_1494, [3, 5]), (67, 473, 0, con_1491, [3, 5]), (67, 473, 0, con_1488, [3, 5]), (67, 473, 0, con_1485, [3, 5]), (67, 473, 0, con_1482, [3, 5]), (67, 473, 0, con_1479, [3, 5]), (67, 473, 0, con_1476, [3, 5]), (67, 473, 0, con_1473, [3, 5]), (67, 473, 0, con_1470, [3, 5]), (67, 473, 0, con_1467, [3, 5]), (67, 473, 0, con_1464, [3, 5]), (67, 473, 0, con_1461, [3, 5]), (67, 473, 0, con_1458, [3, 5]), (67, 473, 0, con_1455, [3, 5]), (67, 473, 0, con_1452, [3, 5]), (67, 473, 0, con_1449, [3, 5]), (82, 476, 1, con_1258, []), (97, 473, 0, con_1507, [3, 5]), (97, 473, 0, con_1504, [3, 5]), (97, 473, 0, con_1501, [3, 5]), (97, 473, 0, con_1498, [3, 5]), (97, 473, 0, con_1495, [3, 5]), (97, 473, 0, con_1492, [3, 5]), (97, 473, 0, con_1489, [3, 5]), (97, 473, 0, con_1486, [3, 5]), (97, 473, 0, con_1483, [3, 5]), (97, 473, 0, con_1480, [3, 5]), (97, 473, 0, con_1477, [3, 5]), (97, 473, 0, con_1474, [3, 5]), (97, 473, 0, con_1471, [3, 5]), (97, 473, 0, con_1468, [3, 5]), (97, 473, 0, con_1465, [3, 5]), (97, 473, 0, con_1462, [3, 5]), (97, 473, 0, con_1459, [3, 5]), (97, 473, 0, con_1456, [3, 5]), (97, 473, 0, con_1453, [3, 5]), (97, 473, 0, con_1450, [3, 5]), (110, 476, 1, con_1260, []), (125, 473, 0, con_1508, [3, 5]), (125, 473, 0, con_1505, [3, 5]), (125, 473, 0, con_1502, [3, 5]), (125, 473, 0, con_1499, [3, 5]), (125, 473, 0, con_1496, [3, 5]), (125, 473, 0, con_1493, [3, 5]), (125, 473, 0, con_1490, [3, 5]), (125, 473, 0, con_1487, [3, 5]), (125, 473, 0, con_1484, [3, 5]), (125, 473, 0, con_1481, [3, 5]), (125, 473, 0, con_1478, [3, 5]), (125, 473, 0, con_1475, [3, 5]), (125, 473, 0, con_1472, [3, 5]), (125, 473, 0, con_1469, [3, 5]), (125, 473, 0, con_1466, [3, 5]), (125, 473, 0, con_1463, [3, 5]), (125, 473, 0, con_1460, [3, 5]), (125, 473, 0, con_1457, [3, 5]), (125, 473, 0, con_1454, [3, 5]), (125, 473, 0, con_1451, [3, 5]), (131, 476, 1, con_1262, [])]
noncomputable def gi_1094 : GI := jl_n [jl_z 2, jl_i 0 4, jl_z 19, jl_i 0 16, jl_z 2, jl_i 1 5, jl_z 15, jl_i 0 60, jl_r 3 (jl_m 0 60), jl_r 60 (jl_u), jl_z 5]
noncomputable def gi_1095 : GI := jl_n [jl_z 2, jl_i 0 4, jl_z 19, jl_i 0 16, jl_z 2, jl_i 1 5, jl_z 15, jl_i 1 60, jl_r 3 (jl_m 0 60), jl_i 0 4, jl_i 0 16, jl_i 0 250, jl_r 57 (jl_u), jl_z 5]
noncomputable def gi_1096 : GI := jl_n [jl_z 2, jl_i 0 4, jl_z 19, jl_i 0 16, jl_z 2, jl_i 1 5, jl_z 15, jl_i 4 60, jl_r 3 (jl_m 0 60), jl_i 0 4, jl_i 0 16, jl_i 0 250, jl_i 0 4, jl_i 0 16, jl_i 0 250, jl_r 54 (jl_u), jl_z 5]
noncomputable def gi_1097 : GI := jl_n [jl_z 2, jl_i 0 4, jl_z 19, jl_i 0 16, jl_z 2, jl_i 1 5, jl_z 15, jl_i 7 60, jl_r 3 (jl_m 0 60), jl_i 0 4, jl_i 0 16, jl_i 0 250, jl_i 0 4, jl_i 0 16, jl_i 0 250, jl_i 0 4, jl_i 0 16, jl_i 0 250, jl_r 51 (jl_u), jl_z 5]
noncomputable def gi_1098 : GI := jl_n [jl_z 2, jl_i 0 4, jl_z 19, jl_i 0 16, jl_z 2, jl_i 1 5, jl_z 15, jl_i 10 60, jl_r 3 (jl_m 0 60), jl_i 0 4, jl_i 0 16, jl_i 0 250, jl_i 0 4, jl_i 0 16, jl_i 0 250, jl_i 0 4, jl_i 0 16, jl_i 0 250, jl_i 0 4, jl_i 0 16, jl_i 0 250, jl_r 48 (jl_u), jl_z 5]
noncomputable def gi_1099 : GI := jl_n [jl_z 2, jl_i 0 4, jl_z 19, jl_i 0 16, jl_z 2, jl_i 1 5, jl_z 15, jl_i 13 60, jl_r 3 (jl_m 0 60), jl_i 0 4, jl_i 0 16, jl_i 0 250, jl_i 0 4, jl_i 0 16, jl_i 0 250, jl_i 0 4, jl_i 0 16, jl_i 0 250, jl_i 0 4, jl_i 0 16, jl_i 0 250, jl_i 0 4, jl_i 0 16, jl_i 0 250, jl_r 45 (jl_u), jl_z 5]
noncomputable def gi_1100 : GI := jl_n [jl_z 2, jl_i 0 4, jl_z 19, jl_i 0 16, jl_z 2, jl_i 1 5, jl_z 15, jl_i 16 60, jl_r 3 (jl_m 0 60), jl_i 0 4, jl_i 0 16, jl_i 0 250, jl_i 0 4, jl_i 0 16, jl_i 0 250, jl_i 0 4, jl_i 0 16, jl_i 0 250, jl_i 0 4, jl_i 0 16, jl_i 0 250, jl_i 0 4, jl_i 0 16, jl_i 0 250, jl_i 0 4, jl_i 0 16, jl_i 0 250, jl_r 42 (jl_u), jl_z 5]
noncomputable def gi_1101 : GI := jl_n [jl_z 2, jl_i 0 4, jl_z 19, jl_i 0 16, jl_z 2, jl_i 1 5, jl_z 15, jl_i 19 60, jl_r 3 (jl_m 0 60), jl_i 0 4, jl_i 0 16, jl_i 0 250, jl_i 0 4, jl_i 0 16, jl_i 0 250, jl_i 0 4, jl_i 0 16, jl_i 0 250, jl_i 0 4, jl_i 0 16, jl_i 0 250, jl_i 0 4, jl_i 0 16, jl_i 0 250, jl_i 0 4, jl_i 0 16, jl_i 0 250, jl_i 0 4, jl_i 0 16, jl_i 0 250, jl_r 39 (jl_u), jl_z 5]
noncomputable def gi_1102 : GI := jl_n [jl_z 2, jl_i 0 4, jl_z 19, jl_i 0 16, jl_z 2, jl_i 1 5, jl_z 15, jl_i 22 60, jl_r 3 (jl_m 0 60), jl_i 0 4, jl_i 0 16, jl_i 0 250, jl_i 0 4, jl_i 0 16, jl_i 0 250, jl_i 0 4, jl_i 0 16, jl_i 0 250, jl_i 0 4, jl_i 0 16, jl_i 0 250, jl_i 0 4, jl_i 0 16, jl_i 0 250, jl_i 0 4, jl_i 0 16, jl_i 0 250, jl_i 0 4, jl_i 0 16, jl_i 0 250, jl_i 0 4, jl_i 0 16, jl_i 0 250, jl_r 36 (jl_u), jl_z 5]
noncomputable def gi_1103 : GI := jl_n [jl_z 2, jl_i 0 4, jl_z 19, jl_i 0 16, jl_z 2, jl_i 1 5, jl_z 15, jl_i 25 60, jl_r 3 (jl_m 0 60), jl_i 0 4, jl_i 0 16, jl_i 0 250, jl_i 0 4, jl_i 0 16, jl_i 0 250, jl_i 0 4, jl_i 0 16, jl_i 0 250, jl_i 0 4, jl_i 0 16, jl_i 0 250, jl_i 0 4, jl_i 0 16, jl_i 0 250, jl_i 0 4, jl_i 0 16, jl_i 0 250, jl_i 0 4, jl_i 0 16, jl_i 0 250, jl_i 0 4, jl_i 0 16, jl_i 0 250, jl_i 0 4, jl_i 0 16, jl_i 0 250, jl_r 33 (jl_u), jl_z 5]
noncomputable def gi_1104 : GI := jl_n [jl_z 2, jl_i 0 4, jl_z 19, jl_i 0 16, jl_z 2, jl_i 1 5, jl_z 15, jl_i 28 60, jl_r 3 (jl_m 0 60), jl_i 0 4, jl_i 0 16, jl_i 0 250, jl_i 0 4, jl_i 0 16, jl_i 0 250, jl_i 0 4, jl_i 0 16, jl_i 0 250, jl_i 0 4, jl_i 0 16, jl_i 0 250, jl_i 0 4, jl_i 0 16, jl_i 0 250, jl_i 0 4, jl_i 0 16, jl_i 0 250, jl_i 0 4, jl_i 0 16, jl_i 0 250, jl_i 0 4, jl_i 0 16, jl_i 0 250, jl_i 0 4, jl_i 0 16, jl_i 0 250, jl_i 0 4, jl_i 0 16, jl_i 0 250, jl_r 30 (jl_u), jl_z 5]
noncomputable def gi_1105 : GI := jl_n [jl_z 2, jl_i 0 4, jl_z 19, jl_i 0 16, jl_z 2, jl_i 1 5, jl_z 15, jl_i 31 60, jl_r 3 (jl_m 0 60), jl_i 0 4, jl_i 0 16, jl_i 0 250, jl_i 0 4, jl_i 0 16, jl_i 0 250, jl_i 0 4, jl_i 0 16, jl_i 0 250, jl_i 0 4, jl_i 0 16, jl_i 0 250, jl_i 0 4, jl_i 0 16, jl_i 0 250, jl_i 0 4, jl_i 0 16, jl_i 0 250, jl_i 0 4, jl_i 0 16, jl_i 0 250, jl_i 0 4, jl_i 0 16, jl_i 0 250, jl_i 0 4, jl_i 0 16, jl_i 0 250, jl_i 0 4, jl_i 0 16, jl_i 0 250, jl_i 0 4, jl_i 0 16, jl_i 0 250, jl_r 27 (jl_u), jl_z 5]
noncomputable def gi_1106 : GI := jl_n [jl_z 2, jl_i 0 4, jl_z 19, jl_i 0 16, jl_z 2, jl_i 1 5, jl_z 15, jl_i 34 60, jl_r 3 (jl_m 0 60), jl_i 0 4, jl_i 0 16, jl_i 0 250, jl_i 0 4, jl_i 0 16, jl_i 0 250, jl_i 0 4, jl_i 0 16, jl_i 0 250, jl_i 0 4, jl_i 0 16, jl_i 0 250, jl_i 0 4, jl_i 0 16, jl_i 0 250, jl_i 0 4, jl_i 0 16, jl_i 0 250, jl_i 0 4, jl_i 0 16, jl_i 0 250, jl_i 0 4, jl_i 0 16, jl_i 0 250, jl_i 0 4, jl_i 0 16, jl_i 0 250, jl_i 0 4, jl_i 0 16, jl_i 0 250, jl_i 0 4, jl_i 0 16, jl_i 0 250, jl_i 0 4, jl_i 0 16, jl_i 0 250, jl_r 24 (jl_u), jl_z 5]
noncomputable def gi_1107 : GI := jl_n [jl_z 2, jl_i 0 4, jl_z 19, jl_i 0 16, jl_z 2, jl_i 1 5, jl_z 15, jl_i 37 60, jl_r 3 (jl_m 0 60), jl_i 0 4, jl_i 0 16, jl_i 0 250, jl_i 0 4, jl_i 0 16, jl_i 0 250, jl_i 0 4, jl_i 0 16, jl_i 0 250, jl_i 0 4, jl_i 0 16, jl_i 0 250, jl_i 0 4, jl_i 0 16, jl_i 0 250, jl_i 0 4, jl_i 0 16, jl_i 0 250, jl_i 0 4, jl_i 0 16, jl_i 0 250, jl_i 0 4, jl_i 0 16, jl_i 0 250, jl_i 0 4, jl_i 0 16, jl_i 0 250, jl_i 0 4, jl_i 0 16, jl_i 0 250, jl_i 0 4, jl_i 0 16, jl_i 0 250, jl_i 0 4, jl_i 0 16, jl_i 0 250, jl_i 0 4, jl_i 0 16, jl_i 0 250, jl_r 21 (jl_u), jl_z 5]
noncomputable def gi_1108 : GI := jl_n [jl_z 2, jl_i 0 4, jl_z 19, jl_i 0 16, jl_z 2, jl_i 1 5, jl_z 15, jl_i 40 60, jl_r 3 (jl_m 0 60), jl_i 0 4, jl_i 0 16, jl_i 0 250, jl_i 0 4, jl_i 0 16, jl_i 0 250, jl_i 0 4, jl_i 0 16, jl_i 0 250, jl_i 0 4, jl_i 0 16, jl_i 0 250, jl_i 0 4, jl_i 0 16, jl_i 0 250, jl_i 0 4, jl_i 0 16, jl_i 0 250, jl_i 0 4, jl_i 0 16, jl_i 0 250, jl_i 0 4, jl_i 0 16, jl_i 0 250, jl_i 0 4, jl_i 0 16, jl_i 0 250, jl_i 0 4, jl_i 0 16, jl_i 0 250, jl_i 0 4, jl_i 0 16, jl_i 0 250, jl_i 0 4, jl_i 0 16, jl_i 0 250, jl_i 0 4, jl_i 0 16, jl_i 0 250, jl_i 0 4, jl_i 0 16, jl_i 0 250, jl_r 18 (jl_u), jl_z 5]
noncomputable def gi_1109 : GI := jl_n [jl_z 2, jl_i 0 4, jl_z 19, jl_i 0 16, jl_z 2, jl_i 1 5, jl_z 15, jl_i 43 60, jl_r 3 (jl_m 0 60), jl_i 0 4, jl_i 0 16, jl_i 0 250, jl_i 0 4, jl_i 0 16, jl_i 0 250, jl_i 0 4, jl_i 0 16, jl_i 0 250, jl_i 0 4, jl_i 0 16, jl_i 0 250, jl_i 0 4, jl_i 0 16, jl_i 0 250, jl_i 0 4, jl_i 0 16, jl_i 0 250, jl_i 0 4, jl_i 0 16, jl_i 0 250, jl_i 0 4, jl_i 0 16, jl_i 0 250, jl_i 0 4, jl_i 0 16, jl_i 0 250, jl_i 0 4, jl_i 0 16, jl_i 0 250, jl_i 0 4, jl_i 0 16, jl_i 0 250, jl_i 0 4, jl_i 0 16, jl_i 0 250, jl_i 0 4, jl_i 0 16, jl_i 0 250, jl_i 0 4, jl_i 0 16, jl_i 0 250, jl_i 0 4, jl_i 0 16, jl_i 0 250, jl_r 15 (jl_u), jl_z 5]
noncomputable def gi_1110 : GI := jl_n [jl_z 2, jl_i 0 4, jl_z 19, jl_i 0 16, jl_z 2, jl_i 1 5, jl_z 15, jl_i 46 60, jl_r 3 (jl_m 0 60), jl_i 0 4, jl_i 0 16, jl_i 0 250, jl_i 0 4, jl_i 0 16, jl_i 0 250, jl_i 0 4, jl_i 0 16, jl_i 0 250, jl_i 0 4, jl_i 0 16, jl_i 0 250, jl_i 0 4, jl_i 0 16, jl_i 0 250, jl_i 0 4, jl_i 0 16, jl_i 0 250, jl_i 0 4, jl_i 0 16, jl_i 0 250, jl_i 0 4, jl_i 0 16, jl_i 0 250, jl_i 0 4, jl_i 0 16, jl_i 0 250, jl_i 0 4, jl_i 0 16, jl_i 0 250, jl_i 0 4, jl_i 0 16, jl_i 0 250, jl_i 0 4, jl_i 0 16, jl_i 0 250, jl_i 0 4, jl_i 0 16, jl_i 0 250, jl_i 0 4, jl_i 0 16, jl_i 0 250, jl_i 0 4, jl_i 0 16, jl_i 0 250, jl_i 0 4, jl_i 0 16, jl_i 0 250, jl_r 12 (jl_u), jl_z 5]
noncomputable def gi_1111 : GI := jl_n [jl_z 2, jl_i 0 4, jl_z 19, jl_i 0 16, jl_z 2, jl_i 1 5, jl_z 15, jl_i 49 60, jl_r 3 (jl_m 0 60), jl_i 0 4, jl_i 0 16, jl_i 0 250, jl_i 0 4, jl_i 0 16, jl_i 0 250, jl_i 0 4, jl_i 0 16, jl_i 0 250, jl_i 0 4, jl_i 0 16, jl_i 0 250, jl_i 0 4, jl_i 0 16, jl_i 0 250, jl_i 0 4, jl_i 0 16, jl_i 0 250, jl_i 0 4, jl_i 0 16, jl_i 0 250, jl_i 0 4, jl_i 0 16, jl_i 0 250, jl_i 0 4, jl_i 0 16, jl_i 0 250, jl_i 0 4, jl_i 0 16, jl_i 0 250, jl_i 0 4, jl_i 0 16, jl_i 0 250, jl_i 0 4, jl_i 0 16, jl_i 0 250, jl_i 0 4, jl_i 0 16, jl_i 0 250, jl_i 0 4, jl_i 0 16, jl_i 0 250, jl_i 0 4, jl_i 0 16, jl_i 0 250, jl_i 0 4, jl_i 0 16, jl_i 0 250, jl_i 0 4, jl_i 0 16, jl_i 0 250, jl_r 9 (jl_u), jl_z 5]
noncomputable def gi_1112 : GI := jl_n [jl_z 2, jl_i 0 4, jl_z 19, jl_i 0 16, jl_z 2, jl_i 1 5, jl_z 15, jl_i 52 60, jl_r 3 (jl_m 0 60), jl_i 0 4, jl_i 0 16, jl_i 0 250, jl_i 0 4, jl_i 0 16, jl_i 0 250, jl_i 0 4, jl_i 0 16, jl_i 0 250, jl_i 0 4, jl_i 0 16, jl_i 0 250, jl_i 0 4, jl_i 0 16, jl_i 0 250, jl_i 0 4, jl_i 0 16, jl_i 0 250, jl_i 0 4, jl_i 0 16, jl_i 0 250, jl_i 0 4, jl_i 0 16, jl_i 0 250, jl_i 0 4, jl_i 0 16, jl_i 0 250, jl_i 0 4, jl_i 0 16, jl_i 0 250, jl_i 0 4, jl_i 0 16, jl_i 0 250, jl_i 0 4, jl_i 0 16, jl_i 0 250, jl_i 0 4, jl_i 0 16, jl_i 0 250, jl_i 0 4, jl_i 0 16, jl_i 0 250, jl_i 0 4, jl_i 0 16, jl_i 0 250, jl_i 0 4, jl_i 0 16, jl_i 0 250, jl_i 0 4, jl_i 0 16, jl_i 0 250, jl_i 0 4, jl_i 0 16, jl_i 0 250, jl_r 6 (jl_u), jl_z 5]
noncomputable def gi_1113 : GI := jl_n [jl_z 2, jl_i 0 4, jl_z 19, jl_i 0 16, jl_z 2, jl_i 1 5, jl_z 15, jl_i 55 60, jl_r 3 (jl_m 0 60), jl_i 0 4, jl_i 0 16, jl_i 0 250, jl_i 0 4, jl_i 0 16, jl_i 0 250, jl_i 0 4, jl_i 0 16, jl_i 0 250, jl_i 0 4, jl_i 0 16, jl_i 0 250, jl_i 0 4, jl_i 0 16, jl_i 0 250, jl_i 0 4, jl_i 0 16, jl_i 0 250, jl_i 0 4, jl_i 0 16, jl_i 0 250, jl_i 0 4, jl_i 0 16, jl_i 0 250, jl_i 0 4, jl_i 0 16, jl_i 0 250, jl_i 0 4, jl_i 0 16, jl_i 0 250, jl_i 0 4, jl_i 0 16, jl_i 0 250, jl_i 0 4, jl_i 0 16, jl_i 0 250, jl_i 0 4, jl_i 0 16, jl_i 0 250, jl_i 0 4, jl_i 0 16, jl_i 0 250, jl_i 0 4, jl_i 0 16, jl_i 0 250, jl_i 0 4, jl_i 0 16, jl_i 0 250, jl_i 0 4, jl_i 0 16, jl_i 0 250, jl_i 0 4, jl_i 0 16, jl_i 0 250, jl_i 0 4, jl_i 0 16, jl_i 0 250, jl_r 3 (jl_u), jl_z 5]
noncomputable def gi_1114 : GI := jl_n [jl_z 2, jl_i 0 4, jl_z 19, jl_i 0 16, jl_z 2, jl_i 1 5, jl_z 15, jl_i 58 60, jl_r 3 (jl_m 0 60), jl_i 0 4, jl_i 0 16, jl_i 0 250, jl_i 0 4, jl_i 0 16, jl_i 0 250, jl_i 0 4, jl_i 0 16, jl_i 0 250, jl_i 0 4, jl_i 0 16, jl_i 0 250, jl_i 0 4, jl_i 0 16, jl_i 0 250, jl_i 0 4, jl_i 0 16, jl_i 0 250, jl_i 0 4, jl_i 0 16, jl_i 0 250, jl_i 0 4, jl_i 0 16, jl_i 0 250, jl_i 0 4, jl_i 0 16, jl_i 0 250, jl_i 0 4, jl_i 0 16, jl_i 0 250, jl_i 0 4, jl_i 0 16, jl_i 0 250, jl_i 0 4, jl_i 0 16, jl_i 0 250, jl_i 0 4, jl_i 0 16, jl_i 0 250, jl_i 0 4, jl_i 0 16, jl_i 0 250, jl_i 0 4, jl_i 0 16, jl_i 0 250, jl_i 0 4, jl_i 0 16, jl_i 0 250, jl_i 0 4, jl_i 0 16, jl_i 0 250, jl_i 0 4, jl_i 0 16, jl_i 0 250, jl_i 0 4, jl_i 0 16, jl_i 0 250, jl_i 0 4, jl_i 0 16, jl_i 0 250, jl_z 5]
noncomputable def cu_1509_0 : List CUT2 := [((54, [(0, (6, 0, 0)), (1, (0, 0, 0)), (2, (1, 2, 0)), (3, (1, 41, 0)), (4, (0, 0, 0))], [], gi_1094, hq_884), [], ([], 60)), ((54, [(0, (6, 0, 0)), (1, (0, 0, 0)), (2, (1, 2, 0)), (3, (1, 41, 0)), (4, (0, 3, 0))], [], gi_1095, hq_884), [], ([], 57)), ((54, [(0, (6, 0, 0)), (1, (0, 0, 0)), (2, (1, 2, 0)), (3, (1, 41, 0)), (4, (0, 6, 0))], [], gi_1096, hq_884), [], ([], 54)), ((54, [(0, (6, 0, 0)), (1, (0, 0, 0)), (2, (1, 2, 0)), (3, (1, 41, 0)), (4, (0, 9, 0))], [], gi_1097, hq_884), [], ([], 51)), ((54, [(0, (6, 0, 0)), (1, (0, 0, 0)), (2, (1, 2, 0)), (3, (1, 41, 0)), (4, (0, 12, 0))], [], gi_1098, hq_884), [], ([], 48)), ((54, [(0, (6, 0, 0)), (1, (0, 0, 0)), (2, (1, 2, 0)), (3, (1, 41, 0)), (4, (0, 15, 0))], [], gi_1099, hq_884), [], ([], 45)), ((54, [(0, (6, 0, 0)), (1, (0, 0, 0)), (2, (1, 2, 0)), (3, (1, 41, 0)), (4, (0, 18, 0))], [], gi_1100, hq_884), [], ([], 42)), ((54, [(0, (6, 0, 0)), (1, (0, 0, 0)), (2, (1, 2, 0)), (3, (1, 41, 0)), (4, (0, 21, 0))], [], gi_1101, hq_884), [], ([], 39)), ((54, [(0, (6, 0, 0)), (1, (0, 0, 0)), (2, (1, 2, 0)), (3, (1, 41, 0)), (4, (0, 24, 0))], [], gi_1102, hq_884), [], ([], 36)), ((54, [(0, (6, 0, 0)), (1, (0, 0, 0)), (2, (1, 2, 0)), (3, (1, 41, 0)), (4, (0, 27, 0))], [], gi_1103, hq_884), [], ([], 33)), ((54, [(0, (6, 0, 0)), (1, (0, 0, 0)), (2, (1, 2, 0)), (3, (1, 41, 0)), (4, (0, 30, 0))], [], gi_1104, hq_884), [], ([], 30)), ((54, [(0, (6, 0, 0)), (1, (0, 0, 0)), (2, (1, 2, 0)), (3, (1, 41, 0)), (4, (0, 33, 0))], [], gi_1105, hq_884), [], ([], 27)), ((54, [(0, (6, 0, 0)), (1, (0, 0, 0)), (2, (1, 2, 0)), (3, (1, 41, 0)), (4, (0, 36, 0))], [], gi_1106, hq_884), [], ([], 24))]
noncomputable def cu_1509_1 : List CUT2 := [((54, [(0, (6, 0, 0)), (1, (0, 0, 0)), (2, (1, 2, 0)), (3, (1, 41, 0)), (4, (0, 39, 0))], [], gi_1107, hq_884), [], ([], 21)), ((54, [(0, (6, 0, 0)), (1, (0, 0, 0)), (2, (1, 2, 0)), (3, (1, 41, 0)), (4, (0, 42, 0))], [], gi_1108, hq_884), [], ([], 18)), ((54, [(0, (6, 0, 0)), (1, (0, 0, 0)), (2, (1, 2, 0)), (3, (1, 41, 0)), (4, (0, 45, 0))], [], gi_1109, hq_884), [], ([], 15)), ((54, [(0, (6, 0, 0)), (1, (0, 0, 0)), (2, (1, 2, 0)), (3, (1, 41, 0)), (4, (0, 48, 0))], [], gi_1110, hq_884), [], ([], 12)), ((54, [(0, (6, 0, 0)), (1, (0, 0, 0)), (2, (1, 2, 0)), (3, (1, 41, 0)), (4, (0, 51, 0))], [], gi_1111, hq_884), [], ([], 9)), ((54, [(0, (6, 0, 0)), (1, (0, 0, 0)), (2, (1, 2, 0)), (3, (1, 41, 0)), (4, (0, 54, 0))], [], gi_1112, hq_884), [], ([], 6)), ((54, [(0, (6, 0, 0)), (1, (0, 0, 0)), (2, (1, 2, 0)), (3, (1, 41, 0)), (4, (0, 57, 0))], [], gi_1113, hq_884), [], ([], 3)), ((54, [(0, (6, 0, 0)), (1, (0, 0, 0)), (2, (1, 2, 0)), (3, (1, 41, 0)), (4, (0, 60, 0))], [], gi_1114, hq_884), [], ([], 0))]
noncomputable def cu_1509 : List CUT2 := cu_1509_0 ++ (cu_1509_1)
theorem ch_1509 : staG tb_X11_wrongSeen 1 bt_RX11 [] ct_1509 [] [] cu_1509 44 con_1509 = true := by decide +kernel
theorem cc_1509_0 : cu_1509_0.all (cutG tb_X11_wrongSeen 1 bt_RX11 [] ct_1509 [] [] cu_1509 44 con_1509) = true := by decide +kernel
theorem cc_1509_1 : cu_1509_1.all (cutG tb_X11_wrongSeen 1 bt_RX11 [] ct_1509 [] [] cu_1509 44 con_1509) = true := by decide +kernel
theorem cto_1509 (l : Launch) : CTOK2 l RX11 vwCl gTbl ct_1509 := ct2_cons (vl_1447 l) ck_RX11_414_1447 (ct2_cons (vl_643 l) ck_RX11_139_643 (ct2_cons (vl_1448 l) ck_RX11_420_1448 (ct2_cons (vl_1506 l) ck_RX11_473_1506 (ct2_cons (vl_1503 l) ck_RX11_473_1503 (ct2_cons (vl_1500 l) ck_RX11_473_1500 (ct2_cons (vl_1497 l) ck_RX11_473_1497 (ct2_cons (vl_1494 l) ck_RX11_473_1494 (ct2_cons (vl_1491 l) ck_RX11_473_1491 (ct2_cons (vl_1488 l) ck_RX11_473_1488 (ct2_cons (vl_1485 l) ck_RX11_473_1485 (ct2_cons (vl_1482 l) ck_RX11_473_1482 (ct2_cons (vl_1479 l) ck_RX11_473_1479 (ct2_cons (vl_1476 l) ck_RX11_473_1476 (ct2_cons (vl_1473 l) ck_RX11_473_1473 (ct2_cons (vl_1470 l) ck_RX11_473_1470 (ct2_cons (vl_1467 l) ck_RX11_473_1467 (ct2_cons (vl_1464 l) ck_RX11_473_1464 (ct2_cons (vl_1461 l) ck_RX11_473_1461 (ct2_cons (vl_1458 l) ck_RX11_473_1458 (ct2_cons (vl_1455 l) ck_RX11_473_1455 (ct2_cons (vl_1452 l) ck_RX11_473_1452 (ct2_cons (vl_1449 l) ck_RX11_473_1449 (ct2_cons (vl_1258 l) ck_RX11_476_1258 (ct2_cons (vl_1507 l) ck_RX11_473_1507 (ct2_cons (vl_1504 l) ck_RX11_473_1504 (ct2_cons (vl_1501 l) ck_RX11_473_1501 (ct2_cons (vl_1498 l) ck_RX11_473_1498 (ct2_cons (vl_1495 l) ck_RX11_473_1495 (ct2_cons (vl_1492 l) ck_RX11_473_1492 (ct2_cons (vl_1489 l) ck_RX11_473_1489 (ct2_cons (vl_1486 l) ck_RX11_473_1486 (ct2_cons (vl_1483 l) ck_RX11_473_1483 (ct2_cons (vl_1480 l) ck_RX11_473_1480 (ct2_cons (vl_1477 l) ck_RX11_473_1477 (ct2_cons (vl_1474 l) ck_RX11_473_1474 (ct2_cons (vl_1471 l) ck_RX11_473_1471 (ct2_cons (vl_1468 l) ck_RX11_473_1468 (ct2_cons (vl_1465 l) ck_RX11_473_1465 (ct2_cons (vl_1462 l) ck_RX11_473_1462 (ct2_cons (vl_1459 l) ck_RX11_473_1459 (ct2_cons (vl_1456 l) ck_RX11_473_1456 (ct2_cons (vl_1453 l) ck_RX11_473_1453 (ct2_cons (vl_1450 l) ck_RX11_473_1450 (ct2_cons (vl_1260 l) ck_RX11_476_1260 (ct2_cons (vl_1508 l) ck_RX11_473_1508 (ct2_cons (vl_1505 l) ck_RX11_473_1505 (ct2_cons (vl_1502 l) ck_RX11_473_1502 (ct2_cons (vl_1499 l) ck_RX11_473_1499 (ct2_cons (vl_1496 l) ck_RX11_473_1496 (ct2_cons (vl_1493 l) ck_RX11_473_1493 (ct2_cons (vl_1490 l) ck_RX11_473_1490 (ct2_cons (vl_1487 l) ck_RX11_473_1487 (ct2_cons (vl_1484 l) ck_RX11_473_1484 (ct2_cons (vl_1481 l) ck_RX11_473_1481 (ct2_cons (vl_1478 l) ck_RX11_473_1478 (ct2_cons (vl_1475 l) ck_RX11_473_1475 (ct2_cons (vl_1472 l) ck_RX11_473_1472 (ct2_cons (vl_1469 l) ck_RX11_473_1469 (ct2_cons (vl_1466 l) ck_RX11_473_1466 (ct2_cons (vl_1463 l) ck_RX11_473_1463 (ct2_cons (vl_1460 l) ck_RX11_473_1460 (ct2_cons (vl_1457 l) ck_RX11_473_1457 (ct2_cons (vl_1454 l) ck_RX11_473_1454 (ct2_cons (vl_1451 l) ck_RX11_473_1451 (ct2_cons (vl_1262 l) ck_RX11_476_1262 (ct2_nil))))))))))))))))))))))))))))))))))))))))))))))))))))))))))))))))))
theorem vl_1509 (l : Launch) : Vld2 l vwCl gTbl con_1509 := conR_ok3 gT_all (hd_1509) rfl pn_RX11 tk_X11_wrongSeen bo_RX11 xo_RX11 (cto_1509 l) ch_1509 (cut_app (cut_all cc_1509_0) (cut_all cc_1509_1))
/-- RookHusting$Slots isSlot -/
noncomputable def con_1510 : Con2 := ((yX8_isSlot, cX8_isSlot, 1, (some .boolean)), (0, 0), ([(1, 0, 0)], [((-2147483648), (-1))], [], []), [((0, 0, 0), [((-2147483648), (-1)), (0, 0)], [], [], [1])])
theorem hd_1510 : con_1510.1 = (yX8_isSlot, cX8_isSlot, 1, (some .boolean)) := rfl
noncomputable def ct_1510 : CTB2 := []
noncomputable def cu_1510 : List CUT2 := []
theorem ch_1510 : staG tb_X8_isSlot 1 bt_RX8 [] ct_1510 [] [] cu_1510 6 con_1510 = true := by decide +kernel
theorem cto_1510 (l : Launch) : CTOK2 l RX8 vwCl gTbl ct_1510 := ct2_nil
theorem vl_1510 (l : Launch) : Vld2 l vwCl gTbl con_1510 := conR_ok3 gT_all (hd_1510) rfl pn_RX8 tk_X8_isSlot bo_RX8 xo_RX8 (cto_1510 l) ch_1510 cut_nil
/-- RookHusting wrongSeen -/
noncomputable def gi_1115 : GI := jl_n [jl_z 1, jl_k 2147483647 0, jl_t, jl_z 19, jl_i 0 16, jl_z 2, jl_i 0 5, jl_z 15, jl_r 4 (jl_m 0 60)]
noncomputable def gi_1116 : GI := jl_n [jl_z 1, jl_k 2147483647 0, jl_t, jl_z 19, jl_i 0 16, jl_z 2, jl_i 0 5, jl_z 15, jl_r 4 (jl_m 0 60), jl_z 1]
noncomputable def con_1511 : Con2 := ((yX11_wrongSeen, cX11_wrongSeen, 5, (some .int)), (1, 20), ([(6, 0, 0), (1, 1, 0), (1, 2, 0)], gi_1115, hc_191, []), [((0, (-2), 0), gi_1116, hq_639, [], [1])])
theorem hd_1511 : con_1511.1 = (yX11_wrongSeen, cX11_wrongSeen, 5, (some .int)) := rfl
theorem ck_RX11_414_1510 : COK2 RX11 vwCl gTbl 414 1 con_1510 := ⟨wd_1210, wd_131, mh_X8_isSlot, .inl ⟨rfl, wd_1208, wd_1209, pd_X8_isSlot⟩⟩
noncomputable def ct_1511 : CTB2 := [(1, 414, 1, con_1510, [])]
noncomputable def cu_1511 : List CUT2 := []
theorem ch_1511 : staG tb_X11_wrongSeen 1 bt_RX11 [] ct_1511 [] [] cu_1511 7 con_1511 = true := by decide +kernel
theorem cto_1511 (l : Launch) : CTOK2 l RX11 vwCl gTbl ct_1511 := ct2_cons (vl_1510 l) ck_RX11_414_1510 (ct2_nil)
theorem vl_1511 (l : Launch) : Vld2 l vwCl gTbl con_1511 := conR_ok3 gT_all (hd_1511) rfl pn_RX11 tk_X11_wrongSeen bo_RX11 xo_RX11 (cto_1511 l) ch_1511 cut_nil
/-- RookHusting$Slots at -/
noncomputable def gi_1117 : GI := jl_n [jl_z 6, jl_i 0 4, jl_z 1]
noncomputable def con_1512 : Con2 := ((yX8_at, cX8_at, 3, (some .long)), (0, 0), ([(6, 0, 0), (0, 3, 0), (0, 0, 0)], [(0, 0), (0, 0), (0, 0), (0, 0), (0, 0), (0, 0), (0, 4)], [.inl (8, [(6, 1, 0), (8, 4, 0), (8, 5, 0)]), ac_809], []), [((4, 6, 0), gi_1117, hq_641, [], [1])])
theorem hd_1512 : con_1512.1 = (yX8_at, cX8_at, 3, (some .long)) := rfl
noncomputable def ct_1512 : CTB2 := []
noncomputable def cu_1512 : List CUT2 := []
theorem ch_1512 : staG tb_X8_at 1 bt_RX8 [] ct_1512 [] [] cu_1512 11 con_1512 = true := by decide +kernel
theorem cto_1512 (l : Launch) : CTOK2 l RX8 vwCl gTbl ct_1512 := ct2_nil
theorem vl_1512 (l : Launch) : Vld2 l vwCl gTbl con_1512 := conR_ok3 gT_all (hd_1512) rfl pn_RX8 tk_X8_at bo_RX8 xo_RX8 (cto_1512 l) ch_1512 cut_nil
/-- RookHusting$Slots at -/
noncomputable def gi_1118 : GI := jl_n [jl_z 6, jl_i 0 16, jl_z 1]
noncomputable def con_1513 : Con2 := ((yX8_at, cX8_at, 3, (some .long)), (0, 0), ([(6, 0, 0), (0, 3, 0), (0, 1, 0)], [(0, 0), (0, 0), (0, 0), (0, 0), (0, 0), (0, 0), (0, 16)], [.inl (8, [(6, 1, 0), (8, 4, 0), (8, 5, 0)]), ac_810], []), [((4, 6, 0), gi_1118, hq_642, [], [1])])
theorem hd_1513 : con_1513.1 = (yX8_at, cX8_at, 3, (some .long)) := rfl
noncomputable def ct_1513 : CTB2 := []
noncomputable def cu_1513 : List CUT2 := []
theorem ch_1513 : staG tb_X8_at 1 bt_RX8 [] ct_1513 [] [] cu_1513 11 con_1513 = true := by decide +kernel
theorem cto_1513 (l : Launch) : CTOK2 l RX8 vwCl gTbl ct_1513 := ct2_nil
theorem vl_1513 (l : Launch) : Vld2 l vwCl gTbl con_1513 := conR_ok3 gT_all (hd_1513) rfl pn_RX8 tk_X8_at bo_RX8 xo_RX8 (cto_1513 l) ch_1513 cut_nil
/-- RookHusting$Slots at -/
noncomputable def gi_1119 : GI := jl_n [jl_z 6, jl_i 0 250, jl_z 1]
noncomputable def con_1514 : Con2 := ((yX8_at, cX8_at, 3, (some .long)), (0, 0), ([(6, 0, 0), (0, 3, 0), (0, 2, 0)], [(0, 0), (0, 0), (0, 0), (0, 0), (0, 0), (0, 0), (0, 250)], [.inl (8, [(6, 1, 0), (8, 4, 0), (8, 5, 0)]), ac_811], []), [((4, 6, 0), gi_1119, hq_643, [], [1])])
theorem hd_1514 : con_1514.1 = (yX8_at, cX8_at, 3, (some .long)) := rfl
noncomputable def ct_1514 : CTB2 := []
noncomputable def cu_1514 : List CUT2 := []
theorem ch_1514 : staG tb_X8_at 1 bt_RX8 [] ct_1514 [] [] cu_1514 11 con_1514 = true := by decide +kernel
theorem cto_1514 (l : Launch) : CTOK2 l RX8 vwCl gTbl ct_1514 := ct2_nil
theorem vl_1514 (l : Launch) : Vld2 l vwCl gTbl con_1514 := conR_ok3 gT_all (hd_1514) rfl pn_RX8 tk_X8_at bo_RX8 xo_RX8 (cto_1514 l) ch_1514 cut_nil
/-- RookHusting$Slots at -/
noncomputable def con_1515 : Con2 := ((yX8_at, cX8_at, 3, (some .long)), (0, 0), ([(6, 0, 0), (0, 3, 0), (0, 3, 0)], [(0, 0), (0, 0), (0, 0), (0, 0), (0, 0), (0, 0), (0, 4)], [.inl (8, [(6, 1, 0), (8, 4, 0), (8, 5, 0)]), ac_812], []), [((4, 6, 0), gi_1117, hq_644, [], [1])])
theorem hd_1515 : con_1515.1 = (yX8_at, cX8_at, 3, (some .long)) := rfl
noncomputable def ct_1515 : CTB2 := []
noncomputable def cu_1515 : List CUT2 := []
theorem ch_1515 : staG tb_X8_at 1 bt_RX8 [] ct_1515 [] [] cu_1515 11 con_1515 = true := by decide +kernel
theorem cto_1515 (l : Launch) : CTOK2 l RX8 vwCl gTbl ct_1515 := ct2_nil
theorem vl_1515 (l : Launch) : Vld2 l vwCl gTbl con_1515 := conR_ok3 gT_all (hd_1515) rfl pn_RX8 tk_X8_at bo_RX8 xo_RX8 (cto_1515 l) ch_1515 cut_nil
/-- RookHusting$Slots at -/
noncomputable def con_1516 : Con2 := ((yX8_at, cX8_at, 3, (some .long)), (0, 0), ([(6, 0, 0), (0, 3, 0), (0, 4, 0)], [(0, 0), (0, 0), (0, 0), (0, 0), (0, 0), (0, 0), (0, 16)], [.inl (8, [(6, 1, 0), (8, 4, 0), (8, 5, 0)]), ac_813], []), [((4, 6, 0), gi_1118, hq_645, [], [1])])
theorem hd_1516 : con_1516.1 = (yX8_at, cX8_at, 3, (some .long)) := rfl
noncomputable def ct_1516 : CTB2 := []
noncomputable def cu_1516 : List CUT2 := []
theorem ch_1516 : staG tb_X8_at 1 bt_RX8 [] ct_1516 [] [] cu_1516 11 con_1516 = true := by decide +kernel
theorem cto_1516 (l : Launch) : CTOK2 l RX8 vwCl gTbl ct_1516 := ct2_nil
theorem vl_1516 (l : Launch) : Vld2 l vwCl gTbl con_1516 := conR_ok3 gT_all (hd_1516) rfl pn_RX8 tk_X8_at bo_RX8 xo_RX8 (cto_1516 l) ch_1516 cut_nil
/-- RookHusting$Slots at -/
noncomputable def con_1517 : Con2 := ((yX8_at, cX8_at, 3, (some .long)), (0, 0), ([(6, 0, 0), (0, 3, 0), (0, 5, 0)], [(0, 0), (0, 0), (0, 0), (0, 0), (0, 0), (0, 0), (0, 250)], [.inl (8, [(6, 1, 0), (8, 4, 0), (8, 5, 0)]), ac_814], []), [((4, 6, 0), gi_1119, hq_646, [], [1])])
theorem hd_1517 : con_1517.1 = (yX8_at, cX8_at, 3, (some .long)) := rfl
noncomputable def ct_1517 : CTB2 := []
noncomputable def cu_1517 : List CUT2 := []
theorem ch_1517 : staG tb_X8_at 1 bt_RX8 [] ct_1517 [] [] cu_1517 11 con_1517 = true := by decide +kernel
theorem cto_1517 (l : Launch) : CTOK2 l RX8 vwCl gTbl ct_1517 := ct2_nil
theorem vl_1517 (l : Launch) : Vld2 l vwCl gTbl con_1517 := conR_ok3 gT_all (hd_1517) rfl pn_RX8 tk_X8_at bo_RX8 xo_RX8 (cto_1517 l) ch_1517 cut_nil
/-- RookHusting$Slots at -/
noncomputable def con_1518 : Con2 := ((yX8_at, cX8_at, 3, (some .long)), (0, 0), ([(6, 0, 0), (0, 3, 0), (0, 6, 0)], [(0, 0), (0, 0), (0, 0), (0, 0), (0, 0), (0, 0), (0, 4)], [.inl (8, [(6, 1, 0), (8, 4, 0), (8, 5, 0)]), ac_815], []), [((4, 6, 0), gi_1117, hq_647, [], [1])])
theorem hd_1518 : con_1518.1 = (yX8_at, cX8_at, 3, (some .long)) := rfl
noncomputable def ct_1518 : CTB2 := []
noncomputable def cu_1518 : List CUT2 := []
theorem ch_1518 : staG tb_X8_at 1 bt_RX8 [] ct_1518 [] [] cu_1518 11 con_1518 = true := by decide +kernel
theorem cto_1518 (l : Launch) : CTOK2 l RX8 vwCl gTbl ct_1518 := ct2_nil
theorem vl_1518 (l : Launch) : Vld2 l vwCl gTbl con_1518 := conR_ok3 gT_all (hd_1518) rfl pn_RX8 tk_X8_at bo_RX8 xo_RX8 (cto_1518 l) ch_1518 cut_nil
/-- RookHusting$Slots at -/
noncomputable def con_1519 : Con2 := ((yX8_at, cX8_at, 3, (some .long)), (0, 0), ([(6, 0, 0), (0, 3, 0), (0, 7, 0)], [(0, 0), (0, 0), (0, 0), (0, 0), (0, 0), (0, 0), (0, 16)], [.inl (8, [(6, 1, 0), (8, 4, 0), (8, 5, 0)]), ac_816], []), [((4, 6, 0), gi_1118, hq_648, [], [1])])
theorem hd_1519 : con_1519.1 = (yX8_at, cX8_at, 3, (some .long)) := rfl
noncomputable def ct_1519 : CTB2 := []
noncomputable def cu_1519 : List CUT2 := []
theorem ch_1519 : staG tb_X8_at 1 bt_RX8 [] ct_1519 [] [] cu_1519 11 con_1519 = true := by decide +kernel
theorem cto_1519 (l : Launch) : CTOK2 l RX8 vwCl gTbl ct_1519 := ct2_nil
theorem vl_1519 (l : Launch) : Vld2 l vwCl gTbl con_1519 := conR_ok3 gT_all (hd_1519) rfl pn_RX8 tk_X8_at bo_RX8 xo_RX8 (cto_1519 l) ch_1519 cut_nil
/-- RookHusting$Slots at -/
noncomputable def con_1520 : Con2 := ((yX8_at, cX8_at, 3, (some .long)), (0, 0), ([(6, 0, 0), (0, 3, 0), (0, 8, 0)], [(0, 0), (0, 0), (0, 0), (0, 0), (0, 0), (0, 0), (0, 250)], [.inl (8, [(6, 1, 0), (8, 4, 0), (8, 5, 0)]), ac_817], []), [((4, 6, 0), gi_1119, hq_649, [], [1])])
theorem hd_1520 : con_1520.1 = (yX8_at, cX8_at, 3, (some .long)) := rfl
noncomputable def ct_1520 : CTB2 := []
noncomputable def cu_1520 : List CUT2 := []
theorem ch_1520 : staG tb_X8_at 1 bt_RX8 [] ct_1520 [] [] cu_1520 11 con_1520 = true := by decide +kernel
theorem cto_1520 (l : Launch) : CTOK2 l RX8 vwCl gTbl ct_1520 := ct2_nil
theorem vl_1520 (l : Launch) : Vld2 l vwCl gTbl con_1520 := conR_ok3 gT_all (hd_1520) rfl pn_RX8 tk_X8_at bo_RX8 xo_RX8 (cto_1520 l) ch_1520 cut_nil
/-- RookHusting isAsSeen -/
noncomputable def gi_1120 : GI := jl_n [jl_z 21, jl_r 3 (jl_m 0 60), jl_i 7 9, jl_i 0 4, jl_i 0 16, jl_i 0 250, jl_i 0 4, jl_i 0 16, jl_i 0 250, jl_i 0 4, jl_i 0 16, jl_i 0 250, jl_r 51 (jl_u), jl_z 9]
noncomputable def ac_1053 : AC := .inl (11, jl_n [jl_8 6 4, jl_6 2 1, jl_8 11 4, jl_6 5 1, jl_8 18 6])
noncomputable def ac_1054 : AC := .inr (1, jl_n [js_1 25 4])
noncomputable def ac_1055 : AC := .inr (2, jl_n [js_5 180 9223372036854775807 9223372036854775807, js_4 85 60])
noncomputable def ac_1056 : AC := .inl (3, jl_n [jl_8 86 1, jl_6 6 1, jl_8 94 7])
noncomputable def hc_196 : List AC := [ac_1053, .inl (8, [(6, 3, 0), (8, 19, 0), (6, 2, 0)]), ac_1054, ac_1055, ac_1056, .inr (1, [(85, (2, (-2147483648), 2147483647))])]
noncomputable def gi_1121 : GI := jl_n [jl_z 21, jl_r 3 (jl_m 0 60), jl_i 7 9, jl_i 0 4, jl_i 0 16, jl_i 0 250, jl_i 0 4, jl_i 0 16, jl_i 0 250, jl_i 0 4, jl_i 0 16, jl_i 0 250, jl_r 51 (jl_u), jl_z 10]
noncomputable def hq_885 : HP := [(false, ac_1053), (false, .inl (8, [(6, 3, 0), (8, 19, 0), (6, 2, 0)])), (false, ac_1054), (false, ac_1055), (false, ac_1056), (false, .inr (1, [(85, (2, (-2147483648), 2147483647))]))]
noncomputable def con_1521 : Con2 := ((yX11_isAsSeen, cX11_isAsSeen, 4, (some .boolean)), (1, 22), ([(6, 0, 0), (0, 3, 0)], gi_1120, hc_196, []), [((0, 0, 0), gi_1121, hq_885, [], [1]), ((0, 1, 0), gi_1121, hq_885, [], [1])])
theorem hd_1521 : con_1521.1 = (yX11_isAsSeen, cX11_isAsSeen, 4, (some .boolean)) := rfl
theorem ck_RX11_473_1514 : COK2 RX11 vwCl gTbl 473 0 con_1514 := ⟨wd_1218, wd_131, mh_X8_at, .inr (.inr ⟨rfl, wd_1215, wd_1216, wd_1217, ⟨_, rfl, pd_X8_at⟩, 8, _, TX8, 3, rfl, rfl⟩)⟩
theorem ck_RX11_473_1517 : COK2 RX11 vwCl gTbl 473 0 con_1517 := ⟨wd_1218, wd_131, mh_X8_at, .inr (.inr ⟨rfl, wd_1215, wd_1216, wd_1217, ⟨_, rfl, pd_X8_at⟩, 8, _, TX8, 3, rfl, rfl⟩)⟩
theorem ck_RX11_473_1520 : COK2 RX11 vwCl gTbl 473 0 con_1520 := ⟨wd_1218, wd_131, mh_X8_at, .inr (.inr ⟨rfl, wd_1215, wd_1216, wd_1217, ⟨_, rfl, pd_X8_at⟩, 8, _, TX8, 3, rfl, rfl⟩)⟩
theorem ck_RX11_473_1513 : COK2 RX11 vwCl gTbl 473 0 con_1513 := ⟨wd_1218, wd_131, mh_X8_at, .inr (.inr ⟨rfl, wd_1215, wd_1216, wd_1217, ⟨_, rfl, pd_X8_at⟩, 8, _, TX8, 3, rfl, rfl⟩)⟩
theorem ck_RX11_473_1516 : COK2 RX11 vwCl gTbl 473 0 con_1516 := ⟨wd_1218, wd_131, mh_X8_at, .inr (.inr ⟨rfl, wd_1215, wd_1216, wd_1217, ⟨_, rfl, pd_X8_at⟩, 8, _, TX8, 3, rfl, rfl⟩)⟩
theorem ck_RX11_473_1519 : COK2 RX11 vwCl gTbl 473 0 con_1519 := ⟨wd_1218, wd_131, mh_X8_at, .inr (.inr ⟨rfl, wd_1215, wd_1216, wd_1217, ⟨_, rfl, pd_X8_at⟩, 8, _, TX8, 3, rfl, rfl⟩)⟩
theorem ck_RX11_473_1512 : COK2 RX11 vwCl gTbl 473 0 con_1512 := ⟨wd_1218, wd_131, mh_X8_at, .inr (.inr ⟨rfl, wd_1215, wd_1216, wd_1217, ⟨_, rfl, pd_X8_at⟩, 8, _, TX8, 3, rfl, rfl⟩)⟩
theorem ck_RX11_473_1515 : COK2 RX11 vwCl gTbl 473 0 con_1515 := ⟨wd_1218, wd_131, mh_X8_at, .inr (.inr ⟨rfl, wd_1215, wd_1216, wd_1217, ⟨_, rfl, pd_X8_at⟩, 8, _, TX8, 3, rfl, rfl⟩)⟩
theorem ck_RX11_473_1518 : COK2 RX11 vwCl gTbl 473 0 con_1518 := ⟨wd_1218, wd_131, mh_X8_at, .inr (.inr ⟨rfl, wd_1215, wd_1216, wd_1217, ⟨_, rfl, pd_X8_at⟩, 8, _, TX8, 3, rfl, rfl⟩)⟩
noncomputable def ct_1521 : CTB2 := [(21, 473, 0, con_1518, [1, 3]), (21, 473, 0, con_1515, [1, 3]), (21, 473, 0, con_1512, [1, 3]), (36, 473, 0, con_1519, [1, 3]), (36, 473, 0, con_1516, [1, 3]), (36, 473, 0, con_1513, [1, 3]), (60, 473, 0, con_1520, [1, 3]), (60, 473, 0, con_1517, [1, 3]), (60, 473, 0, con_1514, [1, 3])]
noncomputable def gi_1122 : GI := jl_n [jl_z 21, jl_r 3 (jl_m 0 60), jl_i 7 9, jl_i 0 4, jl_i 0 16, jl_i 0 250, jl_i 0 4, jl_i 0 16, jl_i 0 250, jl_i 0 4, jl_i 0 16, jl_i 0 250, jl_r 51 (jl_u), jl_z 12]
noncomputable def gi_1123 : GI := jl_n [jl_z 21, jl_r 3 (jl_m 0 60), jl_i 7 9, jl_i 0 4, jl_i 0 16, jl_i 0 250, jl_i 0 4, jl_i 0 16, jl_i 0 250, jl_i 0 4, jl_i 0 16, jl_i 0 250, jl_r 51 (jl_u), jl_z 12, jl_i 0 84]
noncomputable def cu_1521 : List CUT2 := [((2, [(0, (6, 0, 0)), (1, (0, 3, 0)), (2, (0, 0, 0))], [], gi_1122, hq_885), [], ([], 9)), ((2, [(0, (6, 0, 0)), (1, (0, 3, 0)), (2, (0, 3, 0)), (3, (1, 97, 0))], [], gi_1123, hq_885), [], ([], 6)), ((2, [(0, (6, 0, 0)), (1, (0, 3, 0)), (2, (0, 6, 0)), (3, (1, 97, 0))], [], gi_1123, hq_885), [], ([], 3)), ((2, [(0, (6, 0, 0)), (1, (0, 3, 0)), (2, (0, 9, 0)), (3, (1, 97, 0))], [], gi_1123, hq_885), [], ([], 0))]
theorem ch_1521 : staG tb_X11_isAsSeen 1 bt_RX11 [] ct_1521 [] [] cu_1521 44 con_1521 = true := by decide +kernel
theorem cc_1521 : cu_1521.all (cutG tb_X11_isAsSeen 1 bt_RX11 [] ct_1521 [] [] cu_1521 44 con_1521) = true := by decide +kernel
theorem cto_1521 (l : Launch) : CTOK2 l RX11 vwCl gTbl ct_1521 := ct2_cons (vl_1518 l) ck_RX11_473_1518 (ct2_cons (vl_1515 l) ck_RX11_473_1515 (ct2_cons (vl_1512 l) ck_RX11_473_1512 (ct2_cons (vl_1519 l) ck_RX11_473_1519 (ct2_cons (vl_1516 l) ck_RX11_473_1516 (ct2_cons (vl_1513 l) ck_RX11_473_1513 (ct2_cons (vl_1520 l) ck_RX11_473_1520 (ct2_cons (vl_1517 l) ck_RX11_473_1517 (ct2_cons (vl_1514 l) ck_RX11_473_1514 (ct2_nil)))))))))
theorem vl_1521 (l : Launch) : Vld2 l vwCl gTbl con_1521 := conR_ok3 gT_all (hd_1521) rfl pn_RX11 tk_X11_isAsSeen bo_RX11 xo_RX11 (cto_1521 l) ch_1521 (cut_all cc_1521)
/-- RookHusting$Guesses keep -/
noncomputable def gi_1124 : GI := jl_n [jl_z 3, jl_t, jl_z 3]
noncomputable def hc_197 : List AC := [.inl (2, [(1, 3, 0), (8, 4, 0), (8, 5, 0), (6, 2, 0)]), .inr (1, [(85, (2, (-2147483648), 2147483647))]), .inr (1, [(510, (2, (-2147483648), 2147483647))])]
noncomputable def gi_1125 : GI := jl_n [jl_z 3, jl_t, jl_z 3, jl_t, jl_z 3]
noncomputable def hq_886 : HP := [(true, .inl (2, [(1, 7, 0), (8, 4, 0), (8, 5, 0), (6, 2, 0)])), (false, .inr (1, [(85, (2, (-2147483648), 2147483647))])), (true, .inr (1, [(510, (2, (-2147483648), 2147483647))]))]
noncomputable def con_1522 : Con2 := ((yX2_keep, cX2_keep, 3, none), (1, 18), ([(6, 0, 0), (0, 5, 0), (6, 1, 0)], gi_1124, hc_197, []), [((9, 0, 0), gi_1125, hq_886, [], [1, 1, 1, 1])])
theorem hd_1522 : con_1522.1 = (yX2_keep, cX2_keep, 3, none) := rfl
noncomputable def ct_1522 : CTB2 := []
noncomputable def cu_1522 : List CUT2 := []
theorem ch_1522 : staG tb_X2_keep 1 bt_RX2 [] ct_1522 [] [] cu_1522 20 con_1522 = true := by decide +kernel
theorem cto_1522 (l : Launch) : CTOK2 l RX2 vwCl gTbl ct_1522 := ct2_nil
theorem vl_1522 (l : Launch) : Vld2 l vwCl gTbl con_1522 := conR_ok3 gT_all (hd_1522) rfl pn_RX2 tk_X2_keep bo_RX2 xo_RX2 (cto_1522 l) ch_1522 cut_nil
/-- RookHusting$Guesses keep -/
noncomputable def gi_1126 : GI := jl_n [jl_z 1, jl_i 0 4, jl_z 1, jl_t, jl_z 3]
noncomputable def gi_1127 : GI := jl_n [jl_z 1, jl_i 0 4, jl_z 1, jl_t, jl_z 3, jl_t, jl_z 3]
noncomputable def con_1527 : Con2 := ((yX2_keep, cX2_keep, 3, none), (1, 18), ([(6, 0, 0), (1, 1, 0), (6, 1, 0)], gi_1126, hc_197, []), [((9, 0, 0), gi_1127, hq_886, [], [1, 1, 1, 1])])
theorem hd_1527 : con_1527.1 = (yX2_keep, cX2_keep, 3, none) := rfl
noncomputable def ct_1527 : CTB2 := []
noncomputable def cu_1527 : List CUT2 := []
theorem ch_1527 : staG tb_X2_keep 1 bt_RX2 [] ct_1527 [] [] cu_1527 20 con_1527 = true := by decide +kernel
theorem cto_1527 (l : Launch) : CTOK2 l RX2 vwCl gTbl ct_1527 := ct2_nil
theorem vl_1527 (l : Launch) : Vld2 l vwCl gTbl con_1527 := conR_ok3 gT_all (hd_1527) rfl pn_RX2 tk_X2_keep bo_RX2 xo_RX2 (cto_1527 l) ch_1527 cut_nil
