/-! ===== contracts, 27 ===== -/
/-- RookHusting$Slots at -/
noncomputable def ac_854 : AC := .inr (2, jl_n [js_5 225 9223372036854775807 9223372036854775807, js_4 7 1, js_5 14 9223372036854775807 9223372036854775807])
noncomputable def hq_686 : HP := [(false, .inl (8, [(6, 1, 0), (8, 4, 0), (8, 5, 0)])), (false, ac_854)]
noncomputable def con_1549 : Con2 := ((yX8_at, cX8_at, 3, (some .long)), (0, 0), ([(6, 0, 0), (0, 3, 0), (0, 45, 0)], gi_927, [.inl (8, [(6, 1, 0), (8, 4, 0), (8, 5, 0)]), ac_854], []), [((4, 6, 0), gi_928, hq_686, [], [1])])
theorem hd_1549 : con_1549.1 = (yX8_at, cX8_at, 3, (some .long)) := rfl
noncomputable def cu_1549 : List CUT2 := []
theorem ch_1549 : staG tb_X8_at 1 bt_RX8 [] ct_1497 [] [] cu_1549 11 con_1549 = true := by decide +kernel
theorem vl_1549 (l : Launch) : Vld2 l vwCl gTbl con_1549 := conR_ok3 gT_all (hd_1549) rfl pn_RX8 tk_X8_at bo_RX8 xo_RX8 (cto_1497 l) ch_1549 cut_nil
/-- RookHusting$Slots at -/
noncomputable def ac_855 : AC := .inr (2, jl_n [js_5 226 9223372036854775807 9223372036854775807, js_4 7 1, js_5 13 9223372036854775807 9223372036854775807])
noncomputable def hq_687 : HP := [(false, .inl (8, [(6, 1, 0), (8, 4, 0), (8, 5, 0)])), (false, ac_855)]
noncomputable def con_1550 : Con2 := ((yX8_at, cX8_at, 3, (some .long)), (0, 0), ([(6, 0, 0), (0, 3, 0), (0, 46, 0)], gi_927, [.inl (8, [(6, 1, 0), (8, 4, 0), (8, 5, 0)]), ac_855], []), [((4, 6, 0), gi_928, hq_687, [], [1])])
theorem hd_1550 : con_1550.1 = (yX8_at, cX8_at, 3, (some .long)) := rfl
noncomputable def cu_1550 : List CUT2 := []
theorem ch_1550 : staG tb_X8_at 1 bt_RX8 [] ct_1497 [] [] cu_1550 11 con_1550 = true := by decide +kernel
theorem vl_1550 (l : Launch) : Vld2 l vwCl gTbl con_1550 := conR_ok3 gT_all (hd_1550) rfl pn_RX8 tk_X8_at bo_RX8 xo_RX8 (cto_1497 l) ch_1550 cut_nil
/-- RookHusting$Slots at -/
noncomputable def ac_856 : AC := .inr (2, jl_n [js_5 227 9223372036854775807 9223372036854775807, js_4 7 1, js_5 12 9223372036854775807 9223372036854775807])
noncomputable def hq_688 : HP := [(false, .inl (8, [(6, 1, 0), (8, 4, 0), (8, 5, 0)])), (false, ac_856)]
noncomputable def con_1551 : Con2 := ((yX8_at, cX8_at, 3, (some .long)), (0, 0), ([(6, 0, 0), (0, 3, 0), (0, 47, 0)], gi_927, [.inl (8, [(6, 1, 0), (8, 4, 0), (8, 5, 0)]), ac_856], []), [((4, 6, 0), gi_928, hq_688, [], [1])])
theorem hd_1551 : con_1551.1 = (yX8_at, cX8_at, 3, (some .long)) := rfl
noncomputable def cu_1551 : List CUT2 := []
theorem ch_1551 : staG tb_X8_at 1 bt_RX8 [] ct_1497 [] [] cu_1551 11 con_1551 = true := by decide +kernel
theorem vl_1551 (l : Launch) : Vld2 l vwCl gTbl con_1551 := conR_ok3 gT_all (hd_1551) rfl pn_RX8 tk_X8_at bo_RX8 xo_RX8 (cto_1497 l) ch_1551 cut_nil
/-- RookHusting$Slots at -/
noncomputable def ac_857 : AC := .inr (2, jl_n [js_5 228 9223372036854775807 9223372036854775807, js_4 7 1, js_5 11 9223372036854775807 9223372036854775807])
noncomputable def hq_689 : HP := [(false, .inl (8, [(6, 1, 0), (8, 4, 0), (8, 5, 0)])), (false, ac_857)]
noncomputable def con_1552 : Con2 := ((yX8_at, cX8_at, 3, (some .long)), (0, 0), ([(6, 0, 0), (0, 3, 0), (0, 48, 0)], gi_927, [.inl (8, [(6, 1, 0), (8, 4, 0), (8, 5, 0)]), ac_857], []), [((4, 6, 0), gi_928, hq_689, [], [1])])
theorem hd_1552 : con_1552.1 = (yX8_at, cX8_at, 3, (some .long)) := rfl
noncomputable def cu_1552 : List CUT2 := []
theorem ch_1552 : staG tb_X8_at 1 bt_RX8 [] ct_1497 [] [] cu_1552 11 con_1552 = true := by decide +kernel
theorem vl_1552 (l : Launch) : Vld2 l vwCl gTbl con_1552 := conR_ok3 gT_all (hd_1552) rfl pn_RX8 tk_X8_at bo_RX8 xo_RX8 (cto_1497 l) ch_1552 cut_nil
/-- RookHusting$Slots at -/
noncomputable def ac_858 : AC := .inr (2, jl_n [js_5 229 9223372036854775807 9223372036854775807, js_4 7 1, js_5 10 9223372036854775807 9223372036854775807])
noncomputable def hq_690 : HP := [(false, .inl (8, [(6, 1, 0), (8, 4, 0), (8, 5, 0)])), (false, ac_858)]
noncomputable def con_1553 : Con2 := ((yX8_at, cX8_at, 3, (some .long)), (0, 0), ([(6, 0, 0), (0, 3, 0), (0, 49, 0)], gi_927, [.inl (8, [(6, 1, 0), (8, 4, 0), (8, 5, 0)]), ac_858], []), [((4, 6, 0), gi_928, hq_690, [], [1])])
theorem hd_1553 : con_1553.1 = (yX8_at, cX8_at, 3, (some .long)) := rfl
noncomputable def cu_1553 : List CUT2 := []
theorem ch_1553 : staG tb_X8_at 1 bt_RX8 [] ct_1497 [] [] cu_1553 11 con_1553 = true := by decide +kernel
theorem vl_1553 (l : Launch) : Vld2 l vwCl gTbl con_1553 := conR_ok3 gT_all (hd_1553) rfl pn_RX8 tk_X8_at bo_RX8 xo_RX8 (cto_1497 l) ch_1553 cut_nil
/-- RookHusting$Slots at -/
noncomputable def ac_859 : AC := .inr (2, jl_n [js_5 230 9223372036854775807 9223372036854775807, js_4 7 1, js_5 9 9223372036854775807 9223372036854775807])
noncomputable def hq_691 : HP := [(false, .inl (8, [(6, 1, 0), (8, 4, 0), (8, 5, 0)])), (false, ac_859)]
noncomputable def con_1554 : Con2 := ((yX8_at, cX8_at, 3, (some .long)), (0, 0), ([(6, 0, 0), (0, 3, 0), (0, 50, 0)], gi_927, [.inl (8, [(6, 1, 0), (8, 4, 0), (8, 5, 0)]), ac_859], []), [((4, 6, 0), gi_928, hq_691, [], [1])])
theorem hd_1554 : con_1554.1 = (yX8_at, cX8_at, 3, (some .long)) := rfl
noncomputable def cu_1554 : List CUT2 := []
theorem ch_1554 : staG tb_X8_at 1 bt_RX8 [] ct_1497 [] [] cu_1554 11 con_1554 = true := by decide +kernel
theorem vl_1554 (l : Launch) : Vld2 l vwCl gTbl con_1554 := conR_ok3 gT_all (hd_1554) rfl pn_RX8 tk_X8_at bo_RX8 xo_RX8 (cto_1497 l) ch_1554 cut_nil
/-- RookHusting$Slots at -/
noncomputable def ac_860 : AC := .inr (2, jl_n [js_5 231 9223372036854775807 9223372036854775807, js_4 7 1, js_5 8 9223372036854775807 9223372036854775807])
noncomputable def hq_692 : HP := [(false, .inl (8, [(6, 1, 0), (8, 4, 0), (8, 5, 0)])), (false, ac_860)]
noncomputable def con_1555 : Con2 := ((yX8_at, cX8_at, 3, (some .long)), (0, 0), ([(6, 0, 0), (0, 3, 0), (0, 51, 0)], gi_927, [.inl (8, [(6, 1, 0), (8, 4, 0), (8, 5, 0)]), ac_860], []), [((4, 6, 0), gi_928, hq_692, [], [1])])
theorem hd_1555 : con_1555.1 = (yX8_at, cX8_at, 3, (some .long)) := rfl
noncomputable def cu_1555 : List CUT2 := []
theorem ch_1555 : staG tb_X8_at 1 bt_RX8 [] ct_1497 [] [] cu_1555 11 con_1555 = true := by decide +kernel
theorem vl_1555 (l : Launch) : Vld2 l vwCl gTbl con_1555 := conR_ok3 gT_all (hd_1555) rfl pn_RX8 tk_X8_at bo_RX8 xo_RX8 (cto_1497 l) ch_1555 cut_nil
/-- RookHusting$Slots at -/
noncomputable def ac_861 : AC := .inr (2, jl_n [js_5 232 9223372036854775807 9223372036854775807, js_4 7 1, js_5 7 9223372036854775807 9223372036854775807])
noncomputable def hq_693 : HP := [(false, .inl (8, [(6, 1, 0), (8, 4, 0), (8, 5, 0)])), (false, ac_861)]
noncomputable def con_1556 : Con2 := ((yX8_at, cX8_at, 3, (some .long)), (0, 0), ([(6, 0, 0), (0, 3, 0), (0, 52, 0)], gi_927, [.inl (8, [(6, 1, 0), (8, 4, 0), (8, 5, 0)]), ac_861], []), [((4, 6, 0), gi_928, hq_693, [], [1])])
theorem hd_1556 : con_1556.1 = (yX8_at, cX8_at, 3, (some .long)) := rfl
noncomputable def cu_1556 : List CUT2 := []
theorem ch_1556 : staG tb_X8_at 1 bt_RX8 [] ct_1497 [] [] cu_1556 11 con_1556 = true := by decide +kernel
theorem vl_1556 (l : Launch) : Vld2 l vwCl gTbl con_1556 := conR_ok3 gT_all (hd_1556) rfl pn_RX8 tk_X8_at bo_RX8 xo_RX8 (cto_1497 l) ch_1556 cut_nil
/-- RookHusting$Slots at -/
noncomputable def ac_862 : AC := .inr (2, jl_n [js_5 233 9223372036854775807 9223372036854775807, js_4 7 1, js_5 6 9223372036854775807 9223372036854775807])
noncomputable def hq_694 : HP := [(false, .inl (8, [(6, 1, 0), (8, 4, 0), (8, 5, 0)])), (false, ac_862)]
noncomputable def con_1557 : Con2 := ((yX8_at, cX8_at, 3, (some .long)), (0, 0), ([(6, 0, 0), (0, 3, 0), (0, 53, 0)], gi_927, [.inl (8, [(6, 1, 0), (8, 4, 0), (8, 5, 0)]), ac_862], []), [((4, 6, 0), gi_928, hq_694, [], [1])])
theorem hd_1557 : con_1557.1 = (yX8_at, cX8_at, 3, (some .long)) := rfl
noncomputable def cu_1557 : List CUT2 := []
theorem ch_1557 : staG tb_X8_at 1 bt_RX8 [] ct_1497 [] [] cu_1557 11 con_1557 = true := by decide +kernel
theorem vl_1557 (l : Launch) : Vld2 l vwCl gTbl con_1557 := conR_ok3 gT_all (hd_1557) rfl pn_RX8 tk_X8_at bo_RX8 xo_RX8 (cto_1497 l) ch_1557 cut_nil
/-- RookHusting$Slots at -/
noncomputable def ac_863 : AC := .inr (2, jl_n [js_5 234 9223372036854775807 9223372036854775807, js_4 7 1, js_5 5 9223372036854775807 9223372036854775807])
noncomputable def hq_695 : HP := [(false, .inl (8, [(6, 1, 0), (8, 4, 0), (8, 5, 0)])), (false, ac_863)]
noncomputable def con_1558 : Con2 := ((yX8_at, cX8_at, 3, (some .long)), (0, 0), ([(6, 0, 0), (0, 3, 0), (0, 54, 0)], gi_927, [.inl (8, [(6, 1, 0), (8, 4, 0), (8, 5, 0)]), ac_863], []), [((4, 6, 0), gi_928, hq_695, [], [1])])
theorem hd_1558 : con_1558.1 = (yX8_at, cX8_at, 3, (some .long)) := rfl
noncomputable def cu_1558 : List CUT2 := []
theorem ch_1558 : staG tb_X8_at 1 bt_RX8 [] ct_1497 [] [] cu_1558 11 con_1558 = true := by decide +kernel
theorem vl_1558 (l : Launch) : Vld2 l vwCl gTbl con_1558 := conR_ok3 gT_all (hd_1558) rfl pn_RX8 tk_X8_at bo_RX8 xo_RX8 (cto_1497 l) ch_1558 cut_nil
/-- RookHusting$Slots at -/
noncomputable def ac_864 : AC := .inr (2, jl_n [js_5 235 9223372036854775807 9223372036854775807, js_4 7 1, js_5 4 9223372036854775807 9223372036854775807])
noncomputable def hq_696 : HP := [(false, .inl (8, [(6, 1, 0), (8, 4, 0), (8, 5, 0)])), (false, ac_864)]
noncomputable def con_1559 : Con2 := ((yX8_at, cX8_at, 3, (some .long)), (0, 0), ([(6, 0, 0), (0, 3, 0), (0, 55, 0)], gi_927, [.inl (8, [(6, 1, 0), (8, 4, 0), (8, 5, 0)]), ac_864], []), [((4, 6, 0), gi_928, hq_696, [], [1])])
theorem hd_1559 : con_1559.1 = (yX8_at, cX8_at, 3, (some .long)) := rfl
noncomputable def cu_1559 : List CUT2 := []
theorem ch_1559 : staG tb_X8_at 1 bt_RX8 [] ct_1497 [] [] cu_1559 11 con_1559 = true := by decide +kernel
theorem vl_1559 (l : Launch) : Vld2 l vwCl gTbl con_1559 := conR_ok3 gT_all (hd_1559) rfl pn_RX8 tk_X8_at bo_RX8 xo_RX8 (cto_1497 l) ch_1559 cut_nil
/-- RookHusting$Slots at -/
noncomputable def ac_865 : AC := .inr (2, jl_n [js_5 236 9223372036854775807 9223372036854775807, js_4 7 1, js_5 3 9223372036854775807 9223372036854775807])
noncomputable def hq_697 : HP := [(false, .inl (8, [(6, 1, 0), (8, 4, 0), (8, 5, 0)])), (false, ac_865)]
noncomputable def con_1560 : Con2 := ((yX8_at, cX8_at, 3, (some .long)), (0, 0), ([(6, 0, 0), (0, 3, 0), (0, 56, 0)], gi_927, [.inl (8, [(6, 1, 0), (8, 4, 0), (8, 5, 0)]), ac_865], []), [((4, 6, 0), gi_928, hq_697, [], [1])])
theorem hd_1560 : con_1560.1 = (yX8_at, cX8_at, 3, (some .long)) := rfl
noncomputable def cu_1560 : List CUT2 := []
theorem ch_1560 : staG tb_X8_at 1 bt_RX8 [] ct_1497 [] [] cu_1560 11 con_1560 = true := by decide +kernel
theorem vl_1560 (l : Launch) : Vld2 l vwCl gTbl con_1560 := conR_ok3 gT_all (hd_1560) rfl pn_RX8 tk_X8_at bo_RX8 xo_RX8 (cto_1497 l) ch_1560 cut_nil
/-- RookHusting$Slots at -/
noncomputable def ac_866 : AC := .inr (2, jl_n [js_5 237 9223372036854775807 9223372036854775807, js_4 7 1, js_5 2 9223372036854775807 9223372036854775807])
noncomputable def hq_698 : HP := [(false, .inl (8, [(6, 1, 0), (8, 4, 0), (8, 5, 0)])), (false, ac_866)]
noncomputable def con_1561 : Con2 := ((yX8_at, cX8_at, 3, (some .long)), (0, 0), ([(6, 0, 0), (0, 3, 0), (0, 57, 0)], gi_927, [.inl (8, [(6, 1, 0), (8, 4, 0), (8, 5, 0)]), ac_866], []), [((4, 6, 0), gi_928, hq_698, [], [1])])
theorem hd_1561 : con_1561.1 = (yX8_at, cX8_at, 3, (some .long)) := rfl
noncomputable def cu_1561 : List CUT2 := []
theorem ch_1561 : staG tb_X8_at 1 bt_RX8 [] ct_1497 [] [] cu_1561 11 con_1561 = true := by decide +kernel
theorem vl_1561 (l : Launch) : Vld2 l vwCl gTbl con_1561 := conR_ok3 gT_all (hd_1561) rfl pn_RX8 tk_X8_at bo_RX8 xo_RX8 (cto_1497 l) ch_1561 cut_nil
/-- RookHusting$Slots at -/
noncomputable def ac_867 : AC := .inr (2, jl_n [js_5 238 9223372036854775807 9223372036854775807, js_4 7 1, js_5 1 9223372036854775807 9223372036854775807])
noncomputable def gi_931 : GI := jl_n [jl_z 6, jl_u, jl_z 2]
noncomputable def hq_699 : HP := [(false, .inl (8, [(6, 1, 0), (8, 4, 0), (8, 5, 0)])), (false, ac_867)]
noncomputable def con_1562 : Con2 := ((yX8_at, cX8_at, 3, (some .long)), (0, 0), ([(6, 0, 0), (0, 3, 0), (0, 58, 0)], gi_928, [.inl (8, [(6, 1, 0), (8, 4, 0), (8, 5, 0)]), ac_867], []), [((4, 6, 0), gi_931, hq_699, [], [1])])
theorem hd_1562 : con_1562.1 = (yX8_at, cX8_at, 3, (some .long)) := rfl
noncomputable def cu_1562 : List CUT2 := []
theorem ch_1562 : staG tb_X8_at 1 bt_RX8 [] ct_1497 [] [] cu_1562 11 con_1562 = true := by decide +kernel
theorem vl_1562 (l : Launch) : Vld2 l vwCl gTbl con_1562 := conR_ok3 gT_all (hd_1562) rfl pn_RX8 tk_X8_at bo_RX8 xo_RX8 (cto_1497 l) ch_1562 cut_nil
/-- RookHusting$Slots at -/
noncomputable def ac_868 : AC := .inr (2, jl_n [js_5 239 9223372036854775807 9223372036854775807, js_4 7 1])
noncomputable def hq_700 : HP := [(false, .inl (8, [(6, 1, 0), (8, 4, 0), (8, 5, 0)])), (false, ac_868)]
noncomputable def con_1563 : Con2 := ((yX8_at, cX8_at, 3, (some .long)), (0, 0), ([(6, 0, 0), (0, 3, 0), (0, 59, 0)], gi_927, [.inl (8, [(6, 1, 0), (8, 4, 0), (8, 5, 0)]), ac_868], []), [((4, 6, 0), gi_928, hq_700, [], [1])])
theorem hd_1563 : con_1563.1 = (yX8_at, cX8_at, 3, (some .long)) := rfl
noncomputable def cu_1563 : List CUT2 := []
theorem ch_1563 : staG tb_X8_at 1 bt_RX8 [] ct_1497 [] [] cu_1563 11 con_1563 = true := by decide +kernel
theorem vl_1563 (l : Launch) : Vld2 l vwCl gTbl con_1563 := conR_ok3 gT_all (hd_1563) rfl pn_RX8 tk_X8_at bo_RX8 xo_RX8 (cto_1497 l) ch_1563 cut_nil
/-- RookHusting wrongSeen -/
noncomputable def gi_932 : GI := jl_n [gp_193, gp_419, jl_r 60 (jl_u)]
noncomputable def ac_869 : AC := .inr (2, jl_n [js_5 180 9223372036854775807 9223372036854775807, js_4 105 60])
noncomputable def hc_192 : List AC := [ac_804, .inl (9, [(6, 2, 0), (8, 20, 0)]), ac_805, .inl (8, [(6, 5, 0), (8, 39, 0), (6, 4, 0)]), ac_806, ac_869]
noncomputable def gi_933 : GI := jl_n [gp_193, gp_419, gp_421]
noncomputable def hq_701 : HP := [(false, ac_804), (false, .inl (9, [(6, 2, 0), (8, 20, 0)])), (false, ac_805), (false, .inl (8, [(6, 5, 0), (8, 39, 0), (6, 4, 0)])), (false, ac_806), (false, ac_869)]
noncomputable def gi_934 : GI := jl_n [gp_424, jl_k 0 0, gp_421]
noncomputable def gi_935 : GI := jl_n [gp_424, gp_425, jl_z 1]
noncomputable def gi_936 : GI := jl_n [gp_424, gp_430, jl_z 1]
noncomputable def gi_937 : GI := jl_n [gp_424, gp_433, jl_z 1]
noncomputable def gi_938 : GI := jl_n [gp_424, gp_436, jl_z 1]
noncomputable def gi_939 : GI := jl_n [gp_424, gp_439, jl_z 1]
noncomputable def gi_940 : GI := jl_n [gp_424, gp_442, jl_z 1]
noncomputable def gi_941 : GI := jl_n [gp_424, gp_445, jl_z 1]
noncomputable def gi_942 : GI := jl_n [gp_424, gp_447, jl_z 1]
noncomputable def gi_943 : GI := jl_n [gp_424, gp_450, jl_z 1]
noncomputable def gi_944 : GI := jl_n [gp_424, gp_453, jl_z 1]
noncomputable def gi_945 : GI := jl_n [gp_424, gp_456, jl_z 1]
noncomputable def gi_946 : GI := jl_n [gp_424, gp_459, jl_z 1]
noncomputable def gi_947 : GI := jl_n [gp_424, gp_462, jl_z 1]
noncomputable def gi_948 : GI := jl_n [gp_424, gp_465, jl_z 1]
noncomputable def gi_949 : GI := jl_n [gp_424, gp_468, jl_z 1]
noncomputable def gi_950 : GI := jl_n [gp_424, gp_471, jl_z 1]
noncomputable def gi_951 : GI := jl_n [gp_424, gp_474, jl_z 1]
noncomputable def gi_952 : GI := jl_n [gp_424, gp_477, jl_z 1]
noncomputable def gi_953 : GI := jl_n [gp_424, gp_479, jl_z 1]
noncomputable def gi_954 : GI := jl_n [gp_424, gp_481, jl_z 1]
noncomputable def gi_955 : GI := jl_n [gp_424, gp_483, jl_z 1]
noncomputable def con_1564 : Con2 := ((yX11_wrongSeen, cX11_wrongSeen, 5, (some .int)), (1, 22), ([(6, 0, 0), (0, 3, 0), (1, 2, 0)], gi_932, hc_192, []), [((0, (-2), 0), gi_933, hq_701, [], [1]), ((0, (-6), 0), gi_934, hq_701, [], [1]), ((0, 0, 0), gi_935, hq_701, [], [1]), ((0, 0, 0), gi_936, hq_701, [], [1]), ((0, 0, 0), gi_937, hq_701, [], [1]), ((0, 0, 0), gi_938, hq_701, [], [1]), ((0, 0, 0), gi_939, hq_701, [], [1]), ((0, 0, 0), gi_940, hq_701, [], [1]), ((0, 0, 0), gi_941, hq_701, [], [1]), ((0, 0, 0), gi_942, hq_701, [], [1]), ((0, 0, 0), gi_943, hq_701, [], [1]), ((0, 0, 0), gi_944, hq_701, [], [1]), ((0, 0, 0), gi_945, hq_701, [], [1]), ((0, 0, 0), gi_946, hq_701, [], [1]), ((0, 0, 0), gi_947, hq_701, [], [1]), ((0, 0, 0), gi_948, hq_701, [], [1]), ((0, 0, 0), gi_949, hq_701, [], [1]), ((0, 0, 0), gi_950, hq_701, [], [1]), ((0, 0, 0), gi_951, hq_701, [], [1]), ((0, 0, 0), gi_952, hq_701, [], [1]), ((0, 0, 0), gi_953, hq_701, [], [1]), ((0, 0, 0), gi_954, hq_701, [], [1]), ((0, 0, 0), gi_955, hq_701, [], [1])])
theorem hd_1564 : con_1564.1 = (yX11_wrongSeen, cX11_wrongSeen, 5, (some .int)) := rfl
theorem ck_RX11_476_1506 : COK2 RX11 vwCl gTbl 476 1 con_1506 := ⟨wd_1221, wd_125, mh_X11_isBetween, .inl ⟨rfl, wd_1219, wd_1220, pd_X11_isBetween⟩⟩
theorem ck_RX11_473_1505 : COK2 RX11 vwCl gTbl 473 0 con_1505 := ⟨wd_1218, wd_131, mh_X8_at, .inr (.inr ⟨rfl, wd_1215, wd_1216, wd_1217, ⟨_, rfl, pd_X8_at⟩, 8, _, TX8, 3, rfl, rfl⟩)⟩
theorem ck_RX11_473_1509 : COK2 RX11 vwCl gTbl 473 0 con_1509 := ⟨wd_1218, wd_131, mh_X8_at, .inr (.inr ⟨rfl, wd_1215, wd_1216, wd_1217, ⟨_, rfl, pd_X8_at⟩, 8, _, TX8, 3, rfl, rfl⟩)⟩
theorem ck_RX11_473_1512 : COK2 RX11 vwCl gTbl 473 0 con_1512 := ⟨wd_1218, wd_131, mh_X8_at, .inr (.inr ⟨rfl, wd_1215, wd_1216, wd_1217, ⟨_, rfl, pd_X8_at⟩, 8, _, TX8, 3, rfl, rfl⟩)⟩
theorem ck_RX11_473_1515 : COK2 RX11 vwCl gTbl 473 0 con_1515 := ⟨wd_1218, wd_131, mh_X8_at, .inr (.inr ⟨rfl, wd_1215, wd_1216, wd_1217, ⟨_, rfl, pd_X8_at⟩, 8, _, TX8, 3, rfl, rfl⟩)⟩
theorem ck_RX11_473_1518 : COK2 RX11 vwCl gTbl 473 0 con_1518 := ⟨wd_1218, wd_131, mh_X8_at, .inr (.inr ⟨rfl, wd_1215, wd_1216, wd_1217, ⟨_, rfl, pd_X8_at⟩, 8, _, TX8, 3, rfl, rfl⟩)⟩
theorem ck_RX11_473_1521 : COK2 RX11 vwCl gTbl 473 0 con_1521 := ⟨wd_1218, wd_131, mh_X8_at, .inr (.inr ⟨rfl, wd_1215, wd_1216, wd_1217, ⟨_, rfl, pd_X8_at⟩, 8, _, TX8, 3, rfl, rfl⟩)⟩
theorem ck_RX11_473_1524 : COK2 RX11 vwCl gTbl 473 0 con_1524 := ⟨wd_1218, wd_131, mh_X8_at, .inr (.inr ⟨rfl, wd_1215, wd_1216, wd_1217, ⟨_, rfl, pd_X8_at⟩, 8, _, TX8, 3, rfl, rfl⟩)⟩
theorem ck_RX11_473_1527 : COK2 RX11 vwCl gTbl 473 0 con_1527 := ⟨wd_1218, wd_131, mh_X8_at, .inr (.inr ⟨rfl, wd_1215, wd_1216, wd_1217, ⟨_, rfl, pd_X8_at⟩, 8, _, TX8, 3, rfl, rfl⟩)⟩
theorem ck_RX11_473_1530 : COK2 RX11 vwCl gTbl 473 0 con_1530 := ⟨wd_1218, wd_131, mh_X8_at, .inr (.inr ⟨rfl, wd_1215, wd_1216, wd_1217, ⟨_, rfl, pd_X8_at⟩, 8, _, TX8, 3, rfl, rfl⟩)⟩
theorem ck_RX11_473_1533 : COK2 RX11 vwCl gTbl 473 0 con_1533 := ⟨wd_1218, wd_131, mh_X8_at, .inr (.inr ⟨rfl, wd_1215, wd_1216, wd_1217, ⟨_, rfl, pd_X8_at⟩, 8, _, TX8, 3, rfl, rfl⟩)⟩
theorem ck_RX11_473_1536 : COK2 RX11 vwCl gTbl 473 0 con_1536 := ⟨wd_1218, wd_131, mh_X8_at, .inr (.inr ⟨rfl, wd_1215, wd_1216, wd_1217, ⟨_, rfl, pd_X8_at⟩, 8, _, TX8, 3, rfl, rfl⟩)⟩
theorem ck_RX11_473_1539 : COK2 RX11 vwCl gTbl 473 0 con_1539 := ⟨wd_1218, wd_131, mh_X8_at, .inr (.inr ⟨rfl, wd_1215, wd_1216, wd_1217, ⟨_, rfl, pd_X8_at⟩, 8, _, TX8, 3, rfl, rfl⟩)⟩
theorem ck_RX11_473_1542 : COK2 RX11 vwCl gTbl 473 0 con_1542 := ⟨wd_1218, wd_131, mh_X8_at, .inr (.inr ⟨rfl, wd_1215, wd_1216, wd_1217, ⟨_, rfl, pd_X8_at⟩, 8, _, TX8, 3, rfl, rfl⟩)⟩
theorem ck_RX11_473_1545 : COK2 RX11 vwCl gTbl 473 0 con_1545 := ⟨wd_1218, wd_131, mh_X8_at, .inr (.inr ⟨rfl, wd_1215, wd_1216, wd_1217, ⟨_, rfl, pd_X8_at⟩, 8, _, TX8, 3, rfl, rfl⟩)⟩
theorem ck_RX11_473_1548 : COK2 RX11 vwCl gTbl 473 0 con_1548 := ⟨wd_1218, wd_131, mh_X8_at, .inr (.inr ⟨rfl, wd_1215, wd_1216, wd_1217, ⟨_, rfl, pd_X8_at⟩, 8, _, TX8, 3, rfl, rfl⟩)⟩
theorem ck_RX11_473_1551 : COK2 RX11 vwCl gTbl 473 0 con_1551 := ⟨wd_1218, wd_131, mh_X8_at, .inr (.inr ⟨rfl, wd_1215, wd_1216, wd_1217, ⟨_, rfl, pd_X8_at⟩, 8, _, TX8, 3, rfl, rfl⟩)⟩
theorem ck_RX11_473_1554 : COK2 RX11 vwCl gTbl 473 0 con_1554 := ⟨wd_1218, wd_131, mh_X8_at, .inr (.inr ⟨rfl, wd_1215, wd_1216, wd_1217, ⟨_, rfl, pd_X8_at⟩, 8, _, TX8, 3, rfl, rfl⟩)⟩
theorem ck_RX11_473_1557 : COK2 RX11 vwCl gTbl 473 0 con_1557 := ⟨wd_1218, wd_131, mh_X8_at, .inr (.inr ⟨rfl, wd_1215, wd_1216, wd_1217, ⟨_, rfl, pd_X8_at⟩, 8, _, TX8, 3, rfl, rfl⟩)⟩
theorem ck_RX11_473_1560 : COK2 RX11 vwCl gTbl 473 0 con_1560 := ⟨wd_1218, wd_131, mh_X8_at, .inr (.inr ⟨rfl, wd_1215, wd_1216, wd_1217, ⟨_, rfl, pd_X8_at⟩, 8, _, TX8, 3, rfl, rfl⟩)⟩
theorem ck_RX11_473_1563 : COK2 RX11 vwCl gTbl 473 0 con_1563 := ⟨wd_1218, wd_131, mh_X8_at, .inr (.inr ⟨rfl, wd_1215, wd_1216, wd_1217, ⟨_, rfl, pd_X8_at⟩, 8, _, TX8, 3, rfl, rfl⟩)⟩
theorem ck_RX11_476_1504 : COK2 RX11 vwCl gTbl 476 1 con_1504 := ⟨wd_1221, wd_125, mh_X11_isBetween, .inl ⟨rfl, wd_1219, wd_1220, pd_X11_isBetween⟩⟩
theorem ck_RX11_473_1503 : COK2 RX11 vwCl gTbl 473 0 con_1503 := ⟨wd_1218, wd_131, mh_X8_at, .inr (.inr ⟨rfl, wd_1215, wd_1216, wd_1217, ⟨_, rfl, pd_X8_at⟩, 8, _, TX8, 3, rfl, rfl⟩)⟩
theorem ck_RX11_473_1508 : COK2 RX11 vwCl gTbl 473 0 con_1508 := ⟨wd_1218, wd_131, mh_X8_at, .inr (.inr ⟨rfl, wd_1215, wd_1216, wd_1217, ⟨_, rfl, pd_X8_at⟩, 8, _, TX8, 3, rfl, rfl⟩)⟩
theorem ck_RX11_473_1511 : COK2 RX11 vwCl gTbl 473 0 con_1511 := ⟨wd_1218, wd_131, mh_X8_at, .inr (.inr ⟨rfl, wd_1215, wd_1216, wd_1217, ⟨_, rfl, pd_X8_at⟩, 8, _, TX8, 3, rfl, rfl⟩)⟩
theorem ck_RX11_473_1514 : COK2 RX11 vwCl gTbl 473 0 con_1514 := ⟨wd_1218, wd_131, mh_X8_at, .inr (.inr ⟨rfl, wd_1215, wd_1216, wd_1217, ⟨_, rfl, pd_X8_at⟩, 8, _, TX8, 3, rfl, rfl⟩)⟩
theorem ck_RX11_473_1517 : COK2 RX11 vwCl gTbl 473 0 con_1517 := ⟨wd_1218, wd_131, mh_X8_at, .inr (.inr ⟨rfl, wd_1215, wd_1216, wd_1217, ⟨_, rfl, pd_X8_at⟩, 8, _, TX8, 3, rfl, rfl⟩)⟩
theorem ck_RX11_473_1520 : COK2 RX11 vwCl gTbl 473 0 con_1520 := ⟨wd_1218, wd_131, mh_X8_at, .inr (.inr ⟨rfl, wd_1215, wd_1216, wd_1217, ⟨_, rfl, pd_X8_at⟩, 8, _, TX8, 3, rfl, rfl⟩)⟩
theorem ck_RX11_473_1523 : COK2 RX11 vwCl gTbl 473 0 con_1523 := ⟨wd_1218, wd_131, mh_X8_at, .inr (.inr ⟨rfl, wd_1215, wd_1216, wd_1217, ⟨_, rfl, pd_X8_at⟩, 8, _, TX8, 3, rfl, rfl⟩)⟩
theorem ck_RX11_473_1526 : COK2 RX11 vwCl gTbl 473 0 con_1526 := ⟨wd_1218, wd_131, mh_X8_at, .inr (.inr ⟨rfl, wd_1215, wd_1216, wd_1217, ⟨_, rfl, pd_X8_at⟩, 8, _, TX8, 3, rfl, rfl⟩)⟩
theorem ck_RX11_473_1529 : COK2 RX11 vwCl gTbl 473 0 con_1529 := ⟨wd_1218, wd_131, mh_X8_at, .inr (.inr ⟨rfl, wd_1215, wd_1216, wd_1217, ⟨_, rfl, pd_X8_at⟩, 8, _, TX8, 3, rfl, rfl⟩)⟩
theorem ck_RX11_473_1532 : COK2 RX11 vwCl gTbl 473 0 con_1532 := ⟨wd_1218, wd_131, mh_X8_at, .inr (.inr ⟨rfl, wd_1215, wd_1216, wd_1217, ⟨_, rfl, pd_X8_at⟩, 8, _, TX8, 3, rfl, rfl⟩)⟩
theorem ck_RX11_473_1535 : COK2 RX11 vwCl gTbl 473 0 con_1535 := ⟨wd_1218, wd_131, mh_X8_at, .inr (.inr ⟨rfl, wd_1215, wd_1216, wd_1217, ⟨_, rfl, pd_X8_at⟩, 8, _, TX8, 3, rfl, rfl⟩)⟩
theorem ck_RX11_473_1538 : COK2 RX11 vwCl gTbl 473 0 con_1538 := ⟨wd_1218, wd_131, mh_X8_at, .inr (.inr ⟨rfl, wd_1215, wd_1216, wd_1217, ⟨_, rfl, pd_X8_at⟩, 8, _, TX8, 3, rfl, rfl⟩)⟩
theorem ck_RX11_473_1541 : COK2 RX11 vwCl gTbl 473 0 con_1541 := ⟨wd_1218, wd_131, mh_X8_at, .inr (.inr ⟨rfl, wd_1215, wd_1216, wd_1217, ⟨_, rfl, pd_X8_at⟩, 8, _, TX8, 3, rfl, rfl⟩)⟩
theorem ck_RX11_473_1544 : COK2 RX11 vwCl gTbl 473 0 con_1544 := ⟨wd_1218, wd_131, mh_X8_at, .inr (.inr ⟨rfl, wd_1215, wd_1216, wd_1217, ⟨_, rfl, pd_X8_at⟩, 8, _, TX8, 3, rfl, rfl⟩)⟩
theorem ck_RX11_473_1547 : COK2 RX11 vwCl gTbl 473 0 con_1547 := ⟨wd_1218, wd_131, mh_X8_at, .inr (.inr ⟨rfl, wd_1215, wd_1216, wd_1217, ⟨_, rfl, pd_X8_at⟩, 8, _, TX8, 3, rfl, rfl⟩)⟩
theorem ck_RX11_473_1550 : COK2 RX11 vwCl gTbl 473 0 con_1550 := ⟨wd_1218, wd_131, mh_X8_at, .inr (.inr ⟨rfl, wd_1215, wd_1216, wd_1217, ⟨_, rfl, pd_X8_at⟩, 8, _, TX8, 3, rfl, rfl⟩)⟩
theorem ck_RX11_473_1553 : COK2 RX11 vwCl gTbl 473 0 con_1553 := ⟨wd_1218, wd_131, mh_X8_at, .inr (.inr ⟨rfl, wd_1215, wd_1216, wd_1217, ⟨_, rfl, pd_X8_at⟩, 8, _, TX8, 3, rfl, rfl⟩)⟩
theorem ck_RX11_473_1556 : COK2 RX11 vwCl gTbl 473 0 con_1556 := ⟨wd_1218, wd_131, mh_X8_at, .inr (.inr ⟨rfl, wd_1215, wd_1216, wd_1217, ⟨_, rfl, pd_X8_at⟩, 8, _, TX8, 3, rfl, rfl⟩)⟩
theorem ck_RX11_473_1559 : COK2 RX11 vwCl gTbl 473 0 con_1559 := ⟨wd_1218, wd_131, mh_X8_at, .inr (.inr ⟨rfl, wd_1215, wd_1216, wd_1217, ⟨_, rfl, pd_X8_at⟩, 8, _, TX8, 3, rfl, rfl⟩)⟩
theorem ck_RX11_473_1562 : COK2 RX11 vwCl gTbl 473 0 con_1562 := ⟨wd_1218, wd_131, mh_X8_at, .inr (.inr ⟨rfl, wd_1215, wd_1216, wd_1217, ⟨_, rfl, pd_X8_at⟩, 8, _, TX8, 3, rfl, rfl⟩)⟩
theorem ck_RX11_476_1502 : COK2 RX11 vwCl gTbl 476 1 con_1502 := ⟨wd_1221, wd_125, mh_X11_isBetween, .inl ⟨rfl, wd_1219, wd_1220, pd_X11_isBetween⟩⟩
theorem ck_RX11_473_1501 : COK2 RX11 vwCl gTbl 473 0 con_1501 := ⟨wd_1218, wd_131, mh_X8_at, .inr (.inr ⟨rfl, wd_1215, wd_1216, wd_1217, ⟨_, rfl, pd_X8_at⟩, 8, _, TX8, 3, rfl, rfl⟩)⟩
theorem ck_RX11_473_1507 : COK2 RX11 vwCl gTbl 473 0 con_1507 := ⟨wd_1218, wd_131, mh_X8_at, .inr (.inr ⟨rfl, wd_1215, wd_1216, wd_1217, ⟨_, rfl, pd_X8_at⟩, 8, _, TX8, 3, rfl, rfl⟩)⟩
theorem ck_RX11_473_1510 : COK2 RX11 vwCl gTbl 473 0 con_1510 := ⟨wd_1218, wd_131, mh_X8_at, .inr (.inr ⟨rfl, wd_1215, wd_1216, wd_1217, ⟨_, rfl, pd_X8_at⟩, 8, _, TX8, 3, rfl, rfl⟩)⟩
theorem ck_RX11_473_1513 : COK2 RX11 vwCl gTbl 473 0 con_1513 := ⟨wd_1218, wd_131, mh_X8_at, .inr (.inr ⟨rfl, wd_1215, wd_1216, wd_1217, ⟨_, rfl, pd_X8_at⟩, 8, _, TX8, 3, rfl, rfl⟩)⟩
theorem ck_RX11_473_1516 : COK2 RX11 vwCl gTbl 473 0 con_1516 := ⟨wd_1218, wd_131, mh_X8_at, .inr (.inr ⟨rfl, wd_1215, wd_1216, wd_1217, ⟨_, rfl, pd_X8_at⟩, 8, _, TX8, 3, rfl, rfl⟩)⟩
theorem ck_RX11_473_1519 : COK2 RX11 vwCl gTbl 473 0 con_1519 := ⟨wd_1218, wd_131, mh_X8_at, .inr (.inr ⟨rfl, wd_1215, wd_1216, wd_1217, ⟨_, rfl, pd_X8_at⟩, 8, _, TX8, 3, rfl, rfl⟩)⟩
theorem ck_RX11_473_1522 : COK2 RX11 vwCl gTbl 473 0 con_1522 := ⟨wd_1218, wd_131, mh_X8_at, .inr (.inr ⟨rfl, wd_1215, wd_1216, wd_1217, ⟨_, rfl, pd_X8_at⟩, 8, _, TX8, 3, rfl, rfl⟩)⟩
theorem ck_RX11_473_1525 : COK2 RX11 vwCl gTbl 473 0 con_1525 := ⟨wd_1218, wd_131, mh_X8_at, .inr (.inr ⟨rfl, wd_1215, wd_1216, wd_1217, ⟨_, rfl, pd_X8_at⟩, 8, _, TX8, 3, rfl, rfl⟩)⟩
theorem ck_RX11_473_1528 : COK2 RX11 vwCl gTbl 473 0 con_1528 := ⟨wd_1218, wd_131, mh_X8_at, .inr (.inr ⟨rfl, wd_1215, wd_1216, wd_1217, ⟨_, rfl, pd_X8_at⟩, 8, _, TX8, 3, rfl, rfl⟩)⟩
theorem ck_RX11_473_1531 : COK2 RX11 vwCl gTbl 473 0 con_1531 := ⟨wd_1218, wd_131, mh_X8_at, .inr (.inr ⟨rfl, wd_1215, wd_1216, wd_1217, ⟨_, rfl, pd_X8_at⟩, 8, _, TX8, 3, rfl, rfl⟩)⟩
theorem ck_RX11_473_1534 : COK2 RX11 vwCl gTbl 473 0 con_1534 := ⟨wd_1218, wd_131, mh_X8_at, .inr (.inr ⟨rfl, wd_1215, wd_1216, wd_1217, ⟨_, rfl, pd_X8_at⟩, 8, _, TX8, 3, rfl, rfl⟩)⟩
theorem ck_RX11_473_1537 : COK2 RX11 vwCl gTbl 473 0 con_1537 := ⟨wd_1218, wd_131, mh_X8_at, .inr (.inr ⟨rfl, wd_1215, wd_1216, wd_1217, ⟨_, rfl, pd_X8_at⟩, 8, _, TX8, 3, rfl, rfl⟩)⟩
theorem ck_RX11_473_1540 : COK2 RX11 vwCl gTbl 473 0 con_1540 := ⟨wd_1218, wd_131, mh_X8_at, .inr (.inr ⟨rfl, wd_1215, wd_1216, wd_1217, ⟨_, rfl, pd_X8_at⟩, 8, _, TX8, 3, rfl, rfl⟩)⟩
theorem ck_RX11_473_1543 : COK2 RX11 vwCl gTbl 473 0 con_1543 := ⟨wd_1218, wd_131, mh_X8_at, .inr (.inr ⟨rfl, wd_1215, wd_1216, wd_1217, ⟨_, rfl, pd_X8_at⟩, 8, _, TX8, 3, rfl, rfl⟩)⟩
theorem ck_RX11_473_1546 : COK2 RX11 vwCl gTbl 473 0 con_1546 := ⟨wd_1218, wd_131, mh_X8_at, .inr (.inr ⟨rfl, wd_1215, wd_1216, wd_1217, ⟨_, rfl, pd_X8_at⟩, 8, _, TX8, 3, rfl, rfl⟩)⟩
theorem ck_RX11_473_1549 : COK2 RX11 vwCl gTbl 473 0 con_1549 := ⟨wd_1218, wd_131, mh_X8_at, .inr (.inr ⟨rfl, wd_1215, wd_1216, wd_1217, ⟨_, rfl, pd_X8_at⟩, 8, _, TX8, 3, rfl, rfl⟩)⟩
theorem ck_RX11_473_1552 : COK2 RX11 vwCl gTbl 473 0 con_1552 := ⟨wd_1218, wd_131, mh_X8_at, .inr (.inr ⟨rfl, wd_1215, wd_1216, wd_1217, ⟨_, rfl, pd_X8_at⟩, 8, _, TX8, 3, rfl, rfl⟩)⟩
theorem ck_RX11_473_1555 : COK2 RX11 vwCl gTbl 473 0 con_1555 := ⟨wd_1218, wd_131, mh_X8_at, .inr (.inr ⟨rfl, wd_1215, wd_1216, wd_1217, ⟨_, rfl, pd_X8_at⟩, 8, _, TX8, 3, rfl, rfl⟩)⟩
theorem ck_RX11_473_1558 : COK2 RX11 vwCl gTbl 473 0 con_1558 := ⟨wd_1218, wd_131, mh_X8_at, .inr (.inr ⟨rfl, wd_1215, wd_1216, wd_1217, ⟨_, rfl, pd_X8_at⟩, 8, _, TX8, 3, rfl, rfl⟩)⟩
theorem ck_RX11_473_1561 : COK2 RX11 vwCl gTbl 473 0 con_1561 := ⟨wd_1218, wd_131, mh_X8_at, .inr (.inr ⟨rfl, wd_1215, wd_1216, wd_1217, ⟨_, rfl, pd_X8_at⟩, 8, _, TX8, 3, rfl, rfl⟩)⟩
theorem ck_RX11_420_1500 : COK2 RX11 vwCl gTbl 420 0 con_1500 := ⟨wd_1214, wd_131, mh_X8_hasRow, .inr (.inr ⟨rfl, wd_1211, wd_1212, wd_1213, ⟨_, rfl, pd_X8_hasRow⟩, 8, _, TX8, 3, rfl, rfl⟩)⟩
theorem ck_RX11_414_1499 : COK2 RX11 vwCl gTbl 414 1 con_1499 := ⟨wd_1210, wd_131, mh_X8_isSlot, .inl ⟨rfl, wd_1208, wd_1209, pd_X8_isSlot⟩⟩
noncomputable def ct_1564 : CTB2 := [(1, 414, 1, con_1499, []), (9, 139, 0, con_647, [0, 1, 2]), (23, 420, 0, con_1500, [3, 4]), (67, 473, 0, con_1561, [3, 5]), (67, 473, 0, con_1558, [3, 5]), (67, 473, 0, con_1555, [3, 5]), (67, 473, 0, con_1552, [3, 5]), (67, 473, 0, con_1549, [3, 5]), (67, 473, 0, con_1546, [3, 5]), (67, 473, 0, con_1543, [3, 5]), (67, 473, 0, con_1540, [3, 5]), (67, 473, 0, con_1537, [3, 5]), (67, 473, 0, con_1534, [3, 5]), (67, 473, 0, con_1531, [3, 5]), (67, 473, 0, con_1528, [3, 5]), (67, 473, 0, con_1525, [3, 5]), (67, 473, 0, con_1522, [3, 5]), (67, 473, 0, con_1519, [3, 5]), (67, 473, 0, con_1516, [3, 5]), (67, 473, 0, con_1513, [3, 5]), (67, 473, 0, con_1510, [3, 5]), (67, 473, 0, con_1507, [3, 5]), (67, 473, 0, con_1501, [3, 5]), (82, 476, 1, con_1502, []), (97, 473, 0, con_1562, [3, 5]), (97, 473, 0, con_1559, [3, 5]), (97, 473, 0, con_1556, [3, 5]), (97, 473, 0, con_1553, [3, 5]), (97, 473, 0, con_1550, [3, 5]), (97, 473, 0, con_1547, [3, 5]), (97, 473, 0, con_1544, [3, 5]), (97, 473, 0, con_1541, [3, 5]), (97, 473, 0, con_1538, [3, 5]), (97, 473, 0, con_1535, [3, 5]), (97, 473, 0, con_1532, [3, 5]), (97, 473, 0, con_1529, [3, 5]), (97, 473, 0, con_1526, [3, 5]), (97, 473, 0, con_1523, [3, 5]), (97, 473, 0, con_1520, [3, 5]), (97, 473, 0, con_1517, [3, 5]), (97, 473, 0, con_1514, [3, 5]), (97, 473, 0, con_1511, [3, 5]), (97, 473, 0, con_1508, [3, 5]), (97, 473, 0, con_1503, [3, 5]), (110, 476, 1, con_1504, []), (125, 473, 0, con_1563, [3, 5]), (125, 473, 0, con_1560, [3, 5]), (125, 473, 0, con_1557, [3, 5]), (125, 473, 0, con_1554, [3, 5]), (125, 473, 0, con_1551, [3, 5]), (125, 473, 0, con_1548, [3, 5]), (125, 473, 0, con_1545, [3, 5]), (125, 473, 0, con_1542, [3, 5]), (125, 473, 0, con_1539, [3, 5]), (125, 473, 0, con_1536, [3, 5]), (125, 473, 0, con_1533, [3, 5]), (125, 473, 0, con_1530, [3, 5]), (125, 473, 0, con_1527, [3, 5]), (125, 473, 0, con_1524, [3, 5]), (125, 473, 0, con_1521, [3, 5]), (125, 473, 0, con_1518, [3, 5]), (125, 473, 0, con_1515, [3, 5]), (125, 473, 0, con_1512, [3, 5]), (125, 473, 0, con_1509, [3, 5]), (125, 473, 0, con_1505, [3, 5]), (131, 476, 1, con_1506, [])]
noncomputable def gi_956 : GI := jl_n [gp_424, jl_i 0 60, jl_r 60 (jl_u), jl_z 5]
noncomputable def gi_957 : GI := jl_n [gp_424, jl_i 1 60, gp_446, jl_z 5]
noncomputable def gi_958 : GI := jl_n [gp_424, jl_i 4 60, gp_478, jl_z 5]
noncomputable def gi_959 : GI := jl_n [gp_424, jl_i 7 60, gp_482, jl_z 5]
noncomputable def gi_960 : GI := jl_n [gp_424, jl_i 10 60, gp_429, jl_z 5]
noncomputable def gi_961 : GI := jl_n [gp_424, jl_i 13 60, gp_432, jl_z 5]
noncomputable def gi_962 : GI := jl_n [gp_424, jl_i 16 60, gp_435, jl_z 5]
noncomputable def gi_963 : GI := jl_n [gp_424, jl_i 19 60, gp_438, jl_z 5]
noncomputable def gi_964 : GI := jl_n [gp_424, jl_i 22 60, gp_441, jl_z 5]
noncomputable def gi_965 : GI := jl_n [gp_424, jl_i 25 60, gp_444, jl_z 5]
noncomputable def gi_966 : GI := jl_n [gp_424, jl_i 28 60, gp_449, jl_z 5]
noncomputable def gi_967 : GI := jl_n [gp_424, jl_i 31 60, gp_452, jl_z 5]
noncomputable def gi_968 : GI := jl_n [gp_424, jl_i 34 60, gp_455, jl_z 5]
noncomputable def gi_969 : GI := jl_n [gp_424, jl_i 37 60, gp_458, jl_z 5]
noncomputable def gi_970 : GI := jl_n [gp_424, jl_i 40 60, gp_461, jl_z 5]
noncomputable def gi_971 : GI := jl_n [gp_424, jl_i 43 60, gp_464, jl_z 5]
noncomputable def gi_972 : GI := jl_n [gp_424, jl_i 46 60, gp_467, jl_z 5]
noncomputable def gi_973 : GI := jl_n [gp_424, jl_i 49 60, gp_470, jl_z 5]
noncomputable def gi_974 : GI := jl_n [gp_424, jl_i 52 60, gp_473, jl_z 5]
noncomputable def gi_975 : GI := jl_n [gp_424, jl_i 55 60, gp_476, jl_z 5]
noncomputable def gi_976 : GI := jl_n [gp_424, gp_481, jl_z 5]
noncomputable def cu_1564_0 : List CUT2 := [((54, [lq 0 6 0, lq 1 0 3, lq 2 1 2, lq 3 1 44, lq 4 0 0], [], gi_956, hq_701), [], ([], 60)), ((54, [lq 0 6 0, lq 1 0 3, lq 2 1 2, lq 3 1 44, lq 4 0 3], [], gi_957, hq_701), [], ([], 57)), ((54, [lq 0 6 0, lq 1 0 3, lq 2 1 2, lq 3 1 44, lq 4 0 6], [], gi_958, hq_701), [], ([], 54)), ((54, [lq 0 6 0, lq 1 0 3, lq 2 1 2, lq 3 1 44, lq 4 0 9], [], gi_959, hq_701), [], ([], 51)), ((54, [lq 0 6 0, lq 1 0 3, lq 2 1 2, lq 3 1 44, lq 4 0 12], [], gi_960, hq_701), [], ([], 48)), ((54, [lq 0 6 0, lq 1 0 3, lq 2 1 2, lq 3 1 44, lq 4 0 15], [], gi_961, hq_701), [], ([], 45)), ((54, [lq 0 6 0, lq 1 0 3, lq 2 1 2, lq 3 1 44, lq 4 0 18], [], gi_962, hq_701), [], ([], 42)), ((54, [lq 0 6 0, lq 1 0 3, lq 2 1 2, lq 3 1 44, lq 4 0 21], [], gi_963, hq_701), [], ([], 39)), ((54, [lq 0 6 0, lq 1 0 3, lq 2 1 2, lq 3 1 44, lq 4 0 24], [], gi_964, hq_701), [], ([], 36)), ((54, [lq 0 6 0, lq 1 0 3, lq 2 1 2, lq 3 1 44, lq 4 0 27], [], gi_965, hq_701), [], ([], 33)), ((54, [lq 0 6 0, lq 1 0 3, lq 2 1 2, lq 3 1 44, lq 4 0 30], [], gi_966, hq_701), [], ([], 30)), ((54, [lq 0 6 0, lq 1 0 3, lq 2 1 2, lq 3 1 44, lq 4 0 33], [], gi_967, hq_701), [], ([], 27)), ((54, [lq 0 6 0, lq 1 0 3, lq 2 1 2, lq 3 1 44, lq 4 0 36], [], gi_968, hq_701), [], ([], 24))]
noncomputable def cu_1564_1 : List CUT2 := [((54, [lq 0 6 0, lq 1 0 3, lq 2 1 2, lq 3 1 44, lq 4 0 39], [], gi_969, hq_701), [], ([], 21)), ((54, [lq 0 6 0, lq 1 0 3, lq 2 1 2, lq 3 1 44, lq 4 0 42], [], gi_970, hq_701), [], ([], 18)), ((54, [lq 0 6 0, lq 1 0 3, lq 2 1 2, lq 3 1 44, lq 4 0 45], [], gi_971, hq_701), [], ([], 15)), ((54, [lq 0 6 0, lq 1 0 3, lq 2 1 2, lq 3 1 44, lq 4 0 48], [], gi_972, hq_701), [], ([], 12)), ((54, [lq 0 6 0, lq 1 0 3, lq 2 1 2, lq 3 1 44, lq 4 0 51], [], gi_973, hq_701), [], ([], 9)), ((54, [lq 0 6 0, lq 1 0 3, lq 2 1 2, lq 3 1 44, lq 4 0 54], [], gi_974, hq_701), [], ([], 6)), ((54, [lq 0 6 0, lq 1 0 3, lq 2 1 2, lq 3 1 44, lq 4 0 57], [], gi_975, hq_701), [], ([], 3)), ((54, [lq 0 6 0, lq 1 0 3, lq 2 1 2, lq 3 1 44, lq 4 0 60], [], gi_976, hq_701), [], ([], 0))]
noncomputable def cu_1564 : List CUT2 := cu_1564_0 ++ (cu_1564_1)
theorem ch_1564 : staG tb_X11_wrongSeen 1 bt_RX11 [] ct_1564 [] [] cu_1564 44 con_1564 = true := by decide +kernel
theorem cc_1564_0 : cu_1564_0.all (cutG tb_X11_wrongSeen 1 bt_RX11 [] ct_1564 [] [] cu_1564 44 con_1564) = true := by decide +kernel
theorem cc_1564_1 : cu_1564_1.all (cutG tb_X11_wrongSeen 1 bt_RX11 [] ct_1564 [] [] cu_1564 44 con_1564) = true := by decide +kernel
theorem cto_1564 (l : Launch) : CTOK2 l RX11 vwCl gTbl ct_1564 := ct2_cons (vl_1499 l) ck_RX11_414_1499 (ct2_cons (vl_647 l) ck_RX11_139_647 (ct2_cons (vl_1500 l) ck_RX11_420_1500 (ct2_cons (vl_1561 l) ck_RX11_473_1561 (ct2_cons (vl_1558 l) ck_RX11_473_1558 (ct2_cons (vl_1555 l) ck_RX11_473_1555 (ct2_cons (vl_1552 l) ck_RX11_473_1552 (ct2_cons (vl_1549 l) ck_RX11_473_1549 (ct2_cons (vl_1546 l) ck_RX11_473_1546 (ct2_cons (vl_1543 l) ck_RX11_473_1543 (ct2_cons (vl_1540 l) ck_RX11_473_1540 (ct2_cons (vl_1537 l) ck_RX11_473_1537 (ct2_cons (vl_1534 l) ck_RX11_473_1534 (ct2_cons (vl_1531 l) ck_RX11_473_1531 (ct2_cons (vl_1528 l) ck_RX11_473_1528 (ct2_cons (vl_1525 l) ck_RX11_473_1525 (ct2_cons (vl_1522 l) ck_RX11_473_1522 (ct2_cons (vl_1519 l) ck_RX11_473_1519 (ct2_cons (vl_1516 l) ck_RX11_473_1516 (ct2_cons (vl_1513 l) ck_RX11_473_1513 (ct2_cons (vl_1510 l) ck_RX11_473_1510 (ct2_cons (vl_1507 l) ck_RX11_473_1507 (ct2_cons (vl_1501 l) ck_RX11_473_1501 (ct2_cons (vl_1502 l) ck_RX11_476_1502 (ct2_cons (vl_1562 l) ck_RX11_473_1562 (ct2_cons (vl_1559 l) ck_RX11_473_1559 (ct2_cons (vl_1556 l) ck_RX11_473_1556 (ct2_cons (vl_1553 l) ck_RX11_473_1553 (ct2_cons (vl_1550 l) ck_RX11_473_1550 (ct2_cons (vl_1547 l) ck_RX11_473_1547 (ct2_cons (vl_1544 l) ck_RX11_473_1544 (ct2_cons (vl_1541 l) ck_RX11_473_1541 (ct2_cons (vl_1538 l) ck_RX11_473_1538 (ct2_cons (vl_1535 l) ck_RX11_473_1535 (ct2_cons (vl_1532 l) ck_RX11_473_1532 (ct2_cons (vl_1529 l) ck_RX11_473_1529 (ct2_cons (vl_1526 l) ck_RX11_473_1526 (ct2_cons (vl_1523 l) ck_RX11_473_1523 (ct2_cons (vl_1520 l) ck_RX11_473_1520 (ct2_cons (vl_1517 l) ck_RX11_473_1517 (ct2_cons (vl_1514 l) ck_RX11_473_1514 (ct2_cons (vl_1511 l) ck_RX11_473_1511 (ct2_cons (vl_1508 l) ck_RX11_473_1508 (ct2_cons (vl_1503 l) ck_RX11_473_1503 (ct2_cons (vl_1504 l) ck_RX11_476_1504 (ct2_cons (vl_1563 l) ck_RX11_473_1563 (ct2_cons (vl_1560 l) ck_RX11_473_1560 (ct2_cons (vl_1557 l) ck_RX11_473_1557 (ct2_cons (vl_1554 l) ck_RX11_473_1554 (ct2_cons (vl_1551 l) ck_RX11_473_1551 (ct2_cons (vl_1548 l) ck_RX11_473_1548 (ct2_cons (vl_1545 l) ck_RX11_473_1545 (ct2_cons (vl_1542 l) ck_RX11_473_1542 (ct2_cons (vl_1539 l) ck_RX11_473_1539 (ct2_cons (vl_1536 l) ck_RX11_473_1536 (ct2_cons (vl_1533 l) ck_RX11_473_1533 (ct2_cons (vl_1530 l) ck_RX11_473_1530 (ct2_cons (vl_1527 l) ck_RX11_473_1527 (ct2_cons (vl_1524 l) ck_RX11_473_1524 (ct2_cons (vl_1521 l) ck_RX11_473_1521 (ct2_cons (vl_1518 l) ck_RX11_473_1518 (ct2_cons (vl_1515 l) ck_RX11_473_1515 (ct2_cons (vl_1512 l) ck_RX11_473_1512 (ct2_cons (vl_1509 l) ck_RX11_473_1509 (ct2_cons (vl_1505 l) ck_RX11_473_1505 (ct2_cons (vl_1506 l) ck_RX11_476_1506 (ct2_nil))))))))))))))))))))))))))))))))))))))))))))))))))))))))))))))))))
theorem vl_1564 (l : Launch) : Vld2 l vwCl gTbl con_1564 := conR_ok3 gT_all (hd_1564) rfl pn_RX11 tk_X11_wrongSeen bo_RX11 xo_RX11 (cto_1564 l) ch_1564 (cut_app (cut_all cc_1564_0) (cut_all cc_1564_1))
/-- RookHusting$Slots isSlot -/
noncomputable def con_1565 : Con2 := ((yX8_isSlot, cX8_isSlot, 1, (some .boolean)), (0, 0), ([(0, 2, 0)], [(0, 0)], [], []), [((0, 1, 0), [(0, 0), (0, 0)], [], [], [1])])
theorem hd_1565 : con_1565.1 = (yX8_isSlot, cX8_isSlot, 1, (some .boolean)) := rfl
noncomputable def cu_1565 : List CUT2 := []
theorem ch_1565 : staG tb_X8_isSlot 1 bt_RX8 [] ct_1497 [] [] cu_1565 10 con_1565 = true := by decide +kernel
theorem vl_1565 (l : Launch) : Vld2 l vwCl gTbl con_1565 := conR_ok3 gT_all (hd_1565) rfl pn_RX8 tk_X8_isSlot bo_RX8 xo_RX8 (cto_1497 l) ch_1565 cut_nil
/-- RookHusting$Slots hasRow -/
noncomputable def gi_977 : GI := jl_n [jl_z 5, jl_r 2 (jl_m 0 60), jl_k 0 0, jl_m 0 60, jl_z 1]
noncomputable def gi_978 : GI := jl_n [jl_z 5, gp_484, jl_m 0 60, jl_z 1]
noncomputable def con_1566 : Con2 := ((yX8_hasRow, cX8_hasRow, 2, (some .boolean)), (0, 0), ([(6, 0, 0), (0, 2, 0)], gi_924, [.inl (8, [(8, 2, 0), (8, 3, 0), (6, 1, 0)]), ac_808], []), [((0, 0, 0), gi_977, hq_640, [], [1]), ((0, 1, 0), gi_978, hq_640, [], [1])])
theorem hd_1566 : con_1566.1 = (yX8_hasRow, cX8_hasRow, 2, (some .boolean)) := rfl
noncomputable def cu_1566 : List CUT2 := []
theorem ch_1566 : staG tb_X8_hasRow 1 bt_RX8 [] ct_1497 [] [] cu_1566 11 con_1566 = true := by decide +kernel
theorem vl_1566 (l : Launch) : Vld2 l vwCl gTbl con_1566 := conR_ok3 gT_all (hd_1566) rfl pn_RX8 tk_X8_hasRow bo_RX8 xo_RX8 (cto_1497 l) ch_1566 cut_nil
/-- RookHusting$Slots at -/
noncomputable def ac_870 : AC := .inr (2, jl_n [js_5 120 9223372036854775807 9223372036854775807, js_4 7 1, js_5 119 9223372036854775807 9223372036854775807])
noncomputable def hq_702 : HP := [(false, .inl (8, [(6, 1, 0), (8, 4, 0), (8, 5, 0)])), (false, ac_870)]
noncomputable def con_1567 : Con2 := ((yX8_at, cX8_at, 3, (some .long)), (0, 0), ([(6, 0, 0), (0, 2, 0), (0, 0, 0)], gi_927, [.inl (8, [(6, 1, 0), (8, 4, 0), (8, 5, 0)]), ac_870], []), [((4, 6, 0), gi_928, hq_702, [], [1])])
theorem hd_1567 : con_1567.1 = (yX8_at, cX8_at, 3, (some .long)) := rfl
noncomputable def cu_1567 : List CUT2 := []
theorem ch_1567 : staG tb_X8_at 1 bt_RX8 [] ct_1497 [] [] cu_1567 11 con_1567 = true := by decide +kernel
theorem vl_1567 (l : Launch) : Vld2 l vwCl gTbl con_1567 := conR_ok3 gT_all (hd_1567) rfl pn_RX8 tk_X8_at bo_RX8 xo_RX8 (cto_1497 l) ch_1567 cut_nil
/-- RookHusting$Slots at -/
noncomputable def ac_871 : AC := .inr (2, jl_n [js_5 121 9223372036854775807 9223372036854775807, js_4 7 1, js_5 118 9223372036854775807 9223372036854775807])
noncomputable def hq_703 : HP := [(false, .inl (8, [(6, 1, 0), (8, 4, 0), (8, 5, 0)])), (false, ac_871)]
noncomputable def con_1568 : Con2 := ((yX8_at, cX8_at, 3, (some .long)), (0, 0), ([(6, 0, 0), (0, 2, 0), (0, 1, 0)], gi_927, [.inl (8, [(6, 1, 0), (8, 4, 0), (8, 5, 0)]), ac_871], []), [((4, 6, 0), gi_928, hq_703, [], [1])])
theorem hd_1568 : con_1568.1 = (yX8_at, cX8_at, 3, (some .long)) := rfl
noncomputable def cu_1568 : List CUT2 := []
theorem ch_1568 : staG tb_X8_at 1 bt_RX8 [] ct_1497 [] [] cu_1568 11 con_1568 = true := by decide +kernel
theorem vl_1568 (l : Launch) : Vld2 l vwCl gTbl con_1568 := conR_ok3 gT_all (hd_1568) rfl pn_RX8 tk_X8_at bo_RX8 xo_RX8 (cto_1497 l) ch_1568 cut_nil
/-- RookHusting$Slots at -/
noncomputable def ac_872 : AC := .inr (2, jl_n [js_5 122 9223372036854775807 9223372036854775807, js_4 7 1, js_5 117 9223372036854775807 9223372036854775807])
noncomputable def hq_704 : HP := [(false, .inl (8, [(6, 1, 0), (8, 4, 0), (8, 5, 0)])), (false, ac_872)]
noncomputable def con_1569 : Con2 := ((yX8_at, cX8_at, 3, (some .long)), (0, 0), ([(6, 0, 0), (0, 2, 0), (0, 2, 0)], gi_927, [.inl (8, [(6, 1, 0), (8, 4, 0), (8, 5, 0)]), ac_872], []), [((4, 6, 0), gi_928, hq_704, [], [1])])
theorem hd_1569 : con_1569.1 = (yX8_at, cX8_at, 3, (some .long)) := rfl
noncomputable def cu_1569 : List CUT2 := []
theorem ch_1569 : staG tb_X8_at 1 bt_RX8 [] ct_1497 [] [] cu_1569 11 con_1569 = true := by decide +kernel
theorem vl_1569 (l : Launch) : Vld2 l vwCl gTbl con_1569 := conR_ok3 gT_all (hd_1569) rfl pn_RX8 tk_X8_at bo_RX8 xo_RX8 (cto_1497 l) ch_1569 cut_nil
/-- RookHusting$Slots at -/
noncomputable def ac_873 : AC := .inr (2, jl_n [js_5 123 9223372036854775807 9223372036854775807, js_4 7 1, js_5 116 9223372036854775807 9223372036854775807])
noncomputable def hq_705 : HP := [(false, .inl (8, [(6, 1, 0), (8, 4, 0), (8, 5, 0)])), (false, ac_873)]
noncomputable def con_1570 : Con2 := ((yX8_at, cX8_at, 3, (some .long)), (0, 0), ([(6, 0, 0), (0, 2, 0), (0, 3, 0)], gi_927, [.inl (8, [(6, 1, 0), (8, 4, 0), (8, 5, 0)]), ac_873], []), [((4, 6, 0), gi_928, hq_705, [], [1])])
theorem hd_1570 : con_1570.1 = (yX8_at, cX8_at, 3, (some .long)) := rfl
noncomputable def cu_1570 : List CUT2 := []
theorem ch_1570 : staG tb_X8_at 1 bt_RX8 [] ct_1497 [] [] cu_1570 11 con_1570 = true := by decide +kernel
theorem vl_1570 (l : Launch) : Vld2 l vwCl gTbl con_1570 := conR_ok3 gT_all (hd_1570) rfl pn_RX8 tk_X8_at bo_RX8 xo_RX8 (cto_1497 l) ch_1570 cut_nil
/-- RookHusting$Slots at -/
noncomputable def ac_874 : AC := .inr (2, jl_n [js_5 124 9223372036854775807 9223372036854775807, js_4 7 1, js_5 115 9223372036854775807 9223372036854775807])
noncomputable def hq_706 : HP := [(false, .inl (8, [(6, 1, 0), (8, 4, 0), (8, 5, 0)])), (false, ac_874)]
noncomputable def con_1571 : Con2 := ((yX8_at, cX8_at, 3, (some .long)), (0, 0), ([(6, 0, 0), (0, 2, 0), (0, 4, 0)], gi_927, [.inl (8, [(6, 1, 0), (8, 4, 0), (8, 5, 0)]), ac_874], []), [((4, 6, 0), gi_928, hq_706, [], [1])])
theorem hd_1571 : con_1571.1 = (yX8_at, cX8_at, 3, (some .long)) := rfl
noncomputable def cu_1571 : List CUT2 := []
theorem ch_1571 : staG tb_X8_at 1 bt_RX8 [] ct_1497 [] [] cu_1571 11 con_1571 = true := by decide +kernel
theorem vl_1571 (l : Launch) : Vld2 l vwCl gTbl con_1571 := conR_ok3 gT_all (hd_1571) rfl pn_RX8 tk_X8_at bo_RX8 xo_RX8 (cto_1497 l) ch_1571 cut_nil
/-- RookHusting$Slots at -/
noncomputable def ac_875 : AC := .inr (2, jl_n [js_5 125 9223372036854775807 9223372036854775807, js_4 7 1, js_5 114 9223372036854775807 9223372036854775807])
noncomputable def hq_707 : HP := [(false, .inl (8, [(6, 1, 0), (8, 4, 0), (8, 5, 0)])), (false, ac_875)]
noncomputable def con_1572 : Con2 := ((yX8_at, cX8_at, 3, (some .long)), (0, 0), ([(6, 0, 0), (0, 2, 0), (0, 5, 0)], gi_927, [.inl (8, [(6, 1, 0), (8, 4, 0), (8, 5, 0)]), ac_875], []), [((4, 6, 0), gi_928, hq_707, [], [1])])
theorem hd_1572 : con_1572.1 = (yX8_at, cX8_at, 3, (some .long)) := rfl
noncomputable def cu_1572 : List CUT2 := []
theorem ch_1572 : staG tb_X8_at 1 bt_RX8 [] ct_1497 [] [] cu_1572 11 con_1572 = true := by decide +kernel
theorem vl_1572 (l : Launch) : Vld2 l vwCl gTbl con_1572 := conR_ok3 gT_all (hd_1572) rfl pn_RX8 tk_X8_at bo_RX8 xo_RX8 (cto_1497 l) ch_1572 cut_nil
/-- RookHusting$Slots at -/
noncomputable def ac_876 : AC := .inr (2, jl_n [js_5 126 9223372036854775807 9223372036854775807, js_4 7 1, js_5 113 9223372036854775807 9223372036854775807])
noncomputable def hq_708 : HP := [(false, .inl (8, [(6, 1, 0), (8, 4, 0), (8, 5, 0)])), (false, ac_876)]
noncomputable def con_1573 : Con2 := ((yX8_at, cX8_at, 3, (some .long)), (0, 0), ([(6, 0, 0), (0, 2, 0), (0, 6, 0)], gi_927, [.inl (8, [(6, 1, 0), (8, 4, 0), (8, 5, 0)]), ac_876], []), [((4, 6, 0), gi_928, hq_708, [], [1])])
theorem hd_1573 : con_1573.1 = (yX8_at, cX8_at, 3, (some .long)) := rfl
noncomputable def cu_1573 : List CUT2 := []
theorem ch_1573 : staG tb_X8_at 1 bt_RX8 [] ct_1497 [] [] cu_1573 11 con_1573 = true := by decide +kernel
theorem vl_1573 (l : Launch) : Vld2 l vwCl gTbl con_1573 := conR_ok3 gT_all (hd_1573) rfl pn_RX8 tk_X8_at bo_RX8 xo_RX8 (cto_1497 l) ch_1573 cut_nil
/-- RookHusting$Slots at -/
noncomputable def ac_877 : AC := .inr (2, jl_n [js_5 127 9223372036854775807 9223372036854775807, js_4 7 1, js_5 112 9223372036854775807 9223372036854775807])
noncomputable def hq_709 : HP := [(false, .inl (8, [(6, 1, 0), (8, 4, 0), (8, 5, 0)])), (false, ac_877)]
noncomputable def con_1574 : Con2 := ((yX8_at, cX8_at, 3, (some .long)), (0, 0), ([(6, 0, 0), (0, 2, 0), (0, 7, 0)], gi_927, [.inl (8, [(6, 1, 0), (8, 4, 0), (8, 5, 0)]), ac_877], []), [((4, 6, 0), gi_928, hq_709, [], [1])])
theorem hd_1574 : con_1574.1 = (yX8_at, cX8_at, 3, (some .long)) := rfl
noncomputable def cu_1574 : List CUT2 := []
theorem ch_1574 : staG tb_X8_at 1 bt_RX8 [] ct_1497 [] [] cu_1574 11 con_1574 = true := by decide +kernel
theorem vl_1574 (l : Launch) : Vld2 l vwCl gTbl con_1574 := conR_ok3 gT_all (hd_1574) rfl pn_RX8 tk_X8_at bo_RX8 xo_RX8 (cto_1497 l) ch_1574 cut_nil
/-- RookHusting$Slots at -/
noncomputable def ac_878 : AC := .inr (2, jl_n [js_5 128 9223372036854775807 9223372036854775807, js_4 7 1, js_5 111 9223372036854775807 9223372036854775807])
noncomputable def hq_710 : HP := [(false, .inl (8, [(6, 1, 0), (8, 4, 0), (8, 5, 0)])), (false, ac_878)]
noncomputable def con_1575 : Con2 := ((yX8_at, cX8_at, 3, (some .long)), (0, 0), ([(6, 0, 0), (0, 2, 0), (0, 8, 0)], gi_927, [.inl (8, [(6, 1, 0), (8, 4, 0), (8, 5, 0)]), ac_878], []), [((4, 6, 0), gi_928, hq_710, [], [1])])
theorem hd_1575 : con_1575.1 = (yX8_at, cX8_at, 3, (some .long)) := rfl
noncomputable def cu_1575 : List CUT2 := []
theorem ch_1575 : staG tb_X8_at 1 bt_RX8 [] ct_1497 [] [] cu_1575 11 con_1575 = true := by decide +kernel
theorem vl_1575 (l : Launch) : Vld2 l vwCl gTbl con_1575 := conR_ok3 gT_all (hd_1575) rfl pn_RX8 tk_X8_at bo_RX8 xo_RX8 (cto_1497 l) ch_1575 cut_nil
/-- RookHusting$Slots at -/
noncomputable def ac_879 : AC := .inr (2, jl_n [js_5 129 9223372036854775807 9223372036854775807, js_4 7 1, js_5 110 9223372036854775807 9223372036854775807])
noncomputable def hq_711 : HP := [(false, .inl (8, [(6, 1, 0), (8, 4, 0), (8, 5, 0)])), (false, ac_879)]
noncomputable def con_1576 : Con2 := ((yX8_at, cX8_at, 3, (some .long)), (0, 0), ([(6, 0, 0), (0, 2, 0), (0, 9, 0)], gi_927, [.inl (8, [(6, 1, 0), (8, 4, 0), (8, 5, 0)]), ac_879], []), [((4, 6, 0), gi_928, hq_711, [], [1])])
theorem hd_1576 : con_1576.1 = (yX8_at, cX8_at, 3, (some .long)) := rfl
noncomputable def cu_1576 : List CUT2 := []
theorem ch_1576 : staG tb_X8_at 1 bt_RX8 [] ct_1497 [] [] cu_1576 11 con_1576 = true := by decide +kernel
theorem vl_1576 (l : Launch) : Vld2 l vwCl gTbl con_1576 := conR_ok3 gT_all (hd_1576) rfl pn_RX8 tk_X8_at bo_RX8 xo_RX8 (cto_1497 l) ch_1576 cut_nil
/-- RookHusting$Slots at -/
noncomputable def ac_880 : AC := .inr (2, jl_n [js_5 130 9223372036854775807 9223372036854775807, js_4 7 1, js_5 109 9223372036854775807 9223372036854775807])
noncomputable def hq_712 : HP := [(false, .inl (8, [(6, 1, 0), (8, 4, 0), (8, 5, 0)])), (false, ac_880)]
noncomputable def con_1577 : Con2 := ((yX8_at, cX8_at, 3, (some .long)), (0, 0), ([(6, 0, 0), (0, 2, 0), (0, 10, 0)], gi_927, [.inl (8, [(6, 1, 0), (8, 4, 0), (8, 5, 0)]), ac_880], []), [((4, 6, 0), gi_928, hq_712, [], [1])])
theorem hd_1577 : con_1577.1 = (yX8_at, cX8_at, 3, (some .long)) := rfl
noncomputable def cu_1577 : List CUT2 := []
theorem ch_1577 : staG tb_X8_at 1 bt_RX8 [] ct_1497 [] [] cu_1577 11 con_1577 = true := by decide +kernel
theorem vl_1577 (l : Launch) : Vld2 l vwCl gTbl con_1577 := conR_ok3 gT_all (hd_1577) rfl pn_RX8 tk_X8_at bo_RX8 xo_RX8 (cto_1497 l) ch_1577 cut_nil
/-- RookHusting$Slots at -/
noncomputable def ac_881 : AC := .inr (2, jl_n [js_5 131 9223372036854775807 9223372036854775807, js_4 7 1, js_5 108 9223372036854775807 9223372036854775807])
noncomputable def hq_713 : HP := [(false, .inl (8, [(6, 1, 0), (8, 4, 0), (8, 5, 0)])), (false, ac_881)]
noncomputable def con_1578 : Con2 := ((yX8_at, cX8_at, 3, (some .long)), (0, 0), ([(6, 0, 0), (0, 2, 0), (0, 11, 0)], gi_927, [.inl (8, [(6, 1, 0), (8, 4, 0), (8, 5, 0)]), ac_881], []), [((4, 6, 0), gi_928, hq_713, [], [1])])
theorem hd_1578 : con_1578.1 = (yX8_at, cX8_at, 3, (some .long)) := rfl
noncomputable def cu_1578 : List CUT2 := []
theorem ch_1578 : staG tb_X8_at 1 bt_RX8 [] ct_1497 [] [] cu_1578 11 con_1578 = true := by decide +kernel
theorem vl_1578 (l : Launch) : Vld2 l vwCl gTbl con_1578 := conR_ok3 gT_all (hd_1578) rfl pn_RX8 tk_X8_at bo_RX8 xo_RX8 (cto_1497 l) ch_1578 cut_nil
/-- RookHusting$Slots at -/
noncomputable def ac_882 : AC := .inr (2, jl_n [js_5 132 9223372036854775807 9223372036854775807, js_4 7 1, js_5 107 9223372036854775807 9223372036854775807])
noncomputable def hq_714 : HP := [(false, .inl (8, [(6, 1, 0), (8, 4, 0), (8, 5, 0)])), (false, ac_882)]
noncomputable def con_1579 : Con2 := ((yX8_at, cX8_at, 3, (some .long)), (0, 0), ([(6, 0, 0), (0, 2, 0), (0, 12, 0)], gi_927, [.inl (8, [(6, 1, 0), (8, 4, 0), (8, 5, 0)]), ac_882], []), [((4, 6, 0), gi_928, hq_714, [], [1])])
theorem hd_1579 : con_1579.1 = (yX8_at, cX8_at, 3, (some .long)) := rfl
noncomputable def cu_1579 : List CUT2 := []
theorem ch_1579 : staG tb_X8_at 1 bt_RX8 [] ct_1497 [] [] cu_1579 11 con_1579 = true := by decide +kernel
theorem vl_1579 (l : Launch) : Vld2 l vwCl gTbl con_1579 := conR_ok3 gT_all (hd_1579) rfl pn_RX8 tk_X8_at bo_RX8 xo_RX8 (cto_1497 l) ch_1579 cut_nil
/-- RookHusting$Slots at -/
noncomputable def ac_883 : AC := .inr (2, jl_n [js_5 133 9223372036854775807 9223372036854775807, js_4 7 1, js_5 106 9223372036854775807 9223372036854775807])
noncomputable def hq_715 : HP := [(false, .inl (8, [(6, 1, 0), (8, 4, 0), (8, 5, 0)])), (false, ac_883)]
noncomputable def con_1580 : Con2 := ((yX8_at, cX8_at, 3, (some .long)), (0, 0), ([(6, 0, 0), (0, 2, 0), (0, 13, 0)], gi_927, [.inl (8, [(6, 1, 0), (8, 4, 0), (8, 5, 0)]), ac_883], []), [((4, 6, 0), gi_928, hq_715, [], [1])])
theorem hd_1580 : con_1580.1 = (yX8_at, cX8_at, 3, (some .long)) := rfl
noncomputable def cu_1580 : List CUT2 := []
theorem ch_1580 : staG tb_X8_at 1 bt_RX8 [] ct_1497 [] [] cu_1580 11 con_1580 = true := by decide +kernel
theorem vl_1580 (l : Launch) : Vld2 l vwCl gTbl con_1580 := conR_ok3 gT_all (hd_1580) rfl pn_RX8 tk_X8_at bo_RX8 xo_RX8 (cto_1497 l) ch_1580 cut_nil
/-- RookHusting$Slots at -/
noncomputable def ac_884 : AC := .inr (2, jl_n [js_5 134 9223372036854775807 9223372036854775807, js_4 7 1, js_5 105 9223372036854775807 9223372036854775807])
noncomputable def hq_716 : HP := [(false, .inl (8, [(6, 1, 0), (8, 4, 0), (8, 5, 0)])), (false, ac_884)]
noncomputable def con_1581 : Con2 := ((yX8_at, cX8_at, 3, (some .long)), (0, 0), ([(6, 0, 0), (0, 2, 0), (0, 14, 0)], gi_927, [.inl (8, [(6, 1, 0), (8, 4, 0), (8, 5, 0)]), ac_884], []), [((4, 6, 0), gi_928, hq_716, [], [1])])
theorem hd_1581 : con_1581.1 = (yX8_at, cX8_at, 3, (some .long)) := rfl
noncomputable def cu_1581 : List CUT2 := []
theorem ch_1581 : staG tb_X8_at 1 bt_RX8 [] ct_1497 [] [] cu_1581 11 con_1581 = true := by decide +kernel
theorem vl_1581 (l : Launch) : Vld2 l vwCl gTbl con_1581 := conR_ok3 gT_all (hd_1581) rfl pn_RX8 tk_X8_at bo_RX8 xo_RX8 (cto_1497 l) ch_1581 cut_nil
/-- RookHusting$Slots at -/
noncomputable def ac_885 : AC := .inr (2, jl_n [js_5 135 9223372036854775807 9223372036854775807, js_4 7 1, js_5 104 9223372036854775807 9223372036854775807])
noncomputable def hq_717 : HP := [(false, .inl (8, [(6, 1, 0), (8, 4, 0), (8, 5, 0)])), (false, ac_885)]
noncomputable def con_1582 : Con2 := ((yX8_at, cX8_at, 3, (some .long)), (0, 0), ([(6, 0, 0), (0, 2, 0), (0, 15, 0)], gi_927, [.inl (8, [(6, 1, 0), (8, 4, 0), (8, 5, 0)]), ac_885], []), [((4, 6, 0), gi_928, hq_717, [], [1])])
theorem hd_1582 : con_1582.1 = (yX8_at, cX8_at, 3, (some .long)) := rfl
noncomputable def cu_1582 : List CUT2 := []
theorem ch_1582 : staG tb_X8_at 1 bt_RX8 [] ct_1497 [] [] cu_1582 11 con_1582 = true := by decide +kernel
theorem vl_1582 (l : Launch) : Vld2 l vwCl gTbl con_1582 := conR_ok3 gT_all (hd_1582) rfl pn_RX8 tk_X8_at bo_RX8 xo_RX8 (cto_1497 l) ch_1582 cut_nil
/-- RookHusting$Slots at -/
noncomputable def ac_886 : AC := .inr (2, jl_n [js_5 136 9223372036854775807 9223372036854775807, js_4 7 1, js_5 103 9223372036854775807 9223372036854775807])
noncomputable def hq_718 : HP := [(false, .inl (8, [(6, 1, 0), (8, 4, 0), (8, 5, 0)])), (false, ac_886)]
noncomputable def con_1583 : Con2 := ((yX8_at, cX8_at, 3, (some .long)), (0, 0), ([(6, 0, 0), (0, 2, 0), (0, 16, 0)], gi_927, [.inl (8, [(6, 1, 0), (8, 4, 0), (8, 5, 0)]), ac_886], []), [((4, 6, 0), gi_928, hq_718, [], [1])])
theorem hd_1583 : con_1583.1 = (yX8_at, cX8_at, 3, (some .long)) := rfl
noncomputable def cu_1583 : List CUT2 := []
theorem ch_1583 : staG tb_X8_at 1 bt_RX8 [] ct_1497 [] [] cu_1583 11 con_1583 = true := by decide +kernel
theorem vl_1583 (l : Launch) : Vld2 l vwCl gTbl con_1583 := conR_ok3 gT_all (hd_1583) rfl pn_RX8 tk_X8_at bo_RX8 xo_RX8 (cto_1497 l) ch_1583 cut_nil
/-- RookHusting$Slots at -/
noncomputable def ac_887 : AC := .inr (2, jl_n [js_5 137 9223372036854775807 9223372036854775807, js_4 7 1, js_5 102 9223372036854775807 9223372036854775807])
noncomputable def hq_719 : HP := [(false, .inl (8, [(6, 1, 0), (8, 4, 0), (8, 5, 0)])), (false, ac_887)]
noncomputable def con_1584 : Con2 := ((yX8_at, cX8_at, 3, (some .long)), (0, 0), ([(6, 0, 0), (0, 2, 0), (0, 17, 0)], gi_927, [.inl (8, [(6, 1, 0), (8, 4, 0), (8, 5, 0)]), ac_887], []), [((4, 6, 0), gi_928, hq_719, [], [1])])
theorem hd_1584 : con_1584.1 = (yX8_at, cX8_at, 3, (some .long)) := rfl
noncomputable def cu_1584 : List CUT2 := []
theorem ch_1584 : staG tb_X8_at 1 bt_RX8 [] ct_1497 [] [] cu_1584 11 con_1584 = true := by decide +kernel
theorem vl_1584 (l : Launch) : Vld2 l vwCl gTbl con_1584 := conR_ok3 gT_all (hd_1584) rfl pn_RX8 tk_X8_at bo_RX8 xo_RX8 (cto_1497 l) ch_1584 cut_nil
/-- RookHusting$Slots at -/
noncomputable def ac_888 : AC := .inr (2, jl_n [js_5 138 9223372036854775807 9223372036854775807, js_4 7 1, js_5 101 9223372036854775807 9223372036854775807])
noncomputable def hq_720 : HP := [(false, .inl (8, [(6, 1, 0), (8, 4, 0), (8, 5, 0)])), (false, ac_888)]
noncomputable def con_1585 : Con2 := ((yX8_at, cX8_at, 3, (some .long)), (0, 0), ([(6, 0, 0), (0, 2, 0), (0, 18, 0)], gi_927, [.inl (8, [(6, 1, 0), (8, 4, 0), (8, 5, 0)]), ac_888], []), [((4, 6, 0), gi_928, hq_720, [], [1])])
theorem hd_1585 : con_1585.1 = (yX8_at, cX8_at, 3, (some .long)) := rfl
noncomputable def cu_1585 : List CUT2 := []
theorem ch_1585 : staG tb_X8_at 1 bt_RX8 [] ct_1497 [] [] cu_1585 11 con_1585 = true := by decide +kernel
theorem vl_1585 (l : Launch) : Vld2 l vwCl gTbl con_1585 := conR_ok3 gT_all (hd_1585) rfl pn_RX8 tk_X8_at bo_RX8 xo_RX8 (cto_1497 l) ch_1585 cut_nil
/-- RookHusting$Slots at -/
noncomputable def ac_889 : AC := .inr (2, jl_n [js_5 139 9223372036854775807 9223372036854775807, js_4 7 1, js_5 100 9223372036854775807 9223372036854775807])
noncomputable def hq_721 : HP := [(false, .inl (8, [(6, 1, 0), (8, 4, 0), (8, 5, 0)])), (false, ac_889)]
noncomputable def con_1586 : Con2 := ((yX8_at, cX8_at, 3, (some .long)), (0, 0), ([(6, 0, 0), (0, 2, 0), (0, 19, 0)], gi_927, [.inl (8, [(6, 1, 0), (8, 4, 0), (8, 5, 0)]), ac_889], []), [((4, 6, 0), gi_928, hq_721, [], [1])])
theorem hd_1586 : con_1586.1 = (yX8_at, cX8_at, 3, (some .long)) := rfl
noncomputable def cu_1586 : List CUT2 := []
theorem ch_1586 : staG tb_X8_at 1 bt_RX8 [] ct_1497 [] [] cu_1586 11 con_1586 = true := by decide +kernel
theorem vl_1586 (l : Launch) : Vld2 l vwCl gTbl con_1586 := conR_ok3 gT_all (hd_1586) rfl pn_RX8 tk_X8_at bo_RX8 xo_RX8 (cto_1497 l) ch_1586 cut_nil
/-- RookHusting$Slots at -/
noncomputable def ac_890 : AC := .inr (2, jl_n [js_5 140 9223372036854775807 9223372036854775807, js_4 7 1, js_5 99 9223372036854775807 9223372036854775807])
noncomputable def hq_722 : HP := [(false, .inl (8, [(6, 1, 0), (8, 4, 0), (8, 5, 0)])), (false, ac_890)]
noncomputable def con_1587 : Con2 := ((yX8_at, cX8_at, 3, (some .long)), (0, 0), ([(6, 0, 0), (0, 2, 0), (0, 20, 0)], gi_927, [.inl (8, [(6, 1, 0), (8, 4, 0), (8, 5, 0)]), ac_890], []), [((4, 6, 0), gi_928, hq_722, [], [1])])
theorem hd_1587 : con_1587.1 = (yX8_at, cX8_at, 3, (some .long)) := rfl
noncomputable def cu_1587 : List CUT2 := []
theorem ch_1587 : staG tb_X8_at 1 bt_RX8 [] ct_1497 [] [] cu_1587 11 con_1587 = true := by decide +kernel
theorem vl_1587 (l : Launch) : Vld2 l vwCl gTbl con_1587 := conR_ok3 gT_all (hd_1587) rfl pn_RX8 tk_X8_at bo_RX8 xo_RX8 (cto_1497 l) ch_1587 cut_nil
/-- RookHusting$Slots at -/
noncomputable def ac_891 : AC := .inr (2, jl_n [js_5 141 9223372036854775807 9223372036854775807, js_4 7 1, js_5 98 9223372036854775807 9223372036854775807])
noncomputable def hq_723 : HP := [(false, .inl (8, [(6, 1, 0), (8, 4, 0), (8, 5, 0)])), (false, ac_891)]
noncomputable def con_1588 : Con2 := ((yX8_at, cX8_at, 3, (some .long)), (0, 0), ([(6, 0, 0), (0, 2, 0), (0, 21, 0)], gi_927, [.inl (8, [(6, 1, 0), (8, 4, 0), (8, 5, 0)]), ac_891], []), [((4, 6, 0), gi_928, hq_723, [], [1])])
theorem hd_1588 : con_1588.1 = (yX8_at, cX8_at, 3, (some .long)) := rfl
noncomputable def cu_1588 : List CUT2 := []
theorem ch_1588 : staG tb_X8_at 1 bt_RX8 [] ct_1497 [] [] cu_1588 11 con_1588 = true := by decide +kernel
theorem vl_1588 (l : Launch) : Vld2 l vwCl gTbl con_1588 := conR_ok3 gT_all (hd_1588) rfl pn_RX8 tk_X8_at bo_RX8 xo_RX8 (cto_1497 l) ch_1588 cut_nil
/-- RookHusting$Slots at -/
noncomputable def ac_892 : AC := .inr (2, jl_n [js_5 142 9223372036854775807 9223372036854775807, js_4 7 1, js_5 97 9223372036854775807 9223372036854775807])
noncomputable def hq_724 : HP := [(false, .inl (8, [(6, 1, 0), (8, 4, 0), (8, 5, 0)])), (false, ac_892)]
noncomputable def con_1589 : Con2 := ((yX8_at, cX8_at, 3, (some .long)), (0, 0), ([(6, 0, 0), (0, 2, 0), (0, 22, 0)], gi_927, [.inl (8, [(6, 1, 0), (8, 4, 0), (8, 5, 0)]), ac_892], []), [((4, 6, 0), gi_928, hq_724, [], [1])])
theorem hd_1589 : con_1589.1 = (yX8_at, cX8_at, 3, (some .long)) := rfl
noncomputable def cu_1589 : List CUT2 := []
theorem ch_1589 : staG tb_X8_at 1 bt_RX8 [] ct_1497 [] [] cu_1589 11 con_1589 = true := by decide +kernel
theorem vl_1589 (l : Launch) : Vld2 l vwCl gTbl con_1589 := conR_ok3 gT_all (hd_1589) rfl pn_RX8 tk_X8_at bo_RX8 xo_RX8 (cto_1497 l) ch_1589 cut_nil
/-- RookHusting$Slots at -/
noncomputable def ac_893 : AC := .inr (2, jl_n [js_5 143 9223372036854775807 9223372036854775807, js_4 7 1, js_5 96 9223372036854775807 9223372036854775807])
noncomputable def hq_725 : HP := [(false, .inl (8, [(6, 1, 0), (8, 4, 0), (8, 5, 0)])), (false, ac_893)]
noncomputable def con_1590 : Con2 := ((yX8_at, cX8_at, 3, (some .long)), (0, 0), ([(6, 0, 0), (0, 2, 0), (0, 23, 0)], gi_927, [.inl (8, [(6, 1, 0), (8, 4, 0), (8, 5, 0)]), ac_893], []), [((4, 6, 0), gi_928, hq_725, [], [1])])
theorem hd_1590 : con_1590.1 = (yX8_at, cX8_at, 3, (some .long)) := rfl
noncomputable def cu_1590 : List CUT2 := []
theorem ch_1590 : staG tb_X8_at 1 bt_RX8 [] ct_1497 [] [] cu_1590 11 con_1590 = true := by decide +kernel
theorem vl_1590 (l : Launch) : Vld2 l vwCl gTbl con_1590 := conR_ok3 gT_all (hd_1590) rfl pn_RX8 tk_X8_at bo_RX8 xo_RX8 (cto_1497 l) ch_1590 cut_nil
/-- RookHusting$Slots at -/
noncomputable def ac_894 : AC := .inr (2, jl_n [js_5 144 9223372036854775807 9223372036854775807, js_4 7 1, js_5 95 9223372036854775807 9223372036854775807])
noncomputable def hq_726 : HP := [(false, .inl (8, [(6, 1, 0), (8, 4, 0), (8, 5, 0)])), (false, ac_894)]
noncomputable def con_1591 : Con2 := ((yX8_at, cX8_at, 3, (some .long)), (0, 0), ([(6, 0, 0), (0, 2, 0), (0, 24, 0)], gi_927, [.inl (8, [(6, 1, 0), (8, 4, 0), (8, 5, 0)]), ac_894], []), [((4, 6, 0), gi_928, hq_726, [], [1])])
theorem hd_1591 : con_1591.1 = (yX8_at, cX8_at, 3, (some .long)) := rfl
noncomputable def cu_1591 : List CUT2 := []
theorem ch_1591 : staG tb_X8_at 1 bt_RX8 [] ct_1497 [] [] cu_1591 11 con_1591 = true := by decide +kernel
theorem vl_1591 (l : Launch) : Vld2 l vwCl gTbl con_1591 := conR_ok3 gT_all (hd_1591) rfl pn_RX8 tk_X8_at bo_RX8 xo_RX8 (cto_1497 l) ch_1591 cut_nil
/-- RookHusting$Slots at -/
noncomputable def ac_895 : AC := .inr (2, jl_n [js_5 145 9223372036854775807 9223372036854775807, js_4 7 1, js_5 94 9223372036854775807 9223372036854775807])
noncomputable def hq_727 : HP := [(false, .inl (8, [(6, 1, 0), (8, 4, 0), (8, 5, 0)])), (false, ac_895)]
noncomputable def con_1592 : Con2 := ((yX8_at, cX8_at, 3, (some .long)), (0, 0), ([(6, 0, 0), (0, 2, 0), (0, 25, 0)], gi_927, [.inl (8, [(6, 1, 0), (8, 4, 0), (8, 5, 0)]), ac_895], []), [((4, 6, 0), gi_928, hq_727, [], [1])])
theorem hd_1592 : con_1592.1 = (yX8_at, cX8_at, 3, (some .long)) := rfl
noncomputable def cu_1592 : List CUT2 := []
theorem ch_1592 : staG tb_X8_at 1 bt_RX8 [] ct_1497 [] [] cu_1592 11 con_1592 = true := by decide +kernel
theorem vl_1592 (l : Launch) : Vld2 l vwCl gTbl con_1592 := conR_ok3 gT_all (hd_1592) rfl pn_RX8 tk_X8_at bo_RX8 xo_RX8 (cto_1497 l) ch_1592 cut_nil
/-- RookHusting$Slots at -/
noncomputable def ac_896 : AC := .inr (2, jl_n [js_5 146 9223372036854775807 9223372036854775807, js_4 7 1, js_5 93 9223372036854775807 9223372036854775807])
noncomputable def hq_728 : HP := [(false, .inl (8, [(6, 1, 0), (8, 4, 0), (8, 5, 0)])), (false, ac_896)]
noncomputable def con_1593 : Con2 := ((yX8_at, cX8_at, 3, (some .long)), (0, 0), ([(6, 0, 0), (0, 2, 0), (0, 26, 0)], gi_927, [.inl (8, [(6, 1, 0), (8, 4, 0), (8, 5, 0)]), ac_896], []), [((4, 6, 0), gi_928, hq_728, [], [1])])
theorem hd_1593 : con_1593.1 = (yX8_at, cX8_at, 3, (some .long)) := rfl
noncomputable def cu_1593 : List CUT2 := []
theorem ch_1593 : staG tb_X8_at 1 bt_RX8 [] ct_1497 [] [] cu_1593 11 con_1593 = true := by decide +kernel
theorem vl_1593 (l : Launch) : Vld2 l vwCl gTbl con_1593 := conR_ok3 gT_all (hd_1593) rfl pn_RX8 tk_X8_at bo_RX8 xo_RX8 (cto_1497 l) ch_1593 cut_nil
/-- RookHusting$Slots at -/
noncomputable def ac_897 : AC := .inr (2, jl_n [js_5 147 9223372036854775807 9223372036854775807, js_4 7 1, js_5 92 9223372036854775807 9223372036854775807])
noncomputable def hq_729 : HP := [(false, .inl (8, [(6, 1, 0), (8, 4, 0), (8, 5, 0)])), (false, ac_897)]
noncomputable def con_1594 : Con2 := ((yX8_at, cX8_at, 3, (some .long)), (0, 0), ([(6, 0, 0), (0, 2, 0), (0, 27, 0)], gi_927, [.inl (8, [(6, 1, 0), (8, 4, 0), (8, 5, 0)]), ac_897], []), [((4, 6, 0), gi_928, hq_729, [], [1])])
theorem hd_1594 : con_1594.1 = (yX8_at, cX8_at, 3, (some .long)) := rfl
noncomputable def cu_1594 : List CUT2 := []
theorem ch_1594 : staG tb_X8_at 1 bt_RX8 [] ct_1497 [] [] cu_1594 11 con_1594 = true := by decide +kernel
theorem vl_1594 (l : Launch) : Vld2 l vwCl gTbl con_1594 := conR_ok3 gT_all (hd_1594) rfl pn_RX8 tk_X8_at bo_RX8 xo_RX8 (cto_1497 l) ch_1594 cut_nil
/-- RookHusting$Slots at -/
noncomputable def ac_898 : AC := .inr (2, jl_n [js_5 148 9223372036854775807 9223372036854775807, js_4 7 1, js_5 91 9223372036854775807 9223372036854775807])
noncomputable def hq_730 : HP := [(false, .inl (8, [(6, 1, 0), (8, 4, 0), (8, 5, 0)])), (false, ac_898)]
noncomputable def con_1595 : Con2 := ((yX8_at, cX8_at, 3, (some .long)), (0, 0), ([(6, 0, 0), (0, 2, 0), (0, 28, 0)], gi_927, [.inl (8, [(6, 1, 0), (8, 4, 0), (8, 5, 0)]), ac_898], []), [((4, 6, 0), gi_928, hq_730, [], [1])])
theorem hd_1595 : con_1595.1 = (yX8_at, cX8_at, 3, (some .long)) := rfl
noncomputable def cu_1595 : List CUT2 := []
theorem ch_1595 : staG tb_X8_at 1 bt_RX8 [] ct_1497 [] [] cu_1595 11 con_1595 = true := by decide +kernel
theorem vl_1595 (l : Launch) : Vld2 l vwCl gTbl con_1595 := conR_ok3 gT_all (hd_1595) rfl pn_RX8 tk_X8_at bo_RX8 xo_RX8 (cto_1497 l) ch_1595 cut_nil
/-- RookHusting$Slots at -/
noncomputable def ac_899 : AC := .inr (2, jl_n [js_5 149 9223372036854775807 9223372036854775807, js_4 7 1, js_5 90 9223372036854775807 9223372036854775807])
noncomputable def hq_731 : HP := [(false, .inl (8, [(6, 1, 0), (8, 4, 0), (8, 5, 0)])), (false, ac_899)]
noncomputable def con_1596 : Con2 := ((yX8_at, cX8_at, 3, (some .long)), (0, 0), ([(6, 0, 0), (0, 2, 0), (0, 29, 0)], gi_927, [.inl (8, [(6, 1, 0), (8, 4, 0), (8, 5, 0)]), ac_899], []), [((4, 6, 0), gi_928, hq_731, [], [1])])
theorem hd_1596 : con_1596.1 = (yX8_at, cX8_at, 3, (some .long)) := rfl
noncomputable def cu_1596 : List CUT2 := []
theorem ch_1596 : staG tb_X8_at 1 bt_RX8 [] ct_1497 [] [] cu_1596 11 con_1596 = true := by decide +kernel
theorem vl_1596 (l : Launch) : Vld2 l vwCl gTbl con_1596 := conR_ok3 gT_all (hd_1596) rfl pn_RX8 tk_X8_at bo_RX8 xo_RX8 (cto_1497 l) ch_1596 cut_nil
/-- RookHusting$Slots at -/
noncomputable def ac_900 : AC := .inr (2, jl_n [js_5 150 9223372036854775807 9223372036854775807, js_4 7 1, js_5 89 9223372036854775807 9223372036854775807])
noncomputable def hq_732 : HP := [(false, .inl (8, [(6, 1, 0), (8, 4, 0), (8, 5, 0)])), (false, ac_900)]
noncomputable def con_1597 : Con2 := ((yX8_at, cX8_at, 3, (some .long)), (0, 0), ([(6, 0, 0), (0, 2, 0), (0, 30, 0)], gi_927, [.inl (8, [(6, 1, 0), (8, 4, 0), (8, 5, 0)]), ac_900], []), [((4, 6, 0), gi_928, hq_732, [], [1])])
theorem hd_1597 : con_1597.1 = (yX8_at, cX8_at, 3, (some .long)) := rfl
noncomputable def cu_1597 : List CUT2 := []
theorem ch_1597 : staG tb_X8_at 1 bt_RX8 [] ct_1497 [] [] cu_1597 11 con_1597 = true := by decide +kernel
theorem vl_1597 (l : Launch) : Vld2 l vwCl gTbl con_1597 := conR_ok3 gT_all (hd_1597) rfl pn_RX8 tk_X8_at bo_RX8 xo_RX8 (cto_1497 l) ch_1597 cut_nil
/-- RookHusting$Slots at -/
noncomputable def ac_901 : AC := .inr (2, jl_n [js_5 151 9223372036854775807 9223372036854775807, js_4 7 1, js_5 88 9223372036854775807 9223372036854775807])
noncomputable def hq_733 : HP := [(false, .inl (8, [(6, 1, 0), (8, 4, 0), (8, 5, 0)])), (false, ac_901)]
noncomputable def con_1598 : Con2 := ((yX8_at, cX8_at, 3, (some .long)), (0, 0), ([(6, 0, 0), (0, 2, 0), (0, 31, 0)], gi_927, [.inl (8, [(6, 1, 0), (8, 4, 0), (8, 5, 0)]), ac_901], []), [((4, 6, 0), gi_928, hq_733, [], [1])])
theorem hd_1598 : con_1598.1 = (yX8_at, cX8_at, 3, (some .long)) := rfl
noncomputable def cu_1598 : List CUT2 := []
theorem ch_1598 : staG tb_X8_at 1 bt_RX8 [] ct_1497 [] [] cu_1598 11 con_1598 = true := by decide +kernel
theorem vl_1598 (l : Launch) : Vld2 l vwCl gTbl con_1598 := conR_ok3 gT_all (hd_1598) rfl pn_RX8 tk_X8_at bo_RX8 xo_RX8 (cto_1497 l) ch_1598 cut_nil
/-- RookHusting$Slots at -/
noncomputable def ac_902 : AC := .inr (2, jl_n [js_5 152 9223372036854775807 9223372036854775807, js_4 7 1, js_5 87 9223372036854775807 9223372036854775807])
noncomputable def hq_734 : HP := [(false, .inl (8, [(6, 1, 0), (8, 4, 0), (8, 5, 0)])), (false, ac_902)]
noncomputable def con_1599 : Con2 := ((yX8_at, cX8_at, 3, (some .long)), (0, 0), ([(6, 0, 0), (0, 2, 0), (0, 32, 0)], gi_927, [.inl (8, [(6, 1, 0), (8, 4, 0), (8, 5, 0)]), ac_902], []), [((4, 6, 0), gi_928, hq_734, [], [1])])
theorem hd_1599 : con_1599.1 = (yX8_at, cX8_at, 3, (some .long)) := rfl
noncomputable def cu_1599 : List CUT2 := []
theorem ch_1599 : staG tb_X8_at 1 bt_RX8 [] ct_1497 [] [] cu_1599 11 con_1599 = true := by decide +kernel
theorem vl_1599 (l : Launch) : Vld2 l vwCl gTbl con_1599 := conR_ok3 gT_all (hd_1599) rfl pn_RX8 tk_X8_at bo_RX8 xo_RX8 (cto_1497 l) ch_1599 cut_nil
/-- RookHusting$Slots at -/
noncomputable def ac_903 : AC := .inr (2, jl_n [js_5 153 9223372036854775807 9223372036854775807, js_4 7 1, js_5 86 9223372036854775807 9223372036854775807])
noncomputable def hq_735 : HP := [(false, .inl (8, [(6, 1, 0), (8, 4, 0), (8, 5, 0)])), (false, ac_903)]
noncomputable def con_1600 : Con2 := ((yX8_at, cX8_at, 3, (some .long)), (0, 0), ([(6, 0, 0), (0, 2, 0), (0, 33, 0)], gi_927, [.inl (8, [(6, 1, 0), (8, 4, 0), (8, 5, 0)]), ac_903], []), [((4, 6, 0), gi_928, hq_735, [], [1])])
theorem hd_1600 : con_1600.1 = (yX8_at, cX8_at, 3, (some .long)) := rfl
noncomputable def cu_1600 : List CUT2 := []
theorem ch_1600 : staG tb_X8_at 1 bt_RX8 [] ct_1497 [] [] cu_1600 11 con_1600 = true := by decide +kernel
theorem vl_1600 (l : Launch) : Vld2 l vwCl gTbl con_1600 := conR_ok3 gT_all (hd_1600) rfl pn_RX8 tk_X8_at bo_RX8 xo_RX8 (cto_1497 l) ch_1600 cut_nil
/-- RookHusting$Slots at -/
noncomputable def ac_904 : AC := .inr (2, jl_n [js_5 154 9223372036854775807 9223372036854775807, js_4 7 1, js_5 85 9223372036854775807 9223372036854775807])
noncomputable def hq_736 : HP := [(false, .inl (8, [(6, 1, 0), (8, 4, 0), (8, 5, 0)])), (false, ac_904)]
noncomputable def con_1601 : Con2 := ((yX8_at, cX8_at, 3, (some .long)), (0, 0), ([(6, 0, 0), (0, 2, 0), (0, 34, 0)], gi_927, [.inl (8, [(6, 1, 0), (8, 4, 0), (8, 5, 0)]), ac_904], []), [((4, 6, 0), gi_928, hq_736, [], [1])])
theorem hd_1601 : con_1601.1 = (yX8_at, cX8_at, 3, (some .long)) := rfl
noncomputable def cu_1601 : List CUT2 := []
theorem ch_1601 : staG tb_X8_at 1 bt_RX8 [] ct_1497 [] [] cu_1601 11 con_1601 = true := by decide +kernel
theorem vl_1601 (l : Launch) : Vld2 l vwCl gTbl con_1601 := conR_ok3 gT_all (hd_1601) rfl pn_RX8 tk_X8_at bo_RX8 xo_RX8 (cto_1497 l) ch_1601 cut_nil
/-- RookHusting$Slots at -/
noncomputable def ac_905 : AC := .inr (2, jl_n [js_5 155 9223372036854775807 9223372036854775807, js_4 7 1, js_5 84 9223372036854775807 9223372036854775807])
noncomputable def hq_737 : HP := [(false, .inl (8, [(6, 1, 0), (8, 4, 0), (8, 5, 0)])), (false, ac_905)]
noncomputable def con_1602 : Con2 := ((yX8_at, cX8_at, 3, (some .long)), (0, 0), ([(6, 0, 0), (0, 2, 0), (0, 35, 0)], gi_927, [.inl (8, [(6, 1, 0), (8, 4, 0), (8, 5, 0)]), ac_905], []), [((4, 6, 0), gi_928, hq_737, [], [1])])
theorem hd_1602 : con_1602.1 = (yX8_at, cX8_at, 3, (some .long)) := rfl
noncomputable def cu_1602 : List CUT2 := []
theorem ch_1602 : staG tb_X8_at 1 bt_RX8 [] ct_1497 [] [] cu_1602 11 con_1602 = true := by decide +kernel
theorem vl_1602 (l : Launch) : Vld2 l vwCl gTbl con_1602 := conR_ok3 gT_all (hd_1602) rfl pn_RX8 tk_X8_at bo_RX8 xo_RX8 (cto_1497 l) ch_1602 cut_nil
/-- RookHusting$Slots at -/
noncomputable def ac_906 : AC := .inr (2, jl_n [js_5 156 9223372036854775807 9223372036854775807, js_4 7 1, js_5 83 9223372036854775807 9223372036854775807])
noncomputable def hq_738 : HP := [(false, .inl (8, [(6, 1, 0), (8, 4, 0), (8, 5, 0)])), (false, ac_906)]
noncomputable def con_1603 : Con2 := ((yX8_at, cX8_at, 3, (some .long)), (0, 0), ([(6, 0, 0), (0, 2, 0), (0, 36, 0)], gi_927, [.inl (8, [(6, 1, 0), (8, 4, 0), (8, 5, 0)]), ac_906], []), [((4, 6, 0), gi_928, hq_738, [], [1])])
theorem hd_1603 : con_1603.1 = (yX8_at, cX8_at, 3, (some .long)) := rfl
noncomputable def cu_1603 : List CUT2 := []
theorem ch_1603 : staG tb_X8_at 1 bt_RX8 [] ct_1497 [] [] cu_1603 11 con_1603 = true := by decide +kernel
theorem vl_1603 (l : Launch) : Vld2 l vwCl gTbl con_1603 := conR_ok3 gT_all (hd_1603) rfl pn_RX8 tk_X8_at bo_RX8 xo_RX8 (cto_1497 l) ch_1603 cut_nil
/-- RookHusting$Slots at -/
noncomputable def ac_907 : AC := .inr (2, jl_n [js_5 157 9223372036854775807 9223372036854775807, js_4 7 1, js_5 82 9223372036854775807 9223372036854775807])
noncomputable def hq_739 : HP := [(false, .inl (8, [(6, 1, 0), (8, 4, 0), (8, 5, 0)])), (false, ac_907)]
noncomputable def con_1604 : Con2 := ((yX8_at, cX8_at, 3, (some .long)), (0, 0), ([(6, 0, 0), (0, 2, 0), (0, 37, 0)], gi_927, [.inl (8, [(6, 1, 0), (8, 4, 0), (8, 5, 0)]), ac_907], []), [((4, 6, 0), gi_928, hq_739, [], [1])])
theorem hd_1604 : con_1604.1 = (yX8_at, cX8_at, 3, (some .long)) := rfl
noncomputable def cu_1604 : List CUT2 := []
theorem ch_1604 : staG tb_X8_at 1 bt_RX8 [] ct_1497 [] [] cu_1604 11 con_1604 = true := by decide +kernel
theorem vl_1604 (l : Launch) : Vld2 l vwCl gTbl con_1604 := conR_ok3 gT_all (hd_1604) rfl pn_RX8 tk_X8_at bo_RX8 xo_RX8 (cto_1497 l) ch_1604 cut_nil
/-- RookHusting$Slots at -/
noncomputable def ac_908 : AC := .inr (2, jl_n [js_5 158 9223372036854775807 9223372036854775807, js_4 7 1, js_5 81 9223372036854775807 9223372036854775807])
noncomputable def hq_740 : HP := [(false, .inl (8, [(6, 1, 0), (8, 4, 0), (8, 5, 0)])), (false, ac_908)]
noncomputable def con_1605 : Con2 := ((yX8_at, cX8_at, 3, (some .long)), (0, 0), ([(6, 0, 0), (0, 2, 0), (0, 38, 0)], gi_927, [.inl (8, [(6, 1, 0), (8, 4, 0), (8, 5, 0)]), ac_908], []), [((4, 6, 0), gi_928, hq_740, [], [1])])
theorem hd_1605 : con_1605.1 = (yX8_at, cX8_at, 3, (some .long)) := rfl
noncomputable def cu_1605 : List CUT2 := []
theorem ch_1605 : staG tb_X8_at 1 bt_RX8 [] ct_1497 [] [] cu_1605 11 con_1605 = true := by decide +kernel
theorem vl_1605 (l : Launch) : Vld2 l vwCl gTbl con_1605 := conR_ok3 gT_all (hd_1605) rfl pn_RX8 tk_X8_at bo_RX8 xo_RX8 (cto_1497 l) ch_1605 cut_nil
/-- RookHusting$Slots at -/
noncomputable def ac_909 : AC := .inr (2, jl_n [js_5 159 9223372036854775807 9223372036854775807, js_4 7 1, js_5 80 9223372036854775807 9223372036854775807])
noncomputable def hq_741 : HP := [(false, .inl (8, [(6, 1, 0), (8, 4, 0), (8, 5, 0)])), (false, ac_909)]
noncomputable def con_1606 : Con2 := ((yX8_at, cX8_at, 3, (some .long)), (0, 0), ([(6, 0, 0), (0, 2, 0), (0, 39, 0)], gi_927, [.inl (8, [(6, 1, 0), (8, 4, 0), (8, 5, 0)]), ac_909], []), [((4, 6, 0), gi_928, hq_741, [], [1])])
theorem hd_1606 : con_1606.1 = (yX8_at, cX8_at, 3, (some .long)) := rfl
noncomputable def cu_1606 : List CUT2 := []
theorem ch_1606 : staG tb_X8_at 1 bt_RX8 [] ct_1497 [] [] cu_1606 11 con_1606 = true := by decide +kernel
theorem vl_1606 (l : Launch) : Vld2 l vwCl gTbl con_1606 := conR_ok3 gT_all (hd_1606) rfl pn_RX8 tk_X8_at bo_RX8 xo_RX8 (cto_1497 l) ch_1606 cut_nil
/-- RookHusting$Slots at -/
noncomputable def ac_910 : AC := .inr (2, jl_n [js_5 160 9223372036854775807 9223372036854775807, js_4 7 1, js_5 79 9223372036854775807 9223372036854775807])
noncomputable def hq_742 : HP := [(false, .inl (8, [(6, 1, 0), (8, 4, 0), (8, 5, 0)])), (false, ac_910)]
noncomputable def con_1607 : Con2 := ((yX8_at, cX8_at, 3, (some .long)), (0, 0), ([(6, 0, 0), (0, 2, 0), (0, 40, 0)], gi_927, [.inl (8, [(6, 1, 0), (8, 4, 0), (8, 5, 0)]), ac_910], []), [((4, 6, 0), gi_928, hq_742, [], [1])])
theorem hd_1607 : con_1607.1 = (yX8_at, cX8_at, 3, (some .long)) := rfl
noncomputable def cu_1607 : List CUT2 := []
theorem ch_1607 : staG tb_X8_at 1 bt_RX8 [] ct_1497 [] [] cu_1607 11 con_1607 = true := by decide +kernel
theorem vl_1607 (l : Launch) : Vld2 l vwCl gTbl con_1607 := conR_ok3 gT_all (hd_1607) rfl pn_RX8 tk_X8_at bo_RX8 xo_RX8 (cto_1497 l) ch_1607 cut_nil
/-- RookHusting$Slots at -/
noncomputable def ac_911 : AC := .inr (2, jl_n [js_5 161 9223372036854775807 9223372036854775807, js_4 7 1, js_5 78 9223372036854775807 9223372036854775807])
noncomputable def hq_743 : HP := [(false, .inl (8, [(6, 1, 0), (8, 4, 0), (8, 5, 0)])), (false, ac_911)]
noncomputable def con_1608 : Con2 := ((yX8_at, cX8_at, 3, (some .long)), (0, 0), ([(6, 0, 0), (0, 2, 0), (0, 41, 0)], gi_927, [.inl (8, [(6, 1, 0), (8, 4, 0), (8, 5, 0)]), ac_911], []), [((4, 6, 0), gi_928, hq_743, [], [1])])
theorem hd_1608 : con_1608.1 = (yX8_at, cX8_at, 3, (some .long)) := rfl
noncomputable def cu_1608 : List CUT2 := []
theorem ch_1608 : staG tb_X8_at 1 bt_RX8 [] ct_1497 [] [] cu_1608 11 con_1608 = true := by decide +kernel
theorem vl_1608 (l : Launch) : Vld2 l vwCl gTbl con_1608 := conR_ok3 gT_all (hd_1608) rfl pn_RX8 tk_X8_at bo_RX8 xo_RX8 (cto_1497 l) ch_1608 cut_nil
/-- RookHusting$Slots at -/
noncomputable def ac_912 : AC := .inr (2, jl_n [js_5 162 9223372036854775807 9223372036854775807, js_4 7 1, js_5 77 9223372036854775807 9223372036854775807])
noncomputable def hq_744 : HP := [(false, .inl (8, [(6, 1, 0), (8, 4, 0), (8, 5, 0)])), (false, ac_912)]
noncomputable def con_1609 : Con2 := ((yX8_at, cX8_at, 3, (some .long)), (0, 0), ([(6, 0, 0), (0, 2, 0), (0, 42, 0)], gi_927, [.inl (8, [(6, 1, 0), (8, 4, 0), (8, 5, 0)]), ac_912], []), [((4, 6, 0), gi_928, hq_744, [], [1])])
theorem hd_1609 : con_1609.1 = (yX8_at, cX8_at, 3, (some .long)) := rfl
noncomputable def cu_1609 : List CUT2 := []
theorem ch_1609 : staG tb_X8_at 1 bt_RX8 [] ct_1497 [] [] cu_1609 11 con_1609 = true := by decide +kernel
theorem vl_1609 (l : Launch) : Vld2 l vwCl gTbl con_1609 := conR_ok3 gT_all (hd_1609) rfl pn_RX8 tk_X8_at bo_RX8 xo_RX8 (cto_1497 l) ch_1609 cut_nil
/-- RookHusting$Slots at -/
noncomputable def ac_913 : AC := .inr (2, jl_n [js_5 163 9223372036854775807 9223372036854775807, js_4 7 1, js_5 76 9223372036854775807 9223372036854775807])
noncomputable def hq_745 : HP := [(false, .inl (8, [(6, 1, 0), (8, 4, 0), (8, 5, 0)])), (false, ac_913)]
noncomputable def con_1610 : Con2 := ((yX8_at, cX8_at, 3, (some .long)), (0, 0), ([(6, 0, 0), (0, 2, 0), (0, 43, 0)], gi_927, [.inl (8, [(6, 1, 0), (8, 4, 0), (8, 5, 0)]), ac_913], []), [((4, 6, 0), gi_928, hq_745, [], [1])])
theorem hd_1610 : con_1610.1 = (yX8_at, cX8_at, 3, (some .long)) := rfl
noncomputable def cu_1610 : List CUT2 := []
theorem ch_1610 : staG tb_X8_at 1 bt_RX8 [] ct_1497 [] [] cu_1610 11 con_1610 = true := by decide +kernel
theorem vl_1610 (l : Launch) : Vld2 l vwCl gTbl con_1610 := conR_ok3 gT_all (hd_1610) rfl pn_RX8 tk_X8_at bo_RX8 xo_RX8 (cto_1497 l) ch_1610 cut_nil
/-- RookHusting$Slots at -/
noncomputable def ac_914 : AC := .inr (2, jl_n [js_5 164 9223372036854775807 9223372036854775807, js_4 7 1, js_5 75 9223372036854775807 9223372036854775807])
noncomputable def hq_746 : HP := [(false, .inl (8, [(6, 1, 0), (8, 4, 0), (8, 5, 0)])), (false, ac_914)]
noncomputable def con_1611 : Con2 := ((yX8_at, cX8_at, 3, (some .long)), (0, 0), ([(6, 0, 0), (0, 2, 0), (0, 44, 0)], gi_927, [.inl (8, [(6, 1, 0), (8, 4, 0), (8, 5, 0)]), ac_914], []), [((4, 6, 0), gi_928, hq_746, [], [1])])
theorem hd_1611 : con_1611.1 = (yX8_at, cX8_at, 3, (some .long)) := rfl
noncomputable def cu_1611 : List CUT2 := []
theorem ch_1611 : staG tb_X8_at 1 bt_RX8 [] ct_1497 [] [] cu_1611 11 con_1611 = true := by decide +kernel
theorem vl_1611 (l : Launch) : Vld2 l vwCl gTbl con_1611 := conR_ok3 gT_all (hd_1611) rfl pn_RX8 tk_X8_at bo_RX8 xo_RX8 (cto_1497 l) ch_1611 cut_nil
/-- RookHusting$Slots at -/
noncomputable def ac_915 : AC := .inr (2, jl_n [js_5 165 9223372036854775807 9223372036854775807, js_4 7 1, js_5 74 9223372036854775807 9223372036854775807])
noncomputable def hq_747 : HP := [(false, .inl (8, [(6, 1, 0), (8, 4, 0), (8, 5, 0)])), (false, ac_915)]
noncomputable def con_1612 : Con2 := ((yX8_at, cX8_at, 3, (some .long)), (0, 0), ([(6, 0, 0), (0, 2, 0), (0, 45, 0)], gi_927, [.inl (8, [(6, 1, 0), (8, 4, 0), (8, 5, 0)]), ac_915], []), [((4, 6, 0), gi_928, hq_747, [], [1])])
theorem hd_1612 : con_1612.1 = (yX8_at, cX8_at, 3, (some .long)) := rfl
noncomputable def cu_1612 : List CUT2 := []
theorem ch_1612 : staG tb_X8_at 1 bt_RX8 [] ct_1497 [] [] cu_1612 11 con_1612 = true := by decide +kernel
theorem vl_1612 (l : Launch) : Vld2 l vwCl gTbl con_1612 := conR_ok3 gT_all (hd_1612) rfl pn_RX8 tk_X8_at bo_RX8 xo_RX8 (cto_1497 l) ch_1612 cut_nil
/-- RookHusting$Slots at -/
noncomputable def ac_916 : AC := .inr (2, jl_n [js_5 166 9223372036854775807 9223372036854775807, js_4 7 1, js_5 73 9223372036854775807 9223372036854775807])
noncomputable def hq_748 : HP := [(false, .inl (8, [(6, 1, 0), (8, 4, 0), (8, 5, 0)])), (false, ac_916)]
noncomputable def con_1613 : Con2 := ((yX8_at, cX8_at, 3, (some .long)), (0, 0), ([(6, 0, 0), (0, 2, 0), (0, 46, 0)], gi_927, [.inl (8, [(6, 1, 0), (8, 4, 0), (8, 5, 0)]), ac_916], []), [((4, 6, 0), gi_928, hq_748, [], [1])])
theorem hd_1613 : con_1613.1 = (yX8_at, cX8_at, 3, (some .long)) := rfl
noncomputable def cu_1613 : List CUT2 := []
theorem ch_1613 : staG tb_X8_at 1 bt_RX8 [] ct_1497 [] [] cu_1613 11 con_1613 = true := by decide +kernel
theorem vl_1613 (l : Launch) : Vld2 l vwCl gTbl con_1613 := conR_ok3 gT_all (hd_1613) rfl pn_RX8 tk_X8_at bo_RX8 xo_RX8 (cto_1497 l) ch_1613 cut_nil
/-- RookHusting$Slots at -/
noncomputable def ac_917 : AC := .inr (2, jl_n [js_5 167 9223372036854775807 9223372036854775807, js_4 7 1, js_5 72 9223372036854775807 9223372036854775807])
noncomputable def hq_749 : HP := [(false, .inl (8, [(6, 1, 0), (8, 4, 0), (8, 5, 0)])), (false, ac_917)]
noncomputable def con_1614 : Con2 := ((yX8_at, cX8_at, 3, (some .long)), (0, 0), ([(6, 0, 0), (0, 2, 0), (0, 47, 0)], gi_927, [.inl (8, [(6, 1, 0), (8, 4, 0), (8, 5, 0)]), ac_917], []), [((4, 6, 0), gi_928, hq_749, [], [1])])
theorem hd_1614 : con_1614.1 = (yX8_at, cX8_at, 3, (some .long)) := rfl
noncomputable def cu_1614 : List CUT2 := []
theorem ch_1614 : staG tb_X8_at 1 bt_RX8 [] ct_1497 [] [] cu_1614 11 con_1614 = true := by decide +kernel
theorem vl_1614 (l : Launch) : Vld2 l vwCl gTbl con_1614 := conR_ok3 gT_all (hd_1614) rfl pn_RX8 tk_X8_at bo_RX8 xo_RX8 (cto_1497 l) ch_1614 cut_nil
/-- RookHusting$Slots at -/
noncomputable def ac_918 : AC := .inr (2, jl_n [js_5 168 9223372036854775807 9223372036854775807, js_4 7 1, js_5 71 9223372036854775807 9223372036854775807])
noncomputable def hq_750 : HP := [(false, .inl (8, [(6, 1, 0), (8, 4, 0), (8, 5, 0)])), (false, ac_918)]
noncomputable def con_1615 : Con2 := ((yX8_at, cX8_at, 3, (some .long)), (0, 0), ([(6, 0, 0), (0, 2, 0), (0, 48, 0)], gi_927, [.inl (8, [(6, 1, 0), (8, 4, 0), (8, 5, 0)]), ac_918], []), [((4, 6, 0), gi_928, hq_750, [], [1])])
theorem hd_1615 : con_1615.1 = (yX8_at, cX8_at, 3, (some .long)) := rfl
noncomputable def cu_1615 : List CUT2 := []
theorem ch_1615 : staG tb_X8_at 1 bt_RX8 [] ct_1497 [] [] cu_1615 11 con_1615 = true := by decide +kernel
theorem vl_1615 (l : Launch) : Vld2 l vwCl gTbl con_1615 := conR_ok3 gT_all (hd_1615) rfl pn_RX8 tk_X8_at bo_RX8 xo_RX8 (cto_1497 l) ch_1615 cut_nil
/-- RookHusting$Slots at -/
noncomputable def ac_919 : AC := .inr (2, jl_n [js_5 169 9223372036854775807 9223372036854775807, js_4 7 1, js_5 70 9223372036854775807 9223372036854775807])
noncomputable def hq_751 : HP := [(false, .inl (8, [(6, 1, 0), (8, 4, 0), (8, 5, 0)])), (false, ac_919)]
noncomputable def con_1616 : Con2 := ((yX8_at, cX8_at, 3, (some .long)), (0, 0), ([(6, 0, 0), (0, 2, 0), (0, 49, 0)], gi_927, [.inl (8, [(6, 1, 0), (8, 4, 0), (8, 5, 0)]), ac_919], []), [((4, 6, 0), gi_928, hq_751, [], [1])])
theorem hd_1616 : con_1616.1 = (yX8_at, cX8_at, 3, (some .long)) := rfl
noncomputable def cu_1616 : List CUT2 := []
theorem ch_1616 : staG tb_X8_at 1 bt_RX8 [] ct_1497 [] [] cu_1616 11 con_1616 = true := by decide +kernel
theorem vl_1616 (l : Launch) : Vld2 l vwCl gTbl con_1616 := conR_ok3 gT_all (hd_1616) rfl pn_RX8 tk_X8_at bo_RX8 xo_RX8 (cto_1497 l) ch_1616 cut_nil
/-- RookHusting$Slots at -/
noncomputable def ac_920 : AC := .inr (2, jl_n [js_5 170 9223372036854775807 9223372036854775807, js_4 7 1, js_5 69 9223372036854775807 9223372036854775807])
noncomputable def hq_752 : HP := [(false, .inl (8, [(6, 1, 0), (8, 4, 0), (8, 5, 0)])), (false, ac_920)]
noncomputable def con_1617 : Con2 := ((yX8_at, cX8_at, 3, (some .long)), (0, 0), ([(6, 0, 0), (0, 2, 0), (0, 50, 0)], gi_927, [.inl (8, [(6, 1, 0), (8, 4, 0), (8, 5, 0)]), ac_920], []), [((4, 6, 0), gi_928, hq_752, [], [1])])
theorem hd_1617 : con_1617.1 = (yX8_at, cX8_at, 3, (some .long)) := rfl
noncomputable def cu_1617 : List CUT2 := []
theorem ch_1617 : staG tb_X8_at 1 bt_RX8 [] ct_1497 [] [] cu_1617 11 con_1617 = true := by decide +kernel
theorem vl_1617 (l : Launch) : Vld2 l vwCl gTbl con_1617 := conR_ok3 gT_all (hd_1617) rfl pn_RX8 tk_X8_at bo_RX8 xo_RX8 (cto_1497 l) ch_1617 cut_nil
/-- RookHusting$Slots at -/
noncomputable def ac_921 : AC := .inr (2, jl_n [js_5 171 9223372036854775807 9223372036854775807, js_4 7 1, js_5 68 9223372036854775807 9223372036854775807])
noncomputable def hq_753 : HP := [(false, .inl (8, [(6, 1, 0), (8, 4, 0), (8, 5, 0)])), (false, ac_921)]
noncomputable def con_1618 : Con2 := ((yX8_at, cX8_at, 3, (some .long)), (0, 0), ([(6, 0, 0), (0, 2, 0), (0, 51, 0)], gi_927, [.inl (8, [(6, 1, 0), (8, 4, 0), (8, 5, 0)]), ac_921], []), [((4, 6, 0), gi_928, hq_753, [], [1])])
theorem hd_1618 : con_1618.1 = (yX8_at, cX8_at, 3, (some .long)) := rfl
noncomputable def cu_1618 : List CUT2 := []
theorem ch_1618 : staG tb_X8_at 1 bt_RX8 [] ct_1497 [] [] cu_1618 11 con_1618 = true := by decide +kernel
theorem vl_1618 (l : Launch) : Vld2 l vwCl gTbl con_1618 := conR_ok3 gT_all (hd_1618) rfl pn_RX8 tk_X8_at bo_RX8 xo_RX8 (cto_1497 l) ch_1618 cut_nil
/-- RookHusting$Slots at -/
noncomputable def ac_922 : AC := .inr (2, jl_n [js_5 172 9223372036854775807 9223372036854775807, js_4 7 1, js_5 67 9223372036854775807 9223372036854775807])
noncomputable def hq_754 : HP := [(false, .inl (8, [(6, 1, 0), (8, 4, 0), (8, 5, 0)])), (false, ac_922)]
noncomputable def con_1619 : Con2 := ((yX8_at, cX8_at, 3, (some .long)), (0, 0), ([(6, 0, 0), (0, 2, 0), (0, 52, 0)], gi_927, [.inl (8, [(6, 1, 0), (8, 4, 0), (8, 5, 0)]), ac_922], []), [((4, 6, 0), gi_928, hq_754, [], [1])])
theorem hd_1619 : con_1619.1 = (yX8_at, cX8_at, 3, (some .long)) := rfl
noncomputable def cu_1619 : List CUT2 := []
theorem ch_1619 : staG tb_X8_at 1 bt_RX8 [] ct_1497 [] [] cu_1619 11 con_1619 = true := by decide +kernel
theorem vl_1619 (l : Launch) : Vld2 l vwCl gTbl con_1619 := conR_ok3 gT_all (hd_1619) rfl pn_RX8 tk_X8_at bo_RX8 xo_RX8 (cto_1497 l) ch_1619 cut_nil
/-- RookHusting$Slots at -/
noncomputable def ac_923 : AC := .inr (2, jl_n [js_5 173 9223372036854775807 9223372036854775807, js_4 7 1, js_5 66 9223372036854775807 9223372036854775807])
noncomputable def hq_755 : HP := [(false, .inl (8, [(6, 1, 0), (8, 4, 0), (8, 5, 0)])), (false, ac_923)]
noncomputable def con_1620 : Con2 := ((yX8_at, cX8_at, 3, (some .long)), (0, 0), ([(6, 0, 0), (0, 2, 0), (0, 53, 0)], gi_927, [.inl (8, [(6, 1, 0), (8, 4, 0), (8, 5, 0)]), ac_923], []), [((4, 6, 0), gi_928, hq_755, [], [1])])
theorem hd_1620 : con_1620.1 = (yX8_at, cX8_at, 3, (some .long)) := rfl
noncomputable def cu_1620 : List CUT2 := []
theorem ch_1620 : staG tb_X8_at 1 bt_RX8 [] ct_1497 [] [] cu_1620 11 con_1620 = true := by decide +kernel
theorem vl_1620 (l : Launch) : Vld2 l vwCl gTbl con_1620 := conR_ok3 gT_all (hd_1620) rfl pn_RX8 tk_X8_at bo_RX8 xo_RX8 (cto_1497 l) ch_1620 cut_nil
/-- RookHusting$Slots at -/
noncomputable def ac_924 : AC := .inr (2, jl_n [js_5 174 9223372036854775807 9223372036854775807, js_4 7 1, js_5 65 9223372036854775807 9223372036854775807])
noncomputable def hq_756 : HP := [(false, .inl (8, [(6, 1, 0), (8, 4, 0), (8, 5, 0)])), (false, ac_924)]
noncomputable def con_1621 : Con2 := ((yX8_at, cX8_at, 3, (some .long)), (0, 0), ([(6, 0, 0), (0, 2, 0), (0, 54, 0)], gi_927, [.inl (8, [(6, 1, 0), (8, 4, 0), (8, 5, 0)]), ac_924], []), [((4, 6, 0), gi_928, hq_756, [], [1])])
theorem hd_1621 : con_1621.1 = (yX8_at, cX8_at, 3, (some .long)) := rfl
noncomputable def cu_1621 : List CUT2 := []
theorem ch_1621 : staG tb_X8_at 1 bt_RX8 [] ct_1497 [] [] cu_1621 11 con_1621 = true := by decide +kernel
theorem vl_1621 (l : Launch) : Vld2 l vwCl gTbl con_1621 := conR_ok3 gT_all (hd_1621) rfl pn_RX8 tk_X8_at bo_RX8 xo_RX8 (cto_1497 l) ch_1621 cut_nil
/-- RookHusting$Slots at -/
noncomputable def ac_925 : AC := .inr (2, jl_n [js_5 175 9223372036854775807 9223372036854775807, js_4 7 1, js_5 64 9223372036854775807 9223372036854775807])
noncomputable def hq_757 : HP := [(false, .inl (8, [(6, 1, 0), (8, 4, 0), (8, 5, 0)])), (false, ac_925)]
noncomputable def con_1622 : Con2 := ((yX8_at, cX8_at, 3, (some .long)), (0, 0), ([(6, 0, 0), (0, 2, 0), (0, 55, 0)], gi_927, [.inl (8, [(6, 1, 0), (8, 4, 0), (8, 5, 0)]), ac_925], []), [((4, 6, 0), gi_928, hq_757, [], [1])])
theorem hd_1622 : con_1622.1 = (yX8_at, cX8_at, 3, (some .long)) := rfl
noncomputable def cu_1622 : List CUT2 := []
theorem ch_1622 : staG tb_X8_at 1 bt_RX8 [] ct_1497 [] [] cu_1622 11 con_1622 = true := by decide +kernel
theorem vl_1622 (l : Launch) : Vld2 l vwCl gTbl con_1622 := conR_ok3 gT_all (hd_1622) rfl pn_RX8 tk_X8_at bo_RX8 xo_RX8 (cto_1497 l) ch_1622 cut_nil
/-- RookHusting$Slots at -/
noncomputable def ac_926 : AC := .inr (2, jl_n [js_5 176 9223372036854775807 9223372036854775807, js_4 7 1, js_5 63 9223372036854775807 9223372036854775807])
noncomputable def hq_758 : HP := [(false, .inl (8, [(6, 1, 0), (8, 4, 0), (8, 5, 0)])), (false, ac_926)]
noncomputable def con_1623 : Con2 := ((yX8_at, cX8_at, 3, (some .long)), (0, 0), ([(6, 0, 0), (0, 2, 0), (0, 56, 0)], gi_927, [.inl (8, [(6, 1, 0), (8, 4, 0), (8, 5, 0)]), ac_926], []), [((4, 6, 0), gi_928, hq_758, [], [1])])
theorem hd_1623 : con_1623.1 = (yX8_at, cX8_at, 3, (some .long)) := rfl
noncomputable def cu_1623 : List CUT2 := []
theorem ch_1623 : staG tb_X8_at 1 bt_RX8 [] ct_1497 [] [] cu_1623 11 con_1623 = true := by decide +kernel
theorem vl_1623 (l : Launch) : Vld2 l vwCl gTbl con_1623 := conR_ok3 gT_all (hd_1623) rfl pn_RX8 tk_X8_at bo_RX8 xo_RX8 (cto_1497 l) ch_1623 cut_nil
/-- RookHusting$Slots at -/
noncomputable def ac_927 : AC := .inr (2, jl_n [js_5 177 9223372036854775807 9223372036854775807, js_4 7 1, js_5 62 9223372036854775807 9223372036854775807])
noncomputable def hq_759 : HP := [(false, .inl (8, [(6, 1, 0), (8, 4, 0), (8, 5, 0)])), (false, ac_927)]
noncomputable def con_1624 : Con2 := ((yX8_at, cX8_at, 3, (some .long)), (0, 0), ([(6, 0, 0), (0, 2, 0), (0, 57, 0)], gi_927, [.inl (8, [(6, 1, 0), (8, 4, 0), (8, 5, 0)]), ac_927], []), [((4, 6, 0), gi_928, hq_759, [], [1])])
theorem hd_1624 : con_1624.1 = (yX8_at, cX8_at, 3, (some .long)) := rfl
noncomputable def cu_1624 : List CUT2 := []
theorem ch_1624 : staG tb_X8_at 1 bt_RX8 [] ct_1497 [] [] cu_1624 11 con_1624 = true := by decide +kernel
theorem vl_1624 (l : Launch) : Vld2 l vwCl gTbl con_1624 := conR_ok3 gT_all (hd_1624) rfl pn_RX8 tk_X8_at bo_RX8 xo_RX8 (cto_1497 l) ch_1624 cut_nil
/-- RookHusting$Slots at -/
noncomputable def ac_928 : AC := .inr (2, jl_n [js_5 178 9223372036854775807 9223372036854775807, js_4 7 1, js_5 61 9223372036854775807 9223372036854775807])
noncomputable def hq_760 : HP := [(false, .inl (8, [(6, 1, 0), (8, 4, 0), (8, 5, 0)])), (false, ac_928)]
noncomputable def con_1625 : Con2 := ((yX8_at, cX8_at, 3, (some .long)), (0, 0), ([(6, 0, 0), (0, 2, 0), (0, 58, 0)], gi_927, [.inl (8, [(6, 1, 0), (8, 4, 0), (8, 5, 0)]), ac_928], []), [((4, 6, 0), gi_928, hq_760, [], [1])])
theorem hd_1625 : con_1625.1 = (yX8_at, cX8_at, 3, (some .long)) := rfl
noncomputable def cu_1625 : List CUT2 := []
theorem ch_1625 : staG tb_X8_at 1 bt_RX8 [] ct_1497 [] [] cu_1625 11 con_1625 = true := by decide +kernel
theorem vl_1625 (l : Launch) : Vld2 l vwCl gTbl con_1625 := conR_ok3 gT_all (hd_1625) rfl pn_RX8 tk_X8_at bo_RX8 xo_RX8 (cto_1497 l) ch_1625 cut_nil
/-- RookHusting$Slots at -/
noncomputable def ac_929 : AC := .inr (2, jl_n [js_5 179 9223372036854775807 9223372036854775807, js_4 7 1, js_5 60 9223372036854775807 9223372036854775807])
noncomputable def hq_761 : HP := [(false, .inl (8, [(6, 1, 0), (8, 4, 0), (8, 5, 0)])), (false, ac_929)]
noncomputable def con_1626 : Con2 := ((yX8_at, cX8_at, 3, (some .long)), (0, 0), ([(6, 0, 0), (0, 2, 0), (0, 59, 0)], gi_927, [.inl (8, [(6, 1, 0), (8, 4, 0), (8, 5, 0)]), ac_929], []), [((4, 6, 0), gi_928, hq_761, [], [1])])
theorem hd_1626 : con_1626.1 = (yX8_at, cX8_at, 3, (some .long)) := rfl
noncomputable def cu_1626 : List CUT2 := []
theorem ch_1626 : staG tb_X8_at 1 bt_RX8 [] ct_1497 [] [] cu_1626 11 con_1626 = true := by decide +kernel
theorem vl_1626 (l : Launch) : Vld2 l vwCl gTbl con_1626 := conR_ok3 gT_all (hd_1626) rfl pn_RX8 tk_X8_at bo_RX8 xo_RX8 (cto_1497 l) ch_1626 cut_nil
/-- RookHusting wrongSeen -/
noncomputable def ac_930 : AC := .inr (2, jl_n [js_5 120 9223372036854775807 9223372036854775807, js_4 105 60, js_5 60 9223372036854775807 9223372036854775807])
noncomputable def hc_193 : List AC := [ac_804, .inl (9, [(6, 2, 0), (8, 20, 0)]), ac_805, .inl (8, [(6, 5, 0), (8, 39, 0), (6, 4, 0)]), ac_806, ac_930]
noncomputable def hq_762 : HP := [(false, ac_804), (false, .inl (9, [(6, 2, 0), (8, 20, 0)])), (false, ac_805), (false, .inl (8, [(6, 5, 0), (8, 39, 0), (6, 4, 0)])), (false, ac_806), (false, ac_930)]
noncomputable def gi_979 : GI := jl_n [gp_485, jl_k 0 0, gp_486, jl_z 1]
noncomputable def gi_980 : GI := jl_n [gp_485, gp_487, jl_z 1]
noncomputable def gi_981 : GI := jl_n [gp_485, gp_489, jl_z 1]
noncomputable def gi_982 : GI := jl_n [gp_485, gp_491, jl_z 1]
noncomputable def gi_983 : GI := jl_n [gp_485, gp_493, jl_z 1]
noncomputable def gi_984 : GI := jl_n [gp_485, gp_495, jl_z 1]
noncomputable def gi_985 : GI := jl_n [gp_485, gp_498, jl_z 1]
noncomputable def gi_986 : GI := jl_n [gp_485, gp_500, jl_z 1]
noncomputable def gi_987 : GI := jl_n [gp_485, gp_502, jl_z 1]
noncomputable def gi_988 : GI := jl_n [gp_485, gp_504, jl_z 1]
noncomputable def gi_989 : GI := jl_n [gp_485, gp_506, jl_z 1]
noncomputable def gi_990 : GI := jl_n [gp_485, gp_508, jl_z 1]
noncomputable def gi_991 : GI := jl_n [gp_485, gp_510, jl_z 1]
noncomputable def gi_992 : GI := jl_n [gp_485, gp_512, jl_z 1]
noncomputable def gi_993 : GI := jl_n [gp_485, gp_514, jl_z 1]
noncomputable def gi_994 : GI := jl_n [gp_485, gp_516, jl_z 1]
noncomputable def gi_995 : GI := jl_n [gp_485, gp_518, jl_z 1]
noncomputable def gi_996 : GI := jl_n [gp_485, gp_520, jl_z 1]
noncomputable def gi_997 : GI := jl_n [gp_485, gp_522, jl_z 1]
noncomputable def gi_998 : GI := jl_n [gp_485, gp_524, jl_z 1]
noncomputable def gi_999 : GI := jl_n [gp_485, gp_525, jl_z 1]
noncomputable def gi_1000 : GI := jl_n [gp_485, gp_527, jl_z 1]
noncomputable def con_1627 : Con2 := ((yX11_wrongSeen, cX11_wrongSeen, 5, (some .int)), (1, 22), ([(6, 0, 0), (0, 2, 0), (1, 2, 0)], gi_932, hc_193, []), [((0, (-2), 0), gi_933, hq_762, [], [1]), ((0, (-6), 0), gi_979, hq_762, [], [1]), ((0, 0, 0), gi_980, hq_762, [], [1]), ((0, 0, 0), gi_981, hq_762, [], [1]), ((0, 0, 0), gi_982, hq_762, [], [1]), ((0, 0, 0), gi_983, hq_762, [], [1]), ((0, 0, 0), gi_984, hq_762, [], [1]), ((0, 0, 0), gi_985, hq_762, [], [1]), ((0, 0, 0), gi_986, hq_762, [], [1]), ((0, 0, 0), gi_987, hq_762, [], [1]), ((0, 0, 0), gi_988, hq_762, [], [1]), ((0, 0, 0), gi_989, hq_762, [], [1]), ((0, 0, 0), gi_990, hq_762, [], [1]), ((0, 0, 0), gi_991, hq_762, [], [1]), ((0, 0, 0), gi_992, hq_762, [], [1]), ((0, 0, 0), gi_993, hq_762, [], [1]), ((0, 0, 0), gi_994, hq_762, [], [1]), ((0, 0, 0), gi_995, hq_762, [], [1]), ((0, 0, 0), gi_996, hq_762, [], [1]), ((0, 0, 0), gi_997, hq_762, [], [1]), ((0, 0, 0), gi_998, hq_762, [], [1]), ((0, 0, 0), gi_999, hq_762, [], [1]), ((0, 0, 0), gi_1000, hq_762, [], [1])])
theorem hd_1627 : con_1627.1 = (yX11_wrongSeen, cX11_wrongSeen, 5, (some .int)) := rfl
theorem ck_RX11_473_1569 : COK2 RX11 vwCl gTbl 473 0 con_1569 := ⟨wd_1218, wd_131, mh_X8_at, .inr (.inr ⟨rfl, wd_1215, wd_1216, wd_1217, ⟨_, rfl, pd_X8_at⟩, 8, _, TX8, 3, rfl, rfl⟩)⟩
theorem ck_RX11_473_1572 : COK2 RX11 vwCl gTbl 473 0 con_1572 := ⟨wd_1218, wd_131, mh_X8_at, .inr (.inr ⟨rfl, wd_1215, wd_1216, wd_1217, ⟨_, rfl, pd_X8_at⟩, 8, _, TX8, 3, rfl, rfl⟩)⟩
theorem ck_RX11_473_1575 : COK2 RX11 vwCl gTbl 473 0 con_1575 := ⟨wd_1218, wd_131, mh_X8_at, .inr (.inr ⟨rfl, wd_1215, wd_1216, wd_1217, ⟨_, rfl, pd_X8_at⟩, 8, _, TX8, 3, rfl, rfl⟩)⟩
theorem ck_RX11_473_1578 : COK2 RX11 vwCl gTbl 473 0 con_1578 := ⟨wd_1218, wd_131, mh_X8_at, .inr (.inr ⟨rfl, wd_1215, wd_1216, wd_1217, ⟨_, rfl, pd_X8_at⟩, 8, _, TX8, 3, rfl, rfl⟩)⟩
theorem ck_RX11_473_1581 : COK2 RX11 vwCl gTbl 473 0 con_1581 := ⟨wd_1218, wd_131, mh_X8_at, .inr (.inr ⟨rfl, wd_1215, wd_1216, wd_1217, ⟨_, rfl, pd_X8_at⟩, 8, _, TX8, 3, rfl, rfl⟩)⟩
theorem ck_RX11_473_1584 : COK2 RX11 vwCl gTbl 473 0 con_1584 := ⟨wd_1218, wd_131, mh_X8_at, .inr (.inr ⟨rfl, wd_1215, wd_1216, wd_1217, ⟨_, rfl, pd_X8_at⟩, 8, _, TX8, 3, rfl, rfl⟩)⟩
theorem ck_RX11_473_1587 : COK2 RX11 vwCl gTbl 473 0 con_1587 := ⟨wd_1218, wd_131, mh_X8_at, .inr (.inr ⟨rfl, wd_1215, wd_1216, wd_1217, ⟨_, rfl, pd_X8_at⟩, 8, _, TX8, 3, rfl, rfl⟩)⟩
theorem ck_RX11_473_1590 : COK2 RX11 vwCl gTbl 473 0 con_1590 := ⟨wd_1218, wd_131, mh_X8_at, .inr (.inr ⟨rfl, wd_1215, wd_1216, wd_1217, ⟨_, rfl, pd_X8_at⟩, 8, _, TX8, 3, rfl, rfl⟩)⟩
theorem ck_RX11_473_1593 : COK2 RX11 vwCl gTbl 473 0 con_1593 := ⟨wd_1218, wd_131, mh_X8_at, .inr (.inr ⟨rfl, wd_1215, wd_1216, wd_1217, ⟨_, rfl, pd_X8_at⟩, 8, _, TX8, 3, rfl, rfl⟩)⟩
theorem ck_RX11_473_1596 : COK2 RX11 vwCl gTbl 473 0 con_1596 := ⟨wd_1218, wd_131, mh_X8_at, .inr (.inr ⟨rfl, wd_1215, wd_1216, wd_1217, ⟨_, rfl, pd_X8_at⟩, 8, _, TX8, 3, rfl, rfl⟩)⟩
theorem ck_RX11_473_1599 : COK2 RX11 vwCl gTbl 473 0 con_1599 := ⟨wd_1218, wd_131, mh_X8_at, .inr (.inr ⟨rfl, wd_1215, wd_1216, wd_1217, ⟨_, rfl, pd_X8_at⟩, 8, _, TX8, 3, rfl, rfl⟩)⟩
theorem ck_RX11_473_1602 : COK2 RX11 vwCl gTbl 473 0 con_1602 := ⟨wd_1218, wd_131, mh_X8_at, .inr (.inr ⟨rfl, wd_1215, wd_1216, wd_1217, ⟨_, rfl, pd_X8_at⟩, 8, _, TX8, 3, rfl, rfl⟩)⟩
theorem ck_RX11_473_1605 : COK2 RX11 vwCl gTbl 473 0 con_1605 := ⟨wd_1218, wd_131, mh_X8_at, .inr (.inr ⟨rfl, wd_1215, wd_1216, wd_1217, ⟨_, rfl, pd_X8_at⟩, 8, _, TX8, 3, rfl, rfl⟩)⟩
theorem ck_RX11_473_1608 : COK2 RX11 vwCl gTbl 473 0 con_1608 := ⟨wd_1218, wd_131, mh_X8_at, .inr (.inr ⟨rfl, wd_1215, wd_1216, wd_1217, ⟨_, rfl, pd_X8_at⟩, 8, _, TX8, 3, rfl, rfl⟩)⟩
theorem ck_RX11_473_1611 : COK2 RX11 vwCl gTbl 473 0 con_1611 := ⟨wd_1218, wd_131, mh_X8_at, .inr (.inr ⟨rfl, wd_1215, wd_1216, wd_1217, ⟨_, rfl, pd_X8_at⟩, 8, _, TX8, 3, rfl, rfl⟩)⟩
theorem ck_RX11_473_1614 : COK2 RX11 vwCl gTbl 473 0 con_1614 := ⟨wd_1218, wd_131, mh_X8_at, .inr (.inr ⟨rfl, wd_1215, wd_1216, wd_1217, ⟨_, rfl, pd_X8_at⟩, 8, _, TX8, 3, rfl, rfl⟩)⟩
theorem ck_RX11_473_1617 : COK2 RX11 vwCl gTbl 473 0 con_1617 := ⟨wd_1218, wd_131, mh_X8_at, .inr (.inr ⟨rfl, wd_1215, wd_1216, wd_1217, ⟨_, rfl, pd_X8_at⟩, 8, _, TX8, 3, rfl, rfl⟩)⟩
theorem ck_RX11_473_1620 : COK2 RX11 vwCl gTbl 473 0 con_1620 := ⟨wd_1218, wd_131, mh_X8_at, .inr (.inr ⟨rfl, wd_1215, wd_1216, wd_1217, ⟨_, rfl, pd_X8_at⟩, 8, _, TX8, 3, rfl, rfl⟩)⟩
theorem ck_RX11_473_1623 : COK2 RX11 vwCl gTbl 473 0 con_1623 := ⟨wd_1218, wd_131, mh_X8_at, .inr (.inr ⟨rfl, wd_1215, wd_1216, wd_1217, ⟨_, rfl, pd_X8_at⟩, 8, _, TX8, 3, rfl, rfl⟩)⟩
theorem ck_RX11_473_1626 : COK2 RX11 vwCl gTbl 473 0 con_1626 := ⟨wd_1218, wd_131, mh_X8_at, .inr (.inr ⟨rfl, wd_1215, wd_1216, wd_1217, ⟨_, rfl, pd_X8_at⟩, 8, _, TX8, 3, rfl, rfl⟩)⟩
theorem ck_RX11_473_1568 : COK2 RX11 vwCl gTbl 473 0 con_1568 := ⟨wd_1218, wd_131, mh_X8_at, .inr (.inr ⟨rfl, wd_1215, wd_1216, wd_1217, ⟨_, rfl, pd_X8_at⟩, 8, _, TX8, 3, rfl, rfl⟩)⟩
theorem ck_RX11_473_1571 : COK2 RX11 vwCl gTbl 473 0 con_1571 := ⟨wd_1218, wd_131, mh_X8_at, .inr (.inr ⟨rfl, wd_1215, wd_1216, wd_1217, ⟨_, rfl, pd_X8_at⟩, 8, _, TX8, 3, rfl, rfl⟩)⟩
theorem ck_RX11_473_1574 : COK2 RX11 vwCl gTbl 473 0 con_1574 := ⟨wd_1218, wd_131, mh_X8_at, .inr (.inr ⟨rfl, wd_1215, wd_1216, wd_1217, ⟨_, rfl, pd_X8_at⟩, 8, _, TX8, 3, rfl, rfl⟩)⟩
theorem ck_RX11_473_1577 : COK2 RX11 vwCl gTbl 473 0 con_1577 := ⟨wd_1218, wd_131, mh_X8_at, .inr (.inr ⟨rfl, wd_1215, wd_1216, wd_1217, ⟨_, rfl, pd_X8_at⟩, 8, _, TX8, 3, rfl, rfl⟩)⟩
theorem ck_RX11_473_1580 : COK2 RX11 vwCl gTbl 473 0 con_1580 := ⟨wd_1218, wd_131, mh_X8_at, .inr (.inr ⟨rfl, wd_1215, wd_1216, wd_1217, ⟨_, rfl, pd_X8_at⟩, 8, _, TX8, 3, rfl, rfl⟩)⟩
theorem ck_RX11_473_1583 : COK2 RX11 vwCl gTbl 473 0 con_1583 := ⟨wd_1218, wd_131, mh_X8_at, .inr (.inr ⟨rfl, wd_1215, wd_1216, wd_1217, ⟨_, rfl, pd_X8_at⟩, 8, _, TX8, 3, rfl, rfl⟩)⟩
theorem ck_RX11_473_1586 : COK2 RX11 vwCl gTbl 473 0 con_1586 := ⟨wd_1218, wd_131, mh_X8_at, .inr (.inr ⟨rfl, wd_1215, wd_1216, wd_1217, ⟨_, rfl, pd_X8_at⟩, 8, _, TX8, 3, rfl, rfl⟩)⟩
theorem ck_RX11_473_1589 : COK2 RX11 vwCl gTbl 473 0 con_1589 := ⟨wd_1218, wd_131, mh_X8_at, .inr (.inr ⟨rfl, wd_1215, wd_1216, wd_1217, ⟨_, rfl, pd_X8_at⟩, 8, _, TX8, 3, rfl, rfl⟩)⟩
theorem ck_RX11_473_1592 : COK2 RX11 vwCl gTbl 473 0 con_1592 := ⟨wd_1218, wd_131, mh_X8_at, .inr (.inr ⟨rfl, wd_1215, wd_1216, wd_1217, ⟨_, rfl, pd_X8_at⟩, 8, _, TX8, 3, rfl, rfl⟩)⟩
theorem ck_RX11_473_1595 : COK2 RX11 vwCl gTbl 473 0 con_1595 := ⟨wd_1218, wd_131, mh_X8_at, .inr (.inr ⟨rfl, wd_1215, wd_1216, wd_1217, ⟨_, rfl, pd_X8_at⟩, 8, _, TX8, 3, rfl, rfl⟩)⟩
theorem ck_RX11_473_1598 : COK2 RX11 vwCl gTbl 473 0 con_1598 := ⟨wd_1218, wd_131, mh_X8_at, .inr (.inr ⟨rfl, wd_1215, wd_1216, wd_1217, ⟨_, rfl, pd_X8_at⟩, 8, _, TX8, 3, rfl, rfl⟩)⟩
theorem ck_RX11_473_1601 : COK2 RX11 vwCl gTbl 473 0 con_1601 := ⟨wd_1218, wd_131, mh_X8_at, .inr (.inr ⟨rfl, wd_1215, wd_1216, wd_1217, ⟨_, rfl, pd_X8_at⟩, 8, _, TX8, 3, rfl, rfl⟩)⟩
theorem ck_RX11_473_1604 : COK2 RX11 vwCl gTbl 473 0 con_1604 := ⟨wd_1218, wd_131, mh_X8_at, .inr (.inr ⟨rfl, wd_1215, wd_1216, wd_1217, ⟨_, rfl, pd_X8_at⟩, 8, _, TX8, 3, rfl, rfl⟩)⟩
theorem ck_RX11_473_1607 : COK2 RX11 vwCl gTbl 473 0 con_1607 := ⟨wd_1218, wd_131, mh_X8_at, .inr (.inr ⟨rfl, wd_1215, wd_1216, wd_1217, ⟨_, rfl, pd_X8_at⟩, 8, _, TX8, 3, rfl, rfl⟩)⟩
theorem ck_RX11_473_1610 : COK2 RX11 vwCl gTbl 473 0 con_1610 := ⟨wd_1218, wd_131, mh_X8_at, .inr (.inr ⟨rfl, wd_1215, wd_1216, wd_1217, ⟨_, rfl, pd_X8_at⟩, 8, _, TX8, 3, rfl, rfl⟩)⟩
theorem ck_RX11_473_1613 : COK2 RX11 vwCl gTbl 473 0 con_1613 := ⟨wd_1218, wd_131, mh_X8_at, .inr (.inr ⟨rfl, wd_1215, wd_1216, wd_1217, ⟨_, rfl, pd_X8_at⟩, 8, _, TX8, 3, rfl, rfl⟩)⟩
theorem ck_RX11_473_1616 : COK2 RX11 vwCl gTbl 473 0 con_1616 := ⟨wd_1218, wd_131, mh_X8_at, .inr (.inr ⟨rfl, wd_1215, wd_1216, wd_1217, ⟨_, rfl, pd_X8_at⟩, 8, _, TX8, 3, rfl, rfl⟩)⟩
theorem ck_RX11_473_1619 : COK2 RX11 vwCl gTbl 473 0 con_1619 := ⟨wd_1218, wd_131, mh_X8_at, .inr (.inr ⟨rfl, wd_1215, wd_1216, wd_1217, ⟨_, rfl, pd_X8_at⟩, 8, _, TX8, 3, rfl, rfl⟩)⟩
theorem ck_RX11_473_1622 : COK2 RX11 vwCl gTbl 473 0 con_1622 := ⟨wd_1218, wd_131, mh_X8_at, .inr (.inr ⟨rfl, wd_1215, wd_1216, wd_1217, ⟨_, rfl, pd_X8_at⟩, 8, _, TX8, 3, rfl, rfl⟩)⟩
theorem ck_RX11_473_1625 : COK2 RX11 vwCl gTbl 473 0 con_1625 := ⟨wd_1218, wd_131, mh_X8_at, .inr (.inr ⟨rfl, wd_1215, wd_1216, wd_1217, ⟨_, rfl, pd_X8_at⟩, 8, _, TX8, 3, rfl, rfl⟩)⟩
theorem ck_RX11_473_1567 : COK2 RX11 vwCl gTbl 473 0 con_1567 := ⟨wd_1218, wd_131, mh_X8_at, .inr (.inr ⟨rfl, wd_1215, wd_1216, wd_1217, ⟨_, rfl, pd_X8_at⟩, 8, _, TX8, 3, rfl, rfl⟩)⟩
theorem ck_RX11_473_1570 : COK2 RX11 vwCl gTbl 473 0 con_1570 := ⟨wd_1218, wd_131, mh_X8_at, .inr (.inr ⟨rfl, wd_1215, wd_1216, wd_1217, ⟨_, rfl, pd_X8_at⟩, 8, _, TX8, 3, rfl, rfl⟩)⟩
theorem ck_RX11_473_1573 : COK2 RX11 vwCl gTbl 473 0 con_1573 := ⟨wd_1218, wd_131, mh_X8_at, .inr (.inr ⟨rfl, wd_1215, wd_1216, wd_1217, ⟨_, rfl, pd_X8_at⟩, 8, _, TX8, 3, rfl, rfl⟩)⟩
theorem ck_RX11_473_1576 : COK2 RX11 vwCl gTbl 473 0 con_1576 := ⟨wd_1218, wd_131, mh_X8_at, .inr (.inr ⟨rfl, wd_1215, wd_1216, wd_1217, ⟨_, rfl, pd_X8_at⟩, 8, _, TX8, 3, rfl, rfl⟩)⟩
theorem ck_RX11_473_1579 : COK2 RX11 vwCl gTbl 473 0 con_1579 := ⟨wd_1218, wd_131, mh_X8_at, .inr (.inr ⟨rfl, wd_1215, wd_1216, wd_1217, ⟨_, rfl, pd_X8_at⟩, 8, _, TX8, 3, rfl, rfl⟩)⟩
theorem ck_RX11_473_1582 : COK2 RX11 vwCl gTbl 473 0 con_1582 := ⟨wd_1218, wd_131, mh_X8_at, .inr (.inr ⟨rfl, wd_1215, wd_1216, wd_1217, ⟨_, rfl, pd_X8_at⟩, 8, _, TX8, 3, rfl, rfl⟩)⟩
theorem ck_RX11_473_1585 : COK2 RX11 vwCl gTbl 473 0 con_1585 := ⟨wd_1218, wd_131, mh_X8_at, .inr (.inr ⟨rfl, wd_1215, wd_1216, wd_1217, ⟨_, rfl, pd_X8_at⟩, 8, _, TX8, 3, rfl, rfl⟩)⟩
theorem ck_RX11_473_1588 : COK2 RX11 vwCl gTbl 473 0 con_1588 := ⟨wd_1218, wd_131, mh_X8_at, .inr (.inr ⟨rfl, wd_1215, wd_1216, wd_1217, ⟨_, rfl, pd_X8_at⟩, 8, _, TX8, 3, rfl, rfl⟩)⟩
theorem ck_RX11_473_1591 : COK2 RX11 vwCl gTbl 473 0 con_1591 := ⟨wd_1218, wd_131, mh_X8_at, .inr (.inr ⟨rfl, wd_1215, wd_1216, wd_1217, ⟨_, rfl, pd_X8_at⟩, 8, _, TX8, 3, rfl, rfl⟩)⟩
theorem ck_RX11_473_1594 : COK2 RX11 vwCl gTbl 473 0 con_1594 := ⟨wd_1218, wd_131, mh_X8_at, .inr (.inr ⟨rfl, wd_1215, wd_1216, wd_1217, ⟨_, rfl, pd_X8_at⟩, 8, _, TX8, 3, rfl, rfl⟩)⟩
theorem ck_RX11_473_1597 : COK2 RX11 vwCl gTbl 473 0 con_1597 := ⟨wd_1218, wd_131, mh_X8_at, .inr (.inr ⟨rfl, wd_1215, wd_1216, wd_1217, ⟨_, rfl, pd_X8_at⟩, 8, _, TX8, 3, rfl, rfl⟩)⟩
theorem ck_RX11_473_1600 : COK2 RX11 vwCl gTbl 473 0 con_1600 := ⟨wd_1218, wd_131, mh_X8_at, .inr (.inr ⟨rfl, wd_1215, wd_1216, wd_1217, ⟨_, rfl, pd_X8_at⟩, 8, _, TX8, 3, rfl, rfl⟩)⟩
theorem ck_RX11_473_1603 : COK2 RX11 vwCl gTbl 473 0 con_1603 := ⟨wd_1218, wd_131, mh_X8_at, .inr (.inr ⟨rfl, wd_1215, wd_1216, wd_1217, ⟨_, rfl, pd_X8_at⟩, 8, _, TX8, 3, rfl, rfl⟩)⟩
theorem ck_RX11_473_1606 : COK2 RX11 vwCl gTbl 473 0 con_1606 := ⟨wd_1218, wd_131, mh_X8_at, .inr (.inr ⟨rfl, wd_1215, wd_1216, wd_1217, ⟨_, rfl, pd_X8_at⟩, 8, _, TX8, 3, rfl, rfl⟩)⟩
theorem ck_RX11_473_1609 : COK2 RX11 vwCl gTbl 473 0 con_1609 := ⟨wd_1218, wd_131, mh_X8_at, .inr (.inr ⟨rfl, wd_1215, wd_1216, wd_1217, ⟨_, rfl, pd_X8_at⟩, 8, _, TX8, 3, rfl, rfl⟩)⟩
theorem ck_RX11_473_1612 : COK2 RX11 vwCl gTbl 473 0 con_1612 := ⟨wd_1218, wd_131, mh_X8_at, .inr (.inr ⟨rfl, wd_1215, wd_1216, wd_1217, ⟨_, rfl, pd_X8_at⟩, 8, _, TX8, 3, rfl, rfl⟩)⟩
theorem ck_RX11_473_1615 : COK2 RX11 vwCl gTbl 473 0 con_1615 := ⟨wd_1218, wd_131, mh_X8_at, .inr (.inr ⟨rfl, wd_1215, wd_1216, wd_1217, ⟨_, rfl, pd_X8_at⟩, 8, _, TX8, 3, rfl, rfl⟩)⟩
theorem ck_RX11_473_1618 : COK2 RX11 vwCl gTbl 473 0 con_1618 := ⟨wd_1218, wd_131, mh_X8_at, .inr (.inr ⟨rfl, wd_1215, wd_1216, wd_1217, ⟨_, rfl, pd_X8_at⟩, 8, _, TX8, 3, rfl, rfl⟩)⟩
theorem ck_RX11_473_1621 : COK2 RX11 vwCl gTbl 473 0 con_1621 := ⟨wd_1218, wd_131, mh_X8_at, .inr (.inr ⟨rfl, wd_1215, wd_1216, wd_1217, ⟨_, rfl, pd_X8_at⟩, 8, _, TX8, 3, rfl, rfl⟩)⟩
theorem ck_RX11_473_1624 : COK2 RX11 vwCl gTbl 473 0 con_1624 := ⟨wd_1218, wd_131, mh_X8_at, .inr (.inr ⟨rfl, wd_1215, wd_1216, wd_1217, ⟨_, rfl, pd_X8_at⟩, 8, _, TX8, 3, rfl, rfl⟩)⟩
theorem ck_RX11_420_1566 : COK2 RX11 vwCl gTbl 420 0 con_1566 := ⟨wd_1214, wd_131, mh_X8_hasRow, .inr (.inr ⟨rfl, wd_1211, wd_1212, wd_1213, ⟨_, rfl, pd_X8_hasRow⟩, 8, _, TX8, 3, rfl, rfl⟩)⟩
theorem ck_RX11_414_1565 : COK2 RX11 vwCl gTbl 414 1 con_1565 := ⟨wd_1210, wd_131, mh_X8_isSlot, .inl ⟨rfl, wd_1208, wd_1209, pd_X8_isSlot⟩⟩
noncomputable def ct_1627 : CTB2 := [(1, 414, 1, con_1565, []), (9, 139, 0, con_647, [0, 1, 2]), (23, 420, 0, con_1566, [3, 4]), (67, 473, 0, con_1624, [3, 5]), (67, 473, 0, con_1621, [3, 5]), (67, 473, 0, con_1618, [3, 5]), (67, 473, 0, con_1615, [3, 5]), (67, 473, 0, con_1612, [3, 5]), (67, 473, 0, con_1609, [3, 5]), (67, 473, 0, con_1606, [3, 5]), (67, 473, 0, con_1603, [3, 5]), (67, 473, 0, con_1600, [3, 5]), (67, 473, 0, con_1597, [3, 5]), (67, 473, 0, con_1594, [3, 5]), (67, 473, 0, con_1591, [3, 5]), (67, 473, 0, con_1588, [3, 5]), (67, 473, 0, con_1585, [3, 5]), (67, 473, 0, con_1582, [3, 5]), (67, 473, 0, con_1579, [3, 5]), (67, 473, 0, con_1576, [3, 5]), (67, 473, 0, con_1573, [3, 5]), (67, 473, 0, con_1570, [3, 5]), (67, 473, 0, con_1567, [3, 5]), (82, 476, 1, con_1502, []), (97, 473, 0, con_1625, [3, 5]), (97, 473, 0, con_1622, [3, 5]), (97, 473, 0, con_1619, [3, 5]), (97, 473, 0, con_1616, [3, 5]), (97, 473, 0, con_1613, [3, 5]), (97, 473, 0, con_1610, [3, 5]), (97, 473, 0, con_1607, [3, 5]), (97, 473, 0, con_1604, [3, 5]), (97, 473, 0, con_1601, [3, 5]), (97, 473, 0, con_1598, [3, 5]), (97, 473, 0, con_1595, [3, 5]), (97, 473, 0, con_1592, [3, 5]), (97, 473, 0, con_1589, [3, 5]), (97, 473, 0, con_1586, [3, 5]), (97, 473, 0, con_1583, [3, 5]), (97, 473, 0, con_1580, [3, 5]), (97, 473, 0, con_1577, [3, 5]), (97, 473, 0, con_1574, [3, 5]), (97, 473, 0, con_1571, [3, 5]), (97, 473, 0, con_1568, [3, 5]), (110, 476, 1, con_1504, []), (125, 473, 0, con_1626, [3, 5]), (125, 473, 0, con_1623, [3, 5]), (125, 473, 0, con_1620, [3, 5]), (125, 473, 0, con_1617, [3, 5]), (125, 473, 0, con_1614, [3, 5]), (125, 473, 0, con_1611, [3, 5]), (125, 473, 0, con_1608, [3, 5]), (125, 473, 0, con_1605, [3, 5]), (125, 473, 0, con_1602, [3, 5]), (125, 473, 0, con_1599, [3, 5]), (125, 473, 0, con_1596, [3, 5]), (125, 473, 0, con_1593, [3, 5]), (125, 473, 0, con_1590, [3, 5]), (125, 473, 0, con_1587, [3, 5]), (125, 473, 0, con_1584, [3, 5]), (125, 473, 0, con_1581, [3, 5]), (125, 473, 0, con_1578, [3, 5]), (125, 473, 0, con_1575, [3, 5]), (125, 473, 0, con_1572, [3, 5]), (125, 473, 0, con_1569, [3, 5]), (131, 476, 1, con_1506, [])]
noncomputable def gi_1001 : GI := jl_n [gp_485, jl_i 0 60, gp_486, jl_z 5]
noncomputable def gi_1002 : GI := jl_n [gp_485, jl_i 1 60, gp_501, jl_z 5]
noncomputable def gi_1003 : GI := jl_n [gp_485, jl_i 4 60, gp_523, jl_z 5]
noncomputable def gi_1004 : GI := jl_n [gp_485, jl_i 7 60, gp_526, jl_z 5]
noncomputable def gi_1005 : GI := jl_n [gp_485, jl_i 10 60, gp_488, jl_z 5]
noncomputable def gi_1006 : GI := jl_n [gp_485, jl_i 13 60, gp_490, jl_z 5]
noncomputable def gi_1007 : GI := jl_n [gp_485, jl_i 16 60, gp_492, jl_z 5]
noncomputable def gi_1008 : GI := jl_n [gp_485, jl_i 19 60, gp_494, jl_z 5]
noncomputable def gi_1009 : GI := jl_n [gp_485, jl_i 22 60, gp_497, jl_z 5]
noncomputable def gi_1010 : GI := jl_n [gp_485, jl_i 25 60, gp_499, jl_z 5]
noncomputable def gi_1011 : GI := jl_n [gp_485, jl_i 28 60, gp_503, jl_z 5]
noncomputable def gi_1012 : GI := jl_n [gp_485, jl_i 31 60, gp_505, jl_z 5]
noncomputable def gi_1013 : GI := jl_n [gp_485, jl_i 34 60, gp_507, jl_z 5]
noncomputable def gi_1014 : GI := jl_n [gp_485, jl_i 37 60, gp_509, jl_z 5]
noncomputable def gi_1015 : GI := jl_n [gp_485, jl_i 40 60, gp_511, jl_z 5]
noncomputable def gi_1016 : GI := jl_n [gp_485, jl_i 43 60, gp_513, jl_z 5]
noncomputable def gi_1017 : GI := jl_n [gp_485, jl_i 46 60, gp_515, jl_z 5]
noncomputable def gi_1018 : GI := jl_n [gp_485, jl_i 49 60, gp_517, jl_z 5]
noncomputable def gi_1019 : GI := jl_n [gp_485, jl_i 52 60, gp_519, jl_z 5]
noncomputable def gi_1020 : GI := jl_n [gp_485, jl_i 55 60, jl_m 0 60, gp_476, jl_z 5]
noncomputable def gi_1021 : GI := jl_n [gp_485, gp_525, jl_z 5]
noncomputable def cu_1627_0 : List CUT2 := [((54, [lq 0 6 0, lq 1 0 2, lq 2 1 2, lq 3 1 43, lq 4 0 0], [], gi_1001, hq_762), [], ([], 60)), ((54, [lq 0 6 0, lq 1 0 2, lq 2 1 2, lq 3 1 43, lq 4 0 3], [], gi_1002, hq_762), [], ([], 57)), ((54, [lq 0 6 0, lq 1 0 2, lq 2 1 2, lq 3 1 43, lq 4 0 6], [], gi_1003, hq_762), [], ([], 54)), ((54, [lq 0 6 0, lq 1 0 2, lq 2 1 2, lq 3 1 43, lq 4 0 9], [], gi_1004, hq_762), [], ([], 51)), ((54, [lq 0 6 0, lq 1 0 2, lq 2 1 2, lq 3 1 43, lq 4 0 12], [], gi_1005, hq_762), [], ([], 48)), ((54, [lq 0 6 0, lq 1 0 2, lq 2 1 2, lq 3 1 43, lq 4 0 15], [], gi_1006, hq_762), [], ([], 45)), ((54, [lq 0 6 0, lq 1 0 2, lq 2 1 2, lq 3 1 43, lq 4 0 18], [], gi_1007, hq_762), [], ([], 42)), ((54, [lq 0 6 0, lq 1 0 2, lq 2 1 2, lq 3 1 43, lq 4 0 21], [], gi_1008, hq_762), [], ([], 39)), ((54, [lq 0 6 0, lq 1 0 2, lq 2 1 2, lq 3 1 43, lq 4 0 24], [], gi_1009, hq_762), [], ([], 36)), ((54, [lq 0 6 0, lq 1 0 2, lq 2 1 2, lq 3 1 43, lq 4 0 27], [], gi_1010, hq_762), [], ([], 33)), ((54, [lq 0 6 0, lq 1 0 2, lq 2 1 2, lq 3 1 43, lq 4 0 30], [], gi_1011, hq_762), [], ([], 30)), ((54, [lq 0 6 0, lq 1 0 2, lq 2 1 2, lq 3 1 43, lq 4 0 33], [], gi_1012, hq_762), [], ([], 27)), ((54, [lq 0 6 0, lq 1 0 2, lq 2 1 2, lq 3 1 43, lq 4 0 36], [], gi_1013, hq_762), [], ([], 24))]
noncomputable def cu_1627_1 : List CUT2 := [((54, [lq 0 6 0, lq 1 0 2, lq 2 1 2, lq 3 1 43, lq 4 0 39], [], gi_1014, hq_762), [], ([], 21)), ((54, [lq 0 6 0, lq 1 0 2, lq 2 1 2, lq 3 1 43, lq 4 0 42], [], gi_1015, hq_762), [], ([], 18)), ((54, [lq 0 6 0, lq 1 0 2, lq 2 1 2, lq 3 1 43, lq 4 0 45], [], gi_1016, hq_762), [], ([], 15)), ((54, [lq 0 6 0, lq 1 0 2, lq 2 1 2, lq 3 1 43, lq 4 0 48], [], gi_1017, hq_762), [], ([], 12)), ((54, [lq 0 6 0, lq 1 0 2, lq 2 1 2, lq 3 1 43, lq 4 0 51], [], gi_1018, hq_762), [], ([], 9)), ((54, [lq 0 6 0, lq 1 0 2, lq 2 1 2, lq 3 1 43, lq 4 0 54], [], gi_1019, hq_762), [], ([], 6)), ((54, [lq 0 6 0, lq 1 0 2, lq 2 1 2, lq 3 1 43, lq 4 0 57], [], gi_1020, hq_762), [], ([], 3)), ((54, [lq 0 6 0, lq 1 0 2, lq 2 1 2, lq 3 1 43, lq 4 0 60], [], gi_1021, hq_762), [], ([], 0))]
noncomputable def cu_1627 : List CUT2 := cu_1627_0 ++ (cu_1627_1)
theorem ch_1627 : staG tb_X11_wrongSeen 1 bt_RX11 [] ct_1627 [] [] cu_1627 44 con_1627 = true := by decide +kernel
theorem cc_1627_0 : cu_1627_0.all (cutG tb_X11_wrongSeen 1 bt_RX11 [] ct_1627 [] [] cu_1627 44 con_1627) = true := by decide +kernel
theorem cc_1627_1 : cu_1627_1.all (cutG tb_X11_wrongSeen 1 bt_RX11 [] ct_1627 [] [] cu_1627 44 con_1627) = true := by decide +kernel
theorem cto_1627 (l : Launch) : CTOK2 l RX11 vwCl gTbl ct_1627 := ct2_cons (vl_1565 l) ck_RX11_414_1565 (ct2_cons (vl_647 l) ck_RX11_139_647 (ct2_cons (vl_1566 l) ck_RX11_420_1566 (ct2_cons (vl_1624 l) ck_RX11_473_1624 (ct2_cons (vl_1621 l) ck_RX11_473_1621 (ct2_cons (vl_1618 l) ck_RX11_473_1618 (ct2_cons (vl_1615 l) ck_RX11_473_1615 (ct2_cons (vl_1612 l) ck_RX11_473_1612 (ct2_cons (vl_1609 l) ck_RX11_473_1609 (ct2_cons (vl_1606 l) ck_RX11_473_1606 (ct2_cons (vl_1603 l) ck_RX11_473_1603 (ct2_cons (vl_1600 l) ck_RX11_473_1600 (ct2_cons (vl_1597 l) ck_RX11_473_1597 (ct2_cons (vl_1594 l) ck_RX11_473_1594 (ct2_cons (vl_1591 l) ck_RX11_473_1591 (ct2_cons (vl_1588 l) ck_RX11_473_1588 (ct2_cons (vl_1585 l) ck_RX11_473_1585 (ct2_cons (vl_1582 l) ck_RX11_473_1582 (ct2_cons (vl_1579 l) ck_RX11_473_1579 (ct2_cons (vl_1576 l) ck_RX11_473_1576 (ct2_cons (vl_1573 l) ck_RX11_473_1573 (ct2_cons (vl_1570 l) ck_RX11_473_1570 (ct2_cons (vl_1567 l) ck_RX11_473_1567 (ct2_cons (vl_1502 l) ck_RX11_476_1502 (ct2_cons (vl_1625 l) ck_RX11_473_1625 (ct2_cons (vl_1622 l) ck_RX11_473_1622 (ct2_cons (vl_1619 l) ck_RX11_473_1619 (ct2_cons (vl_1616 l) ck_RX11_473_1616 (ct2_cons (vl_1613 l) ck_RX11_473_1613 (ct2_cons (vl_1610 l) ck_RX11_473_1610 (ct2_cons (vl_1607 l) ck_RX11_473_1607 (ct2_cons (vl_1604 l) ck_RX11_473_1604 (ct2_cons (vl_1601 l) ck_RX11_473_1601 (ct2_cons (vl_1598 l) ck_RX11_473_1598 (ct2_cons (vl_1595 l) ck_RX11_473_1595 (ct2_cons (vl_1592 l) ck_RX11_473_1592 (ct2_cons (vl_1589 l) ck_RX11_473_1589 (ct2_cons (vl_1586 l) ck_RX11_473_1586 (ct2_cons (vl_1583 l) ck_RX11_473_1583 (ct2_cons (vl_1580 l) ck_RX11_473_1580 (ct2_cons (vl_1577 l) ck_RX11_473_1577 (ct2_cons (vl_1574 l) ck_RX11_473_1574 (ct2_cons (vl_1571 l) ck_RX11_473_1571 (ct2_cons (vl_1568 l) ck_RX11_473_1568 (ct2_cons (vl_1504 l) ck_RX11_476_1504 (ct2_cons (vl_1626 l) ck_RX11_473_1626 (ct2_cons (vl_1623 l) ck_RX11_473_1623 (ct2_cons (vl_1620 l) ck_RX11_473_1620 (ct2_cons (vl_1617 l) ck_RX11_473_1617 (ct2_cons (vl_1614 l) ck_RX11_473_1614 (ct2_cons (vl_1611 l) ck_RX11_473_1611 (ct2_cons (vl_1608 l) ck_RX11_473_1608 (ct2_cons (vl_1605 l) ck_RX11_473_1605 (ct2_cons (vl_1602 l) ck_RX11_473_1602 (ct2_cons (vl_1599 l) ck_RX11_473_1599 (ct2_cons (vl_1596 l) ck_RX11_473_1596 (ct2_cons (vl_1593 l) ck_RX11_473_1593 (ct2_cons (vl_1590 l) ck_RX11_473_1590 (ct2_cons (vl_1587 l) ck_RX11_473_1587 (ct2_cons (vl_1584 l) ck_RX11_473_1584 (ct2_cons (vl_1581 l) ck_RX11_473_1581 (ct2_cons (vl_1578 l) ck_RX11_473_1578 (ct2_cons (vl_1575 l) ck_RX11_473_1575 (ct2_cons (vl_1572 l) ck_RX11_473_1572 (ct2_cons (vl_1569 l) ck_RX11_473_1569 (ct2_cons (vl_1506 l) ck_RX11_476_1506 (ct2_nil))))))))))))))))))))))))))))))))))))))))))))))))))))))))))))))))))
theorem vl_1627 (l : Launch) : Vld2 l vwCl gTbl con_1627 := conR_ok3 gT_all (hd_1627) rfl pn_RX11 tk_X11_wrongSeen bo_RX11 xo_RX11 (cto_1627 l) ch_1627 (cut_app (cut_all cc_1627_0) (cut_all cc_1627_1))
/-- RookHusting$Slots isSlot -/
noncomputable def con_1628 : Con2 := ((yX8_isSlot, cX8_isSlot, 1, (some .boolean)), (0, 0), ([(0, 1, 0)], [(0, 0)], [], []), [((0, 1, 0), [(0, 0), (0, 0)], [], [], [1])])
theorem hd_1628 : con_1628.1 = (yX8_isSlot, cX8_isSlot, 1, (some .boolean)) := rfl
noncomputable def cu_1628 : List CUT2 := []
theorem ch_1628 : staG tb_X8_isSlot 1 bt_RX8 [] ct_1497 [] [] cu_1628 10 con_1628 = true := by decide +kernel
theorem vl_1628 (l : Launch) : Vld2 l vwCl gTbl con_1628 := conR_ok3 gT_all (hd_1628) rfl pn_RX8 tk_X8_isSlot bo_RX8 xo_RX8 (cto_1497 l) ch_1628 cut_nil
/-- RookHusting$Slots hasRow -/
noncomputable def gi_1022 : GI := jl_n [jl_z 5, jl_m 0 60, jl_k 0 0, jl_r 2 (jl_m 0 60), jl_z 1]
noncomputable def gi_1023 : GI := jl_n [jl_z 5, gp_528, jl_r 2 (jl_m 0 60), jl_z 1]
noncomputable def con_1629 : Con2 := ((yX8_hasRow, cX8_hasRow, 2, (some .boolean)), (0, 0), ([(6, 0, 0), (0, 1, 0)], gi_924, [.inl (8, [(8, 2, 0), (8, 3, 0), (6, 1, 0)]), ac_808], []), [((0, 0, 0), gi_1022, hq_640, [], [1]), ((0, 1, 0), gi_1023, hq_640, [], [1])])
theorem hd_1629 : con_1629.1 = (yX8_hasRow, cX8_hasRow, 2, (some .boolean)) := rfl
noncomputable def cu_1629 : List CUT2 := []
theorem ch_1629 : staG tb_X8_hasRow 1 bt_RX8 [] ct_1497 [] [] cu_1629 11 con_1629 = true := by decide +kernel
theorem vl_1629 (l : Launch) : Vld2 l vwCl gTbl con_1629 := conR_ok3 gT_all (hd_1629) rfl pn_RX8 tk_X8_hasRow bo_RX8 xo_RX8 (cto_1497 l) ch_1629 cut_nil
/-- RookHusting$Slots at -/
noncomputable def ac_931 : AC := .inr (2, jl_n [js_5 60 9223372036854775807 9223372036854775807, js_4 7 1, js_5 179 9223372036854775807 9223372036854775807])
noncomputable def hq_763 : HP := [(false, .inl (8, [(6, 1, 0), (8, 4, 0), (8, 5, 0)])), (false, ac_931)]
noncomputable def con_1630 : Con2 := ((yX8_at, cX8_at, 3, (some .long)), (0, 0), ([(6, 0, 0), (0, 1, 0), (0, 0, 0)], gi_927, [.inl (8, [(6, 1, 0), (8, 4, 0), (8, 5, 0)]), ac_931], []), [((4, 6, 0), gi_928, hq_763, [], [1])])
theorem hd_1630 : con_1630.1 = (yX8_at, cX8_at, 3, (some .long)) := rfl
noncomputable def cu_1630 : List CUT2 := []
theorem ch_1630 : staG tb_X8_at 1 bt_RX8 [] ct_1497 [] [] cu_1630 11 con_1630 = true := by decide +kernel
theorem vl_1630 (l : Launch) : Vld2 l vwCl gTbl con_1630 := conR_ok3 gT_all (hd_1630) rfl pn_RX8 tk_X8_at bo_RX8 xo_RX8 (cto_1497 l) ch_1630 cut_nil
/-- RookHusting$Slots at -/
noncomputable def ac_932 : AC := .inr (2, jl_n [js_5 61 9223372036854775807 9223372036854775807, js_4 7 1, js_5 178 9223372036854775807 9223372036854775807])
noncomputable def hq_764 : HP := [(false, .inl (8, [(6, 1, 0), (8, 4, 0), (8, 5, 0)])), (false, ac_932)]
noncomputable def con_1631 : Con2 := ((yX8_at, cX8_at, 3, (some .long)), (0, 0), ([(6, 0, 0), (0, 1, 0), (0, 1, 0)], gi_927, [.inl (8, [(6, 1, 0), (8, 4, 0), (8, 5, 0)]), ac_932], []), [((4, 6, 0), gi_928, hq_764, [], [1])])
theorem hd_1631 : con_1631.1 = (yX8_at, cX8_at, 3, (some .long)) := rfl
noncomputable def cu_1631 : List CUT2 := []
theorem ch_1631 : staG tb_X8_at 1 bt_RX8 [] ct_1497 [] [] cu_1631 11 con_1631 = true := by decide +kernel
theorem vl_1631 (l : Launch) : Vld2 l vwCl gTbl con_1631 := conR_ok3 gT_all (hd_1631) rfl pn_RX8 tk_X8_at bo_RX8 xo_RX8 (cto_1497 l) ch_1631 cut_nil
/-- RookHusting$Slots at -/
noncomputable def ac_933 : AC := .inr (2, jl_n [js_5 62 9223372036854775807 9223372036854775807, js_4 7 1, js_5 177 9223372036854775807 9223372036854775807])
noncomputable def hq_765 : HP := [(false, .inl (8, [(6, 1, 0), (8, 4, 0), (8, 5, 0)])), (false, ac_933)]
noncomputable def con_1632 : Con2 := ((yX8_at, cX8_at, 3, (some .long)), (0, 0), ([(6, 0, 0), (0, 1, 0), (0, 2, 0)], gi_927, [.inl (8, [(6, 1, 0), (8, 4, 0), (8, 5, 0)]), ac_933], []), [((4, 6, 0), gi_928, hq_765, [], [1])])
theorem hd_1632 : con_1632.1 = (yX8_at, cX8_at, 3, (some .long)) := rfl
noncomputable def cu_1632 : List CUT2 := []
theorem ch_1632 : staG tb_X8_at 1 bt_RX8 [] ct_1497 [] [] cu_1632 11 con_1632 = true := by decide +kernel
theorem vl_1632 (l : Launch) : Vld2 l vwCl gTbl con_1632 := conR_ok3 gT_all (hd_1632) rfl pn_RX8 tk_X8_at bo_RX8 xo_RX8 (cto_1497 l) ch_1632 cut_nil
/-- RookHusting$Slots at -/
noncomputable def ac_934 : AC := .inr (2, jl_n [js_5 63 9223372036854775807 9223372036854775807, js_4 7 1, js_5 176 9223372036854775807 9223372036854775807])
noncomputable def hq_766 : HP := [(false, .inl (8, [(6, 1, 0), (8, 4, 0), (8, 5, 0)])), (false, ac_934)]
noncomputable def con_1633 : Con2 := ((yX8_at, cX8_at, 3, (some .long)), (0, 0), ([(6, 0, 0), (0, 1, 0), (0, 3, 0)], gi_927, [.inl (8, [(6, 1, 0), (8, 4, 0), (8, 5, 0)]), ac_934], []), [((4, 6, 0), gi_928, hq_766, [], [1])])
theorem hd_1633 : con_1633.1 = (yX8_at, cX8_at, 3, (some .long)) := rfl
noncomputable def cu_1633 : List CUT2 := []
theorem ch_1633 : staG tb_X8_at 1 bt_RX8 [] ct_1497 [] [] cu_1633 11 con_1633 = true := by decide +kernel
theorem vl_1633 (l : Launch) : Vld2 l vwCl gTbl con_1633 := conR_ok3 gT_all (hd_1633) rfl pn_RX8 tk_X8_at bo_RX8 xo_RX8 (cto_1497 l) ch_1633 cut_nil
/-- RookHusting$Slots at -/
noncomputable def ac_935 : AC := .inr (2, jl_n [js_5 64 9223372036854775807 9223372036854775807, js_4 7 1, js_5 175 9223372036854775807 9223372036854775807])
noncomputable def hq_767 : HP := [(false, .inl (8, [(6, 1, 0), (8, 4, 0), (8, 5, 0)])), (false, ac_935)]
noncomputable def con_1634 : Con2 := ((yX8_at, cX8_at, 3, (some .long)), (0, 0), ([(6, 0, 0), (0, 1, 0), (0, 4, 0)], gi_927, [.inl (8, [(6, 1, 0), (8, 4, 0), (8, 5, 0)]), ac_935], []), [((4, 6, 0), gi_928, hq_767, [], [1])])
theorem hd_1634 : con_1634.1 = (yX8_at, cX8_at, 3, (some .long)) := rfl
noncomputable def cu_1634 : List CUT2 := []
theorem ch_1634 : staG tb_X8_at 1 bt_RX8 [] ct_1497 [] [] cu_1634 11 con_1634 = true := by decide +kernel
theorem vl_1634 (l : Launch) : Vld2 l vwCl gTbl con_1634 := conR_ok3 gT_all (hd_1634) rfl pn_RX8 tk_X8_at bo_RX8 xo_RX8 (cto_1497 l) ch_1634 cut_nil
/-- RookHusting$Slots at -/
noncomputable def ac_936 : AC := .inr (2, jl_n [js_5 65 9223372036854775807 9223372036854775807, js_4 7 1, js_5 174 9223372036854775807 9223372036854775807])
noncomputable def hq_768 : HP := [(false, .inl (8, [(6, 1, 0), (8, 4, 0), (8, 5, 0)])), (false, ac_936)]
noncomputable def con_1635 : Con2 := ((yX8_at, cX8_at, 3, (some .long)), (0, 0), ([(6, 0, 0), (0, 1, 0), (0, 5, 0)], gi_927, [.inl (8, [(6, 1, 0), (8, 4, 0), (8, 5, 0)]), ac_936], []), [((4, 6, 0), gi_928, hq_768, [], [1])])
theorem hd_1635 : con_1635.1 = (yX8_at, cX8_at, 3, (some .long)) := rfl
noncomputable def cu_1635 : List CUT2 := []
theorem ch_1635 : staG tb_X8_at 1 bt_RX8 [] ct_1497 [] [] cu_1635 11 con_1635 = true := by decide +kernel
theorem vl_1635 (l : Launch) : Vld2 l vwCl gTbl con_1635 := conR_ok3 gT_all (hd_1635) rfl pn_RX8 tk_X8_at bo_RX8 xo_RX8 (cto_1497 l) ch_1635 cut_nil
/-- RookHusting$Slots at -/
noncomputable def ac_937 : AC := .inr (2, jl_n [js_5 66 9223372036854775807 9223372036854775807, js_4 7 1, js_5 173 9223372036854775807 9223372036854775807])
noncomputable def hq_769 : HP := [(false, .inl (8, [(6, 1, 0), (8, 4, 0), (8, 5, 0)])), (false, ac_937)]
noncomputable def con_1636 : Con2 := ((yX8_at, cX8_at, 3, (some .long)), (0, 0), ([(6, 0, 0), (0, 1, 0), (0, 6, 0)], gi_927, [.inl (8, [(6, 1, 0), (8, 4, 0), (8, 5, 0)]), ac_937], []), [((4, 6, 0), gi_928, hq_769, [], [1])])
theorem hd_1636 : con_1636.1 = (yX8_at, cX8_at, 3, (some .long)) := rfl
noncomputable def cu_1636 : List CUT2 := []
theorem ch_1636 : staG tb_X8_at 1 bt_RX8 [] ct_1497 [] [] cu_1636 11 con_1636 = true := by decide +kernel
theorem vl_1636 (l : Launch) : Vld2 l vwCl gTbl con_1636 := conR_ok3 gT_all (hd_1636) rfl pn_RX8 tk_X8_at bo_RX8 xo_RX8 (cto_1497 l) ch_1636 cut_nil
/-- RookHusting$Slots at -/
noncomputable def ac_938 : AC := .inr (2, jl_n [js_5 67 9223372036854775807 9223372036854775807, js_4 7 1, js_5 172 9223372036854775807 9223372036854775807])
noncomputable def hq_770 : HP := [(false, .inl (8, [(6, 1, 0), (8, 4, 0), (8, 5, 0)])), (false, ac_938)]
noncomputable def con_1637 : Con2 := ((yX8_at, cX8_at, 3, (some .long)), (0, 0), ([(6, 0, 0), (0, 1, 0), (0, 7, 0)], gi_927, [.inl (8, [(6, 1, 0), (8, 4, 0), (8, 5, 0)]), ac_938], []), [((4, 6, 0), gi_928, hq_770, [], [1])])
theorem hd_1637 : con_1637.1 = (yX8_at, cX8_at, 3, (some .long)) := rfl
noncomputable def cu_1637 : List CUT2 := []
theorem ch_1637 : staG tb_X8_at 1 bt_RX8 [] ct_1497 [] [] cu_1637 11 con_1637 = true := by decide +kernel
theorem vl_1637 (l : Launch) : Vld2 l vwCl gTbl con_1637 := conR_ok3 gT_all (hd_1637) rfl pn_RX8 tk_X8_at bo_RX8 xo_RX8 (cto_1497 l) ch_1637 cut_nil
/-- RookHusting$Slots at -/
noncomputable def ac_939 : AC := .inr (2, jl_n [js_5 68 9223372036854775807 9223372036854775807, js_4 7 1, js_5 171 9223372036854775807 9223372036854775807])
noncomputable def hq_771 : HP := [(false, .inl (8, [(6, 1, 0), (8, 4, 0), (8, 5, 0)])), (false, ac_939)]
noncomputable def con_1638 : Con2 := ((yX8_at, cX8_at, 3, (some .long)), (0, 0), ([(6, 0, 0), (0, 1, 0), (0, 8, 0)], gi_927, [.inl (8, [(6, 1, 0), (8, 4, 0), (8, 5, 0)]), ac_939], []), [((4, 6, 0), gi_928, hq_771, [], [1])])
theorem hd_1638 : con_1638.1 = (yX8_at, cX8_at, 3, (some .long)) := rfl
noncomputable def cu_1638 : List CUT2 := []
theorem ch_1638 : staG tb_X8_at 1 bt_RX8 [] ct_1497 [] [] cu_1638 11 con_1638 = true := by decide +kernel
theorem vl_1638 (l : Launch) : Vld2 l vwCl gTbl con_1638 := conR_ok3 gT_all (hd_1638) rfl pn_RX8 tk_X8_at bo_RX8 xo_RX8 (cto_1497 l) ch_1638 cut_nil
/-- RookHusting$Slots at -/
noncomputable def ac_940 : AC := .inr (2, jl_n [js_5 69 9223372036854775807 9223372036854775807, js_4 7 1, js_5 170 9223372036854775807 9223372036854775807])
noncomputable def hq_772 : HP := [(false, .inl (8, [(6, 1, 0), (8, 4, 0), (8, 5, 0)])), (false, ac_940)]
noncomputable def con_1639 : Con2 := ((yX8_at, cX8_at, 3, (some .long)), (0, 0), ([(6, 0, 0), (0, 1, 0), (0, 9, 0)], gi_927, [.inl (8, [(6, 1, 0), (8, 4, 0), (8, 5, 0)]), ac_940], []), [((4, 6, 0), gi_928, hq_772, [], [1])])
theorem hd_1639 : con_1639.1 = (yX8_at, cX8_at, 3, (some .long)) := rfl
noncomputable def cu_1639 : List CUT2 := []
theorem ch_1639 : staG tb_X8_at 1 bt_RX8 [] ct_1497 [] [] cu_1639 11 con_1639 = true := by decide +kernel
theorem vl_1639 (l : Launch) : Vld2 l vwCl gTbl con_1639 := conR_ok3 gT_all (hd_1639) rfl pn_RX8 tk_X8_at bo_RX8 xo_RX8 (cto_1497 l) ch_1639 cut_nil
/-- RookHusting$Slots at -/
noncomputable def ac_941 : AC := .inr (2, jl_n [js_5 70 9223372036854775807 9223372036854775807, js_4 7 1, js_5 169 9223372036854775807 9223372036854775807])
noncomputable def hq_773 : HP := [(false, .inl (8, [(6, 1, 0), (8, 4, 0), (8, 5, 0)])), (false, ac_941)]
noncomputable def con_1640 : Con2 := ((yX8_at, cX8_at, 3, (some .long)), (0, 0), ([(6, 0, 0), (0, 1, 0), (0, 10, 0)], gi_927, [.inl (8, [(6, 1, 0), (8, 4, 0), (8, 5, 0)]), ac_941], []), [((4, 6, 0), gi_928, hq_773, [], [1])])
theorem hd_1640 : con_1640.1 = (yX8_at, cX8_at, 3, (some .long)) := rfl
noncomputable def cu_1640 : List CUT2 := []
theorem ch_1640 : staG tb_X8_at 1 bt_RX8 [] ct_1497 [] [] cu_1640 11 con_1640 = true := by decide +kernel
theorem vl_1640 (l : Launch) : Vld2 l vwCl gTbl con_1640 := conR_ok3 gT_all (hd_1640) rfl pn_RX8 tk_X8_at bo_RX8 xo_RX8 (cto_1497 l) ch_1640 cut_nil
/-- RookHusting$Slots at -/
noncomputable def ac_942 : AC := .inr (2, jl_n [js_5 71 9223372036854775807 9223372036854775807, js_4 7 1, js_5 168 9223372036854775807 9223372036854775807])
noncomputable def hq_774 : HP := [(false, .inl (8, [(6, 1, 0), (8, 4, 0), (8, 5, 0)])), (false, ac_942)]
noncomputable def con_1641 : Con2 := ((yX8_at, cX8_at, 3, (some .long)), (0, 0), ([(6, 0, 0), (0, 1, 0), (0, 11, 0)], gi_927, [.inl (8, [(6, 1, 0), (8, 4, 0), (8, 5, 0)]), ac_942], []), [((4, 6, 0), gi_928, hq_774, [], [1])])
theorem hd_1641 : con_1641.1 = (yX8_at, cX8_at, 3, (some .long)) := rfl
noncomputable def cu_1641 : List CUT2 := []
theorem ch_1641 : staG tb_X8_at 1 bt_RX8 [] ct_1497 [] [] cu_1641 11 con_1641 = true := by decide +kernel
theorem vl_1641 (l : Launch) : Vld2 l vwCl gTbl con_1641 := conR_ok3 gT_all (hd_1641) rfl pn_RX8 tk_X8_at bo_RX8 xo_RX8 (cto_1497 l) ch_1641 cut_nil
/-- RookHusting$Slots at -/
noncomputable def ac_943 : AC := .inr (2, jl_n [js_5 72 9223372036854775807 9223372036854775807, js_4 7 1, js_5 167 9223372036854775807 9223372036854775807])
noncomputable def hq_775 : HP := [(false, .inl (8, [(6, 1, 0), (8, 4, 0), (8, 5, 0)])), (false, ac_943)]
noncomputable def con_1642 : Con2 := ((yX8_at, cX8_at, 3, (some .long)), (0, 0), ([(6, 0, 0), (0, 1, 0), (0, 12, 0)], gi_927, [.inl (8, [(6, 1, 0), (8, 4, 0), (8, 5, 0)]), ac_943], []), [((4, 6, 0), gi_928, hq_775, [], [1])])
theorem hd_1642 : con_1642.1 = (yX8_at, cX8_at, 3, (some .long)) := rfl
noncomputable def cu_1642 : List CUT2 := []
theorem ch_1642 : staG tb_X8_at 1 bt_RX8 [] ct_1497 [] [] cu_1642 11 con_1642 = true := by decide +kernel
theorem vl_1642 (l : Launch) : Vld2 l vwCl gTbl con_1642 := conR_ok3 gT_all (hd_1642) rfl pn_RX8 tk_X8_at bo_RX8 xo_RX8 (cto_1497 l) ch_1642 cut_nil
/-- RookHusting$Slots at -/
noncomputable def ac_944 : AC := .inr (2, jl_n [js_5 73 9223372036854775807 9223372036854775807, js_4 7 1, js_5 166 9223372036854775807 9223372036854775807])
noncomputable def hq_776 : HP := [(false, .inl (8, [(6, 1, 0), (8, 4, 0), (8, 5, 0)])), (false, ac_944)]
noncomputable def con_1643 : Con2 := ((yX8_at, cX8_at, 3, (some .long)), (0, 0), ([(6, 0, 0), (0, 1, 0), (0, 13, 0)], gi_927, [.inl (8, [(6, 1, 0), (8, 4, 0), (8, 5, 0)]), ac_944], []), [((4, 6, 0), gi_928, hq_776, [], [1])])
theorem hd_1643 : con_1643.1 = (yX8_at, cX8_at, 3, (some .long)) := rfl
noncomputable def cu_1643 : List CUT2 := []
theorem ch_1643 : staG tb_X8_at 1 bt_RX8 [] ct_1497 [] [] cu_1643 11 con_1643 = true := by decide +kernel
theorem vl_1643 (l : Launch) : Vld2 l vwCl gTbl con_1643 := conR_ok3 gT_all (hd_1643) rfl pn_RX8 tk_X8_at bo_RX8 xo_RX8 (cto_1497 l) ch_1643 cut_nil
/-- RookHusting$Slots at -/
noncomputable def ac_945 : AC := .inr (2, jl_n [js_5 74 9223372036854775807 9223372036854775807, js_4 7 1, js_5 165 9223372036854775807 9223372036854775807])
noncomputable def hq_777 : HP := [(false, .inl (8, [(6, 1, 0), (8, 4, 0), (8, 5, 0)])), (false, ac_945)]
noncomputable def con_1644 : Con2 := ((yX8_at, cX8_at, 3, (some .long)), (0, 0), ([(6, 0, 0), (0, 1, 0), (0, 14, 0)], gi_927, [.inl (8, [(6, 1, 0), (8, 4, 0), (8, 5, 0)]), ac_945], []), [((4, 6, 0), gi_928, hq_777, [], [1])])
theorem hd_1644 : con_1644.1 = (yX8_at, cX8_at, 3, (some .long)) := rfl
noncomputable def cu_1644 : List CUT2 := []
theorem ch_1644 : staG tb_X8_at 1 bt_RX8 [] ct_1497 [] [] cu_1644 11 con_1644 = true := by decide +kernel
theorem vl_1644 (l : Launch) : Vld2 l vwCl gTbl con_1644 := conR_ok3 gT_all (hd_1644) rfl pn_RX8 tk_X8_at bo_RX8 xo_RX8 (cto_1497 l) ch_1644 cut_nil
/-- RookHusting$Slots at -/
noncomputable def ac_946 : AC := .inr (2, jl_n [js_5 75 9223372036854775807 9223372036854775807, js_4 7 1, js_5 164 9223372036854775807 9223372036854775807])
noncomputable def hq_778 : HP := [(false, .inl (8, [(6, 1, 0), (8, 4, 0), (8, 5, 0)])), (false, ac_946)]
noncomputable def con_1645 : Con2 := ((yX8_at, cX8_at, 3, (some .long)), (0, 0), ([(6, 0, 0), (0, 1, 0), (0, 15, 0)], gi_927, [.inl (8, [(6, 1, 0), (8, 4, 0), (8, 5, 0)]), ac_946], []), [((4, 6, 0), gi_928, hq_778, [], [1])])
theorem hd_1645 : con_1645.1 = (yX8_at, cX8_at, 3, (some .long)) := rfl
noncomputable def cu_1645 : List CUT2 := []
theorem ch_1645 : staG tb_X8_at 1 bt_RX8 [] ct_1497 [] [] cu_1645 11 con_1645 = true := by decide +kernel
theorem vl_1645 (l : Launch) : Vld2 l vwCl gTbl con_1645 := conR_ok3 gT_all (hd_1645) rfl pn_RX8 tk_X8_at bo_RX8 xo_RX8 (cto_1497 l) ch_1645 cut_nil
/-- RookHusting$Slots at -/
noncomputable def ac_947 : AC := .inr (2, jl_n [js_5 76 9223372036854775807 9223372036854775807, js_4 7 1, js_5 163 9223372036854775807 9223372036854775807])
noncomputable def hq_779 : HP := [(false, .inl (8, [(6, 1, 0), (8, 4, 0), (8, 5, 0)])), (false, ac_947)]
noncomputable def con_1646 : Con2 := ((yX8_at, cX8_at, 3, (some .long)), (0, 0), ([(6, 0, 0), (0, 1, 0), (0, 16, 0)], gi_927, [.inl (8, [(6, 1, 0), (8, 4, 0), (8, 5, 0)]), ac_947], []), [((4, 6, 0), gi_928, hq_779, [], [1])])
theorem hd_1646 : con_1646.1 = (yX8_at, cX8_at, 3, (some .long)) := rfl
noncomputable def cu_1646 : List CUT2 := []
theorem ch_1646 : staG tb_X8_at 1 bt_RX8 [] ct_1497 [] [] cu_1646 11 con_1646 = true := by decide +kernel
theorem vl_1646 (l : Launch) : Vld2 l vwCl gTbl con_1646 := conR_ok3 gT_all (hd_1646) rfl pn_RX8 tk_X8_at bo_RX8 xo_RX8 (cto_1497 l) ch_1646 cut_nil
/-- RookHusting$Slots at -/
noncomputable def ac_948 : AC := .inr (2, jl_n [js_5 77 9223372036854775807 9223372036854775807, js_4 7 1, js_5 162 9223372036854775807 9223372036854775807])
noncomputable def hq_780 : HP := [(false, .inl (8, [(6, 1, 0), (8, 4, 0), (8, 5, 0)])), (false, ac_948)]
noncomputable def con_1647 : Con2 := ((yX8_at, cX8_at, 3, (some .long)), (0, 0), ([(6, 0, 0), (0, 1, 0), (0, 17, 0)], gi_927, [.inl (8, [(6, 1, 0), (8, 4, 0), (8, 5, 0)]), ac_948], []), [((4, 6, 0), gi_928, hq_780, [], [1])])
theorem hd_1647 : con_1647.1 = (yX8_at, cX8_at, 3, (some .long)) := rfl
noncomputable def cu_1647 : List CUT2 := []
theorem ch_1647 : staG tb_X8_at 1 bt_RX8 [] ct_1497 [] [] cu_1647 11 con_1647 = true := by decide +kernel
theorem vl_1647 (l : Launch) : Vld2 l vwCl gTbl con_1647 := conR_ok3 gT_all (hd_1647) rfl pn_RX8 tk_X8_at bo_RX8 xo_RX8 (cto_1497 l) ch_1647 cut_nil
/-- RookHusting$Slots at -/
noncomputable def ac_949 : AC := .inr (2, jl_n [js_5 78 9223372036854775807 9223372036854775807, js_4 7 1, js_5 161 9223372036854775807 9223372036854775807])
noncomputable def hq_781 : HP := [(false, .inl (8, [(6, 1, 0), (8, 4, 0), (8, 5, 0)])), (false, ac_949)]
noncomputable def con_1648 : Con2 := ((yX8_at, cX8_at, 3, (some .long)), (0, 0), ([(6, 0, 0), (0, 1, 0), (0, 18, 0)], gi_927, [.inl (8, [(6, 1, 0), (8, 4, 0), (8, 5, 0)]), ac_949], []), [((4, 6, 0), gi_928, hq_781, [], [1])])
theorem hd_1648 : con_1648.1 = (yX8_at, cX8_at, 3, (some .long)) := rfl
noncomputable def cu_1648 : List CUT2 := []
theorem ch_1648 : staG tb_X8_at 1 bt_RX8 [] ct_1497 [] [] cu_1648 11 con_1648 = true := by decide +kernel
theorem vl_1648 (l : Launch) : Vld2 l vwCl gTbl con_1648 := conR_ok3 gT_all (hd_1648) rfl pn_RX8 tk_X8_at bo_RX8 xo_RX8 (cto_1497 l) ch_1648 cut_nil
/-- RookHusting$Slots at -/
noncomputable def ac_950 : AC := .inr (2, jl_n [js_5 79 9223372036854775807 9223372036854775807, js_4 7 1, js_5 160 9223372036854775807 9223372036854775807])
noncomputable def hq_782 : HP := [(false, .inl (8, [(6, 1, 0), (8, 4, 0), (8, 5, 0)])), (false, ac_950)]
noncomputable def con_1649 : Con2 := ((yX8_at, cX8_at, 3, (some .long)), (0, 0), ([(6, 0, 0), (0, 1, 0), (0, 19, 0)], gi_927, [.inl (8, [(6, 1, 0), (8, 4, 0), (8, 5, 0)]), ac_950], []), [((4, 6, 0), gi_928, hq_782, [], [1])])
theorem hd_1649 : con_1649.1 = (yX8_at, cX8_at, 3, (some .long)) := rfl
noncomputable def cu_1649 : List CUT2 := []
theorem ch_1649 : staG tb_X8_at 1 bt_RX8 [] ct_1497 [] [] cu_1649 11 con_1649 = true := by decide +kernel
theorem vl_1649 (l : Launch) : Vld2 l vwCl gTbl con_1649 := conR_ok3 gT_all (hd_1649) rfl pn_RX8 tk_X8_at bo_RX8 xo_RX8 (cto_1497 l) ch_1649 cut_nil
/-- RookHusting$Slots at -/
noncomputable def ac_951 : AC := .inr (2, jl_n [js_5 80 9223372036854775807 9223372036854775807, js_4 7 1, js_5 159 9223372036854775807 9223372036854775807])
noncomputable def hq_783 : HP := [(false, .inl (8, [(6, 1, 0), (8, 4, 0), (8, 5, 0)])), (false, ac_951)]
noncomputable def con_1650 : Con2 := ((yX8_at, cX8_at, 3, (some .long)), (0, 0), ([(6, 0, 0), (0, 1, 0), (0, 20, 0)], gi_927, [.inl (8, [(6, 1, 0), (8, 4, 0), (8, 5, 0)]), ac_951], []), [((4, 6, 0), gi_928, hq_783, [], [1])])
theorem hd_1650 : con_1650.1 = (yX8_at, cX8_at, 3, (some .long)) := rfl
noncomputable def cu_1650 : List CUT2 := []
theorem ch_1650 : staG tb_X8_at 1 bt_RX8 [] ct_1497 [] [] cu_1650 11 con_1650 = true := by decide +kernel
theorem vl_1650 (l : Launch) : Vld2 l vwCl gTbl con_1650 := conR_ok3 gT_all (hd_1650) rfl pn_RX8 tk_X8_at bo_RX8 xo_RX8 (cto_1497 l) ch_1650 cut_nil
/-- RookHusting$Slots at -/
noncomputable def ac_952 : AC := .inr (2, jl_n [js_5 81 9223372036854775807 9223372036854775807, js_4 7 1, js_5 158 9223372036854775807 9223372036854775807])
noncomputable def hq_784 : HP := [(false, .inl (8, [(6, 1, 0), (8, 4, 0), (8, 5, 0)])), (false, ac_952)]
noncomputable def con_1651 : Con2 := ((yX8_at, cX8_at, 3, (some .long)), (0, 0), ([(6, 0, 0), (0, 1, 0), (0, 21, 0)], gi_927, [.inl (8, [(6, 1, 0), (8, 4, 0), (8, 5, 0)]), ac_952], []), [((4, 6, 0), gi_928, hq_784, [], [1])])
theorem hd_1651 : con_1651.1 = (yX8_at, cX8_at, 3, (some .long)) := rfl
noncomputable def cu_1651 : List CUT2 := []
theorem ch_1651 : staG tb_X8_at 1 bt_RX8 [] ct_1497 [] [] cu_1651 11 con_1651 = true := by decide +kernel
theorem vl_1651 (l : Launch) : Vld2 l vwCl gTbl con_1651 := conR_ok3 gT_all (hd_1651) rfl pn_RX8 tk_X8_at bo_RX8 xo_RX8 (cto_1497 l) ch_1651 cut_nil
/-- RookHusting$Slots at -/
noncomputable def ac_953 : AC := .inr (2, jl_n [js_5 82 9223372036854775807 9223372036854775807, js_4 7 1, js_5 157 9223372036854775807 9223372036854775807])
noncomputable def hq_785 : HP := [(false, .inl (8, [(6, 1, 0), (8, 4, 0), (8, 5, 0)])), (false, ac_953)]
noncomputable def con_1652 : Con2 := ((yX8_at, cX8_at, 3, (some .long)), (0, 0), ([(6, 0, 0), (0, 1, 0), (0, 22, 0)], gi_927, [.inl (8, [(6, 1, 0), (8, 4, 0), (8, 5, 0)]), ac_953], []), [((4, 6, 0), gi_928, hq_785, [], [1])])
theorem hd_1652 : con_1652.1 = (yX8_at, cX8_at, 3, (some .long)) := rfl
noncomputable def cu_1652 : List CUT2 := []
theorem ch_1652 : staG tb_X8_at 1 bt_RX8 [] ct_1497 [] [] cu_1652 11 con_1652 = true := by decide +kernel
theorem vl_1652 (l : Launch) : Vld2 l vwCl gTbl con_1652 := conR_ok3 gT_all (hd_1652) rfl pn_RX8 tk_X8_at bo_RX8 xo_RX8 (cto_1497 l) ch_1652 cut_nil
/-- RookHusting$Slots at -/
noncomputable def ac_954 : AC := .inr (2, jl_n [js_5 83 9223372036854775807 9223372036854775807, js_4 7 1, js_5 156 9223372036854775807 9223372036854775807])
noncomputable def hq_786 : HP := [(false, .inl (8, [(6, 1, 0), (8, 4, 0), (8, 5, 0)])), (false, ac_954)]
noncomputable def con_1653 : Con2 := ((yX8_at, cX8_at, 3, (some .long)), (0, 0), ([(6, 0, 0), (0, 1, 0), (0, 23, 0)], gi_927, [.inl (8, [(6, 1, 0), (8, 4, 0), (8, 5, 0)]), ac_954], []), [((4, 6, 0), gi_928, hq_786, [], [1])])
theorem hd_1653 : con_1653.1 = (yX8_at, cX8_at, 3, (some .long)) := rfl
noncomputable def cu_1653 : List CUT2 := []
theorem ch_1653 : staG tb_X8_at 1 bt_RX8 [] ct_1497 [] [] cu_1653 11 con_1653 = true := by decide +kernel
theorem vl_1653 (l : Launch) : Vld2 l vwCl gTbl con_1653 := conR_ok3 gT_all (hd_1653) rfl pn_RX8 tk_X8_at bo_RX8 xo_RX8 (cto_1497 l) ch_1653 cut_nil
/-- RookHusting$Slots at -/
noncomputable def ac_955 : AC := .inr (2, jl_n [js_5 84 9223372036854775807 9223372036854775807, js_4 7 1, js_5 155 9223372036854775807 9223372036854775807])
noncomputable def hq_787 : HP := [(false, .inl (8, [(6, 1, 0), (8, 4, 0), (8, 5, 0)])), (false, ac_955)]
noncomputable def con_1654 : Con2 := ((yX8_at, cX8_at, 3, (some .long)), (0, 0), ([(6, 0, 0), (0, 1, 0), (0, 24, 0)], gi_927, [.inl (8, [(6, 1, 0), (8, 4, 0), (8, 5, 0)]), ac_955], []), [((4, 6, 0), gi_928, hq_787, [], [1])])
theorem hd_1654 : con_1654.1 = (yX8_at, cX8_at, 3, (some .long)) := rfl
noncomputable def cu_1654 : List CUT2 := []
theorem ch_1654 : staG tb_X8_at 1 bt_RX8 [] ct_1497 [] [] cu_1654 11 con_1654 = true := by decide +kernel
theorem vl_1654 (l : Launch) : Vld2 l vwCl gTbl con_1654 := conR_ok3 gT_all (hd_1654) rfl pn_RX8 tk_X8_at bo_RX8 xo_RX8 (cto_1497 l) ch_1654 cut_nil
/-- RookHusting$Slots at -/
noncomputable def ac_956 : AC := .inr (2, jl_n [js_5 85 9223372036854775807 9223372036854775807, js_4 7 1, js_5 154 9223372036854775807 9223372036854775807])
noncomputable def hq_788 : HP := [(false, .inl (8, [(6, 1, 0), (8, 4, 0), (8, 5, 0)])), (false, ac_956)]
noncomputable def con_1655 : Con2 := ((yX8_at, cX8_at, 3, (some .long)), (0, 0), ([(6, 0, 0), (0, 1, 0), (0, 25, 0)], gi_927, [.inl (8, [(6, 1, 0), (8, 4, 0), (8, 5, 0)]), ac_956], []), [((4, 6, 0), gi_928, hq_788, [], [1])])
theorem hd_1655 : con_1655.1 = (yX8_at, cX8_at, 3, (some .long)) := rfl
noncomputable def cu_1655 : List CUT2 := []
theorem ch_1655 : staG tb_X8_at 1 bt_RX8 [] ct_1497 [] [] cu_1655 11 con_1655 = true := by decide +kernel
theorem vl_1655 (l : Launch) : Vld2 l vwCl gTbl con_1655 := conR_ok3 gT_all (hd_1655) rfl pn_RX8 tk_X8_at bo_RX8 xo_RX8 (cto_1497 l) ch_1655 cut_nil
/-- RookHusting$Slots at -/
noncomputable def ac_957 : AC := .inr (2, jl_n [js_5 86 9223372036854775807 9223372036854775807, js_4 7 1, js_5 153 9223372036854775807 9223372036854775807])
noncomputable def hq_789 : HP := [(false, .inl (8, [(6, 1, 0), (8, 4, 0), (8, 5, 0)])), (false, ac_957)]
noncomputable def con_1656 : Con2 := ((yX8_at, cX8_at, 3, (some .long)), (0, 0), ([(6, 0, 0), (0, 1, 0), (0, 26, 0)], gi_927, [.inl (8, [(6, 1, 0), (8, 4, 0), (8, 5, 0)]), ac_957], []), [((4, 6, 0), gi_928, hq_789, [], [1])])
theorem hd_1656 : con_1656.1 = (yX8_at, cX8_at, 3, (some .long)) := rfl
noncomputable def cu_1656 : List CUT2 := []
theorem ch_1656 : staG tb_X8_at 1 bt_RX8 [] ct_1497 [] [] cu_1656 11 con_1656 = true := by decide +kernel
theorem vl_1656 (l : Launch) : Vld2 l vwCl gTbl con_1656 := conR_ok3 gT_all (hd_1656) rfl pn_RX8 tk_X8_at bo_RX8 xo_RX8 (cto_1497 l) ch_1656 cut_nil
/-- RookHusting$Slots at -/
noncomputable def ac_958 : AC := .inr (2, jl_n [js_5 87 9223372036854775807 9223372036854775807, js_4 7 1, js_5 152 9223372036854775807 9223372036854775807])
noncomputable def hq_790 : HP := [(false, .inl (8, [(6, 1, 0), (8, 4, 0), (8, 5, 0)])), (false, ac_958)]
noncomputable def con_1657 : Con2 := ((yX8_at, cX8_at, 3, (some .long)), (0, 0), ([(6, 0, 0), (0, 1, 0), (0, 27, 0)], gi_927, [.inl (8, [(6, 1, 0), (8, 4, 0), (8, 5, 0)]), ac_958], []), [((4, 6, 0), gi_928, hq_790, [], [1])])
theorem hd_1657 : con_1657.1 = (yX8_at, cX8_at, 3, (some .long)) := rfl
noncomputable def cu_1657 : List CUT2 := []
theorem ch_1657 : staG tb_X8_at 1 bt_RX8 [] ct_1497 [] [] cu_1657 11 con_1657 = true := by decide +kernel
theorem vl_1657 (l : Launch) : Vld2 l vwCl gTbl con_1657 := conR_ok3 gT_all (hd_1657) rfl pn_RX8 tk_X8_at bo_RX8 xo_RX8 (cto_1497 l) ch_1657 cut_nil
/-- RookHusting$Slots at -/
noncomputable def ac_959 : AC := .inr (2, jl_n [js_5 88 9223372036854775807 9223372036854775807, js_4 7 1, js_5 151 9223372036854775807 9223372036854775807])
noncomputable def hq_791 : HP := [(false, .inl (8, [(6, 1, 0), (8, 4, 0), (8, 5, 0)])), (false, ac_959)]
noncomputable def con_1658 : Con2 := ((yX8_at, cX8_at, 3, (some .long)), (0, 0), ([(6, 0, 0), (0, 1, 0), (0, 28, 0)], gi_927, [.inl (8, [(6, 1, 0), (8, 4, 0), (8, 5, 0)]), ac_959], []), [((4, 6, 0), gi_928, hq_791, [], [1])])
theorem hd_1658 : con_1658.1 = (yX8_at, cX8_at, 3, (some .long)) := rfl
noncomputable def cu_1658 : List CUT2 := []
theorem ch_1658 : staG tb_X8_at 1 bt_RX8 [] ct_1497 [] [] cu_1658 11 con_1658 = true := by decide +kernel
theorem vl_1658 (l : Launch) : Vld2 l vwCl gTbl con_1658 := conR_ok3 gT_all (hd_1658) rfl pn_RX8 tk_X8_at bo_RX8 xo_RX8 (cto_1497 l) ch_1658 cut_nil
/-- RookHusting$Slots at -/
noncomputable def ac_960 : AC := .inr (2, jl_n [js_5 89 9223372036854775807 9223372036854775807, js_4 7 1, js_5 150 9223372036854775807 9223372036854775807])
noncomputable def hq_792 : HP := [(false, .inl (8, [(6, 1, 0), (8, 4, 0), (8, 5, 0)])), (false, ac_960)]
noncomputable def con_1659 : Con2 := ((yX8_at, cX8_at, 3, (some .long)), (0, 0), ([(6, 0, 0), (0, 1, 0), (0, 29, 0)], gi_927, [.inl (8, [(6, 1, 0), (8, 4, 0), (8, 5, 0)]), ac_960], []), [((4, 6, 0), gi_928, hq_792, [], [1])])
theorem hd_1659 : con_1659.1 = (yX8_at, cX8_at, 3, (some .long)) := rfl
noncomputable def cu_1659 : List CUT2 := []
theorem ch_1659 : staG tb_X8_at 1 bt_RX8 [] ct_1497 [] [] cu_1659 11 con_1659 = true := by decide +kernel
theorem vl_1659 (l : Launch) : Vld2 l vwCl gTbl con_1659 := conR_ok3 gT_all (hd_1659) rfl pn_RX8 tk_X8_at bo_RX8 xo_RX8 (cto_1497 l) ch_1659 cut_nil
/-- RookHusting$Slots at -/
noncomputable def ac_961 : AC := .inr (2, jl_n [js_5 90 9223372036854775807 9223372036854775807, js_4 7 1, js_5 149 9223372036854775807 9223372036854775807])
noncomputable def hq_793 : HP := [(false, .inl (8, [(6, 1, 0), (8, 4, 0), (8, 5, 0)])), (false, ac_961)]
noncomputable def con_1660 : Con2 := ((yX8_at, cX8_at, 3, (some .long)), (0, 0), ([(6, 0, 0), (0, 1, 0), (0, 30, 0)], gi_927, [.inl (8, [(6, 1, 0), (8, 4, 0), (8, 5, 0)]), ac_961], []), [((4, 6, 0), gi_928, hq_793, [], [1])])
theorem hd_1660 : con_1660.1 = (yX8_at, cX8_at, 3, (some .long)) := rfl
noncomputable def cu_1660 : List CUT2 := []
theorem ch_1660 : staG tb_X8_at 1 bt_RX8 [] ct_1497 [] [] cu_1660 11 con_1660 = true := by decide +kernel
theorem vl_1660 (l : Launch) : Vld2 l vwCl gTbl con_1660 := conR_ok3 gT_all (hd_1660) rfl pn_RX8 tk_X8_at bo_RX8 xo_RX8 (cto_1497 l) ch_1660 cut_nil
/-- RookHusting$Slots at -/
noncomputable def ac_962 : AC := .inr (2, jl_n [js_5 91 9223372036854775807 9223372036854775807, js_4 7 1, js_5 148 9223372036854775807 9223372036854775807])
noncomputable def hq_794 : HP := [(false, .inl (8, [(6, 1, 0), (8, 4, 0), (8, 5, 0)])), (false, ac_962)]
noncomputable def con_1661 : Con2 := ((yX8_at, cX8_at, 3, (some .long)), (0, 0), ([(6, 0, 0), (0, 1, 0), (0, 31, 0)], gi_927, [.inl (8, [(6, 1, 0), (8, 4, 0), (8, 5, 0)]), ac_962], []), [((4, 6, 0), gi_928, hq_794, [], [1])])
theorem hd_1661 : con_1661.1 = (yX8_at, cX8_at, 3, (some .long)) := rfl
noncomputable def cu_1661 : List CUT2 := []
theorem ch_1661 : staG tb_X8_at 1 bt_RX8 [] ct_1497 [] [] cu_1661 11 con_1661 = true := by decide +kernel
theorem vl_1661 (l : Launch) : Vld2 l vwCl gTbl con_1661 := conR_ok3 gT_all (hd_1661) rfl pn_RX8 tk_X8_at bo_RX8 xo_RX8 (cto_1497 l) ch_1661 cut_nil
/-- RookHusting$Slots at -/
noncomputable def ac_963 : AC := .inr (2, jl_n [js_5 92 9223372036854775807 9223372036854775807, js_4 7 1, js_5 147 9223372036854775807 9223372036854775807])
noncomputable def hq_795 : HP := [(false, .inl (8, [(6, 1, 0), (8, 4, 0), (8, 5, 0)])), (false, ac_963)]
noncomputable def con_1662 : Con2 := ((yX8_at, cX8_at, 3, (some .long)), (0, 0), ([(6, 0, 0), (0, 1, 0), (0, 32, 0)], gi_927, [.inl (8, [(6, 1, 0), (8, 4, 0), (8, 5, 0)]), ac_963], []), [((4, 6, 0), gi_928, hq_795, [], [1])])
theorem hd_1662 : con_1662.1 = (yX8_at, cX8_at, 3, (some .long)) := rfl
noncomputable def cu_1662 : List CUT2 := []
theorem ch_1662 : staG tb_X8_at 1 bt_RX8 [] ct_1497 [] [] cu_1662 11 con_1662 = true := by decide +kernel
theorem vl_1662 (l : Launch) : Vld2 l vwCl gTbl con_1662 := conR_ok3 gT_all (hd_1662) rfl pn_RX8 tk_X8_at bo_RX8 xo_RX8 (cto_1497 l) ch_1662 cut_nil
/-- RookHusting$Slots at -/
noncomputable def ac_964 : AC := .inr (2, jl_n [js_5 93 9223372036854775807 9223372036854775807, js_4 7 1, js_5 146 9223372036854775807 9223372036854775807])
noncomputable def hq_796 : HP := [(false, .inl (8, [(6, 1, 0), (8, 4, 0), (8, 5, 0)])), (false, ac_964)]
noncomputable def con_1663 : Con2 := ((yX8_at, cX8_at, 3, (some .long)), (0, 0), ([(6, 0, 0), (0, 1, 0), (0, 33, 0)], gi_927, [.inl (8, [(6, 1, 0), (8, 4, 0), (8, 5, 0)]), ac_964], []), [((4, 6, 0), gi_928, hq_796, [], [1])])
theorem hd_1663 : con_1663.1 = (yX8_at, cX8_at, 3, (some .long)) := rfl
noncomputable def cu_1663 : List CUT2 := []
theorem ch_1663 : staG tb_X8_at 1 bt_RX8 [] ct_1497 [] [] cu_1663 11 con_1663 = true := by decide +kernel
theorem vl_1663 (l : Launch) : Vld2 l vwCl gTbl con_1663 := conR_ok3 gT_all (hd_1663) rfl pn_RX8 tk_X8_at bo_RX8 xo_RX8 (cto_1497 l) ch_1663 cut_nil
/-- RookHusting$Slots at -/
noncomputable def ac_965 : AC := .inr (2, jl_n [js_5 94 9223372036854775807 9223372036854775807, js_4 7 1, js_5 145 9223372036854775807 9223372036854775807])
noncomputable def hq_797 : HP := [(false, .inl (8, [(6, 1, 0), (8, 4, 0), (8, 5, 0)])), (false, ac_965)]
noncomputable def con_1664 : Con2 := ((yX8_at, cX8_at, 3, (some .long)), (0, 0), ([(6, 0, 0), (0, 1, 0), (0, 34, 0)], gi_927, [.inl (8, [(6, 1, 0), (8, 4, 0), (8, 5, 0)]), ac_965], []), [((4, 6, 0), gi_928, hq_797, [], [1])])
theorem hd_1664 : con_1664.1 = (yX8_at, cX8_at, 3, (some .long)) := rfl
noncomputable def cu_1664 : List CUT2 := []
theorem ch_1664 : staG tb_X8_at 1 bt_RX8 [] ct_1497 [] [] cu_1664 11 con_1664 = true := by decide +kernel
theorem vl_1664 (l : Launch) : Vld2 l vwCl gTbl con_1664 := conR_ok3 gT_all (hd_1664) rfl pn_RX8 tk_X8_at bo_RX8 xo_RX8 (cto_1497 l) ch_1664 cut_nil
/-- RookHusting$Slots at -/
noncomputable def ac_966 : AC := .inr (2, jl_n [js_5 95 9223372036854775807 9223372036854775807, js_4 7 1, js_5 144 9223372036854775807 9223372036854775807])
noncomputable def hq_798 : HP := [(false, .inl (8, [(6, 1, 0), (8, 4, 0), (8, 5, 0)])), (false, ac_966)]
noncomputable def con_1665 : Con2 := ((yX8_at, cX8_at, 3, (some .long)), (0, 0), ([(6, 0, 0), (0, 1, 0), (0, 35, 0)], gi_927, [.inl (8, [(6, 1, 0), (8, 4, 0), (8, 5, 0)]), ac_966], []), [((4, 6, 0), gi_928, hq_798, [], [1])])
theorem hd_1665 : con_1665.1 = (yX8_at, cX8_at, 3, (some .long)) := rfl
noncomputable def cu_1665 : List CUT2 := []
theorem ch_1665 : staG tb_X8_at 1 bt_RX8 [] ct_1497 [] [] cu_1665 11 con_1665 = true := by decide +kernel
theorem vl_1665 (l : Launch) : Vld2 l vwCl gTbl con_1665 := conR_ok3 gT_all (hd_1665) rfl pn_RX8 tk_X8_at bo_RX8 xo_RX8 (cto_1497 l) ch_1665 cut_nil
/-- RookHusting$Slots at -/
noncomputable def ac_967 : AC := .inr (2, jl_n [js_5 96 9223372036854775807 9223372036854775807, js_4 7 1, js_5 143 9223372036854775807 9223372036854775807])
noncomputable def hq_799 : HP := [(false, .inl (8, [(6, 1, 0), (8, 4, 0), (8, 5, 0)])), (false, ac_967)]
noncomputable def con_1666 : Con2 := ((yX8_at, cX8_at, 3, (some .long)), (0, 0), ([(6, 0, 0), (0, 1, 0), (0, 36, 0)], gi_927, [.inl (8, [(6, 1, 0), (8, 4, 0), (8, 5, 0)]), ac_967], []), [((4, 6, 0), gi_928, hq_799, [], [1])])
theorem hd_1666 : con_1666.1 = (yX8_at, cX8_at, 3, (some .long)) := rfl
noncomputable def cu_1666 : List CUT2 := []
theorem ch_1666 : staG tb_X8_at 1 bt_RX8 [] ct_1497 [] [] cu_1666 11 con_1666 = true := by decide +kernel
theorem vl_1666 (l : Launch) : Vld2 l vwCl gTbl con_1666 := conR_ok3 gT_all (hd_1666) rfl pn_RX8 tk_X8_at bo_RX8 xo_RX8 (cto_1497 l) ch_1666 cut_nil
/-- RookHusting$Slots at -/
noncomputable def ac_968 : AC := .inr (2, jl_n [js_5 97 9223372036854775807 9223372036854775807, js_4 7 1, js_5 142 9223372036854775807 9223372036854775807])
noncomputable def hq_800 : HP := [(false, .inl (8, [(6, 1, 0), (8, 4, 0), (8, 5, 0)])), (false, ac_968)]
noncomputable def con_1667 : Con2 := ((yX8_at, cX8_at, 3, (some .long)), (0, 0), ([(6, 0, 0), (0, 1, 0), (0, 37, 0)], gi_927, [.inl (8, [(6, 1, 0), (8, 4, 0), (8, 5, 0)]), ac_968], []), [((4, 6, 0), gi_928, hq_800, [], [1])])
theorem hd_1667 : con_1667.1 = (yX8_at, cX8_at, 3, (some .long)) := rfl
noncomputable def cu_1667 : List CUT2 := []
theorem ch_1667 : staG tb_X8_at 1 bt_RX8 [] ct_1497 [] [] cu_1667 11 con_1667 = true := by decide +kernel
theorem vl_1667 (l : Launch) : Vld2 l vwCl gTbl con_1667 := conR_ok3 gT_all (hd_1667) rfl pn_RX8 tk_X8_at bo_RX8 xo_RX8 (cto_1497 l) ch_1667 cut_nil
/-- RookHusting$Slots at -/
noncomputable def ac_969 : AC := .inr (2, jl_n [js_5 98 9223372036854775807 9223372036854775807, js_4 7 1, js_5 141 9223372036854775807 9223372036854775807])
noncomputable def hq_801 : HP := [(false, .inl (8, [(6, 1, 0), (8, 4, 0), (8, 5, 0)])), (false, ac_969)]
noncomputable def con_1668 : Con2 := ((yX8_at, cX8_at, 3, (some .long)), (0, 0), ([(6, 0, 0), (0, 1, 0), (0, 38, 0)], gi_927, [.inl (8, [(6, 1, 0), (8, 4, 0), (8, 5, 0)]), ac_969], []), [((4, 6, 0), gi_928, hq_801, [], [1])])
theorem hd_1668 : con_1668.1 = (yX8_at, cX8_at, 3, (some .long)) := rfl
noncomputable def cu_1668 : List CUT2 := []
theorem ch_1668 : staG tb_X8_at 1 bt_RX8 [] ct_1497 [] [] cu_1668 11 con_1668 = true := by decide +kernel
theorem vl_1668 (l : Launch) : Vld2 l vwCl gTbl con_1668 := conR_ok3 gT_all (hd_1668) rfl pn_RX8 tk_X8_at bo_RX8 xo_RX8 (cto_1497 l) ch_1668 cut_nil
/-- RookHusting$Slots at -/
noncomputable def ac_970 : AC := .inr (2, jl_n [js_5 99 9223372036854775807 9223372036854775807, js_4 7 1, js_5 140 9223372036854775807 9223372036854775807])
noncomputable def hq_802 : HP := [(false, .inl (8, [(6, 1, 0), (8, 4, 0), (8, 5, 0)])), (false, ac_970)]
noncomputable def con_1669 : Con2 := ((yX8_at, cX8_at, 3, (some .long)), (0, 0), ([(6, 0, 0), (0, 1, 0), (0, 39, 0)], gi_927, [.inl (8, [(6, 1, 0), (8, 4, 0), (8, 5, 0)]), ac_970], []), [((4, 6, 0), gi_928, hq_802, [], [1])])
theorem hd_1669 : con_1669.1 = (yX8_at, cX8_at, 3, (some .long)) := rfl
noncomputable def cu_1669 : List CUT2 := []
theorem ch_1669 : staG tb_X8_at 1 bt_RX8 [] ct_1497 [] [] cu_1669 11 con_1669 = true := by decide +kernel
theorem vl_1669 (l : Launch) : Vld2 l vwCl gTbl con_1669 := conR_ok3 gT_all (hd_1669) rfl pn_RX8 tk_X8_at bo_RX8 xo_RX8 (cto_1497 l) ch_1669 cut_nil
/-- RookHusting$Slots at -/
noncomputable def ac_971 : AC := .inr (2, jl_n [js_5 100 9223372036854775807 9223372036854775807, js_4 7 1, js_5 139 9223372036854775807 9223372036854775807])
noncomputable def hq_803 : HP := [(false, .inl (8, [(6, 1, 0), (8, 4, 0), (8, 5, 0)])), (false, ac_971)]
noncomputable def con_1670 : Con2 := ((yX8_at, cX8_at, 3, (some .long)), (0, 0), ([(6, 0, 0), (0, 1, 0), (0, 40, 0)], gi_927, [.inl (8, [(6, 1, 0), (8, 4, 0), (8, 5, 0)]), ac_971], []), [((4, 6, 0), gi_928, hq_803, [], [1])])
theorem hd_1670 : con_1670.1 = (yX8_at, cX8_at, 3, (some .long)) := rfl
noncomputable def cu_1670 : List CUT2 := []
theorem ch_1670 : staG tb_X8_at 1 bt_RX8 [] ct_1497 [] [] cu_1670 11 con_1670 = true := by decide +kernel
theorem vl_1670 (l : Launch) : Vld2 l vwCl gTbl con_1670 := conR_ok3 gT_all (hd_1670) rfl pn_RX8 tk_X8_at bo_RX8 xo_RX8 (cto_1497 l) ch_1670 cut_nil
/-- RookHusting$Slots at -/
noncomputable def ac_972 : AC := .inr (2, jl_n [js_5 101 9223372036854775807 9223372036854775807, js_4 7 1, js_5 138 9223372036854775807 9223372036854775807])
noncomputable def hq_804 : HP := [(false, .inl (8, [(6, 1, 0), (8, 4, 0), (8, 5, 0)])), (false, ac_972)]
noncomputable def con_1671 : Con2 := ((yX8_at, cX8_at, 3, (some .long)), (0, 0), ([(6, 0, 0), (0, 1, 0), (0, 41, 0)], gi_927, [.inl (8, [(6, 1, 0), (8, 4, 0), (8, 5, 0)]), ac_972], []), [((4, 6, 0), gi_928, hq_804, [], [1])])
theorem hd_1671 : con_1671.1 = (yX8_at, cX8_at, 3, (some .long)) := rfl
noncomputable def cu_1671 : List CUT2 := []
theorem ch_1671 : staG tb_X8_at 1 bt_RX8 [] ct_1497 [] [] cu_1671 11 con_1671 = true := by decide +kernel
theorem vl_1671 (l : Launch) : Vld2 l vwCl gTbl con_1671 := conR_ok3 gT_all (hd_1671) rfl pn_RX8 tk_X8_at bo_RX8 xo_RX8 (cto_1497 l) ch_1671 cut_nil
/-- RookHusting$Slots at -/
noncomputable def ac_973 : AC := .inr (2, jl_n [js_5 102 9223372036854775807 9223372036854775807, js_4 7 1, js_5 137 9223372036854775807 9223372036854775807])
noncomputable def hq_805 : HP := [(false, .inl (8, [(6, 1, 0), (8, 4, 0), (8, 5, 0)])), (false, ac_973)]
noncomputable def con_1672 : Con2 := ((yX8_at, cX8_at, 3, (some .long)), (0, 0), ([(6, 0, 0), (0, 1, 0), (0, 42, 0)], gi_927, [.inl (8, [(6, 1, 0), (8, 4, 0), (8, 5, 0)]), ac_973], []), [((4, 6, 0), gi_928, hq_805, [], [1])])
theorem hd_1672 : con_1672.1 = (yX8_at, cX8_at, 3, (some .long)) := rfl
noncomputable def cu_1672 : List CUT2 := []
theorem ch_1672 : staG tb_X8_at 1 bt_RX8 [] ct_1497 [] [] cu_1672 11 con_1672 = true := by decide +kernel
theorem vl_1672 (l : Launch) : Vld2 l vwCl gTbl con_1672 := conR_ok3 gT_all (hd_1672) rfl pn_RX8 tk_X8_at bo_RX8 xo_RX8 (cto_1497 l) ch_1672 cut_nil
/-- RookHusting$Slots at -/
noncomputable def ac_974 : AC := .inr (2, jl_n [js_5 103 9223372036854775807 9223372036854775807, js_4 7 1, js_5 136 9223372036854775807 9223372036854775807])
noncomputable def hq_806 : HP := [(false, .inl (8, [(6, 1, 0), (8, 4, 0), (8, 5, 0)])), (false, ac_974)]
noncomputable def con_1673 : Con2 := ((yX8_at, cX8_at, 3, (some .long)), (0, 0), ([(6, 0, 0), (0, 1, 0), (0, 43, 0)], gi_927, [.inl (8, [(6, 1, 0), (8, 4, 0), (8, 5, 0)]), ac_974], []), [((4, 6, 0), gi_928, hq_806, [], [1])])
theorem hd_1673 : con_1673.1 = (yX8_at, cX8_at, 3, (some .long)) := rfl
noncomputable def cu_1673 : List CUT2 := []
theorem ch_1673 : staG tb_X8_at 1 bt_RX8 [] ct_1497 [] [] cu_1673 11 con_1673 = true := by decide +kernel
theorem vl_1673 (l : Launch) : Vld2 l vwCl gTbl con_1673 := conR_ok3 gT_all (hd_1673) rfl pn_RX8 tk_X8_at bo_RX8 xo_RX8 (cto_1497 l) ch_1673 cut_nil
/-- RookHusting$Slots at -/
noncomputable def ac_975 : AC := .inr (2, jl_n [js_5 104 9223372036854775807 9223372036854775807, js_4 7 1, js_5 135 9223372036854775807 9223372036854775807])
noncomputable def hq_807 : HP := [(false, .inl (8, [(6, 1, 0), (8, 4, 0), (8, 5, 0)])), (false, ac_975)]
noncomputable def con_1674 : Con2 := ((yX8_at, cX8_at, 3, (some .long)), (0, 0), ([(6, 0, 0), (0, 1, 0), (0, 44, 0)], gi_927, [.inl (8, [(6, 1, 0), (8, 4, 0), (8, 5, 0)]), ac_975], []), [((4, 6, 0), gi_928, hq_807, [], [1])])
theorem hd_1674 : con_1674.1 = (yX8_at, cX8_at, 3, (some .long)) := rfl
noncomputable def cu_1674 : List CUT2 := []
theorem ch_1674 : staG tb_X8_at 1 bt_RX8 [] ct_1497 [] [] cu_1674 11 con_1674 = true := by decide +kernel
theorem vl_1674 (l : Launch) : Vld2 l vwCl gTbl con_1674 := conR_ok3 gT_all (hd_1674) rfl pn_RX8 tk_X8_at bo_RX8 xo_RX8 (cto_1497 l) ch_1674 cut_nil
/-- RookHusting$Slots at -/
noncomputable def ac_976 : AC := .inr (2, jl_n [js_5 105 9223372036854775807 9223372036854775807, js_4 7 1, js_5 134 9223372036854775807 9223372036854775807])
noncomputable def hq_808 : HP := [(false, .inl (8, [(6, 1, 0), (8, 4, 0), (8, 5, 0)])), (false, ac_976)]
noncomputable def con_1675 : Con2 := ((yX8_at, cX8_at, 3, (some .long)), (0, 0), ([(6, 0, 0), (0, 1, 0), (0, 45, 0)], gi_927, [.inl (8, [(6, 1, 0), (8, 4, 0), (8, 5, 0)]), ac_976], []), [((4, 6, 0), gi_928, hq_808, [], [1])])
theorem hd_1675 : con_1675.1 = (yX8_at, cX8_at, 3, (some .long)) := rfl
noncomputable def cu_1675 : List CUT2 := []
theorem ch_1675 : staG tb_X8_at 1 bt_RX8 [] ct_1497 [] [] cu_1675 11 con_1675 = true := by decide +kernel
theorem vl_1675 (l : Launch) : Vld2 l vwCl gTbl con_1675 := conR_ok3 gT_all (hd_1675) rfl pn_RX8 tk_X8_at bo_RX8 xo_RX8 (cto_1497 l) ch_1675 cut_nil
/-- RookHusting$Slots at -/
noncomputable def ac_977 : AC := .inr (2, jl_n [js_5 106 9223372036854775807 9223372036854775807, js_4 7 1, js_5 133 9223372036854775807 9223372036854775807])
noncomputable def hq_809 : HP := [(false, .inl (8, [(6, 1, 0), (8, 4, 0), (8, 5, 0)])), (false, ac_977)]
noncomputable def con_1676 : Con2 := ((yX8_at, cX8_at, 3, (some .long)), (0, 0), ([(6, 0, 0), (0, 1, 0), (0, 46, 0)], gi_927, [.inl (8, [(6, 1, 0), (8, 4, 0), (8, 5, 0)]), ac_977], []), [((4, 6, 0), gi_928, hq_809, [], [1])])
theorem hd_1676 : con_1676.1 = (yX8_at, cX8_at, 3, (some .long)) := rfl
noncomputable def cu_1676 : List CUT2 := []
theorem ch_1676 : staG tb_X8_at 1 bt_RX8 [] ct_1497 [] [] cu_1676 11 con_1676 = true := by decide +kernel
theorem vl_1676 (l : Launch) : Vld2 l vwCl gTbl con_1676 := conR_ok3 gT_all (hd_1676) rfl pn_RX8 tk_X8_at bo_RX8 xo_RX8 (cto_1497 l) ch_1676 cut_nil
/-- RookHusting$Slots at -/
noncomputable def ac_978 : AC := .inr (2, jl_n [js_5 107 9223372036854775807 9223372036854775807, js_4 7 1, js_5 132 9223372036854775807 9223372036854775807])
noncomputable def hq_810 : HP := [(false, .inl (8, [(6, 1, 0), (8, 4, 0), (8, 5, 0)])), (false, ac_978)]
noncomputable def con_1677 : Con2 := ((yX8_at, cX8_at, 3, (some .long)), (0, 0), ([(6, 0, 0), (0, 1, 0), (0, 47, 0)], gi_927, [.inl (8, [(6, 1, 0), (8, 4, 0), (8, 5, 0)]), ac_978], []), [((4, 6, 0), gi_928, hq_810, [], [1])])
theorem hd_1677 : con_1677.1 = (yX8_at, cX8_at, 3, (some .long)) := rfl
noncomputable def cu_1677 : List CUT2 := []
theorem ch_1677 : staG tb_X8_at 1 bt_RX8 [] ct_1497 [] [] cu_1677 11 con_1677 = true := by decide +kernel
theorem vl_1677 (l : Launch) : Vld2 l vwCl gTbl con_1677 := conR_ok3 gT_all (hd_1677) rfl pn_RX8 tk_X8_at bo_RX8 xo_RX8 (cto_1497 l) ch_1677 cut_nil
/-- RookHusting$Slots at -/
noncomputable def ac_979 : AC := .inr (2, jl_n [js_5 108 9223372036854775807 9223372036854775807, js_4 7 1, js_5 131 9223372036854775807 9223372036854775807])
noncomputable def hq_811 : HP := [(false, .inl (8, [(6, 1, 0), (8, 4, 0), (8, 5, 0)])), (false, ac_979)]
noncomputable def con_1678 : Con2 := ((yX8_at, cX8_at, 3, (some .long)), (0, 0), ([(6, 0, 0), (0, 1, 0), (0, 48, 0)], gi_927, [.inl (8, [(6, 1, 0), (8, 4, 0), (8, 5, 0)]), ac_979], []), [((4, 6, 0), gi_928, hq_811, [], [1])])
theorem hd_1678 : con_1678.1 = (yX8_at, cX8_at, 3, (some .long)) := rfl
noncomputable def cu_1678 : List CUT2 := []
theorem ch_1678 : staG tb_X8_at 1 bt_RX8 [] ct_1497 [] [] cu_1678 11 con_1678 = true := by decide +kernel
theorem vl_1678 (l : Launch) : Vld2 l vwCl gTbl con_1678 := conR_ok3 gT_all (hd_1678) rfl pn_RX8 tk_X8_at bo_RX8 xo_RX8 (cto_1497 l) ch_1678 cut_nil
/-- RookHusting$Slots at -/
noncomputable def ac_980 : AC := .inr (2, jl_n [js_5 109 9223372036854775807 9223372036854775807, js_4 7 1, js_5 130 9223372036854775807 9223372036854775807])
noncomputable def hq_812 : HP := [(false, .inl (8, [(6, 1, 0), (8, 4, 0), (8, 5, 0)])), (false, ac_980)]
noncomputable def con_1679 : Con2 := ((yX8_at, cX8_at, 3, (some .long)), (0, 0), ([(6, 0, 0), (0, 1, 0), (0, 49, 0)], gi_927, [.inl (8, [(6, 1, 0), (8, 4, 0), (8, 5, 0)]), ac_980], []), [((4, 6, 0), gi_928, hq_812, [], [1])])
theorem hd_1679 : con_1679.1 = (yX8_at, cX8_at, 3, (some .long)) := rfl
noncomputable def cu_1679 : List CUT2 := []
theorem ch_1679 : staG tb_X8_at 1 bt_RX8 [] ct_1497 [] [] cu_1679 11 con_1679 = true := by decide +kernel
theorem vl_1679 (l : Launch) : Vld2 l vwCl gTbl con_1679 := conR_ok3 gT_all (hd_1679) rfl pn_RX8 tk_X8_at bo_RX8 xo_RX8 (cto_1497 l) ch_1679 cut_nil
/-- RookHusting$Slots at -/
noncomputable def ac_981 : AC := .inr (2, jl_n [js_5 110 9223372036854775807 9223372036854775807, js_4 7 1, js_5 129 9223372036854775807 9223372036854775807])
noncomputable def hq_813 : HP := [(false, .inl (8, [(6, 1, 0), (8, 4, 0), (8, 5, 0)])), (false, ac_981)]
noncomputable def con_1680 : Con2 := ((yX8_at, cX8_at, 3, (some .long)), (0, 0), ([(6, 0, 0), (0, 1, 0), (0, 50, 0)], gi_927, [.inl (8, [(6, 1, 0), (8, 4, 0), (8, 5, 0)]), ac_981], []), [((4, 6, 0), gi_928, hq_813, [], [1])])
theorem hd_1680 : con_1680.1 = (yX8_at, cX8_at, 3, (some .long)) := rfl
noncomputable def cu_1680 : List CUT2 := []
theorem ch_1680 : staG tb_X8_at 1 bt_RX8 [] ct_1497 [] [] cu_1680 11 con_1680 = true := by decide +kernel
theorem vl_1680 (l : Launch) : Vld2 l vwCl gTbl con_1680 := conR_ok3 gT_all (hd_1680) rfl pn_RX8 tk_X8_at bo_RX8 xo_RX8 (cto_1497 l) ch_1680 cut_nil
/-- RookHusting$Slots at -/
noncomputable def ac_982 : AC := .inr (2, jl_n [js_5 111 9223372036854775807 9223372036854775807, js_4 7 1, js_5 128 9223372036854775807 9223372036854775807])
noncomputable def hq_814 : HP := [(false, .inl (8, [(6, 1, 0), (8, 4, 0), (8, 5, 0)])), (false, ac_982)]
noncomputable def con_1681 : Con2 := ((yX8_at, cX8_at, 3, (some .long)), (0, 0), ([(6, 0, 0), (0, 1, 0), (0, 51, 0)], gi_927, [.inl (8, [(6, 1, 0), (8, 4, 0), (8, 5, 0)]), ac_982], []), [((4, 6, 0), gi_928, hq_814, [], [1])])
theorem hd_1681 : con_1681.1 = (yX8_at, cX8_at, 3, (some .long)) := rfl
noncomputable def cu_1681 : List CUT2 := []
theorem ch_1681 : staG tb_X8_at 1 bt_RX8 [] ct_1497 [] [] cu_1681 11 con_1681 = true := by decide +kernel
theorem vl_1681 (l : Launch) : Vld2 l vwCl gTbl con_1681 := conR_ok3 gT_all (hd_1681) rfl pn_RX8 tk_X8_at bo_RX8 xo_RX8 (cto_1497 l) ch_1681 cut_nil
