/-! ===== contracts, 46 ===== -/
/-- RookHustingModel isSlot -/
noncomputable def con_2082 : Con2 := ((yX12_isSlot, cX12_isSlot, 1, (some .boolean)), (1, 25), ([(0, 2, 0)], [(0, 0)], [], []), [((0, 1, 0), [(0, 0), (0, 0)], [], [], [1])])
theorem hd_2082 : con_2082.1 = (yX12_isSlot, cX12_isSlot, 1, (some .boolean)) := rfl
noncomputable def cu_2082 : List CUT2 := []
theorem ch_2082 : staG tb_X12_isSlot 1 bt_RX12 [] ct_1927 [] [] cu_2082 8 con_2082 = true := by decide +kernel
theorem vl_2082 (l : Launch) : Vld2 l vwCl gTbl con_2082 := conR_ok3 gT_all (hd_2082) rfl pn_RX12 tk_X12_isSlot bo_RX12 xo_RX12 (cto_1927 l) ch_2082 cut_nil
/-- RookHustingModel numberAt -/
noncomputable def ac_1169 : AC := .inr (2, jl_n [js_5 120 9223372036854775807 9223372036854775807, js_4 49 1, js_5 119 9223372036854775807 9223372036854775807])
noncomputable def con_2083 : Con2 := ((yX12_numberAt, cX12_numberAt, 3, (some .long)), (0, 0), ([(6, 0, 0), (0, 2, 0), (0, 0, 0)], gi_1801, [ac_1100, ac_1169], []), [((4, 48, 0), gi_1802, [(false, ac_1100), (false, ac_1169)], [], [1])])
theorem hd_2083 : con_2083.1 = (yX12_numberAt, cX12_numberAt, 3, (some .long)) := rfl
noncomputable def cu_2083 : List CUT2 := []
theorem ch_2083 : staG tb_X12_numberAt 1 bt_RX12 [] ct_2 [] [] cu_2083 11 con_2083 = true := by decide +kernel
theorem vl_2083 (l : Launch) : Vld2 l vwCl gTbl con_2083 := conR_ok3 gT_all (hd_2083) rfl pn_RX12 tk_X12_numberAt bo_RX12 xo_RX12 (cto_2 l) ch_2083 cut_nil
/-- RookHustingModel numberAt -/
noncomputable def ac_1170 : AC := .inr (2, jl_n [js_5 121 9223372036854775807 9223372036854775807, js_4 49 1, js_5 118 9223372036854775807 9223372036854775807])
noncomputable def con_2084 : Con2 := ((yX12_numberAt, cX12_numberAt, 3, (some .long)), (0, 0), ([(6, 0, 0), (0, 2, 0), (0, 1, 0)], gi_1801, [ac_1100, ac_1170], []), [((4, 48, 0), gi_1802, [(false, ac_1100), (false, ac_1170)], [], [1])])
theorem hd_2084 : con_2084.1 = (yX12_numberAt, cX12_numberAt, 3, (some .long)) := rfl
noncomputable def cu_2084 : List CUT2 := []
theorem ch_2084 : staG tb_X12_numberAt 1 bt_RX12 [] ct_2 [] [] cu_2084 11 con_2084 = true := by decide +kernel
theorem vl_2084 (l : Launch) : Vld2 l vwCl gTbl con_2084 := conR_ok3 gT_all (hd_2084) rfl pn_RX12 tk_X12_numberAt bo_RX12 xo_RX12 (cto_2 l) ch_2084 cut_nil
/-- RookHustingModel numberAt -/
noncomputable def ac_1171 : AC := .inr (2, jl_n [js_5 122 9223372036854775807 9223372036854775807, js_4 49 1, js_5 117 9223372036854775807 9223372036854775807])
noncomputable def con_2085 : Con2 := ((yX12_numberAt, cX12_numberAt, 3, (some .long)), (0, 0), ([(6, 0, 0), (0, 2, 0), (0, 2, 0)], gi_1801, [ac_1100, ac_1171], []), [((4, 48, 0), gi_1802, [(false, ac_1100), (false, ac_1171)], [], [1])])
theorem hd_2085 : con_2085.1 = (yX12_numberAt, cX12_numberAt, 3, (some .long)) := rfl
noncomputable def cu_2085 : List CUT2 := []
theorem ch_2085 : staG tb_X12_numberAt 1 bt_RX12 [] ct_2 [] [] cu_2085 11 con_2085 = true := by decide +kernel
theorem vl_2085 (l : Launch) : Vld2 l vwCl gTbl con_2085 := conR_ok3 gT_all (hd_2085) rfl pn_RX12 tk_X12_numberAt bo_RX12 xo_RX12 (cto_2 l) ch_2085 cut_nil
/-- RookHustingModel numberAt -/
noncomputable def ac_1172 : AC := .inr (2, jl_n [js_5 123 9223372036854775807 9223372036854775807, js_4 49 1, js_5 116 9223372036854775807 9223372036854775807])
noncomputable def con_2086 : Con2 := ((yX12_numberAt, cX12_numberAt, 3, (some .long)), (0, 0), ([(6, 0, 0), (0, 2, 0), (0, 3, 0)], gi_1801, [ac_1100, ac_1172], []), [((4, 48, 0), gi_1802, [(false, ac_1100), (false, ac_1172)], [], [1])])
theorem hd_2086 : con_2086.1 = (yX12_numberAt, cX12_numberAt, 3, (some .long)) := rfl
noncomputable def cu_2086 : List CUT2 := []
theorem ch_2086 : staG tb_X12_numberAt 1 bt_RX12 [] ct_2 [] [] cu_2086 11 con_2086 = true := by decide +kernel
theorem vl_2086 (l : Launch) : Vld2 l vwCl gTbl con_2086 := conR_ok3 gT_all (hd_2086) rfl pn_RX12 tk_X12_numberAt bo_RX12 xo_RX12 (cto_2 l) ch_2086 cut_nil
/-- RookHustingModel numberAt -/
noncomputable def ac_1173 : AC := .inr (2, jl_n [js_5 124 9223372036854775807 9223372036854775807, js_4 49 1, js_5 115 9223372036854775807 9223372036854775807])
noncomputable def con_2087 : Con2 := ((yX12_numberAt, cX12_numberAt, 3, (some .long)), (0, 0), ([(6, 0, 0), (0, 2, 0), (0, 4, 0)], gi_1801, [ac_1100, ac_1173], []), [((4, 48, 0), gi_1802, [(false, ac_1100), (false, ac_1173)], [], [1])])
theorem hd_2087 : con_2087.1 = (yX12_numberAt, cX12_numberAt, 3, (some .long)) := rfl
noncomputable def cu_2087 : List CUT2 := []
theorem ch_2087 : staG tb_X12_numberAt 1 bt_RX12 [] ct_2 [] [] cu_2087 11 con_2087 = true := by decide +kernel
theorem vl_2087 (l : Launch) : Vld2 l vwCl gTbl con_2087 := conR_ok3 gT_all (hd_2087) rfl pn_RX12 tk_X12_numberAt bo_RX12 xo_RX12 (cto_2 l) ch_2087 cut_nil
/-- RookHustingModel numberAt -/
noncomputable def ac_1174 : AC := .inr (2, jl_n [js_5 125 9223372036854775807 9223372036854775807, js_4 49 1, js_5 114 9223372036854775807 9223372036854775807])
noncomputable def con_2088 : Con2 := ((yX12_numberAt, cX12_numberAt, 3, (some .long)), (0, 0), ([(6, 0, 0), (0, 2, 0), (0, 5, 0)], gi_1801, [ac_1100, ac_1174], []), [((4, 48, 0), gi_1802, [(false, ac_1100), (false, ac_1174)], [], [1])])
theorem hd_2088 : con_2088.1 = (yX12_numberAt, cX12_numberAt, 3, (some .long)) := rfl
noncomputable def cu_2088 : List CUT2 := []
theorem ch_2088 : staG tb_X12_numberAt 1 bt_RX12 [] ct_2 [] [] cu_2088 11 con_2088 = true := by decide +kernel
theorem vl_2088 (l : Launch) : Vld2 l vwCl gTbl con_2088 := conR_ok3 gT_all (hd_2088) rfl pn_RX12 tk_X12_numberAt bo_RX12 xo_RX12 (cto_2 l) ch_2088 cut_nil
/-- RookHustingModel numberAt -/
noncomputable def ac_1175 : AC := .inr (2, jl_n [js_5 126 9223372036854775807 9223372036854775807, js_4 49 1, js_5 113 9223372036854775807 9223372036854775807])
noncomputable def con_2089 : Con2 := ((yX12_numberAt, cX12_numberAt, 3, (some .long)), (0, 0), ([(6, 0, 0), (0, 2, 0), (0, 6, 0)], gi_1801, [ac_1100, ac_1175], []), [((4, 48, 0), gi_1802, [(false, ac_1100), (false, ac_1175)], [], [1])])
theorem hd_2089 : con_2089.1 = (yX12_numberAt, cX12_numberAt, 3, (some .long)) := rfl
noncomputable def cu_2089 : List CUT2 := []
theorem ch_2089 : staG tb_X12_numberAt 1 bt_RX12 [] ct_2 [] [] cu_2089 11 con_2089 = true := by decide +kernel
theorem vl_2089 (l : Launch) : Vld2 l vwCl gTbl con_2089 := conR_ok3 gT_all (hd_2089) rfl pn_RX12 tk_X12_numberAt bo_RX12 xo_RX12 (cto_2 l) ch_2089 cut_nil
/-- RookHustingModel numberAt -/
noncomputable def ac_1176 : AC := .inr (2, jl_n [js_5 127 9223372036854775807 9223372036854775807, js_4 49 1, js_5 112 9223372036854775807 9223372036854775807])
noncomputable def con_2090 : Con2 := ((yX12_numberAt, cX12_numberAt, 3, (some .long)), (0, 0), ([(6, 0, 0), (0, 2, 0), (0, 7, 0)], gi_1801, [ac_1100, ac_1176], []), [((4, 48, 0), gi_1802, [(false, ac_1100), (false, ac_1176)], [], [1])])
theorem hd_2090 : con_2090.1 = (yX12_numberAt, cX12_numberAt, 3, (some .long)) := rfl
noncomputable def cu_2090 : List CUT2 := []
theorem ch_2090 : staG tb_X12_numberAt 1 bt_RX12 [] ct_2 [] [] cu_2090 11 con_2090 = true := by decide +kernel
theorem vl_2090 (l : Launch) : Vld2 l vwCl gTbl con_2090 := conR_ok3 gT_all (hd_2090) rfl pn_RX12 tk_X12_numberAt bo_RX12 xo_RX12 (cto_2 l) ch_2090 cut_nil
/-- RookHustingModel numberAt -/
noncomputable def ac_1177 : AC := .inr (2, jl_n [js_5 128 9223372036854775807 9223372036854775807, js_4 49 1, js_5 111 9223372036854775807 9223372036854775807])
noncomputable def con_2091 : Con2 := ((yX12_numberAt, cX12_numberAt, 3, (some .long)), (0, 0), ([(6, 0, 0), (0, 2, 0), (0, 8, 0)], gi_1801, [ac_1100, ac_1177], []), [((4, 48, 0), gi_1802, [(false, ac_1100), (false, ac_1177)], [], [1])])
theorem hd_2091 : con_2091.1 = (yX12_numberAt, cX12_numberAt, 3, (some .long)) := rfl
noncomputable def cu_2091 : List CUT2 := []
theorem ch_2091 : staG tb_X12_numberAt 1 bt_RX12 [] ct_2 [] [] cu_2091 11 con_2091 = true := by decide +kernel
theorem vl_2091 (l : Launch) : Vld2 l vwCl gTbl con_2091 := conR_ok3 gT_all (hd_2091) rfl pn_RX12 tk_X12_numberAt bo_RX12 xo_RX12 (cto_2 l) ch_2091 cut_nil
/-- RookHustingModel numberAt -/
noncomputable def ac_1178 : AC := .inr (2, jl_n [js_5 129 9223372036854775807 9223372036854775807, js_4 49 1, js_5 110 9223372036854775807 9223372036854775807])
noncomputable def con_2092 : Con2 := ((yX12_numberAt, cX12_numberAt, 3, (some .long)), (0, 0), ([(6, 0, 0), (0, 2, 0), (0, 9, 0)], gi_1801, [ac_1100, ac_1178], []), [((4, 48, 0), gi_1802, [(false, ac_1100), (false, ac_1178)], [], [1])])
theorem hd_2092 : con_2092.1 = (yX12_numberAt, cX12_numberAt, 3, (some .long)) := rfl
noncomputable def cu_2092 : List CUT2 := []
theorem ch_2092 : staG tb_X12_numberAt 1 bt_RX12 [] ct_2 [] [] cu_2092 11 con_2092 = true := by decide +kernel
theorem vl_2092 (l : Launch) : Vld2 l vwCl gTbl con_2092 := conR_ok3 gT_all (hd_2092) rfl pn_RX12 tk_X12_numberAt bo_RX12 xo_RX12 (cto_2 l) ch_2092 cut_nil
/-- RookHustingModel numberAt -/
noncomputable def ac_1179 : AC := .inr (2, jl_n [js_5 130 9223372036854775807 9223372036854775807, js_4 49 1, js_5 109 9223372036854775807 9223372036854775807])
noncomputable def con_2093 : Con2 := ((yX12_numberAt, cX12_numberAt, 3, (some .long)), (0, 0), ([(6, 0, 0), (0, 2, 0), (0, 10, 0)], gi_1801, [ac_1100, ac_1179], []), [((4, 48, 0), gi_1802, [(false, ac_1100), (false, ac_1179)], [], [1])])
theorem hd_2093 : con_2093.1 = (yX12_numberAt, cX12_numberAt, 3, (some .long)) := rfl
noncomputable def cu_2093 : List CUT2 := []
theorem ch_2093 : staG tb_X12_numberAt 1 bt_RX12 [] ct_2 [] [] cu_2093 11 con_2093 = true := by decide +kernel
theorem vl_2093 (l : Launch) : Vld2 l vwCl gTbl con_2093 := conR_ok3 gT_all (hd_2093) rfl pn_RX12 tk_X12_numberAt bo_RX12 xo_RX12 (cto_2 l) ch_2093 cut_nil
/-- RookHustingModel numberAt -/
noncomputable def ac_1180 : AC := .inr (2, jl_n [js_5 131 9223372036854775807 9223372036854775807, js_4 49 1, js_5 108 9223372036854775807 9223372036854775807])
noncomputable def con_2094 : Con2 := ((yX12_numberAt, cX12_numberAt, 3, (some .long)), (0, 0), ([(6, 0, 0), (0, 2, 0), (0, 11, 0)], gi_1801, [ac_1100, ac_1180], []), [((4, 48, 0), gi_1802, [(false, ac_1100), (false, ac_1180)], [], [1])])
theorem hd_2094 : con_2094.1 = (yX12_numberAt, cX12_numberAt, 3, (some .long)) := rfl
noncomputable def cu_2094 : List CUT2 := []
theorem ch_2094 : staG tb_X12_numberAt 1 bt_RX12 [] ct_2 [] [] cu_2094 11 con_2094 = true := by decide +kernel
theorem vl_2094 (l : Launch) : Vld2 l vwCl gTbl con_2094 := conR_ok3 gT_all (hd_2094) rfl pn_RX12 tk_X12_numberAt bo_RX12 xo_RX12 (cto_2 l) ch_2094 cut_nil
/-- RookHustingModel numberAt -/
noncomputable def ac_1181 : AC := .inr (2, jl_n [js_5 132 9223372036854775807 9223372036854775807, js_4 49 1, js_5 107 9223372036854775807 9223372036854775807])
noncomputable def con_2095 : Con2 := ((yX12_numberAt, cX12_numberAt, 3, (some .long)), (0, 0), ([(6, 0, 0), (0, 2, 0), (0, 12, 0)], gi_1801, [ac_1100, ac_1181], []), [((4, 48, 0), gi_1802, [(false, ac_1100), (false, ac_1181)], [], [1])])
theorem hd_2095 : con_2095.1 = (yX12_numberAt, cX12_numberAt, 3, (some .long)) := rfl
noncomputable def cu_2095 : List CUT2 := []
theorem ch_2095 : staG tb_X12_numberAt 1 bt_RX12 [] ct_2 [] [] cu_2095 11 con_2095 = true := by decide +kernel
theorem vl_2095 (l : Launch) : Vld2 l vwCl gTbl con_2095 := conR_ok3 gT_all (hd_2095) rfl pn_RX12 tk_X12_numberAt bo_RX12 xo_RX12 (cto_2 l) ch_2095 cut_nil
/-- RookHustingModel numberAt -/
noncomputable def ac_1182 : AC := .inr (2, jl_n [js_5 133 9223372036854775807 9223372036854775807, js_4 49 1, js_5 106 9223372036854775807 9223372036854775807])
noncomputable def con_2096 : Con2 := ((yX12_numberAt, cX12_numberAt, 3, (some .long)), (0, 0), ([(6, 0, 0), (0, 2, 0), (0, 13, 0)], gi_1801, [ac_1100, ac_1182], []), [((4, 48, 0), gi_1802, [(false, ac_1100), (false, ac_1182)], [], [1])])
theorem hd_2096 : con_2096.1 = (yX12_numberAt, cX12_numberAt, 3, (some .long)) := rfl
noncomputable def cu_2096 : List CUT2 := []
theorem ch_2096 : staG tb_X12_numberAt 1 bt_RX12 [] ct_2 [] [] cu_2096 11 con_2096 = true := by decide +kernel
theorem vl_2096 (l : Launch) : Vld2 l vwCl gTbl con_2096 := conR_ok3 gT_all (hd_2096) rfl pn_RX12 tk_X12_numberAt bo_RX12 xo_RX12 (cto_2 l) ch_2096 cut_nil
/-- RookHustingModel numberAt -/
noncomputable def ac_1183 : AC := .inr (2, jl_n [js_5 134 9223372036854775807 9223372036854775807, js_4 49 1, js_5 105 9223372036854775807 9223372036854775807])
noncomputable def con_2097 : Con2 := ((yX12_numberAt, cX12_numberAt, 3, (some .long)), (0, 0), ([(6, 0, 0), (0, 2, 0), (0, 14, 0)], gi_1801, [ac_1100, ac_1183], []), [((4, 48, 0), gi_1802, [(false, ac_1100), (false, ac_1183)], [], [1])])
theorem hd_2097 : con_2097.1 = (yX12_numberAt, cX12_numberAt, 3, (some .long)) := rfl
noncomputable def cu_2097 : List CUT2 := []
theorem ch_2097 : staG tb_X12_numberAt 1 bt_RX12 [] ct_2 [] [] cu_2097 11 con_2097 = true := by decide +kernel
theorem vl_2097 (l : Launch) : Vld2 l vwCl gTbl con_2097 := conR_ok3 gT_all (hd_2097) rfl pn_RX12 tk_X12_numberAt bo_RX12 xo_RX12 (cto_2 l) ch_2097 cut_nil
/-- RookHustingModel numberAt -/
noncomputable def ac_1184 : AC := .inr (2, jl_n [js_5 135 9223372036854775807 9223372036854775807, js_4 49 1, js_5 104 9223372036854775807 9223372036854775807])
noncomputable def con_2098 : Con2 := ((yX12_numberAt, cX12_numberAt, 3, (some .long)), (0, 0), ([(6, 0, 0), (0, 2, 0), (0, 15, 0)], gi_1801, [ac_1100, ac_1184], []), [((4, 48, 0), gi_1802, [(false, ac_1100), (false, ac_1184)], [], [1])])
theorem hd_2098 : con_2098.1 = (yX12_numberAt, cX12_numberAt, 3, (some .long)) := rfl
noncomputable def cu_2098 : List CUT2 := []
theorem ch_2098 : staG tb_X12_numberAt 1 bt_RX12 [] ct_2 [] [] cu_2098 11 con_2098 = true := by decide +kernel
theorem vl_2098 (l : Launch) : Vld2 l vwCl gTbl con_2098 := conR_ok3 gT_all (hd_2098) rfl pn_RX12 tk_X12_numberAt bo_RX12 xo_RX12 (cto_2 l) ch_2098 cut_nil
/-- RookHustingModel numberAt -/
noncomputable def ac_1185 : AC := .inr (2, jl_n [js_5 136 9223372036854775807 9223372036854775807, js_4 49 1, js_5 103 9223372036854775807 9223372036854775807])
noncomputable def con_2099 : Con2 := ((yX12_numberAt, cX12_numberAt, 3, (some .long)), (0, 0), ([(6, 0, 0), (0, 2, 0), (0, 16, 0)], gi_1801, [ac_1100, ac_1185], []), [((4, 48, 0), gi_1802, [(false, ac_1100), (false, ac_1185)], [], [1])])
theorem hd_2099 : con_2099.1 = (yX12_numberAt, cX12_numberAt, 3, (some .long)) := rfl
noncomputable def cu_2099 : List CUT2 := []
theorem ch_2099 : staG tb_X12_numberAt 1 bt_RX12 [] ct_2 [] [] cu_2099 11 con_2099 = true := by decide +kernel
theorem vl_2099 (l : Launch) : Vld2 l vwCl gTbl con_2099 := conR_ok3 gT_all (hd_2099) rfl pn_RX12 tk_X12_numberAt bo_RX12 xo_RX12 (cto_2 l) ch_2099 cut_nil
/-- RookHustingModel numberAt -/
noncomputable def ac_1186 : AC := .inr (2, jl_n [js_5 137 9223372036854775807 9223372036854775807, js_4 49 1, js_5 102 9223372036854775807 9223372036854775807])
noncomputable def con_2100 : Con2 := ((yX12_numberAt, cX12_numberAt, 3, (some .long)), (0, 0), ([(6, 0, 0), (0, 2, 0), (0, 17, 0)], gi_1801, [ac_1100, ac_1186], []), [((4, 48, 0), gi_1802, [(false, ac_1100), (false, ac_1186)], [], [1])])
theorem hd_2100 : con_2100.1 = (yX12_numberAt, cX12_numberAt, 3, (some .long)) := rfl
noncomputable def cu_2100 : List CUT2 := []
theorem ch_2100 : staG tb_X12_numberAt 1 bt_RX12 [] ct_2 [] [] cu_2100 11 con_2100 = true := by decide +kernel
theorem vl_2100 (l : Launch) : Vld2 l vwCl gTbl con_2100 := conR_ok3 gT_all (hd_2100) rfl pn_RX12 tk_X12_numberAt bo_RX12 xo_RX12 (cto_2 l) ch_2100 cut_nil
/-- RookHustingModel numberAt -/
noncomputable def ac_1187 : AC := .inr (2, jl_n [js_5 138 9223372036854775807 9223372036854775807, js_4 49 1, js_5 101 9223372036854775807 9223372036854775807])
noncomputable def con_2101 : Con2 := ((yX12_numberAt, cX12_numberAt, 3, (some .long)), (0, 0), ([(6, 0, 0), (0, 2, 0), (0, 18, 0)], gi_1801, [ac_1100, ac_1187], []), [((4, 48, 0), gi_1802, [(false, ac_1100), (false, ac_1187)], [], [1])])
theorem hd_2101 : con_2101.1 = (yX12_numberAt, cX12_numberAt, 3, (some .long)) := rfl
noncomputable def cu_2101 : List CUT2 := []
theorem ch_2101 : staG tb_X12_numberAt 1 bt_RX12 [] ct_2 [] [] cu_2101 11 con_2101 = true := by decide +kernel
theorem vl_2101 (l : Launch) : Vld2 l vwCl gTbl con_2101 := conR_ok3 gT_all (hd_2101) rfl pn_RX12 tk_X12_numberAt bo_RX12 xo_RX12 (cto_2 l) ch_2101 cut_nil
/-- RookHustingModel numberAt -/
noncomputable def ac_1188 : AC := .inr (2, jl_n [js_5 139 9223372036854775807 9223372036854775807, js_4 49 1, js_5 100 9223372036854775807 9223372036854775807])
noncomputable def con_2102 : Con2 := ((yX12_numberAt, cX12_numberAt, 3, (some .long)), (0, 0), ([(6, 0, 0), (0, 2, 0), (0, 19, 0)], gi_1801, [ac_1100, ac_1188], []), [((4, 48, 0), gi_1802, [(false, ac_1100), (false, ac_1188)], [], [1])])
theorem hd_2102 : con_2102.1 = (yX12_numberAt, cX12_numberAt, 3, (some .long)) := rfl
noncomputable def cu_2102 : List CUT2 := []
theorem ch_2102 : staG tb_X12_numberAt 1 bt_RX12 [] ct_2 [] [] cu_2102 11 con_2102 = true := by decide +kernel
theorem vl_2102 (l : Launch) : Vld2 l vwCl gTbl con_2102 := conR_ok3 gT_all (hd_2102) rfl pn_RX12 tk_X12_numberAt bo_RX12 xo_RX12 (cto_2 l) ch_2102 cut_nil
/-- RookHustingModel numberAt -/
noncomputable def ac_1189 : AC := .inr (2, jl_n [js_5 140 9223372036854775807 9223372036854775807, js_4 49 1, js_5 99 9223372036854775807 9223372036854775807])
noncomputable def con_2103 : Con2 := ((yX12_numberAt, cX12_numberAt, 3, (some .long)), (0, 0), ([(6, 0, 0), (0, 2, 0), (0, 20, 0)], gi_1801, [ac_1100, ac_1189], []), [((4, 48, 0), gi_1802, [(false, ac_1100), (false, ac_1189)], [], [1])])
theorem hd_2103 : con_2103.1 = (yX12_numberAt, cX12_numberAt, 3, (some .long)) := rfl
noncomputable def cu_2103 : List CUT2 := []
theorem ch_2103 : staG tb_X12_numberAt 1 bt_RX12 [] ct_2 [] [] cu_2103 11 con_2103 = true := by decide +kernel
theorem vl_2103 (l : Launch) : Vld2 l vwCl gTbl con_2103 := conR_ok3 gT_all (hd_2103) rfl pn_RX12 tk_X12_numberAt bo_RX12 xo_RX12 (cto_2 l) ch_2103 cut_nil
/-- RookHustingModel numberAt -/
noncomputable def ac_1190 : AC := .inr (2, jl_n [js_5 141 9223372036854775807 9223372036854775807, js_4 49 1, js_5 98 9223372036854775807 9223372036854775807])
noncomputable def con_2104 : Con2 := ((yX12_numberAt, cX12_numberAt, 3, (some .long)), (0, 0), ([(6, 0, 0), (0, 2, 0), (0, 21, 0)], gi_1801, [ac_1100, ac_1190], []), [((4, 48, 0), gi_1802, [(false, ac_1100), (false, ac_1190)], [], [1])])
theorem hd_2104 : con_2104.1 = (yX12_numberAt, cX12_numberAt, 3, (some .long)) := rfl
noncomputable def cu_2104 : List CUT2 := []
theorem ch_2104 : staG tb_X12_numberAt 1 bt_RX12 [] ct_2 [] [] cu_2104 11 con_2104 = true := by decide +kernel
theorem vl_2104 (l : Launch) : Vld2 l vwCl gTbl con_2104 := conR_ok3 gT_all (hd_2104) rfl pn_RX12 tk_X12_numberAt bo_RX12 xo_RX12 (cto_2 l) ch_2104 cut_nil
/-- RookHustingModel numberAt -/
noncomputable def ac_1191 : AC := .inr (2, jl_n [js_5 142 9223372036854775807 9223372036854775807, js_4 49 1, js_5 97 9223372036854775807 9223372036854775807])
noncomputable def con_2105 : Con2 := ((yX12_numberAt, cX12_numberAt, 3, (some .long)), (0, 0), ([(6, 0, 0), (0, 2, 0), (0, 22, 0)], gi_1801, [ac_1100, ac_1191], []), [((4, 48, 0), gi_1802, [(false, ac_1100), (false, ac_1191)], [], [1])])
theorem hd_2105 : con_2105.1 = (yX12_numberAt, cX12_numberAt, 3, (some .long)) := rfl
noncomputable def cu_2105 : List CUT2 := []
theorem ch_2105 : staG tb_X12_numberAt 1 bt_RX12 [] ct_2 [] [] cu_2105 11 con_2105 = true := by decide +kernel
theorem vl_2105 (l : Launch) : Vld2 l vwCl gTbl con_2105 := conR_ok3 gT_all (hd_2105) rfl pn_RX12 tk_X12_numberAt bo_RX12 xo_RX12 (cto_2 l) ch_2105 cut_nil
/-- RookHustingModel numberAt -/
noncomputable def ac_1192 : AC := .inr (2, jl_n [js_5 143 9223372036854775807 9223372036854775807, js_4 49 1, js_5 96 9223372036854775807 9223372036854775807])
noncomputable def con_2106 : Con2 := ((yX12_numberAt, cX12_numberAt, 3, (some .long)), (0, 0), ([(6, 0, 0), (0, 2, 0), (0, 23, 0)], gi_1801, [ac_1100, ac_1192], []), [((4, 48, 0), gi_1802, [(false, ac_1100), (false, ac_1192)], [], [1])])
theorem hd_2106 : con_2106.1 = (yX12_numberAt, cX12_numberAt, 3, (some .long)) := rfl
noncomputable def cu_2106 : List CUT2 := []
theorem ch_2106 : staG tb_X12_numberAt 1 bt_RX12 [] ct_2 [] [] cu_2106 11 con_2106 = true := by decide +kernel
theorem vl_2106 (l : Launch) : Vld2 l vwCl gTbl con_2106 := conR_ok3 gT_all (hd_2106) rfl pn_RX12 tk_X12_numberAt bo_RX12 xo_RX12 (cto_2 l) ch_2106 cut_nil
/-- RookHustingModel numberAt -/
noncomputable def ac_1193 : AC := .inr (2, jl_n [js_5 144 9223372036854775807 9223372036854775807, js_4 49 1, js_5 95 9223372036854775807 9223372036854775807])
noncomputable def con_2107 : Con2 := ((yX12_numberAt, cX12_numberAt, 3, (some .long)), (0, 0), ([(6, 0, 0), (0, 2, 0), (0, 24, 0)], gi_1801, [ac_1100, ac_1193], []), [((4, 48, 0), gi_1802, [(false, ac_1100), (false, ac_1193)], [], [1])])
theorem hd_2107 : con_2107.1 = (yX12_numberAt, cX12_numberAt, 3, (some .long)) := rfl
noncomputable def cu_2107 : List CUT2 := []
theorem ch_2107 : staG tb_X12_numberAt 1 bt_RX12 [] ct_2 [] [] cu_2107 11 con_2107 = true := by decide +kernel
theorem vl_2107 (l : Launch) : Vld2 l vwCl gTbl con_2107 := conR_ok3 gT_all (hd_2107) rfl pn_RX12 tk_X12_numberAt bo_RX12 xo_RX12 (cto_2 l) ch_2107 cut_nil
/-- RookHustingModel numberAt -/
noncomputable def ac_1194 : AC := .inr (2, jl_n [js_5 145 9223372036854775807 9223372036854775807, js_4 49 1, js_5 94 9223372036854775807 9223372036854775807])
noncomputable def con_2108 : Con2 := ((yX12_numberAt, cX12_numberAt, 3, (some .long)), (0, 0), ([(6, 0, 0), (0, 2, 0), (0, 25, 0)], gi_1801, [ac_1100, ac_1194], []), [((4, 48, 0), gi_1802, [(false, ac_1100), (false, ac_1194)], [], [1])])
theorem hd_2108 : con_2108.1 = (yX12_numberAt, cX12_numberAt, 3, (some .long)) := rfl
noncomputable def cu_2108 : List CUT2 := []
theorem ch_2108 : staG tb_X12_numberAt 1 bt_RX12 [] ct_2 [] [] cu_2108 11 con_2108 = true := by decide +kernel
theorem vl_2108 (l : Launch) : Vld2 l vwCl gTbl con_2108 := conR_ok3 gT_all (hd_2108) rfl pn_RX12 tk_X12_numberAt bo_RX12 xo_RX12 (cto_2 l) ch_2108 cut_nil
/-- RookHustingModel numberAt -/
noncomputable def ac_1195 : AC := .inr (2, jl_n [js_5 146 9223372036854775807 9223372036854775807, js_4 49 1, js_5 93 9223372036854775807 9223372036854775807])
noncomputable def con_2109 : Con2 := ((yX12_numberAt, cX12_numberAt, 3, (some .long)), (0, 0), ([(6, 0, 0), (0, 2, 0), (0, 26, 0)], gi_1801, [ac_1100, ac_1195], []), [((4, 48, 0), gi_1802, [(false, ac_1100), (false, ac_1195)], [], [1])])
theorem hd_2109 : con_2109.1 = (yX12_numberAt, cX12_numberAt, 3, (some .long)) := rfl
noncomputable def cu_2109 : List CUT2 := []
theorem ch_2109 : staG tb_X12_numberAt 1 bt_RX12 [] ct_2 [] [] cu_2109 11 con_2109 = true := by decide +kernel
theorem vl_2109 (l : Launch) : Vld2 l vwCl gTbl con_2109 := conR_ok3 gT_all (hd_2109) rfl pn_RX12 tk_X12_numberAt bo_RX12 xo_RX12 (cto_2 l) ch_2109 cut_nil
/-- RookHustingModel numberAt -/
noncomputable def ac_1196 : AC := .inr (2, jl_n [js_5 147 9223372036854775807 9223372036854775807, js_4 49 1, js_5 92 9223372036854775807 9223372036854775807])
noncomputable def con_2110 : Con2 := ((yX12_numberAt, cX12_numberAt, 3, (some .long)), (0, 0), ([(6, 0, 0), (0, 2, 0), (0, 27, 0)], gi_1801, [ac_1100, ac_1196], []), [((4, 48, 0), gi_1802, [(false, ac_1100), (false, ac_1196)], [], [1])])
theorem hd_2110 : con_2110.1 = (yX12_numberAt, cX12_numberAt, 3, (some .long)) := rfl
noncomputable def cu_2110 : List CUT2 := []
theorem ch_2110 : staG tb_X12_numberAt 1 bt_RX12 [] ct_2 [] [] cu_2110 11 con_2110 = true := by decide +kernel
theorem vl_2110 (l : Launch) : Vld2 l vwCl gTbl con_2110 := conR_ok3 gT_all (hd_2110) rfl pn_RX12 tk_X12_numberAt bo_RX12 xo_RX12 (cto_2 l) ch_2110 cut_nil
/-- RookHustingModel numberAt -/
noncomputable def ac_1197 : AC := .inr (2, jl_n [js_5 148 9223372036854775807 9223372036854775807, js_4 49 1, js_5 91 9223372036854775807 9223372036854775807])
noncomputable def con_2111 : Con2 := ((yX12_numberAt, cX12_numberAt, 3, (some .long)), (0, 0), ([(6, 0, 0), (0, 2, 0), (0, 28, 0)], gi_1801, [ac_1100, ac_1197], []), [((4, 48, 0), gi_1802, [(false, ac_1100), (false, ac_1197)], [], [1])])
theorem hd_2111 : con_2111.1 = (yX12_numberAt, cX12_numberAt, 3, (some .long)) := rfl
noncomputable def cu_2111 : List CUT2 := []
theorem ch_2111 : staG tb_X12_numberAt 1 bt_RX12 [] ct_2 [] [] cu_2111 11 con_2111 = true := by decide +kernel
theorem vl_2111 (l : Launch) : Vld2 l vwCl gTbl con_2111 := conR_ok3 gT_all (hd_2111) rfl pn_RX12 tk_X12_numberAt bo_RX12 xo_RX12 (cto_2 l) ch_2111 cut_nil
/-- RookHustingModel numberAt -/
noncomputable def ac_1198 : AC := .inr (2, jl_n [js_5 149 9223372036854775807 9223372036854775807, js_4 49 1, js_5 90 9223372036854775807 9223372036854775807])
noncomputable def con_2112 : Con2 := ((yX12_numberAt, cX12_numberAt, 3, (some .long)), (0, 0), ([(6, 0, 0), (0, 2, 0), (0, 29, 0)], gi_1801, [ac_1100, ac_1198], []), [((4, 48, 0), gi_1802, [(false, ac_1100), (false, ac_1198)], [], [1])])
theorem hd_2112 : con_2112.1 = (yX12_numberAt, cX12_numberAt, 3, (some .long)) := rfl
noncomputable def cu_2112 : List CUT2 := []
theorem ch_2112 : staG tb_X12_numberAt 1 bt_RX12 [] ct_2 [] [] cu_2112 11 con_2112 = true := by decide +kernel
theorem vl_2112 (l : Launch) : Vld2 l vwCl gTbl con_2112 := conR_ok3 gT_all (hd_2112) rfl pn_RX12 tk_X12_numberAt bo_RX12 xo_RX12 (cto_2 l) ch_2112 cut_nil
/-- RookHustingModel numberAt -/
noncomputable def ac_1199 : AC := .inr (2, jl_n [js_5 150 9223372036854775807 9223372036854775807, js_4 49 1, js_5 89 9223372036854775807 9223372036854775807])
noncomputable def con_2113 : Con2 := ((yX12_numberAt, cX12_numberAt, 3, (some .long)), (0, 0), ([(6, 0, 0), (0, 2, 0), (0, 30, 0)], gi_1801, [ac_1100, ac_1199], []), [((4, 48, 0), gi_1802, [(false, ac_1100), (false, ac_1199)], [], [1])])
theorem hd_2113 : con_2113.1 = (yX12_numberAt, cX12_numberAt, 3, (some .long)) := rfl
noncomputable def cu_2113 : List CUT2 := []
theorem ch_2113 : staG tb_X12_numberAt 1 bt_RX12 [] ct_2 [] [] cu_2113 11 con_2113 = true := by decide +kernel
theorem vl_2113 (l : Launch) : Vld2 l vwCl gTbl con_2113 := conR_ok3 gT_all (hd_2113) rfl pn_RX12 tk_X12_numberAt bo_RX12 xo_RX12 (cto_2 l) ch_2113 cut_nil
/-- RookHustingModel numberAt -/
noncomputable def ac_1200 : AC := .inr (2, jl_n [js_5 151 9223372036854775807 9223372036854775807, js_4 49 1, js_5 88 9223372036854775807 9223372036854775807])
noncomputable def con_2114 : Con2 := ((yX12_numberAt, cX12_numberAt, 3, (some .long)), (0, 0), ([(6, 0, 0), (0, 2, 0), (0, 31, 0)], gi_1801, [ac_1100, ac_1200], []), [((4, 48, 0), gi_1802, [(false, ac_1100), (false, ac_1200)], [], [1])])
theorem hd_2114 : con_2114.1 = (yX12_numberAt, cX12_numberAt, 3, (some .long)) := rfl
noncomputable def cu_2114 : List CUT2 := []
theorem ch_2114 : staG tb_X12_numberAt 1 bt_RX12 [] ct_2 [] [] cu_2114 11 con_2114 = true := by decide +kernel
theorem vl_2114 (l : Launch) : Vld2 l vwCl gTbl con_2114 := conR_ok3 gT_all (hd_2114) rfl pn_RX12 tk_X12_numberAt bo_RX12 xo_RX12 (cto_2 l) ch_2114 cut_nil
/-- RookHustingModel numberAt -/
noncomputable def ac_1201 : AC := .inr (2, jl_n [js_5 152 9223372036854775807 9223372036854775807, js_4 49 1, js_5 87 9223372036854775807 9223372036854775807])
noncomputable def con_2115 : Con2 := ((yX12_numberAt, cX12_numberAt, 3, (some .long)), (0, 0), ([(6, 0, 0), (0, 2, 0), (0, 32, 0)], gi_1801, [ac_1100, ac_1201], []), [((4, 48, 0), gi_1802, [(false, ac_1100), (false, ac_1201)], [], [1])])
theorem hd_2115 : con_2115.1 = (yX12_numberAt, cX12_numberAt, 3, (some .long)) := rfl
noncomputable def cu_2115 : List CUT2 := []
theorem ch_2115 : staG tb_X12_numberAt 1 bt_RX12 [] ct_2 [] [] cu_2115 11 con_2115 = true := by decide +kernel
theorem vl_2115 (l : Launch) : Vld2 l vwCl gTbl con_2115 := conR_ok3 gT_all (hd_2115) rfl pn_RX12 tk_X12_numberAt bo_RX12 xo_RX12 (cto_2 l) ch_2115 cut_nil
/-- RookHustingModel numberAt -/
noncomputable def ac_1202 : AC := .inr (2, jl_n [js_5 153 9223372036854775807 9223372036854775807, js_4 49 1, js_5 86 9223372036854775807 9223372036854775807])
noncomputable def con_2116 : Con2 := ((yX12_numberAt, cX12_numberAt, 3, (some .long)), (0, 0), ([(6, 0, 0), (0, 2, 0), (0, 33, 0)], gi_1801, [ac_1100, ac_1202], []), [((4, 48, 0), gi_1802, [(false, ac_1100), (false, ac_1202)], [], [1])])
theorem hd_2116 : con_2116.1 = (yX12_numberAt, cX12_numberAt, 3, (some .long)) := rfl
noncomputable def cu_2116 : List CUT2 := []
theorem ch_2116 : staG tb_X12_numberAt 1 bt_RX12 [] ct_2 [] [] cu_2116 11 con_2116 = true := by decide +kernel
theorem vl_2116 (l : Launch) : Vld2 l vwCl gTbl con_2116 := conR_ok3 gT_all (hd_2116) rfl pn_RX12 tk_X12_numberAt bo_RX12 xo_RX12 (cto_2 l) ch_2116 cut_nil
/-- RookHustingModel numberAt -/
noncomputable def ac_1203 : AC := .inr (2, jl_n [js_5 154 9223372036854775807 9223372036854775807, js_4 49 1, js_5 85 9223372036854775807 9223372036854775807])
noncomputable def con_2117 : Con2 := ((yX12_numberAt, cX12_numberAt, 3, (some .long)), (0, 0), ([(6, 0, 0), (0, 2, 0), (0, 34, 0)], gi_1801, [ac_1100, ac_1203], []), [((4, 48, 0), gi_1802, [(false, ac_1100), (false, ac_1203)], [], [1])])
theorem hd_2117 : con_2117.1 = (yX12_numberAt, cX12_numberAt, 3, (some .long)) := rfl
noncomputable def cu_2117 : List CUT2 := []
theorem ch_2117 : staG tb_X12_numberAt 1 bt_RX12 [] ct_2 [] [] cu_2117 11 con_2117 = true := by decide +kernel
theorem vl_2117 (l : Launch) : Vld2 l vwCl gTbl con_2117 := conR_ok3 gT_all (hd_2117) rfl pn_RX12 tk_X12_numberAt bo_RX12 xo_RX12 (cto_2 l) ch_2117 cut_nil
/-- RookHustingModel numberAt -/
noncomputable def ac_1204 : AC := .inr (2, jl_n [js_5 155 9223372036854775807 9223372036854775807, js_4 49 1, js_5 84 9223372036854775807 9223372036854775807])
noncomputable def con_2118 : Con2 := ((yX12_numberAt, cX12_numberAt, 3, (some .long)), (0, 0), ([(6, 0, 0), (0, 2, 0), (0, 35, 0)], gi_1801, [ac_1100, ac_1204], []), [((4, 48, 0), gi_1802, [(false, ac_1100), (false, ac_1204)], [], [1])])
theorem hd_2118 : con_2118.1 = (yX12_numberAt, cX12_numberAt, 3, (some .long)) := rfl
noncomputable def cu_2118 : List CUT2 := []
theorem ch_2118 : staG tb_X12_numberAt 1 bt_RX12 [] ct_2 [] [] cu_2118 11 con_2118 = true := by decide +kernel
theorem vl_2118 (l : Launch) : Vld2 l vwCl gTbl con_2118 := conR_ok3 gT_all (hd_2118) rfl pn_RX12 tk_X12_numberAt bo_RX12 xo_RX12 (cto_2 l) ch_2118 cut_nil
/-- RookHustingModel numberAt -/
noncomputable def ac_1205 : AC := .inr (2, jl_n [js_5 156 9223372036854775807 9223372036854775807, js_4 49 1, js_5 83 9223372036854775807 9223372036854775807])
noncomputable def con_2119 : Con2 := ((yX12_numberAt, cX12_numberAt, 3, (some .long)), (0, 0), ([(6, 0, 0), (0, 2, 0), (0, 36, 0)], gi_1801, [ac_1100, ac_1205], []), [((4, 48, 0), gi_1802, [(false, ac_1100), (false, ac_1205)], [], [1])])
theorem hd_2119 : con_2119.1 = (yX12_numberAt, cX12_numberAt, 3, (some .long)) := rfl
noncomputable def cu_2119 : List CUT2 := []
theorem ch_2119 : staG tb_X12_numberAt 1 bt_RX12 [] ct_2 [] [] cu_2119 11 con_2119 = true := by decide +kernel
theorem vl_2119 (l : Launch) : Vld2 l vwCl gTbl con_2119 := conR_ok3 gT_all (hd_2119) rfl pn_RX12 tk_X12_numberAt bo_RX12 xo_RX12 (cto_2 l) ch_2119 cut_nil
/-- RookHustingModel numberAt -/
noncomputable def ac_1206 : AC := .inr (2, jl_n [js_5 157 9223372036854775807 9223372036854775807, js_4 49 1, js_5 82 9223372036854775807 9223372036854775807])
noncomputable def con_2120 : Con2 := ((yX12_numberAt, cX12_numberAt, 3, (some .long)), (0, 0), ([(6, 0, 0), (0, 2, 0), (0, 37, 0)], gi_1801, [ac_1100, ac_1206], []), [((4, 48, 0), gi_1802, [(false, ac_1100), (false, ac_1206)], [], [1])])
theorem hd_2120 : con_2120.1 = (yX12_numberAt, cX12_numberAt, 3, (some .long)) := rfl
noncomputable def cu_2120 : List CUT2 := []
theorem ch_2120 : staG tb_X12_numberAt 1 bt_RX12 [] ct_2 [] [] cu_2120 11 con_2120 = true := by decide +kernel
theorem vl_2120 (l : Launch) : Vld2 l vwCl gTbl con_2120 := conR_ok3 gT_all (hd_2120) rfl pn_RX12 tk_X12_numberAt bo_RX12 xo_RX12 (cto_2 l) ch_2120 cut_nil
/-- RookHustingModel numberAt -/
noncomputable def ac_1207 : AC := .inr (2, jl_n [js_5 158 9223372036854775807 9223372036854775807, js_4 49 1, js_5 81 9223372036854775807 9223372036854775807])
noncomputable def con_2121 : Con2 := ((yX12_numberAt, cX12_numberAt, 3, (some .long)), (0, 0), ([(6, 0, 0), (0, 2, 0), (0, 38, 0)], gi_1801, [ac_1100, ac_1207], []), [((4, 48, 0), gi_1802, [(false, ac_1100), (false, ac_1207)], [], [1])])
theorem hd_2121 : con_2121.1 = (yX12_numberAt, cX12_numberAt, 3, (some .long)) := rfl
noncomputable def cu_2121 : List CUT2 := []
theorem ch_2121 : staG tb_X12_numberAt 1 bt_RX12 [] ct_2 [] [] cu_2121 11 con_2121 = true := by decide +kernel
theorem vl_2121 (l : Launch) : Vld2 l vwCl gTbl con_2121 := conR_ok3 gT_all (hd_2121) rfl pn_RX12 tk_X12_numberAt bo_RX12 xo_RX12 (cto_2 l) ch_2121 cut_nil
/-- RookHustingModel numberAt -/
noncomputable def ac_1208 : AC := .inr (2, jl_n [js_5 159 9223372036854775807 9223372036854775807, js_4 49 1, js_5 80 9223372036854775807 9223372036854775807])
noncomputable def con_2122 : Con2 := ((yX12_numberAt, cX12_numberAt, 3, (some .long)), (0, 0), ([(6, 0, 0), (0, 2, 0), (0, 39, 0)], gi_1801, [ac_1100, ac_1208], []), [((4, 48, 0), gi_1802, [(false, ac_1100), (false, ac_1208)], [], [1])])
theorem hd_2122 : con_2122.1 = (yX12_numberAt, cX12_numberAt, 3, (some .long)) := rfl
noncomputable def cu_2122 : List CUT2 := []
theorem ch_2122 : staG tb_X12_numberAt 1 bt_RX12 [] ct_2 [] [] cu_2122 11 con_2122 = true := by decide +kernel
theorem vl_2122 (l : Launch) : Vld2 l vwCl gTbl con_2122 := conR_ok3 gT_all (hd_2122) rfl pn_RX12 tk_X12_numberAt bo_RX12 xo_RX12 (cto_2 l) ch_2122 cut_nil
/-- RookHustingModel numberAt -/
noncomputable def ac_1209 : AC := .inr (2, jl_n [js_5 160 9223372036854775807 9223372036854775807, js_4 49 1, js_5 79 9223372036854775807 9223372036854775807])
noncomputable def con_2123 : Con2 := ((yX12_numberAt, cX12_numberAt, 3, (some .long)), (0, 0), ([(6, 0, 0), (0, 2, 0), (0, 40, 0)], gi_1801, [ac_1100, ac_1209], []), [((4, 48, 0), gi_1802, [(false, ac_1100), (false, ac_1209)], [], [1])])
theorem hd_2123 : con_2123.1 = (yX12_numberAt, cX12_numberAt, 3, (some .long)) := rfl
noncomputable def cu_2123 : List CUT2 := []
theorem ch_2123 : staG tb_X12_numberAt 1 bt_RX12 [] ct_2 [] [] cu_2123 11 con_2123 = true := by decide +kernel
theorem vl_2123 (l : Launch) : Vld2 l vwCl gTbl con_2123 := conR_ok3 gT_all (hd_2123) rfl pn_RX12 tk_X12_numberAt bo_RX12 xo_RX12 (cto_2 l) ch_2123 cut_nil
/-- RookHustingModel numberAt -/
noncomputable def ac_1210 : AC := .inr (2, jl_n [js_5 161 9223372036854775807 9223372036854775807, js_4 49 1, js_5 78 9223372036854775807 9223372036854775807])
noncomputable def con_2124 : Con2 := ((yX12_numberAt, cX12_numberAt, 3, (some .long)), (0, 0), ([(6, 0, 0), (0, 2, 0), (0, 41, 0)], gi_1801, [ac_1100, ac_1210], []), [((4, 48, 0), gi_1802, [(false, ac_1100), (false, ac_1210)], [], [1])])
theorem hd_2124 : con_2124.1 = (yX12_numberAt, cX12_numberAt, 3, (some .long)) := rfl
noncomputable def cu_2124 : List CUT2 := []
theorem ch_2124 : staG tb_X12_numberAt 1 bt_RX12 [] ct_2 [] [] cu_2124 11 con_2124 = true := by decide +kernel
theorem vl_2124 (l : Launch) : Vld2 l vwCl gTbl con_2124 := conR_ok3 gT_all (hd_2124) rfl pn_RX12 tk_X12_numberAt bo_RX12 xo_RX12 (cto_2 l) ch_2124 cut_nil
/-- RookHustingModel numberAt -/
noncomputable def ac_1211 : AC := .inr (2, jl_n [js_5 162 9223372036854775807 9223372036854775807, js_4 49 1, js_5 77 9223372036854775807 9223372036854775807])
noncomputable def con_2125 : Con2 := ((yX12_numberAt, cX12_numberAt, 3, (some .long)), (0, 0), ([(6, 0, 0), (0, 2, 0), (0, 42, 0)], gi_1801, [ac_1100, ac_1211], []), [((4, 48, 0), gi_1802, [(false, ac_1100), (false, ac_1211)], [], [1])])
theorem hd_2125 : con_2125.1 = (yX12_numberAt, cX12_numberAt, 3, (some .long)) := rfl
noncomputable def cu_2125 : List CUT2 := []
theorem ch_2125 : staG tb_X12_numberAt 1 bt_RX12 [] ct_2 [] [] cu_2125 11 con_2125 = true := by decide +kernel
theorem vl_2125 (l : Launch) : Vld2 l vwCl gTbl con_2125 := conR_ok3 gT_all (hd_2125) rfl pn_RX12 tk_X12_numberAt bo_RX12 xo_RX12 (cto_2 l) ch_2125 cut_nil
/-- RookHustingModel numberAt -/
noncomputable def ac_1212 : AC := .inr (2, jl_n [js_5 163 9223372036854775807 9223372036854775807, js_4 49 1, js_5 76 9223372036854775807 9223372036854775807])
noncomputable def con_2126 : Con2 := ((yX12_numberAt, cX12_numberAt, 3, (some .long)), (0, 0), ([(6, 0, 0), (0, 2, 0), (0, 43, 0)], gi_1801, [ac_1100, ac_1212], []), [((4, 48, 0), gi_1802, [(false, ac_1100), (false, ac_1212)], [], [1])])
theorem hd_2126 : con_2126.1 = (yX12_numberAt, cX12_numberAt, 3, (some .long)) := rfl
noncomputable def cu_2126 : List CUT2 := []
theorem ch_2126 : staG tb_X12_numberAt 1 bt_RX12 [] ct_2 [] [] cu_2126 11 con_2126 = true := by decide +kernel
theorem vl_2126 (l : Launch) : Vld2 l vwCl gTbl con_2126 := conR_ok3 gT_all (hd_2126) rfl pn_RX12 tk_X12_numberAt bo_RX12 xo_RX12 (cto_2 l) ch_2126 cut_nil
/-- RookHustingModel numberAt -/
noncomputable def ac_1213 : AC := .inr (2, jl_n [js_5 164 9223372036854775807 9223372036854775807, js_4 49 1, js_5 75 9223372036854775807 9223372036854775807])
noncomputable def con_2127 : Con2 := ((yX12_numberAt, cX12_numberAt, 3, (some .long)), (0, 0), ([(6, 0, 0), (0, 2, 0), (0, 44, 0)], gi_1801, [ac_1100, ac_1213], []), [((4, 48, 0), gi_1802, [(false, ac_1100), (false, ac_1213)], [], [1])])
theorem hd_2127 : con_2127.1 = (yX12_numberAt, cX12_numberAt, 3, (some .long)) := rfl
noncomputable def cu_2127 : List CUT2 := []
theorem ch_2127 : staG tb_X12_numberAt 1 bt_RX12 [] ct_2 [] [] cu_2127 11 con_2127 = true := by decide +kernel
theorem vl_2127 (l : Launch) : Vld2 l vwCl gTbl con_2127 := conR_ok3 gT_all (hd_2127) rfl pn_RX12 tk_X12_numberAt bo_RX12 xo_RX12 (cto_2 l) ch_2127 cut_nil
/-- RookHustingModel numberAt -/
noncomputable def ac_1214 : AC := .inr (2, jl_n [js_5 165 9223372036854775807 9223372036854775807, js_4 49 1, js_5 74 9223372036854775807 9223372036854775807])
noncomputable def con_2128 : Con2 := ((yX12_numberAt, cX12_numberAt, 3, (some .long)), (0, 0), ([(6, 0, 0), (0, 2, 0), (0, 45, 0)], gi_1801, [ac_1100, ac_1214], []), [((4, 48, 0), gi_1802, [(false, ac_1100), (false, ac_1214)], [], [1])])
theorem hd_2128 : con_2128.1 = (yX12_numberAt, cX12_numberAt, 3, (some .long)) := rfl
noncomputable def cu_2128 : List CUT2 := []
theorem ch_2128 : staG tb_X12_numberAt 1 bt_RX12 [] ct_2 [] [] cu_2128 11 con_2128 = true := by decide +kernel
theorem vl_2128 (l : Launch) : Vld2 l vwCl gTbl con_2128 := conR_ok3 gT_all (hd_2128) rfl pn_RX12 tk_X12_numberAt bo_RX12 xo_RX12 (cto_2 l) ch_2128 cut_nil
/-- RookHustingModel numberAt -/
noncomputable def ac_1215 : AC := .inr (2, jl_n [js_5 166 9223372036854775807 9223372036854775807, js_4 49 1, js_5 73 9223372036854775807 9223372036854775807])
noncomputable def con_2129 : Con2 := ((yX12_numberAt, cX12_numberAt, 3, (some .long)), (0, 0), ([(6, 0, 0), (0, 2, 0), (0, 46, 0)], gi_1801, [ac_1100, ac_1215], []), [((4, 48, 0), gi_1802, [(false, ac_1100), (false, ac_1215)], [], [1])])
theorem hd_2129 : con_2129.1 = (yX12_numberAt, cX12_numberAt, 3, (some .long)) := rfl
noncomputable def cu_2129 : List CUT2 := []
theorem ch_2129 : staG tb_X12_numberAt 1 bt_RX12 [] ct_2 [] [] cu_2129 11 con_2129 = true := by decide +kernel
theorem vl_2129 (l : Launch) : Vld2 l vwCl gTbl con_2129 := conR_ok3 gT_all (hd_2129) rfl pn_RX12 tk_X12_numberAt bo_RX12 xo_RX12 (cto_2 l) ch_2129 cut_nil
/-- RookHustingModel numberAt -/
noncomputable def ac_1216 : AC := .inr (2, jl_n [js_5 167 9223372036854775807 9223372036854775807, js_4 49 1, js_5 72 9223372036854775807 9223372036854775807])
noncomputable def con_2130 : Con2 := ((yX12_numberAt, cX12_numberAt, 3, (some .long)), (0, 0), ([(6, 0, 0), (0, 2, 0), (0, 47, 0)], gi_1801, [ac_1100, ac_1216], []), [((4, 48, 0), gi_1802, [(false, ac_1100), (false, ac_1216)], [], [1])])
theorem hd_2130 : con_2130.1 = (yX12_numberAt, cX12_numberAt, 3, (some .long)) := rfl
noncomputable def cu_2130 : List CUT2 := []
theorem ch_2130 : staG tb_X12_numberAt 1 bt_RX12 [] ct_2 [] [] cu_2130 11 con_2130 = true := by decide +kernel
theorem vl_2130 (l : Launch) : Vld2 l vwCl gTbl con_2130 := conR_ok3 gT_all (hd_2130) rfl pn_RX12 tk_X12_numberAt bo_RX12 xo_RX12 (cto_2 l) ch_2130 cut_nil
/-- RookHustingModel numberAt -/
noncomputable def ac_1217 : AC := .inr (2, jl_n [js_5 168 9223372036854775807 9223372036854775807, js_4 49 1, js_5 71 9223372036854775807 9223372036854775807])
noncomputable def con_2131 : Con2 := ((yX12_numberAt, cX12_numberAt, 3, (some .long)), (0, 0), ([(6, 0, 0), (0, 2, 0), (0, 48, 0)], gi_1801, [ac_1100, ac_1217], []), [((4, 48, 0), gi_1802, [(false, ac_1100), (false, ac_1217)], [], [1])])
theorem hd_2131 : con_2131.1 = (yX12_numberAt, cX12_numberAt, 3, (some .long)) := rfl
noncomputable def cu_2131 : List CUT2 := []
theorem ch_2131 : staG tb_X12_numberAt 1 bt_RX12 [] ct_2 [] [] cu_2131 11 con_2131 = true := by decide +kernel
theorem vl_2131 (l : Launch) : Vld2 l vwCl gTbl con_2131 := conR_ok3 gT_all (hd_2131) rfl pn_RX12 tk_X12_numberAt bo_RX12 xo_RX12 (cto_2 l) ch_2131 cut_nil
/-- RookHustingModel numberAt -/
noncomputable def ac_1218 : AC := .inr (2, jl_n [js_5 169 9223372036854775807 9223372036854775807, js_4 49 1, js_5 70 9223372036854775807 9223372036854775807])
noncomputable def con_2132 : Con2 := ((yX12_numberAt, cX12_numberAt, 3, (some .long)), (0, 0), ([(6, 0, 0), (0, 2, 0), (0, 49, 0)], gi_1801, [ac_1100, ac_1218], []), [((4, 48, 0), gi_1802, [(false, ac_1100), (false, ac_1218)], [], [1])])
theorem hd_2132 : con_2132.1 = (yX12_numberAt, cX12_numberAt, 3, (some .long)) := rfl
noncomputable def cu_2132 : List CUT2 := []
theorem ch_2132 : staG tb_X12_numberAt 1 bt_RX12 [] ct_2 [] [] cu_2132 11 con_2132 = true := by decide +kernel
theorem vl_2132 (l : Launch) : Vld2 l vwCl gTbl con_2132 := conR_ok3 gT_all (hd_2132) rfl pn_RX12 tk_X12_numberAt bo_RX12 xo_RX12 (cto_2 l) ch_2132 cut_nil
/-- RookHustingModel numberAt -/
noncomputable def ac_1219 : AC := .inr (2, jl_n [js_5 170 9223372036854775807 9223372036854775807, js_4 49 1, js_5 69 9223372036854775807 9223372036854775807])
noncomputable def con_2133 : Con2 := ((yX12_numberAt, cX12_numberAt, 3, (some .long)), (0, 0), ([(6, 0, 0), (0, 2, 0), (0, 50, 0)], gi_1801, [ac_1100, ac_1219], []), [((4, 48, 0), gi_1802, [(false, ac_1100), (false, ac_1219)], [], [1])])
theorem hd_2133 : con_2133.1 = (yX12_numberAt, cX12_numberAt, 3, (some .long)) := rfl
noncomputable def cu_2133 : List CUT2 := []
theorem ch_2133 : staG tb_X12_numberAt 1 bt_RX12 [] ct_2 [] [] cu_2133 11 con_2133 = true := by decide +kernel
theorem vl_2133 (l : Launch) : Vld2 l vwCl gTbl con_2133 := conR_ok3 gT_all (hd_2133) rfl pn_RX12 tk_X12_numberAt bo_RX12 xo_RX12 (cto_2 l) ch_2133 cut_nil
/-- RookHustingModel numberAt -/
noncomputable def ac_1220 : AC := .inr (2, jl_n [js_5 171 9223372036854775807 9223372036854775807, js_4 49 1, js_5 68 9223372036854775807 9223372036854775807])
noncomputable def con_2134 : Con2 := ((yX12_numberAt, cX12_numberAt, 3, (some .long)), (0, 0), ([(6, 0, 0), (0, 2, 0), (0, 51, 0)], gi_1801, [ac_1100, ac_1220], []), [((4, 48, 0), gi_1802, [(false, ac_1100), (false, ac_1220)], [], [1])])
theorem hd_2134 : con_2134.1 = (yX12_numberAt, cX12_numberAt, 3, (some .long)) := rfl
noncomputable def cu_2134 : List CUT2 := []
theorem ch_2134 : staG tb_X12_numberAt 1 bt_RX12 [] ct_2 [] [] cu_2134 11 con_2134 = true := by decide +kernel
theorem vl_2134 (l : Launch) : Vld2 l vwCl gTbl con_2134 := conR_ok3 gT_all (hd_2134) rfl pn_RX12 tk_X12_numberAt bo_RX12 xo_RX12 (cto_2 l) ch_2134 cut_nil
/-- RookHustingModel numberAt -/
noncomputable def ac_1221 : AC := .inr (2, jl_n [js_5 172 9223372036854775807 9223372036854775807, js_4 49 1, js_5 67 9223372036854775807 9223372036854775807])
noncomputable def con_2135 : Con2 := ((yX12_numberAt, cX12_numberAt, 3, (some .long)), (0, 0), ([(6, 0, 0), (0, 2, 0), (0, 52, 0)], gi_1801, [ac_1100, ac_1221], []), [((4, 48, 0), gi_1802, [(false, ac_1100), (false, ac_1221)], [], [1])])
theorem hd_2135 : con_2135.1 = (yX12_numberAt, cX12_numberAt, 3, (some .long)) := rfl
noncomputable def cu_2135 : List CUT2 := []
theorem ch_2135 : staG tb_X12_numberAt 1 bt_RX12 [] ct_2 [] [] cu_2135 11 con_2135 = true := by decide +kernel
theorem vl_2135 (l : Launch) : Vld2 l vwCl gTbl con_2135 := conR_ok3 gT_all (hd_2135) rfl pn_RX12 tk_X12_numberAt bo_RX12 xo_RX12 (cto_2 l) ch_2135 cut_nil
/-- RookHustingModel numberAt -/
noncomputable def ac_1222 : AC := .inr (2, jl_n [js_5 173 9223372036854775807 9223372036854775807, js_4 49 1, js_5 66 9223372036854775807 9223372036854775807])
noncomputable def con_2136 : Con2 := ((yX12_numberAt, cX12_numberAt, 3, (some .long)), (0, 0), ([(6, 0, 0), (0, 2, 0), (0, 53, 0)], gi_1801, [ac_1100, ac_1222], []), [((4, 48, 0), gi_1802, [(false, ac_1100), (false, ac_1222)], [], [1])])
theorem hd_2136 : con_2136.1 = (yX12_numberAt, cX12_numberAt, 3, (some .long)) := rfl
noncomputable def cu_2136 : List CUT2 := []
theorem ch_2136 : staG tb_X12_numberAt 1 bt_RX12 [] ct_2 [] [] cu_2136 11 con_2136 = true := by decide +kernel
theorem vl_2136 (l : Launch) : Vld2 l vwCl gTbl con_2136 := conR_ok3 gT_all (hd_2136) rfl pn_RX12 tk_X12_numberAt bo_RX12 xo_RX12 (cto_2 l) ch_2136 cut_nil
/-- RookHustingModel numberAt -/
noncomputable def ac_1223 : AC := .inr (2, jl_n [js_5 174 9223372036854775807 9223372036854775807, js_4 49 1, js_5 65 9223372036854775807 9223372036854775807])
noncomputable def con_2137 : Con2 := ((yX12_numberAt, cX12_numberAt, 3, (some .long)), (0, 0), ([(6, 0, 0), (0, 2, 0), (0, 54, 0)], gi_1801, [ac_1100, ac_1223], []), [((4, 48, 0), gi_1802, [(false, ac_1100), (false, ac_1223)], [], [1])])
theorem hd_2137 : con_2137.1 = (yX12_numberAt, cX12_numberAt, 3, (some .long)) := rfl
noncomputable def cu_2137 : List CUT2 := []
theorem ch_2137 : staG tb_X12_numberAt 1 bt_RX12 [] ct_2 [] [] cu_2137 11 con_2137 = true := by decide +kernel
theorem vl_2137 (l : Launch) : Vld2 l vwCl gTbl con_2137 := conR_ok3 gT_all (hd_2137) rfl pn_RX12 tk_X12_numberAt bo_RX12 xo_RX12 (cto_2 l) ch_2137 cut_nil
/-- RookHustingModel numberAt -/
noncomputable def ac_1224 : AC := .inr (2, jl_n [js_5 175 9223372036854775807 9223372036854775807, js_4 49 1, js_5 64 9223372036854775807 9223372036854775807])
noncomputable def con_2138 : Con2 := ((yX12_numberAt, cX12_numberAt, 3, (some .long)), (0, 0), ([(6, 0, 0), (0, 2, 0), (0, 55, 0)], gi_1801, [ac_1100, ac_1224], []), [((4, 48, 0), gi_1802, [(false, ac_1100), (false, ac_1224)], [], [1])])
theorem hd_2138 : con_2138.1 = (yX12_numberAt, cX12_numberAt, 3, (some .long)) := rfl
noncomputable def cu_2138 : List CUT2 := []
theorem ch_2138 : staG tb_X12_numberAt 1 bt_RX12 [] ct_2 [] [] cu_2138 11 con_2138 = true := by decide +kernel
theorem vl_2138 (l : Launch) : Vld2 l vwCl gTbl con_2138 := conR_ok3 gT_all (hd_2138) rfl pn_RX12 tk_X12_numberAt bo_RX12 xo_RX12 (cto_2 l) ch_2138 cut_nil
/-- RookHustingModel numberAt -/
noncomputable def ac_1225 : AC := .inr (2, jl_n [js_5 176 9223372036854775807 9223372036854775807, js_4 49 1, js_5 63 9223372036854775807 9223372036854775807])
noncomputable def con_2139 : Con2 := ((yX12_numberAt, cX12_numberAt, 3, (some .long)), (0, 0), ([(6, 0, 0), (0, 2, 0), (0, 56, 0)], gi_1801, [ac_1100, ac_1225], []), [((4, 48, 0), gi_1802, [(false, ac_1100), (false, ac_1225)], [], [1])])
theorem hd_2139 : con_2139.1 = (yX12_numberAt, cX12_numberAt, 3, (some .long)) := rfl
noncomputable def cu_2139 : List CUT2 := []
theorem ch_2139 : staG tb_X12_numberAt 1 bt_RX12 [] ct_2 [] [] cu_2139 11 con_2139 = true := by decide +kernel
theorem vl_2139 (l : Launch) : Vld2 l vwCl gTbl con_2139 := conR_ok3 gT_all (hd_2139) rfl pn_RX12 tk_X12_numberAt bo_RX12 xo_RX12 (cto_2 l) ch_2139 cut_nil
/-- RookHustingModel numberAt -/
noncomputable def ac_1226 : AC := .inr (2, jl_n [js_5 177 9223372036854775807 9223372036854775807, js_4 49 1, js_5 62 9223372036854775807 9223372036854775807])
noncomputable def con_2140 : Con2 := ((yX12_numberAt, cX12_numberAt, 3, (some .long)), (0, 0), ([(6, 0, 0), (0, 2, 0), (0, 57, 0)], gi_1801, [ac_1100, ac_1226], []), [((4, 48, 0), gi_1802, [(false, ac_1100), (false, ac_1226)], [], [1])])
theorem hd_2140 : con_2140.1 = (yX12_numberAt, cX12_numberAt, 3, (some .long)) := rfl
noncomputable def cu_2140 : List CUT2 := []
theorem ch_2140 : staG tb_X12_numberAt 1 bt_RX12 [] ct_2 [] [] cu_2140 11 con_2140 = true := by decide +kernel
theorem vl_2140 (l : Launch) : Vld2 l vwCl gTbl con_2140 := conR_ok3 gT_all (hd_2140) rfl pn_RX12 tk_X12_numberAt bo_RX12 xo_RX12 (cto_2 l) ch_2140 cut_nil
/-- RookHustingModel numberAt -/
noncomputable def ac_1227 : AC := .inr (2, jl_n [js_5 178 9223372036854775807 9223372036854775807, js_4 49 1, js_5 61 9223372036854775807 9223372036854775807])
noncomputable def con_2141 : Con2 := ((yX12_numberAt, cX12_numberAt, 3, (some .long)), (0, 0), ([(6, 0, 0), (0, 2, 0), (0, 58, 0)], gi_1801, [ac_1100, ac_1227], []), [((4, 48, 0), gi_1802, [(false, ac_1100), (false, ac_1227)], [], [1])])
theorem hd_2141 : con_2141.1 = (yX12_numberAt, cX12_numberAt, 3, (some .long)) := rfl
noncomputable def cu_2141 : List CUT2 := []
theorem ch_2141 : staG tb_X12_numberAt 1 bt_RX12 [] ct_2 [] [] cu_2141 11 con_2141 = true := by decide +kernel
theorem vl_2141 (l : Launch) : Vld2 l vwCl gTbl con_2141 := conR_ok3 gT_all (hd_2141) rfl pn_RX12 tk_X12_numberAt bo_RX12 xo_RX12 (cto_2 l) ch_2141 cut_nil
/-- RookHustingModel numberAt -/
noncomputable def ac_1228 : AC := .inr (2, jl_n [js_5 179 9223372036854775807 9223372036854775807, js_4 49 1, js_5 60 9223372036854775807 9223372036854775807])
noncomputable def con_2142 : Con2 := ((yX12_numberAt, cX12_numberAt, 3, (some .long)), (0, 0), ([(6, 0, 0), (0, 2, 0), (0, 59, 0)], gi_1801, [ac_1100, ac_1228], []), [((4, 48, 0), gi_1802, [(false, ac_1100), (false, ac_1228)], [], [1])])
theorem hd_2142 : con_2142.1 = (yX12_numberAt, cX12_numberAt, 3, (some .long)) := rfl
noncomputable def cu_2142 : List CUT2 := []
theorem ch_2142 : staG tb_X12_numberAt 1 bt_RX12 [] ct_2 [] [] cu_2142 11 con_2142 = true := by decide +kernel
theorem vl_2142 (l : Launch) : Vld2 l vwCl gTbl con_2142 := conR_ok3 gT_all (hd_2142) rfl pn_RX12 tk_X12_numberAt bo_RX12 xo_RX12 (cto_2 l) ch_2142 cut_nil
/-- RookHustingModel askSeen -/
noncomputable def ac_1229 : AC := .inr (2, jl_n [js_5 120 9223372036854775807 9223372036854775807, js_4 135 60, js_5 60 9223372036854775807 9223372036854775807])
noncomputable def hq_921 : HP := [(false, ac_1097), (false, ac_440), (false, ac_1098), (false, ac_1229)]
noncomputable def gi_2010 : GI := jl_n [gp_739, gp_491, gp_495, jl_z 1]
noncomputable def gi_2011 : GI := jl_n [gp_739, gp_767, jl_z 1]
noncomputable def gi_2012 : GI := jl_n [gp_768, gp_498, jl_z 1]
noncomputable def gi_2013 : GI := jl_n [gp_768, gp_500, jl_z 1]
noncomputable def gi_2014 : GI := jl_n [gp_768, gp_502, jl_z 1]
noncomputable def gi_2015 : GI := jl_n [gp_768, gp_504, jl_z 1]
noncomputable def gi_2016 : GI := jl_n [gp_768, gp_507, jl_z 1]
noncomputable def gi_2017 : GI := jl_n [gp_768, gp_509, jl_z 1]
noncomputable def gi_2018 : GI := jl_n [gp_768, gp_511, jl_z 1]
noncomputable def gi_2019 : GI := jl_n [gp_768, gp_513, jl_z 1]
noncomputable def gi_2020 : GI := jl_n [gp_768, gp_515, jl_z 1]
noncomputable def gi_2021 : GI := jl_n [gp_768, gp_517, jl_z 1]
noncomputable def gi_2022 : GI := jl_n [gp_768, gp_519, jl_z 1]
noncomputable def gi_2023 : GI := jl_n [gp_768, gp_521, jl_z 1]
noncomputable def gi_2024 : GI := jl_n [gp_768, gp_523, jl_z 1]
noncomputable def gi_2025 : GI := jl_n [gp_768, gp_525, jl_z 1]
noncomputable def gi_2026 : GI := jl_n [gp_768, gp_527, jl_z 1]
noncomputable def gi_2027 : GI := jl_n [gp_768, gp_529, jl_z 1]
noncomputable def gi_2028 : GI := jl_n [gp_768, gp_531, jl_z 1]
noncomputable def gi_2029 : GI := jl_n [gp_768, gp_533, jl_z 1]
noncomputable def gi_2030 : GI := jl_n [gp_768, gp_534, jl_z 1]
noncomputable def gi_2031 : GI := jl_n [gp_768, gp_536, jl_z 1]
noncomputable def con_2143 : Con2 := ((yX12_askSeen, cX12_askSeen, 4, (some .int)), (2, 47), ([(6, 0, 0), (0, 2, 0), (1, 2, 0)], gi_1806, [ac_1097, ac_440, ac_1098, ac_1229], []), [((0, (-2), 0), gi_1807, hq_921, [], [1]), ((0, (-6), 0), gi_2010, hq_921, [], [1]), ((0, 0, 0), gi_2011, hq_921, [], [1]), ((0, 0, 0), gi_2012, hq_921, [], [1]), ((0, 0, 0), gi_2013, hq_921, [], [1]), ((0, 0, 0), gi_2014, hq_921, [], [1]), ((0, 0, 0), gi_2015, hq_921, [], [1]), ((0, 0, 0), gi_2016, hq_921, [], [1]), ((0, 0, 0), gi_2017, hq_921, [], [1]), ((0, 0, 0), gi_2018, hq_921, [], [1]), ((0, 0, 0), gi_2019, hq_921, [], [1]), ((0, 0, 0), gi_2020, hq_921, [], [1]), ((0, 0, 0), gi_2021, hq_921, [], [1]), ((0, 0, 0), gi_2022, hq_921, [], [1]), ((0, 0, 0), gi_2023, hq_921, [], [1]), ((0, 0, 0), gi_2024, hq_921, [], [1]), ((0, 0, 0), gi_2025, hq_921, [], [1]), ((0, 0, 0), gi_2026, hq_921, [], [1]), ((0, 0, 0), gi_2027, hq_921, [], [1]), ((0, 0, 0), gi_2028, hq_921, [], [1]), ((0, 0, 0), gi_2029, hq_921, [], [1]), ((0, 0, 0), gi_2030, hq_921, [], [1]), ((0, 0, 0), gi_2031, hq_921, [], [1])])
theorem hd_2143 : con_2143.1 = (yX12_askSeen, cX12_askSeen, 4, (some .int)) := rfl
theorem ck_RX12_417_2085 : COK2 RX12 vwCl gTbl 417 0 con_2085 := ⟨wd_2061, wd_137, mh_X12_numberAt, .inr (.inr ⟨rfl, wd_2058, wd_2060, wd_114, ⟨_, rfl, pd_X12_numberAt⟩, 12, _, TX12, 45, rfl, rfl⟩)⟩
theorem ck_RX12_417_2088 : COK2 RX12 vwCl gTbl 417 0 con_2088 := ⟨wd_2061, wd_137, mh_X12_numberAt, .inr (.inr ⟨rfl, wd_2058, wd_2060, wd_114, ⟨_, rfl, pd_X12_numberAt⟩, 12, _, TX12, 45, rfl, rfl⟩)⟩
theorem ck_RX12_417_2091 : COK2 RX12 vwCl gTbl 417 0 con_2091 := ⟨wd_2061, wd_137, mh_X12_numberAt, .inr (.inr ⟨rfl, wd_2058, wd_2060, wd_114, ⟨_, rfl, pd_X12_numberAt⟩, 12, _, TX12, 45, rfl, rfl⟩)⟩
theorem ck_RX12_417_2094 : COK2 RX12 vwCl gTbl 417 0 con_2094 := ⟨wd_2061, wd_137, mh_X12_numberAt, .inr (.inr ⟨rfl, wd_2058, wd_2060, wd_114, ⟨_, rfl, pd_X12_numberAt⟩, 12, _, TX12, 45, rfl, rfl⟩)⟩
theorem ck_RX12_417_2097 : COK2 RX12 vwCl gTbl 417 0 con_2097 := ⟨wd_2061, wd_137, mh_X12_numberAt, .inr (.inr ⟨rfl, wd_2058, wd_2060, wd_114, ⟨_, rfl, pd_X12_numberAt⟩, 12, _, TX12, 45, rfl, rfl⟩)⟩
theorem ck_RX12_417_2100 : COK2 RX12 vwCl gTbl 417 0 con_2100 := ⟨wd_2061, wd_137, mh_X12_numberAt, .inr (.inr ⟨rfl, wd_2058, wd_2060, wd_114, ⟨_, rfl, pd_X12_numberAt⟩, 12, _, TX12, 45, rfl, rfl⟩)⟩
theorem ck_RX12_417_2103 : COK2 RX12 vwCl gTbl 417 0 con_2103 := ⟨wd_2061, wd_137, mh_X12_numberAt, .inr (.inr ⟨rfl, wd_2058, wd_2060, wd_114, ⟨_, rfl, pd_X12_numberAt⟩, 12, _, TX12, 45, rfl, rfl⟩)⟩
theorem ck_RX12_417_2106 : COK2 RX12 vwCl gTbl 417 0 con_2106 := ⟨wd_2061, wd_137, mh_X12_numberAt, .inr (.inr ⟨rfl, wd_2058, wd_2060, wd_114, ⟨_, rfl, pd_X12_numberAt⟩, 12, _, TX12, 45, rfl, rfl⟩)⟩
theorem ck_RX12_417_2109 : COK2 RX12 vwCl gTbl 417 0 con_2109 := ⟨wd_2061, wd_137, mh_X12_numberAt, .inr (.inr ⟨rfl, wd_2058, wd_2060, wd_114, ⟨_, rfl, pd_X12_numberAt⟩, 12, _, TX12, 45, rfl, rfl⟩)⟩
theorem ck_RX12_417_2112 : COK2 RX12 vwCl gTbl 417 0 con_2112 := ⟨wd_2061, wd_137, mh_X12_numberAt, .inr (.inr ⟨rfl, wd_2058, wd_2060, wd_114, ⟨_, rfl, pd_X12_numberAt⟩, 12, _, TX12, 45, rfl, rfl⟩)⟩
theorem ck_RX12_417_2115 : COK2 RX12 vwCl gTbl 417 0 con_2115 := ⟨wd_2061, wd_137, mh_X12_numberAt, .inr (.inr ⟨rfl, wd_2058, wd_2060, wd_114, ⟨_, rfl, pd_X12_numberAt⟩, 12, _, TX12, 45, rfl, rfl⟩)⟩
theorem ck_RX12_417_2118 : COK2 RX12 vwCl gTbl 417 0 con_2118 := ⟨wd_2061, wd_137, mh_X12_numberAt, .inr (.inr ⟨rfl, wd_2058, wd_2060, wd_114, ⟨_, rfl, pd_X12_numberAt⟩, 12, _, TX12, 45, rfl, rfl⟩)⟩
theorem ck_RX12_417_2121 : COK2 RX12 vwCl gTbl 417 0 con_2121 := ⟨wd_2061, wd_137, mh_X12_numberAt, .inr (.inr ⟨rfl, wd_2058, wd_2060, wd_114, ⟨_, rfl, pd_X12_numberAt⟩, 12, _, TX12, 45, rfl, rfl⟩)⟩
theorem ck_RX12_417_2124 : COK2 RX12 vwCl gTbl 417 0 con_2124 := ⟨wd_2061, wd_137, mh_X12_numberAt, .inr (.inr ⟨rfl, wd_2058, wd_2060, wd_114, ⟨_, rfl, pd_X12_numberAt⟩, 12, _, TX12, 45, rfl, rfl⟩)⟩
theorem ck_RX12_417_2127 : COK2 RX12 vwCl gTbl 417 0 con_2127 := ⟨wd_2061, wd_137, mh_X12_numberAt, .inr (.inr ⟨rfl, wd_2058, wd_2060, wd_114, ⟨_, rfl, pd_X12_numberAt⟩, 12, _, TX12, 45, rfl, rfl⟩)⟩
theorem ck_RX12_417_2130 : COK2 RX12 vwCl gTbl 417 0 con_2130 := ⟨wd_2061, wd_137, mh_X12_numberAt, .inr (.inr ⟨rfl, wd_2058, wd_2060, wd_114, ⟨_, rfl, pd_X12_numberAt⟩, 12, _, TX12, 45, rfl, rfl⟩)⟩
theorem ck_RX12_417_2133 : COK2 RX12 vwCl gTbl 417 0 con_2133 := ⟨wd_2061, wd_137, mh_X12_numberAt, .inr (.inr ⟨rfl, wd_2058, wd_2060, wd_114, ⟨_, rfl, pd_X12_numberAt⟩, 12, _, TX12, 45, rfl, rfl⟩)⟩
theorem ck_RX12_417_2136 : COK2 RX12 vwCl gTbl 417 0 con_2136 := ⟨wd_2061, wd_137, mh_X12_numberAt, .inr (.inr ⟨rfl, wd_2058, wd_2060, wd_114, ⟨_, rfl, pd_X12_numberAt⟩, 12, _, TX12, 45, rfl, rfl⟩)⟩
theorem ck_RX12_417_2139 : COK2 RX12 vwCl gTbl 417 0 con_2139 := ⟨wd_2061, wd_137, mh_X12_numberAt, .inr (.inr ⟨rfl, wd_2058, wd_2060, wd_114, ⟨_, rfl, pd_X12_numberAt⟩, 12, _, TX12, 45, rfl, rfl⟩)⟩
theorem ck_RX12_417_2142 : COK2 RX12 vwCl gTbl 417 0 con_2142 := ⟨wd_2061, wd_137, mh_X12_numberAt, .inr (.inr ⟨rfl, wd_2058, wd_2060, wd_114, ⟨_, rfl, pd_X12_numberAt⟩, 12, _, TX12, 45, rfl, rfl⟩)⟩
theorem ck_RX12_417_2084 : COK2 RX12 vwCl gTbl 417 0 con_2084 := ⟨wd_2061, wd_137, mh_X12_numberAt, .inr (.inr ⟨rfl, wd_2058, wd_2060, wd_114, ⟨_, rfl, pd_X12_numberAt⟩, 12, _, TX12, 45, rfl, rfl⟩)⟩
theorem ck_RX12_417_2087 : COK2 RX12 vwCl gTbl 417 0 con_2087 := ⟨wd_2061, wd_137, mh_X12_numberAt, .inr (.inr ⟨rfl, wd_2058, wd_2060, wd_114, ⟨_, rfl, pd_X12_numberAt⟩, 12, _, TX12, 45, rfl, rfl⟩)⟩
theorem ck_RX12_417_2090 : COK2 RX12 vwCl gTbl 417 0 con_2090 := ⟨wd_2061, wd_137, mh_X12_numberAt, .inr (.inr ⟨rfl, wd_2058, wd_2060, wd_114, ⟨_, rfl, pd_X12_numberAt⟩, 12, _, TX12, 45, rfl, rfl⟩)⟩
theorem ck_RX12_417_2093 : COK2 RX12 vwCl gTbl 417 0 con_2093 := ⟨wd_2061, wd_137, mh_X12_numberAt, .inr (.inr ⟨rfl, wd_2058, wd_2060, wd_114, ⟨_, rfl, pd_X12_numberAt⟩, 12, _, TX12, 45, rfl, rfl⟩)⟩
theorem ck_RX12_417_2096 : COK2 RX12 vwCl gTbl 417 0 con_2096 := ⟨wd_2061, wd_137, mh_X12_numberAt, .inr (.inr ⟨rfl, wd_2058, wd_2060, wd_114, ⟨_, rfl, pd_X12_numberAt⟩, 12, _, TX12, 45, rfl, rfl⟩)⟩
theorem ck_RX12_417_2099 : COK2 RX12 vwCl gTbl 417 0 con_2099 := ⟨wd_2061, wd_137, mh_X12_numberAt, .inr (.inr ⟨rfl, wd_2058, wd_2060, wd_114, ⟨_, rfl, pd_X12_numberAt⟩, 12, _, TX12, 45, rfl, rfl⟩)⟩
theorem ck_RX12_417_2102 : COK2 RX12 vwCl gTbl 417 0 con_2102 := ⟨wd_2061, wd_137, mh_X12_numberAt, .inr (.inr ⟨rfl, wd_2058, wd_2060, wd_114, ⟨_, rfl, pd_X12_numberAt⟩, 12, _, TX12, 45, rfl, rfl⟩)⟩
theorem ck_RX12_417_2105 : COK2 RX12 vwCl gTbl 417 0 con_2105 := ⟨wd_2061, wd_137, mh_X12_numberAt, .inr (.inr ⟨rfl, wd_2058, wd_2060, wd_114, ⟨_, rfl, pd_X12_numberAt⟩, 12, _, TX12, 45, rfl, rfl⟩)⟩
theorem ck_RX12_417_2108 : COK2 RX12 vwCl gTbl 417 0 con_2108 := ⟨wd_2061, wd_137, mh_X12_numberAt, .inr (.inr ⟨rfl, wd_2058, wd_2060, wd_114, ⟨_, rfl, pd_X12_numberAt⟩, 12, _, TX12, 45, rfl, rfl⟩)⟩
theorem ck_RX12_417_2111 : COK2 RX12 vwCl gTbl 417 0 con_2111 := ⟨wd_2061, wd_137, mh_X12_numberAt, .inr (.inr ⟨rfl, wd_2058, wd_2060, wd_114, ⟨_, rfl, pd_X12_numberAt⟩, 12, _, TX12, 45, rfl, rfl⟩)⟩
theorem ck_RX12_417_2114 : COK2 RX12 vwCl gTbl 417 0 con_2114 := ⟨wd_2061, wd_137, mh_X12_numberAt, .inr (.inr ⟨rfl, wd_2058, wd_2060, wd_114, ⟨_, rfl, pd_X12_numberAt⟩, 12, _, TX12, 45, rfl, rfl⟩)⟩
theorem ck_RX12_417_2117 : COK2 RX12 vwCl gTbl 417 0 con_2117 := ⟨wd_2061, wd_137, mh_X12_numberAt, .inr (.inr ⟨rfl, wd_2058, wd_2060, wd_114, ⟨_, rfl, pd_X12_numberAt⟩, 12, _, TX12, 45, rfl, rfl⟩)⟩
theorem ck_RX12_417_2120 : COK2 RX12 vwCl gTbl 417 0 con_2120 := ⟨wd_2061, wd_137, mh_X12_numberAt, .inr (.inr ⟨rfl, wd_2058, wd_2060, wd_114, ⟨_, rfl, pd_X12_numberAt⟩, 12, _, TX12, 45, rfl, rfl⟩)⟩
theorem ck_RX12_417_2123 : COK2 RX12 vwCl gTbl 417 0 con_2123 := ⟨wd_2061, wd_137, mh_X12_numberAt, .inr (.inr ⟨rfl, wd_2058, wd_2060, wd_114, ⟨_, rfl, pd_X12_numberAt⟩, 12, _, TX12, 45, rfl, rfl⟩)⟩
theorem ck_RX12_417_2126 : COK2 RX12 vwCl gTbl 417 0 con_2126 := ⟨wd_2061, wd_137, mh_X12_numberAt, .inr (.inr ⟨rfl, wd_2058, wd_2060, wd_114, ⟨_, rfl, pd_X12_numberAt⟩, 12, _, TX12, 45, rfl, rfl⟩)⟩
theorem ck_RX12_417_2129 : COK2 RX12 vwCl gTbl 417 0 con_2129 := ⟨wd_2061, wd_137, mh_X12_numberAt, .inr (.inr ⟨rfl, wd_2058, wd_2060, wd_114, ⟨_, rfl, pd_X12_numberAt⟩, 12, _, TX12, 45, rfl, rfl⟩)⟩
theorem ck_RX12_417_2132 : COK2 RX12 vwCl gTbl 417 0 con_2132 := ⟨wd_2061, wd_137, mh_X12_numberAt, .inr (.inr ⟨rfl, wd_2058, wd_2060, wd_114, ⟨_, rfl, pd_X12_numberAt⟩, 12, _, TX12, 45, rfl, rfl⟩)⟩
theorem ck_RX12_417_2135 : COK2 RX12 vwCl gTbl 417 0 con_2135 := ⟨wd_2061, wd_137, mh_X12_numberAt, .inr (.inr ⟨rfl, wd_2058, wd_2060, wd_114, ⟨_, rfl, pd_X12_numberAt⟩, 12, _, TX12, 45, rfl, rfl⟩)⟩
theorem ck_RX12_417_2138 : COK2 RX12 vwCl gTbl 417 0 con_2138 := ⟨wd_2061, wd_137, mh_X12_numberAt, .inr (.inr ⟨rfl, wd_2058, wd_2060, wd_114, ⟨_, rfl, pd_X12_numberAt⟩, 12, _, TX12, 45, rfl, rfl⟩)⟩
theorem ck_RX12_417_2141 : COK2 RX12 vwCl gTbl 417 0 con_2141 := ⟨wd_2061, wd_137, mh_X12_numberAt, .inr (.inr ⟨rfl, wd_2058, wd_2060, wd_114, ⟨_, rfl, pd_X12_numberAt⟩, 12, _, TX12, 45, rfl, rfl⟩)⟩
theorem ck_RX12_417_2083 : COK2 RX12 vwCl gTbl 417 0 con_2083 := ⟨wd_2061, wd_137, mh_X12_numberAt, .inr (.inr ⟨rfl, wd_2058, wd_2060, wd_114, ⟨_, rfl, pd_X12_numberAt⟩, 12, _, TX12, 45, rfl, rfl⟩)⟩
theorem ck_RX12_417_2086 : COK2 RX12 vwCl gTbl 417 0 con_2086 := ⟨wd_2061, wd_137, mh_X12_numberAt, .inr (.inr ⟨rfl, wd_2058, wd_2060, wd_114, ⟨_, rfl, pd_X12_numberAt⟩, 12, _, TX12, 45, rfl, rfl⟩)⟩
theorem ck_RX12_417_2089 : COK2 RX12 vwCl gTbl 417 0 con_2089 := ⟨wd_2061, wd_137, mh_X12_numberAt, .inr (.inr ⟨rfl, wd_2058, wd_2060, wd_114, ⟨_, rfl, pd_X12_numberAt⟩, 12, _, TX12, 45, rfl, rfl⟩)⟩
theorem ck_RX12_417_2092 : COK2 RX12 vwCl gTbl 417 0 con_2092 := ⟨wd_2061, wd_137, mh_X12_numberAt, .inr (.inr ⟨rfl, wd_2058, wd_2060, wd_114, ⟨_, rfl, pd_X12_numberAt⟩, 12, _, TX12, 45, rfl, rfl⟩)⟩
theorem ck_RX12_417_2095 : COK2 RX12 vwCl gTbl 417 0 con_2095 := ⟨wd_2061, wd_137, mh_X12_numberAt, .inr (.inr ⟨rfl, wd_2058, wd_2060, wd_114, ⟨_, rfl, pd_X12_numberAt⟩, 12, _, TX12, 45, rfl, rfl⟩)⟩
theorem ck_RX12_417_2098 : COK2 RX12 vwCl gTbl 417 0 con_2098 := ⟨wd_2061, wd_137, mh_X12_numberAt, .inr (.inr ⟨rfl, wd_2058, wd_2060, wd_114, ⟨_, rfl, pd_X12_numberAt⟩, 12, _, TX12, 45, rfl, rfl⟩)⟩
theorem ck_RX12_417_2101 : COK2 RX12 vwCl gTbl 417 0 con_2101 := ⟨wd_2061, wd_137, mh_X12_numberAt, .inr (.inr ⟨rfl, wd_2058, wd_2060, wd_114, ⟨_, rfl, pd_X12_numberAt⟩, 12, _, TX12, 45, rfl, rfl⟩)⟩
theorem ck_RX12_417_2104 : COK2 RX12 vwCl gTbl 417 0 con_2104 := ⟨wd_2061, wd_137, mh_X12_numberAt, .inr (.inr ⟨rfl, wd_2058, wd_2060, wd_114, ⟨_, rfl, pd_X12_numberAt⟩, 12, _, TX12, 45, rfl, rfl⟩)⟩
theorem ck_RX12_417_2107 : COK2 RX12 vwCl gTbl 417 0 con_2107 := ⟨wd_2061, wd_137, mh_X12_numberAt, .inr (.inr ⟨rfl, wd_2058, wd_2060, wd_114, ⟨_, rfl, pd_X12_numberAt⟩, 12, _, TX12, 45, rfl, rfl⟩)⟩
theorem ck_RX12_417_2110 : COK2 RX12 vwCl gTbl 417 0 con_2110 := ⟨wd_2061, wd_137, mh_X12_numberAt, .inr (.inr ⟨rfl, wd_2058, wd_2060, wd_114, ⟨_, rfl, pd_X12_numberAt⟩, 12, _, TX12, 45, rfl, rfl⟩)⟩
theorem ck_RX12_417_2113 : COK2 RX12 vwCl gTbl 417 0 con_2113 := ⟨wd_2061, wd_137, mh_X12_numberAt, .inr (.inr ⟨rfl, wd_2058, wd_2060, wd_114, ⟨_, rfl, pd_X12_numberAt⟩, 12, _, TX12, 45, rfl, rfl⟩)⟩
theorem ck_RX12_417_2116 : COK2 RX12 vwCl gTbl 417 0 con_2116 := ⟨wd_2061, wd_137, mh_X12_numberAt, .inr (.inr ⟨rfl, wd_2058, wd_2060, wd_114, ⟨_, rfl, pd_X12_numberAt⟩, 12, _, TX12, 45, rfl, rfl⟩)⟩
theorem ck_RX12_417_2119 : COK2 RX12 vwCl gTbl 417 0 con_2119 := ⟨wd_2061, wd_137, mh_X12_numberAt, .inr (.inr ⟨rfl, wd_2058, wd_2060, wd_114, ⟨_, rfl, pd_X12_numberAt⟩, 12, _, TX12, 45, rfl, rfl⟩)⟩
theorem ck_RX12_417_2122 : COK2 RX12 vwCl gTbl 417 0 con_2122 := ⟨wd_2061, wd_137, mh_X12_numberAt, .inr (.inr ⟨rfl, wd_2058, wd_2060, wd_114, ⟨_, rfl, pd_X12_numberAt⟩, 12, _, TX12, 45, rfl, rfl⟩)⟩
theorem ck_RX12_417_2125 : COK2 RX12 vwCl gTbl 417 0 con_2125 := ⟨wd_2061, wd_137, mh_X12_numberAt, .inr (.inr ⟨rfl, wd_2058, wd_2060, wd_114, ⟨_, rfl, pd_X12_numberAt⟩, 12, _, TX12, 45, rfl, rfl⟩)⟩
theorem ck_RX12_417_2128 : COK2 RX12 vwCl gTbl 417 0 con_2128 := ⟨wd_2061, wd_137, mh_X12_numberAt, .inr (.inr ⟨rfl, wd_2058, wd_2060, wd_114, ⟨_, rfl, pd_X12_numberAt⟩, 12, _, TX12, 45, rfl, rfl⟩)⟩
theorem ck_RX12_417_2131 : COK2 RX12 vwCl gTbl 417 0 con_2131 := ⟨wd_2061, wd_137, mh_X12_numberAt, .inr (.inr ⟨rfl, wd_2058, wd_2060, wd_114, ⟨_, rfl, pd_X12_numberAt⟩, 12, _, TX12, 45, rfl, rfl⟩)⟩
theorem ck_RX12_417_2134 : COK2 RX12 vwCl gTbl 417 0 con_2134 := ⟨wd_2061, wd_137, mh_X12_numberAt, .inr (.inr ⟨rfl, wd_2058, wd_2060, wd_114, ⟨_, rfl, pd_X12_numberAt⟩, 12, _, TX12, 45, rfl, rfl⟩)⟩
theorem ck_RX12_417_2137 : COK2 RX12 vwCl gTbl 417 0 con_2137 := ⟨wd_2061, wd_137, mh_X12_numberAt, .inr (.inr ⟨rfl, wd_2058, wd_2060, wd_114, ⟨_, rfl, pd_X12_numberAt⟩, 12, _, TX12, 45, rfl, rfl⟩)⟩
theorem ck_RX12_417_2140 : COK2 RX12 vwCl gTbl 417 0 con_2140 := ⟨wd_2061, wd_137, mh_X12_numberAt, .inr (.inr ⟨rfl, wd_2058, wd_2060, wd_114, ⟨_, rfl, pd_X12_numberAt⟩, 12, _, TX12, 45, rfl, rfl⟩)⟩
theorem ck_RX12_414_2082 : COK2 RX12 vwCl gTbl 414 1 con_2082 := ⟨wd_2057, wd_137, mh_X12_isSlot, .inl ⟨rfl, wd_2055, wd_2056, pd_X12_isSlot⟩⟩
noncomputable def ct_2143 : CTB2 := [(1, 414, 1, con_2082, []), (10, 109, 0, con_647, [0, 1]), (62, 417, 0, con_2140, [0, 3]), (62, 417, 0, con_2137, [0, 3]), (62, 417, 0, con_2134, [0, 3]), (62, 417, 0, con_2131, [0, 3]), (62, 417, 0, con_2128, [0, 3]), (62, 417, 0, con_2125, [0, 3]), (62, 417, 0, con_2122, [0, 3]), (62, 417, 0, con_2119, [0, 3]), (62, 417, 0, con_2116, [0, 3]), (62, 417, 0, con_2113, [0, 3]), (62, 417, 0, con_2110, [0, 3]), (62, 417, 0, con_2107, [0, 3]), (62, 417, 0, con_2104, [0, 3]), (62, 417, 0, con_2101, [0, 3]), (62, 417, 0, con_2098, [0, 3]), (62, 417, 0, con_2095, [0, 3]), (62, 417, 0, con_2092, [0, 3]), (62, 417, 0, con_2089, [0, 3]), (62, 417, 0, con_2086, [0, 3]), (62, 417, 0, con_2083, [0, 3]), (65, 109, 0, con_1932, [0, 1]), (77, 417, 0, con_2141, [0, 3]), (77, 417, 0, con_2138, [0, 3]), (77, 417, 0, con_2135, [0, 3]), (77, 417, 0, con_2132, [0, 3]), (77, 417, 0, con_2129, [0, 3]), (77, 417, 0, con_2126, [0, 3]), (77, 417, 0, con_2123, [0, 3]), (77, 417, 0, con_2120, [0, 3]), (77, 417, 0, con_2117, [0, 3]), (77, 417, 0, con_2114, [0, 3]), (77, 417, 0, con_2111, [0, 3]), (77, 417, 0, con_2108, [0, 3]), (77, 417, 0, con_2105, [0, 3]), (77, 417, 0, con_2102, [0, 3]), (77, 417, 0, con_2099, [0, 3]), (77, 417, 0, con_2096, [0, 3]), (77, 417, 0, con_2093, [0, 3]), (77, 417, 0, con_2090, [0, 3]), (77, 417, 0, con_2087, [0, 3]), (77, 417, 0, con_2084, [0, 3]), (80, 369, 0, con_1934, [0, 1]), (91, 417, 0, con_2142, [0, 3]), (91, 417, 0, con_2139, [0, 3]), (91, 417, 0, con_2136, [0, 3]), (91, 417, 0, con_2133, [0, 3]), (91, 417, 0, con_2130, [0, 3]), (91, 417, 0, con_2127, [0, 3]), (91, 417, 0, con_2124, [0, 3]), (91, 417, 0, con_2121, [0, 3]), (91, 417, 0, con_2118, [0, 3]), (91, 417, 0, con_2115, [0, 3]), (91, 417, 0, con_2112, [0, 3]), (91, 417, 0, con_2109, [0, 3]), (91, 417, 0, con_2106, [0, 3]), (91, 417, 0, con_2103, [0, 3]), (91, 417, 0, con_2100, [0, 3]), (91, 417, 0, con_2097, [0, 3]), (91, 417, 0, con_2094, [0, 3]), (91, 417, 0, con_2091, [0, 3]), (91, 417, 0, con_2088, [0, 3]), (91, 417, 0, con_2085, [0, 3]), (98, 91, 1, con_1936, [])]
noncomputable def gi_2032 : GI := jl_n [gp_739, gp_493, jl_r 60 (jl_u), jl_z 4]
noncomputable def gi_2033 : GI := jl_n [gp_768, jl_i 1 60, gp_510, jl_z 4]
noncomputable def gi_2034 : GI := jl_n [gp_768, jl_i 4 60, gp_532, jl_z 4]
noncomputable def gi_2035 : GI := jl_n [gp_768, jl_i 7 60, gp_535, jl_z 4]
noncomputable def gi_2036 : GI := jl_n [gp_768, jl_i 10 60, gp_497, jl_z 4]
noncomputable def gi_2037 : GI := jl_n [gp_768, jl_i 13 60, gp_499, jl_z 4]
noncomputable def gi_2038 : GI := jl_n [gp_768, jl_i 16 60, gp_501, jl_z 4]
noncomputable def gi_2039 : GI := jl_n [gp_768, jl_i 19 60, gp_503, jl_z 4]
noncomputable def gi_2040 : GI := jl_n [gp_768, jl_i 22 60, gp_506, jl_z 4]
noncomputable def gi_2041 : GI := jl_n [gp_768, jl_i 25 60, gp_508, jl_z 4]
noncomputable def gi_2042 : GI := jl_n [gp_768, jl_i 28 60, gp_512, jl_z 4]
noncomputable def gi_2043 : GI := jl_n [gp_768, jl_i 31 60, gp_514, jl_z 4]
noncomputable def gi_2044 : GI := jl_n [gp_768, jl_i 34 60, gp_516, jl_z 4]
noncomputable def gi_2045 : GI := jl_n [gp_768, jl_i 37 60, gp_518, jl_z 4]
noncomputable def gi_2046 : GI := jl_n [gp_768, jl_i 40 60, gp_520, jl_z 4]
noncomputable def gi_2047 : GI := jl_n [gp_768, jl_i 43 60, gp_522, jl_z 4]
noncomputable def gi_2048 : GI := jl_n [gp_768, jl_i 46 60, gp_524, jl_z 4]
noncomputable def gi_2049 : GI := jl_n [gp_768, jl_i 49 60, gp_526, jl_z 4]
noncomputable def gi_2050 : GI := jl_n [gp_768, jl_i 52 60, gp_528, jl_z 4]
noncomputable def gi_2051 : GI := jl_n [gp_768, jl_i 55 60, jl_m 0 60, gp_745]
noncomputable def gi_2052 : GI := jl_n [gp_768, gp_534, jl_z 4]
noncomputable def cu_2143_0 : List CUT2 := [((48, [lq 0 6 0, lq 1 0 2, lq 2 1 2, lq 3 0 0], [], gi_2032, hq_921), [], ([], 60)), ((48, [lq 0 6 0, lq 1 0 2, lq 2 1 2, lq 3 0 3], [], gi_2033, hq_921), [], ([], 57)), ((48, [lq 0 6 0, lq 1 0 2, lq 2 1 2, lq 3 0 6], [], gi_2034, hq_921), [], ([], 54)), ((48, [lq 0 6 0, lq 1 0 2, lq 2 1 2, lq 3 0 9], [], gi_2035, hq_921), [], ([], 51)), ((48, [lq 0 6 0, lq 1 0 2, lq 2 1 2, lq 3 0 12], [], gi_2036, hq_921), [], ([], 48)), ((48, [lq 0 6 0, lq 1 0 2, lq 2 1 2, lq 3 0 15], [], gi_2037, hq_921), [], ([], 45)), ((48, [lq 0 6 0, lq 1 0 2, lq 2 1 2, lq 3 0 18], [], gi_2038, hq_921), [], ([], 42)), ((48, [lq 0 6 0, lq 1 0 2, lq 2 1 2, lq 3 0 21], [], gi_2039, hq_921), [], ([], 39)), ((48, [lq 0 6 0, lq 1 0 2, lq 2 1 2, lq 3 0 24], [], gi_2040, hq_921), [], ([], 36)), ((48, [lq 0 6 0, lq 1 0 2, lq 2 1 2, lq 3 0 27], [], gi_2041, hq_921), [], ([], 33)), ((48, [lq 0 6 0, lq 1 0 2, lq 2 1 2, lq 3 0 30], [], gi_2042, hq_921), [], ([], 30)), ((48, [lq 0 6 0, lq 1 0 2, lq 2 1 2, lq 3 0 33], [], gi_2043, hq_921), [], ([], 27)), ((48, [lq 0 6 0, lq 1 0 2, lq 2 1 2, lq 3 0 36], [], gi_2044, hq_921), [], ([], 24))]
noncomputable def cu_2143_1 : List CUT2 := [((48, [lq 0 6 0, lq 1 0 2, lq 2 1 2, lq 3 0 39], [], gi_2045, hq_921), [], ([], 21)), ((48, [lq 0 6 0, lq 1 0 2, lq 2 1 2, lq 3 0 42], [], gi_2046, hq_921), [], ([], 18)), ((48, [lq 0 6 0, lq 1 0 2, lq 2 1 2, lq 3 0 45], [], gi_2047, hq_921), [], ([], 15)), ((48, [lq 0 6 0, lq 1 0 2, lq 2 1 2, lq 3 0 48], [], gi_2048, hq_921), [], ([], 12)), ((48, [lq 0 6 0, lq 1 0 2, lq 2 1 2, lq 3 0 51], [], gi_2049, hq_921), [], ([], 9)), ((48, [lq 0 6 0, lq 1 0 2, lq 2 1 2, lq 3 0 54], [], gi_2050, hq_921), [], ([], 6)), ((48, [lq 0 6 0, lq 1 0 2, lq 2 1 2, lq 3 0 57], [], gi_2051, hq_921), [], ([], 3)), ((48, [lq 0 6 0, lq 1 0 2, lq 2 1 2, lq 3 0 60], [], gi_2052, hq_921), [], ([], 0))]
noncomputable def cu_2143 : List CUT2 := cu_2143_0 ++ (cu_2143_1)
theorem ch_2143 : staG tb_X12_askSeen 1 bt_RX12 [] ct_2143 [] [] cu_2143 37 con_2143 = true := by decide +kernel
theorem cc_2143_0 : cu_2143_0.all (cutG tb_X12_askSeen 1 bt_RX12 [] ct_2143 [] [] cu_2143 37 con_2143) = true := by decide +kernel
theorem cc_2143_1 : cu_2143_1.all (cutG tb_X12_askSeen 1 bt_RX12 [] ct_2143 [] [] cu_2143 37 con_2143) = true := by decide +kernel
theorem cto_2143 (l : Launch) : CTOK2 l RX12 vwCl gTbl ct_2143 := ct2_cons (vl_2082 l) ck_RX12_414_2082 (ct2_cons (vl_647 l) ck_RX12_109_647 (ct2_cons (vl_2140 l) ck_RX12_417_2140 (ct2_cons (vl_2137 l) ck_RX12_417_2137 (ct2_cons (vl_2134 l) ck_RX12_417_2134 (ct2_cons (vl_2131 l) ck_RX12_417_2131 (ct2_cons (vl_2128 l) ck_RX12_417_2128 (ct2_cons (vl_2125 l) ck_RX12_417_2125 (ct2_cons (vl_2122 l) ck_RX12_417_2122 (ct2_cons (vl_2119 l) ck_RX12_417_2119 (ct2_cons (vl_2116 l) ck_RX12_417_2116 (ct2_cons (vl_2113 l) ck_RX12_417_2113 (ct2_cons (vl_2110 l) ck_RX12_417_2110 (ct2_cons (vl_2107 l) ck_RX12_417_2107 (ct2_cons (vl_2104 l) ck_RX12_417_2104 (ct2_cons (vl_2101 l) ck_RX12_417_2101 (ct2_cons (vl_2098 l) ck_RX12_417_2098 (ct2_cons (vl_2095 l) ck_RX12_417_2095 (ct2_cons (vl_2092 l) ck_RX12_417_2092 (ct2_cons (vl_2089 l) ck_RX12_417_2089 (ct2_cons (vl_2086 l) ck_RX12_417_2086 (ct2_cons (vl_2083 l) ck_RX12_417_2083 (ct2_cons (vl_1932 l) ck_RX12_109_1932 (ct2_cons (vl_2141 l) ck_RX12_417_2141 (ct2_cons (vl_2138 l) ck_RX12_417_2138 (ct2_cons (vl_2135 l) ck_RX12_417_2135 (ct2_cons (vl_2132 l) ck_RX12_417_2132 (ct2_cons (vl_2129 l) ck_RX12_417_2129 (ct2_cons (vl_2126 l) ck_RX12_417_2126 (ct2_cons (vl_2123 l) ck_RX12_417_2123 (ct2_cons (vl_2120 l) ck_RX12_417_2120 (ct2_cons (vl_2117 l) ck_RX12_417_2117 (ct2_cons (vl_2114 l) ck_RX12_417_2114 (ct2_cons (vl_2111 l) ck_RX12_417_2111 (ct2_cons (vl_2108 l) ck_RX12_417_2108 (ct2_cons (vl_2105 l) ck_RX12_417_2105 (ct2_cons (vl_2102 l) ck_RX12_417_2102 (ct2_cons (vl_2099 l) ck_RX12_417_2099 (ct2_cons (vl_2096 l) ck_RX12_417_2096 (ct2_cons (vl_2093 l) ck_RX12_417_2093 (ct2_cons (vl_2090 l) ck_RX12_417_2090 (ct2_cons (vl_2087 l) ck_RX12_417_2087 (ct2_cons (vl_2084 l) ck_RX12_417_2084 (ct2_cons (vl_1934 l) ck_RX12_369_1934 (ct2_cons (vl_2142 l) ck_RX12_417_2142 (ct2_cons (vl_2139 l) ck_RX12_417_2139 (ct2_cons (vl_2136 l) ck_RX12_417_2136 (ct2_cons (vl_2133 l) ck_RX12_417_2133 (ct2_cons (vl_2130 l) ck_RX12_417_2130 (ct2_cons (vl_2127 l) ck_RX12_417_2127 (ct2_cons (vl_2124 l) ck_RX12_417_2124 (ct2_cons (vl_2121 l) ck_RX12_417_2121 (ct2_cons (vl_2118 l) ck_RX12_417_2118 (ct2_cons (vl_2115 l) ck_RX12_417_2115 (ct2_cons (vl_2112 l) ck_RX12_417_2112 (ct2_cons (vl_2109 l) ck_RX12_417_2109 (ct2_cons (vl_2106 l) ck_RX12_417_2106 (ct2_cons (vl_2103 l) ck_RX12_417_2103 (ct2_cons (vl_2100 l) ck_RX12_417_2100 (ct2_cons (vl_2097 l) ck_RX12_417_2097 (ct2_cons (vl_2094 l) ck_RX12_417_2094 (ct2_cons (vl_2091 l) ck_RX12_417_2091 (ct2_cons (vl_2088 l) ck_RX12_417_2088 (ct2_cons (vl_2085 l) ck_RX12_417_2085 (ct2_cons (vl_1936 l) ck_RX12_91_1936 (ct2_nil)))))))))))))))))))))))))))))))))))))))))))))))))))))))))))))))))
theorem vl_2143 (l : Launch) : Vld2 l vwCl gTbl con_2143 := conR_ok3 gT_all (hd_2143) rfl pn_RX12 tk_X12_askSeen bo_RX12 xo_RX12 (cto_2143 l) ch_2143 (cut_app (cut_all cc_2143_0) (cut_all cc_2143_1))
/-- RookHustingModel numberAt -/
noncomputable def con_2144 : Con2 := ((yX12_numberAt, cX12_numberAt, 3, (some .long)), (0, 0), ([(6, 0, 0), (0, 2, 0), (0, 1, 0)], gi_1851, [ac_1100, ac_1170], []), [((4, 48, 0), gi_1852, [(false, ac_1100), (false, ac_1170)], [], [1])])
theorem hd_2144 : con_2144.1 = (yX12_numberAt, cX12_numberAt, 3, (some .long)) := rfl
noncomputable def cu_2144 : List CUT2 := []
theorem ch_2144 : staG tb_X12_numberAt 1 bt_RX12 [] ct_2 [] [] cu_2144 11 con_2144 = true := by decide +kernel
theorem vl_2144 (l : Launch) : Vld2 l vwCl gTbl con_2144 := conR_ok3 gT_all (hd_2144) rfl pn_RX12 tk_X12_numberAt bo_RX12 xo_RX12 (cto_2 l) ch_2144 cut_nil
/-- RookHustingModel numberAt -/
noncomputable def con_2145 : Con2 := ((yX12_numberAt, cX12_numberAt, 3, (some .long)), (0, 0), ([(6, 0, 0), (0, 2, 0), (0, 0, 0)], gi_1853, [ac_1100, ac_1169], []), [((4, 48, 0), gi_1854, [(false, ac_1100), (false, ac_1169)], [], [1])])
theorem hd_2145 : con_2145.1 = (yX12_numberAt, cX12_numberAt, 3, (some .long)) := rfl
noncomputable def cu_2145 : List CUT2 := []
theorem ch_2145 : staG tb_X12_numberAt 1 bt_RX12 [] ct_2 [] [] cu_2145 11 con_2145 = true := by decide +kernel
theorem vl_2145 (l : Launch) : Vld2 l vwCl gTbl con_2145 := conR_ok3 gT_all (hd_2145) rfl pn_RX12 tk_X12_numberAt bo_RX12 xo_RX12 (cto_2 l) ch_2145 cut_nil
/-- RookHustingModel numberAt -/
noncomputable def con_2146 : Con2 := ((yX12_numberAt, cX12_numberAt, 3, (some .long)), (0, 0), ([(6, 0, 0), (0, 2, 0), (0, 2, 0)], gi_1855, [ac_1100, ac_1171], []), [((4, 48, 0), gi_1856, [(false, ac_1100), (false, ac_1171)], [], [1])])
theorem hd_2146 : con_2146.1 = (yX12_numberAt, cX12_numberAt, 3, (some .long)) := rfl
noncomputable def cu_2146 : List CUT2 := []
theorem ch_2146 : staG tb_X12_numberAt 1 bt_RX12 [] ct_2 [] [] cu_2146 11 con_2146 = true := by decide +kernel
theorem vl_2146 (l : Launch) : Vld2 l vwCl gTbl con_2146 := conR_ok3 gT_all (hd_2146) rfl pn_RX12 tk_X12_numberAt bo_RX12 xo_RX12 (cto_2 l) ch_2146 cut_nil
/-- RookHustingModel numberAt -/
noncomputable def con_2147 : Con2 := ((yX12_numberAt, cX12_numberAt, 3, (some .long)), (0, 0), ([(6, 0, 0), (0, 2, 0), (0, 4, 0)], gi_1851, [ac_1100, ac_1173], []), [((4, 48, 0), gi_1852, [(false, ac_1100), (false, ac_1173)], [], [1])])
theorem hd_2147 : con_2147.1 = (yX12_numberAt, cX12_numberAt, 3, (some .long)) := rfl
noncomputable def cu_2147 : List CUT2 := []
theorem ch_2147 : staG tb_X12_numberAt 1 bt_RX12 [] ct_2 [] [] cu_2147 11 con_2147 = true := by decide +kernel
theorem vl_2147 (l : Launch) : Vld2 l vwCl gTbl con_2147 := conR_ok3 gT_all (hd_2147) rfl pn_RX12 tk_X12_numberAt bo_RX12 xo_RX12 (cto_2 l) ch_2147 cut_nil
/-- RookHustingModel numberAt -/
noncomputable def con_2148 : Con2 := ((yX12_numberAt, cX12_numberAt, 3, (some .long)), (0, 0), ([(6, 0, 0), (0, 2, 0), (0, 3, 0)], gi_1853, [ac_1100, ac_1172], []), [((4, 48, 0), gi_1854, [(false, ac_1100), (false, ac_1172)], [], [1])])
theorem hd_2148 : con_2148.1 = (yX12_numberAt, cX12_numberAt, 3, (some .long)) := rfl
noncomputable def cu_2148 : List CUT2 := []
theorem ch_2148 : staG tb_X12_numberAt 1 bt_RX12 [] ct_2 [] [] cu_2148 11 con_2148 = true := by decide +kernel
theorem vl_2148 (l : Launch) : Vld2 l vwCl gTbl con_2148 := conR_ok3 gT_all (hd_2148) rfl pn_RX12 tk_X12_numberAt bo_RX12 xo_RX12 (cto_2 l) ch_2148 cut_nil
/-- RookHustingModel numberAt -/
noncomputable def con_2149 : Con2 := ((yX12_numberAt, cX12_numberAt, 3, (some .long)), (0, 0), ([(6, 0, 0), (0, 2, 0), (0, 5, 0)], gi_1855, [ac_1100, ac_1174], []), [((4, 48, 0), gi_1856, [(false, ac_1100), (false, ac_1174)], [], [1])])
theorem hd_2149 : con_2149.1 = (yX12_numberAt, cX12_numberAt, 3, (some .long)) := rfl
noncomputable def cu_2149 : List CUT2 := []
theorem ch_2149 : staG tb_X12_numberAt 1 bt_RX12 [] ct_2 [] [] cu_2149 11 con_2149 = true := by decide +kernel
theorem vl_2149 (l : Launch) : Vld2 l vwCl gTbl con_2149 := conR_ok3 gT_all (hd_2149) rfl pn_RX12 tk_X12_numberAt bo_RX12 xo_RX12 (cto_2 l) ch_2149 cut_nil
/-- RookHustingModel numberAt -/
noncomputable def con_2150 : Con2 := ((yX12_numberAt, cX12_numberAt, 3, (some .long)), (0, 0), ([(6, 0, 0), (0, 2, 0), (0, 7, 0)], gi_1851, [ac_1100, ac_1176], []), [((4, 48, 0), gi_1852, [(false, ac_1100), (false, ac_1176)], [], [1])])
theorem hd_2150 : con_2150.1 = (yX12_numberAt, cX12_numberAt, 3, (some .long)) := rfl
noncomputable def cu_2150 : List CUT2 := []
theorem ch_2150 : staG tb_X12_numberAt 1 bt_RX12 [] ct_2 [] [] cu_2150 11 con_2150 = true := by decide +kernel
theorem vl_2150 (l : Launch) : Vld2 l vwCl gTbl con_2150 := conR_ok3 gT_all (hd_2150) rfl pn_RX12 tk_X12_numberAt bo_RX12 xo_RX12 (cto_2 l) ch_2150 cut_nil
/-- RookHustingModel numberAt -/
noncomputable def con_2151 : Con2 := ((yX12_numberAt, cX12_numberAt, 3, (some .long)), (0, 0), ([(6, 0, 0), (0, 2, 0), (0, 6, 0)], gi_1853, [ac_1100, ac_1175], []), [((4, 48, 0), gi_1854, [(false, ac_1100), (false, ac_1175)], [], [1])])
theorem hd_2151 : con_2151.1 = (yX12_numberAt, cX12_numberAt, 3, (some .long)) := rfl
noncomputable def cu_2151 : List CUT2 := []
theorem ch_2151 : staG tb_X12_numberAt 1 bt_RX12 [] ct_2 [] [] cu_2151 11 con_2151 = true := by decide +kernel
theorem vl_2151 (l : Launch) : Vld2 l vwCl gTbl con_2151 := conR_ok3 gT_all (hd_2151) rfl pn_RX12 tk_X12_numberAt bo_RX12 xo_RX12 (cto_2 l) ch_2151 cut_nil
/-- RookHustingModel numberAt -/
noncomputable def con_2152 : Con2 := ((yX12_numberAt, cX12_numberAt, 3, (some .long)), (0, 0), ([(6, 0, 0), (0, 2, 0), (0, 8, 0)], gi_1855, [ac_1100, ac_1177], []), [((4, 48, 0), gi_1856, [(false, ac_1100), (false, ac_1177)], [], [1])])
theorem hd_2152 : con_2152.1 = (yX12_numberAt, cX12_numberAt, 3, (some .long)) := rfl
noncomputable def cu_2152 : List CUT2 := []
theorem ch_2152 : staG tb_X12_numberAt 1 bt_RX12 [] ct_2 [] [] cu_2152 11 con_2152 = true := by decide +kernel
theorem vl_2152 (l : Launch) : Vld2 l vwCl gTbl con_2152 := conR_ok3 gT_all (hd_2152) rfl pn_RX12 tk_X12_numberAt bo_RX12 xo_RX12 (cto_2 l) ch_2152 cut_nil
/-- RookHustingModel isSeen -/
noncomputable def gi_2053 : GI := jl_n [gp_769, gp_536]
noncomputable def ac_1230 : AC := .inr (2, jl_n [js_5 120 9223372036854775807 9223372036854775807, js_4 111 60, js_5 60 9223372036854775807 9223372036854775807])
noncomputable def hc_218 : List AC := [ac_1162, ac_1163, ac_1230, am_0]
noncomputable def gi_2054 : GI := jl_n [gp_769, gp_536, jl_z 1]
noncomputable def hq_922 : HP := [(false, ac_1162), (false, ac_1163), (false, ac_1230), (false, am_0)]
noncomputable def con_2153 : Con2 := ((yX12_isSeen, cX12_isSeen, 3, (some .boolean)), (1, 22), ([(6, 0, 0), (0, 2, 0)], gi_2053, hc_218, []), [((0, 0, 0), gi_2054, hq_922, [], [1]), ((0, 1, 0), gi_2054, hq_922, [], [1])])
theorem hd_2153 : con_2153.1 = (yX12_isSeen, cX12_isSeen, 3, (some .boolean)) := rfl
theorem ck_RX12_417_2146 : COK2 RX12 vwCl gTbl 417 0 con_2146 := ⟨wd_2061, wd_137, mh_X12_numberAt, .inr (.inr ⟨rfl, wd_2058, wd_2060, wd_114, ⟨_, rfl, pd_X12_numberAt⟩, 12, _, TX12, 45, rfl, rfl⟩)⟩
theorem ck_RX12_417_2149 : COK2 RX12 vwCl gTbl 417 0 con_2149 := ⟨wd_2061, wd_137, mh_X12_numberAt, .inr (.inr ⟨rfl, wd_2058, wd_2060, wd_114, ⟨_, rfl, pd_X12_numberAt⟩, 12, _, TX12, 45, rfl, rfl⟩)⟩
theorem ck_RX12_417_2152 : COK2 RX12 vwCl gTbl 417 0 con_2152 := ⟨wd_2061, wd_137, mh_X12_numberAt, .inr (.inr ⟨rfl, wd_2058, wd_2060, wd_114, ⟨_, rfl, pd_X12_numberAt⟩, 12, _, TX12, 45, rfl, rfl⟩)⟩
theorem ck_RX12_417_2145 : COK2 RX12 vwCl gTbl 417 0 con_2145 := ⟨wd_2061, wd_137, mh_X12_numberAt, .inr (.inr ⟨rfl, wd_2058, wd_2060, wd_114, ⟨_, rfl, pd_X12_numberAt⟩, 12, _, TX12, 45, rfl, rfl⟩)⟩
theorem ck_RX12_417_2148 : COK2 RX12 vwCl gTbl 417 0 con_2148 := ⟨wd_2061, wd_137, mh_X12_numberAt, .inr (.inr ⟨rfl, wd_2058, wd_2060, wd_114, ⟨_, rfl, pd_X12_numberAt⟩, 12, _, TX12, 45, rfl, rfl⟩)⟩
theorem ck_RX12_417_2151 : COK2 RX12 vwCl gTbl 417 0 con_2151 := ⟨wd_2061, wd_137, mh_X12_numberAt, .inr (.inr ⟨rfl, wd_2058, wd_2060, wd_114, ⟨_, rfl, pd_X12_numberAt⟩, 12, _, TX12, 45, rfl, rfl⟩)⟩
theorem ck_RX12_417_2144 : COK2 RX12 vwCl gTbl 417 0 con_2144 := ⟨wd_2061, wd_137, mh_X12_numberAt, .inr (.inr ⟨rfl, wd_2058, wd_2060, wd_114, ⟨_, rfl, pd_X12_numberAt⟩, 12, _, TX12, 45, rfl, rfl⟩)⟩
theorem ck_RX12_417_2147 : COK2 RX12 vwCl gTbl 417 0 con_2147 := ⟨wd_2061, wd_137, mh_X12_numberAt, .inr (.inr ⟨rfl, wd_2058, wd_2060, wd_114, ⟨_, rfl, pd_X12_numberAt⟩, 12, _, TX12, 45, rfl, rfl⟩)⟩
theorem ck_RX12_417_2150 : COK2 RX12 vwCl gTbl 417 0 con_2150 := ⟨wd_2061, wd_137, mh_X12_numberAt, .inr (.inr ⟨rfl, wd_2058, wd_2060, wd_114, ⟨_, rfl, pd_X12_numberAt⟩, 12, _, TX12, 45, rfl, rfl⟩)⟩
noncomputable def ct_2153 : CTB2 := [(22, 417, 0, con_2150, [0, 2]), (22, 417, 0, con_2147, [0, 2]), (22, 417, 0, con_2144, [0, 2]), (30, 417, 0, con_2151, [0, 2]), (30, 417, 0, con_2148, [0, 2]), (30, 417, 0, con_2145, [0, 2]), (42, 417, 0, con_2152, [0, 2]), (42, 417, 0, con_2149, [0, 2]), (42, 417, 0, con_2146, [0, 2])]
noncomputable def gi_2055 : GI := jl_n [gp_769, gp_536, jl_z 3]
noncomputable def cu_2153 : List CUT2 := [((2, [lq 0 6 0, lq 1 0 2, lq 2 0 0], [], gi_2055, hq_922), [], ([], 9)), ((2, [lq 0 6 0, lq 1 0 2, lq 2 0 3], [], gi_2055, hq_922), [], ([], 6)), ((2, [lq 0 6 0, lq 1 0 2, lq 2 0 6], [], gi_2055, hq_922), [], ([], 3)), ((2, [lq 0 6 0, lq 1 0 2, lq 2 0 9], [], gi_2055, hq_922), [], ([], 0))]
theorem ch_2153 : staG tb_X12_isSeen 1 bt_RX12 [] ct_2153 [] [] cu_2153 37 con_2153 = true := by decide +kernel
theorem cc_2153 : cu_2153.all (cutG tb_X12_isSeen 1 bt_RX12 [] ct_2153 [] [] cu_2153 37 con_2153) = true := by decide +kernel
theorem cto_2153 (l : Launch) : CTOK2 l RX12 vwCl gTbl ct_2153 := ct2_cons (vl_2150 l) ck_RX12_417_2150 (ct2_cons (vl_2147 l) ck_RX12_417_2147 (ct2_cons (vl_2144 l) ck_RX12_417_2144 (ct2_cons (vl_2151 l) ck_RX12_417_2151 (ct2_cons (vl_2148 l) ck_RX12_417_2148 (ct2_cons (vl_2145 l) ck_RX12_417_2145 (ct2_cons (vl_2152 l) ck_RX12_417_2152 (ct2_cons (vl_2149 l) ck_RX12_417_2149 (ct2_cons (vl_2146 l) ck_RX12_417_2146 (ct2_nil)))))))))
theorem vl_2153 (l : Launch) : Vld2 l vwCl gTbl con_2153 := conR_ok3 gT_all (hd_2153) rfl pn_RX12 tk_X12_isSeen bo_RX12 xo_RX12 (cto_2153 l) ch_2153 (cut_all cc_2153)
/-- RookHustingModel numberAt -/
noncomputable def con_2154 : Con2 := ((yX12_numberAt, cX12_numberAt, 3, (some .long)), (0, 0), ([(6, 0, 0), (0, 2, 0), (0, 10, 0)], gi_1851, [ac_1100, ac_1179], []), [((4, 48, 0), gi_1852, [(false, ac_1100), (false, ac_1179)], [], [1])])
theorem hd_2154 : con_2154.1 = (yX12_numberAt, cX12_numberAt, 3, (some .long)) := rfl
noncomputable def cu_2154 : List CUT2 := []
theorem ch_2154 : staG tb_X12_numberAt 1 bt_RX12 [] ct_2 [] [] cu_2154 11 con_2154 = true := by decide +kernel
theorem vl_2154 (l : Launch) : Vld2 l vwCl gTbl con_2154 := conR_ok3 gT_all (hd_2154) rfl pn_RX12 tk_X12_numberAt bo_RX12 xo_RX12 (cto_2 l) ch_2154 cut_nil
/-- RookHustingModel numberAt -/
noncomputable def con_2155 : Con2 := ((yX12_numberAt, cX12_numberAt, 3, (some .long)), (0, 0), ([(6, 0, 0), (0, 2, 0), (0, 9, 0)], gi_1853, [ac_1100, ac_1178], []), [((4, 48, 0), gi_1854, [(false, ac_1100), (false, ac_1178)], [], [1])])
theorem hd_2155 : con_2155.1 = (yX12_numberAt, cX12_numberAt, 3, (some .long)) := rfl
noncomputable def cu_2155 : List CUT2 := []
theorem ch_2155 : staG tb_X12_numberAt 1 bt_RX12 [] ct_2 [] [] cu_2155 11 con_2155 = true := by decide +kernel
theorem vl_2155 (l : Launch) : Vld2 l vwCl gTbl con_2155 := conR_ok3 gT_all (hd_2155) rfl pn_RX12 tk_X12_numberAt bo_RX12 xo_RX12 (cto_2 l) ch_2155 cut_nil
/-- RookHustingModel numberAt -/
noncomputable def con_2156 : Con2 := ((yX12_numberAt, cX12_numberAt, 3, (some .long)), (0, 0), ([(6, 0, 0), (0, 2, 0), (0, 11, 0)], gi_1855, [ac_1100, ac_1180], []), [((4, 48, 0), gi_1856, [(false, ac_1100), (false, ac_1180)], [], [1])])
theorem hd_2156 : con_2156.1 = (yX12_numberAt, cX12_numberAt, 3, (some .long)) := rfl
noncomputable def cu_2156 : List CUT2 := []
theorem ch_2156 : staG tb_X12_numberAt 1 bt_RX12 [] ct_2 [] [] cu_2156 11 con_2156 = true := by decide +kernel
theorem vl_2156 (l : Launch) : Vld2 l vwCl gTbl con_2156 := conR_ok3 gT_all (hd_2156) rfl pn_RX12 tk_X12_numberAt bo_RX12 xo_RX12 (cto_2 l) ch_2156 cut_nil
/-- RookHustingModel numberAt -/
noncomputable def con_2157 : Con2 := ((yX12_numberAt, cX12_numberAt, 3, (some .long)), (0, 0), ([(6, 0, 0), (0, 2, 0), (0, 13, 0)], gi_1851, [ac_1100, ac_1182], []), [((4, 48, 0), gi_1852, [(false, ac_1100), (false, ac_1182)], [], [1])])
theorem hd_2157 : con_2157.1 = (yX12_numberAt, cX12_numberAt, 3, (some .long)) := rfl
noncomputable def cu_2157 : List CUT2 := []
theorem ch_2157 : staG tb_X12_numberAt 1 bt_RX12 [] ct_2 [] [] cu_2157 11 con_2157 = true := by decide +kernel
theorem vl_2157 (l : Launch) : Vld2 l vwCl gTbl con_2157 := conR_ok3 gT_all (hd_2157) rfl pn_RX12 tk_X12_numberAt bo_RX12 xo_RX12 (cto_2 l) ch_2157 cut_nil
/-- RookHustingModel numberAt -/
noncomputable def con_2158 : Con2 := ((yX12_numberAt, cX12_numberAt, 3, (some .long)), (0, 0), ([(6, 0, 0), (0, 2, 0), (0, 12, 0)], gi_1853, [ac_1100, ac_1181], []), [((4, 48, 0), gi_1854, [(false, ac_1100), (false, ac_1181)], [], [1])])
theorem hd_2158 : con_2158.1 = (yX12_numberAt, cX12_numberAt, 3, (some .long)) := rfl
noncomputable def cu_2158 : List CUT2 := []
theorem ch_2158 : staG tb_X12_numberAt 1 bt_RX12 [] ct_2 [] [] cu_2158 11 con_2158 = true := by decide +kernel
theorem vl_2158 (l : Launch) : Vld2 l vwCl gTbl con_2158 := conR_ok3 gT_all (hd_2158) rfl pn_RX12 tk_X12_numberAt bo_RX12 xo_RX12 (cto_2 l) ch_2158 cut_nil
/-- RookHustingModel numberAt -/
noncomputable def con_2159 : Con2 := ((yX12_numberAt, cX12_numberAt, 3, (some .long)), (0, 0), ([(6, 0, 0), (0, 2, 0), (0, 14, 0)], gi_1855, [ac_1100, ac_1183], []), [((4, 48, 0), gi_1856, [(false, ac_1100), (false, ac_1183)], [], [1])])
theorem hd_2159 : con_2159.1 = (yX12_numberAt, cX12_numberAt, 3, (some .long)) := rfl
noncomputable def cu_2159 : List CUT2 := []
theorem ch_2159 : staG tb_X12_numberAt 1 bt_RX12 [] ct_2 [] [] cu_2159 11 con_2159 = true := by decide +kernel
theorem vl_2159 (l : Launch) : Vld2 l vwCl gTbl con_2159 := conR_ok3 gT_all (hd_2159) rfl pn_RX12 tk_X12_numberAt bo_RX12 xo_RX12 (cto_2 l) ch_2159 cut_nil
/-- RookHustingModel numberAt -/
noncomputable def con_2160 : Con2 := ((yX12_numberAt, cX12_numberAt, 3, (some .long)), (0, 0), ([(6, 0, 0), (0, 2, 0), (0, 16, 0)], gi_1851, [ac_1100, ac_1185], []), [((4, 48, 0), gi_1852, [(false, ac_1100), (false, ac_1185)], [], [1])])
theorem hd_2160 : con_2160.1 = (yX12_numberAt, cX12_numberAt, 3, (some .long)) := rfl
noncomputable def cu_2160 : List CUT2 := []
theorem ch_2160 : staG tb_X12_numberAt 1 bt_RX12 [] ct_2 [] [] cu_2160 11 con_2160 = true := by decide +kernel
theorem vl_2160 (l : Launch) : Vld2 l vwCl gTbl con_2160 := conR_ok3 gT_all (hd_2160) rfl pn_RX12 tk_X12_numberAt bo_RX12 xo_RX12 (cto_2 l) ch_2160 cut_nil
/-- RookHustingModel numberAt -/
noncomputable def con_2161 : Con2 := ((yX12_numberAt, cX12_numberAt, 3, (some .long)), (0, 0), ([(6, 0, 0), (0, 2, 0), (0, 15, 0)], gi_1853, [ac_1100, ac_1184], []), [((4, 48, 0), gi_1854, [(false, ac_1100), (false, ac_1184)], [], [1])])
theorem hd_2161 : con_2161.1 = (yX12_numberAt, cX12_numberAt, 3, (some .long)) := rfl
noncomputable def cu_2161 : List CUT2 := []
theorem ch_2161 : staG tb_X12_numberAt 1 bt_RX12 [] ct_2 [] [] cu_2161 11 con_2161 = true := by decide +kernel
theorem vl_2161 (l : Launch) : Vld2 l vwCl gTbl con_2161 := conR_ok3 gT_all (hd_2161) rfl pn_RX12 tk_X12_numberAt bo_RX12 xo_RX12 (cto_2 l) ch_2161 cut_nil
/-- RookHustingModel numberAt -/
noncomputable def con_2162 : Con2 := ((yX12_numberAt, cX12_numberAt, 3, (some .long)), (0, 0), ([(6, 0, 0), (0, 2, 0), (0, 17, 0)], gi_1855, [ac_1100, ac_1186], []), [((4, 48, 0), gi_1856, [(false, ac_1100), (false, ac_1186)], [], [1])])
theorem hd_2162 : con_2162.1 = (yX12_numberAt, cX12_numberAt, 3, (some .long)) := rfl
noncomputable def cu_2162 : List CUT2 := []
theorem ch_2162 : staG tb_X12_numberAt 1 bt_RX12 [] ct_2 [] [] cu_2162 11 con_2162 = true := by decide +kernel
theorem vl_2162 (l : Launch) : Vld2 l vwCl gTbl con_2162 := conR_ok3 gT_all (hd_2162) rfl pn_RX12 tk_X12_numberAt bo_RX12 xo_RX12 (cto_2 l) ch_2162 cut_nil
/-- RookHustingModel numberAt -/
noncomputable def con_2163 : Con2 := ((yX12_numberAt, cX12_numberAt, 3, (some .long)), (0, 0), ([(6, 0, 0), (0, 2, 0), (0, 19, 0)], gi_1851, [ac_1100, ac_1188], []), [((4, 48, 0), gi_1852, [(false, ac_1100), (false, ac_1188)], [], [1])])
theorem hd_2163 : con_2163.1 = (yX12_numberAt, cX12_numberAt, 3, (some .long)) := rfl
noncomputable def cu_2163 : List CUT2 := []
theorem ch_2163 : staG tb_X12_numberAt 1 bt_RX12 [] ct_2 [] [] cu_2163 11 con_2163 = true := by decide +kernel
theorem vl_2163 (l : Launch) : Vld2 l vwCl gTbl con_2163 := conR_ok3 gT_all (hd_2163) rfl pn_RX12 tk_X12_numberAt bo_RX12 xo_RX12 (cto_2 l) ch_2163 cut_nil
/-- RookHustingModel numberAt -/
noncomputable def con_2164 : Con2 := ((yX12_numberAt, cX12_numberAt, 3, (some .long)), (0, 0), ([(6, 0, 0), (0, 2, 0), (0, 18, 0)], gi_1853, [ac_1100, ac_1187], []), [((4, 48, 0), gi_1854, [(false, ac_1100), (false, ac_1187)], [], [1])])
theorem hd_2164 : con_2164.1 = (yX12_numberAt, cX12_numberAt, 3, (some .long)) := rfl
noncomputable def cu_2164 : List CUT2 := []
theorem ch_2164 : staG tb_X12_numberAt 1 bt_RX12 [] ct_2 [] [] cu_2164 11 con_2164 = true := by decide +kernel
theorem vl_2164 (l : Launch) : Vld2 l vwCl gTbl con_2164 := conR_ok3 gT_all (hd_2164) rfl pn_RX12 tk_X12_numberAt bo_RX12 xo_RX12 (cto_2 l) ch_2164 cut_nil
/-- RookHustingModel numberAt -/
noncomputable def con_2165 : Con2 := ((yX12_numberAt, cX12_numberAt, 3, (some .long)), (0, 0), ([(6, 0, 0), (0, 2, 0), (0, 20, 0)], gi_1855, [ac_1100, ac_1189], []), [((4, 48, 0), gi_1856, [(false, ac_1100), (false, ac_1189)], [], [1])])
theorem hd_2165 : con_2165.1 = (yX12_numberAt, cX12_numberAt, 3, (some .long)) := rfl
noncomputable def cu_2165 : List CUT2 := []
theorem ch_2165 : staG tb_X12_numberAt 1 bt_RX12 [] ct_2 [] [] cu_2165 11 con_2165 = true := by decide +kernel
theorem vl_2165 (l : Launch) : Vld2 l vwCl gTbl con_2165 := conR_ok3 gT_all (hd_2165) rfl pn_RX12 tk_X12_numberAt bo_RX12 xo_RX12 (cto_2 l) ch_2165 cut_nil
/-- RookHustingModel numberAt -/
noncomputable def con_2166 : Con2 := ((yX12_numberAt, cX12_numberAt, 3, (some .long)), (0, 0), ([(6, 0, 0), (0, 2, 0), (0, 22, 0)], gi_1851, [ac_1100, ac_1191], []), [((4, 48, 0), gi_1852, [(false, ac_1100), (false, ac_1191)], [], [1])])
theorem hd_2166 : con_2166.1 = (yX12_numberAt, cX12_numberAt, 3, (some .long)) := rfl
noncomputable def cu_2166 : List CUT2 := []
theorem ch_2166 : staG tb_X12_numberAt 1 bt_RX12 [] ct_2 [] [] cu_2166 11 con_2166 = true := by decide +kernel
theorem vl_2166 (l : Launch) : Vld2 l vwCl gTbl con_2166 := conR_ok3 gT_all (hd_2166) rfl pn_RX12 tk_X12_numberAt bo_RX12 xo_RX12 (cto_2 l) ch_2166 cut_nil
/-- RookHustingModel numberAt -/
noncomputable def con_2167 : Con2 := ((yX12_numberAt, cX12_numberAt, 3, (some .long)), (0, 0), ([(6, 0, 0), (0, 2, 0), (0, 21, 0)], gi_1853, [ac_1100, ac_1190], []), [((4, 48, 0), gi_1854, [(false, ac_1100), (false, ac_1190)], [], [1])])
theorem hd_2167 : con_2167.1 = (yX12_numberAt, cX12_numberAt, 3, (some .long)) := rfl
noncomputable def cu_2167 : List CUT2 := []
theorem ch_2167 : staG tb_X12_numberAt 1 bt_RX12 [] ct_2 [] [] cu_2167 11 con_2167 = true := by decide +kernel
theorem vl_2167 (l : Launch) : Vld2 l vwCl gTbl con_2167 := conR_ok3 gT_all (hd_2167) rfl pn_RX12 tk_X12_numberAt bo_RX12 xo_RX12 (cto_2 l) ch_2167 cut_nil
/-- RookHustingModel numberAt -/
noncomputable def con_2168 : Con2 := ((yX12_numberAt, cX12_numberAt, 3, (some .long)), (0, 0), ([(6, 0, 0), (0, 2, 0), (0, 23, 0)], gi_1855, [ac_1100, ac_1192], []), [((4, 48, 0), gi_1856, [(false, ac_1100), (false, ac_1192)], [], [1])])
theorem hd_2168 : con_2168.1 = (yX12_numberAt, cX12_numberAt, 3, (some .long)) := rfl
noncomputable def cu_2168 : List CUT2 := []
theorem ch_2168 : staG tb_X12_numberAt 1 bt_RX12 [] ct_2 [] [] cu_2168 11 con_2168 = true := by decide +kernel
theorem vl_2168 (l : Launch) : Vld2 l vwCl gTbl con_2168 := conR_ok3 gT_all (hd_2168) rfl pn_RX12 tk_X12_numberAt bo_RX12 xo_RX12 (cto_2 l) ch_2168 cut_nil
/-- RookHustingModel numberAt -/
noncomputable def con_2169 : Con2 := ((yX12_numberAt, cX12_numberAt, 3, (some .long)), (0, 0), ([(6, 0, 0), (0, 2, 0), (0, 25, 0)], gi_1851, [ac_1100, ac_1194], []), [((4, 48, 0), gi_1852, [(false, ac_1100), (false, ac_1194)], [], [1])])
theorem hd_2169 : con_2169.1 = (yX12_numberAt, cX12_numberAt, 3, (some .long)) := rfl
noncomputable def cu_2169 : List CUT2 := []
theorem ch_2169 : staG tb_X12_numberAt 1 bt_RX12 [] ct_2 [] [] cu_2169 11 con_2169 = true := by decide +kernel
theorem vl_2169 (l : Launch) : Vld2 l vwCl gTbl con_2169 := conR_ok3 gT_all (hd_2169) rfl pn_RX12 tk_X12_numberAt bo_RX12 xo_RX12 (cto_2 l) ch_2169 cut_nil
/-- RookHustingModel numberAt -/
noncomputable def con_2170 : Con2 := ((yX12_numberAt, cX12_numberAt, 3, (some .long)), (0, 0), ([(6, 0, 0), (0, 2, 0), (0, 24, 0)], gi_1853, [ac_1100, ac_1193], []), [((4, 48, 0), gi_1854, [(false, ac_1100), (false, ac_1193)], [], [1])])
theorem hd_2170 : con_2170.1 = (yX12_numberAt, cX12_numberAt, 3, (some .long)) := rfl
noncomputable def cu_2170 : List CUT2 := []
theorem ch_2170 : staG tb_X12_numberAt 1 bt_RX12 [] ct_2 [] [] cu_2170 11 con_2170 = true := by decide +kernel
theorem vl_2170 (l : Launch) : Vld2 l vwCl gTbl con_2170 := conR_ok3 gT_all (hd_2170) rfl pn_RX12 tk_X12_numberAt bo_RX12 xo_RX12 (cto_2 l) ch_2170 cut_nil
/-- RookHustingModel numberAt -/
noncomputable def con_2171 : Con2 := ((yX12_numberAt, cX12_numberAt, 3, (some .long)), (0, 0), ([(6, 0, 0), (0, 2, 0), (0, 26, 0)], gi_1855, [ac_1100, ac_1195], []), [((4, 48, 0), gi_1856, [(false, ac_1100), (false, ac_1195)], [], [1])])
theorem hd_2171 : con_2171.1 = (yX12_numberAt, cX12_numberAt, 3, (some .long)) := rfl
noncomputable def cu_2171 : List CUT2 := []
theorem ch_2171 : staG tb_X12_numberAt 1 bt_RX12 [] ct_2 [] [] cu_2171 11 con_2171 = true := by decide +kernel
theorem vl_2171 (l : Launch) : Vld2 l vwCl gTbl con_2171 := conR_ok3 gT_all (hd_2171) rfl pn_RX12 tk_X12_numberAt bo_RX12 xo_RX12 (cto_2 l) ch_2171 cut_nil
/-- RookHustingModel numberAt -/
noncomputable def con_2172 : Con2 := ((yX12_numberAt, cX12_numberAt, 3, (some .long)), (0, 0), ([(6, 0, 0), (0, 2, 0), (0, 28, 0)], gi_1851, [ac_1100, ac_1197], []), [((4, 48, 0), gi_1852, [(false, ac_1100), (false, ac_1197)], [], [1])])
theorem hd_2172 : con_2172.1 = (yX12_numberAt, cX12_numberAt, 3, (some .long)) := rfl
noncomputable def cu_2172 : List CUT2 := []
theorem ch_2172 : staG tb_X12_numberAt 1 bt_RX12 [] ct_2 [] [] cu_2172 11 con_2172 = true := by decide +kernel
theorem vl_2172 (l : Launch) : Vld2 l vwCl gTbl con_2172 := conR_ok3 gT_all (hd_2172) rfl pn_RX12 tk_X12_numberAt bo_RX12 xo_RX12 (cto_2 l) ch_2172 cut_nil
/-- RookHustingModel numberAt -/
noncomputable def con_2173 : Con2 := ((yX12_numberAt, cX12_numberAt, 3, (some .long)), (0, 0), ([(6, 0, 0), (0, 2, 0), (0, 27, 0)], gi_1853, [ac_1100, ac_1196], []), [((4, 48, 0), gi_1854, [(false, ac_1100), (false, ac_1196)], [], [1])])
theorem hd_2173 : con_2173.1 = (yX12_numberAt, cX12_numberAt, 3, (some .long)) := rfl
noncomputable def cu_2173 : List CUT2 := []
theorem ch_2173 : staG tb_X12_numberAt 1 bt_RX12 [] ct_2 [] [] cu_2173 11 con_2173 = true := by decide +kernel
theorem vl_2173 (l : Launch) : Vld2 l vwCl gTbl con_2173 := conR_ok3 gT_all (hd_2173) rfl pn_RX12 tk_X12_numberAt bo_RX12 xo_RX12 (cto_2 l) ch_2173 cut_nil
/-- RookHustingModel numberAt -/
noncomputable def con_2174 : Con2 := ((yX12_numberAt, cX12_numberAt, 3, (some .long)), (0, 0), ([(6, 0, 0), (0, 2, 0), (0, 29, 0)], gi_1855, [ac_1100, ac_1198], []), [((4, 48, 0), gi_1856, [(false, ac_1100), (false, ac_1198)], [], [1])])
theorem hd_2174 : con_2174.1 = (yX12_numberAt, cX12_numberAt, 3, (some .long)) := rfl
noncomputable def cu_2174 : List CUT2 := []
theorem ch_2174 : staG tb_X12_numberAt 1 bt_RX12 [] ct_2 [] [] cu_2174 11 con_2174 = true := by decide +kernel
theorem vl_2174 (l : Launch) : Vld2 l vwCl gTbl con_2174 := conR_ok3 gT_all (hd_2174) rfl pn_RX12 tk_X12_numberAt bo_RX12 xo_RX12 (cto_2 l) ch_2174 cut_nil
/-- RookHustingModel numberAt -/
noncomputable def con_2175 : Con2 := ((yX12_numberAt, cX12_numberAt, 3, (some .long)), (0, 0), ([(6, 0, 0), (0, 2, 0), (0, 31, 0)], gi_1851, [ac_1100, ac_1200], []), [((4, 48, 0), gi_1852, [(false, ac_1100), (false, ac_1200)], [], [1])])
theorem hd_2175 : con_2175.1 = (yX12_numberAt, cX12_numberAt, 3, (some .long)) := rfl
noncomputable def cu_2175 : List CUT2 := []
theorem ch_2175 : staG tb_X12_numberAt 1 bt_RX12 [] ct_2 [] [] cu_2175 11 con_2175 = true := by decide +kernel
theorem vl_2175 (l : Launch) : Vld2 l vwCl gTbl con_2175 := conR_ok3 gT_all (hd_2175) rfl pn_RX12 tk_X12_numberAt bo_RX12 xo_RX12 (cto_2 l) ch_2175 cut_nil
/-- RookHustingModel numberAt -/
noncomputable def con_2176 : Con2 := ((yX12_numberAt, cX12_numberAt, 3, (some .long)), (0, 0), ([(6, 0, 0), (0, 2, 0), (0, 30, 0)], gi_1853, [ac_1100, ac_1199], []), [((4, 48, 0), gi_1854, [(false, ac_1100), (false, ac_1199)], [], [1])])
theorem hd_2176 : con_2176.1 = (yX12_numberAt, cX12_numberAt, 3, (some .long)) := rfl
noncomputable def cu_2176 : List CUT2 := []
theorem ch_2176 : staG tb_X12_numberAt 1 bt_RX12 [] ct_2 [] [] cu_2176 11 con_2176 = true := by decide +kernel
theorem vl_2176 (l : Launch) : Vld2 l vwCl gTbl con_2176 := conR_ok3 gT_all (hd_2176) rfl pn_RX12 tk_X12_numberAt bo_RX12 xo_RX12 (cto_2 l) ch_2176 cut_nil
/-- RookHustingModel numberAt -/
noncomputable def con_2177 : Con2 := ((yX12_numberAt, cX12_numberAt, 3, (some .long)), (0, 0), ([(6, 0, 0), (0, 2, 0), (0, 32, 0)], gi_1855, [ac_1100, ac_1201], []), [((4, 48, 0), gi_1856, [(false, ac_1100), (false, ac_1201)], [], [1])])
theorem hd_2177 : con_2177.1 = (yX12_numberAt, cX12_numberAt, 3, (some .long)) := rfl
noncomputable def cu_2177 : List CUT2 := []
theorem ch_2177 : staG tb_X12_numberAt 1 bt_RX12 [] ct_2 [] [] cu_2177 11 con_2177 = true := by decide +kernel
theorem vl_2177 (l : Launch) : Vld2 l vwCl gTbl con_2177 := conR_ok3 gT_all (hd_2177) rfl pn_RX12 tk_X12_numberAt bo_RX12 xo_RX12 (cto_2 l) ch_2177 cut_nil
/-- RookHustingModel numberAt -/
noncomputable def con_2178 : Con2 := ((yX12_numberAt, cX12_numberAt, 3, (some .long)), (0, 0), ([(6, 0, 0), (0, 2, 0), (0, 34, 0)], gi_1851, [ac_1100, ac_1203], []), [((4, 48, 0), gi_1852, [(false, ac_1100), (false, ac_1203)], [], [1])])
theorem hd_2178 : con_2178.1 = (yX12_numberAt, cX12_numberAt, 3, (some .long)) := rfl
noncomputable def cu_2178 : List CUT2 := []
theorem ch_2178 : staG tb_X12_numberAt 1 bt_RX12 [] ct_2 [] [] cu_2178 11 con_2178 = true := by decide +kernel
theorem vl_2178 (l : Launch) : Vld2 l vwCl gTbl con_2178 := conR_ok3 gT_all (hd_2178) rfl pn_RX12 tk_X12_numberAt bo_RX12 xo_RX12 (cto_2 l) ch_2178 cut_nil
/-- RookHustingModel numberAt -/
noncomputable def con_2179 : Con2 := ((yX12_numberAt, cX12_numberAt, 3, (some .long)), (0, 0), ([(6, 0, 0), (0, 2, 0), (0, 33, 0)], gi_1853, [ac_1100, ac_1202], []), [((4, 48, 0), gi_1854, [(false, ac_1100), (false, ac_1202)], [], [1])])
theorem hd_2179 : con_2179.1 = (yX12_numberAt, cX12_numberAt, 3, (some .long)) := rfl
noncomputable def cu_2179 : List CUT2 := []
theorem ch_2179 : staG tb_X12_numberAt 1 bt_RX12 [] ct_2 [] [] cu_2179 11 con_2179 = true := by decide +kernel
theorem vl_2179 (l : Launch) : Vld2 l vwCl gTbl con_2179 := conR_ok3 gT_all (hd_2179) rfl pn_RX12 tk_X12_numberAt bo_RX12 xo_RX12 (cto_2 l) ch_2179 cut_nil
/-- RookHustingModel numberAt -/
noncomputable def con_2180 : Con2 := ((yX12_numberAt, cX12_numberAt, 3, (some .long)), (0, 0), ([(6, 0, 0), (0, 2, 0), (0, 35, 0)], gi_1855, [ac_1100, ac_1204], []), [((4, 48, 0), gi_1856, [(false, ac_1100), (false, ac_1204)], [], [1])])
theorem hd_2180 : con_2180.1 = (yX12_numberAt, cX12_numberAt, 3, (some .long)) := rfl
noncomputable def cu_2180 : List CUT2 := []
theorem ch_2180 : staG tb_X12_numberAt 1 bt_RX12 [] ct_2 [] [] cu_2180 11 con_2180 = true := by decide +kernel
theorem vl_2180 (l : Launch) : Vld2 l vwCl gTbl con_2180 := conR_ok3 gT_all (hd_2180) rfl pn_RX12 tk_X12_numberAt bo_RX12 xo_RX12 (cto_2 l) ch_2180 cut_nil
/-- RookHustingModel numberAt -/
noncomputable def con_2181 : Con2 := ((yX12_numberAt, cX12_numberAt, 3, (some .long)), (0, 0), ([(6, 0, 0), (0, 2, 0), (0, 37, 0)], gi_1851, [ac_1100, ac_1206], []), [((4, 48, 0), gi_1852, [(false, ac_1100), (false, ac_1206)], [], [1])])
theorem hd_2181 : con_2181.1 = (yX12_numberAt, cX12_numberAt, 3, (some .long)) := rfl
noncomputable def cu_2181 : List CUT2 := []
theorem ch_2181 : staG tb_X12_numberAt 1 bt_RX12 [] ct_2 [] [] cu_2181 11 con_2181 = true := by decide +kernel
theorem vl_2181 (l : Launch) : Vld2 l vwCl gTbl con_2181 := conR_ok3 gT_all (hd_2181) rfl pn_RX12 tk_X12_numberAt bo_RX12 xo_RX12 (cto_2 l) ch_2181 cut_nil
/-- RookHustingModel numberAt -/
noncomputable def con_2182 : Con2 := ((yX12_numberAt, cX12_numberAt, 3, (some .long)), (0, 0), ([(6, 0, 0), (0, 2, 0), (0, 36, 0)], gi_1853, [ac_1100, ac_1205], []), [((4, 48, 0), gi_1854, [(false, ac_1100), (false, ac_1205)], [], [1])])
theorem hd_2182 : con_2182.1 = (yX12_numberAt, cX12_numberAt, 3, (some .long)) := rfl
noncomputable def cu_2182 : List CUT2 := []
theorem ch_2182 : staG tb_X12_numberAt 1 bt_RX12 [] ct_2 [] [] cu_2182 11 con_2182 = true := by decide +kernel
theorem vl_2182 (l : Launch) : Vld2 l vwCl gTbl con_2182 := conR_ok3 gT_all (hd_2182) rfl pn_RX12 tk_X12_numberAt bo_RX12 xo_RX12 (cto_2 l) ch_2182 cut_nil
/-- RookHustingModel numberAt -/
noncomputable def con_2183 : Con2 := ((yX12_numberAt, cX12_numberAt, 3, (some .long)), (0, 0), ([(6, 0, 0), (0, 2, 0), (0, 38, 0)], gi_1855, [ac_1100, ac_1207], []), [((4, 48, 0), gi_1856, [(false, ac_1100), (false, ac_1207)], [], [1])])
theorem hd_2183 : con_2183.1 = (yX12_numberAt, cX12_numberAt, 3, (some .long)) := rfl
noncomputable def cu_2183 : List CUT2 := []
theorem ch_2183 : staG tb_X12_numberAt 1 bt_RX12 [] ct_2 [] [] cu_2183 11 con_2183 = true := by decide +kernel
theorem vl_2183 (l : Launch) : Vld2 l vwCl gTbl con_2183 := conR_ok3 gT_all (hd_2183) rfl pn_RX12 tk_X12_numberAt bo_RX12 xo_RX12 (cto_2 l) ch_2183 cut_nil
/-- RookHustingModel numberAt -/
noncomputable def con_2184 : Con2 := ((yX12_numberAt, cX12_numberAt, 3, (some .long)), (0, 0), ([(6, 0, 0), (0, 2, 0), (0, 40, 0)], gi_1851, [ac_1100, ac_1209], []), [((4, 48, 0), gi_1852, [(false, ac_1100), (false, ac_1209)], [], [1])])
theorem hd_2184 : con_2184.1 = (yX12_numberAt, cX12_numberAt, 3, (some .long)) := rfl
noncomputable def cu_2184 : List CUT2 := []
theorem ch_2184 : staG tb_X12_numberAt 1 bt_RX12 [] ct_2 [] [] cu_2184 11 con_2184 = true := by decide +kernel
theorem vl_2184 (l : Launch) : Vld2 l vwCl gTbl con_2184 := conR_ok3 gT_all (hd_2184) rfl pn_RX12 tk_X12_numberAt bo_RX12 xo_RX12 (cto_2 l) ch_2184 cut_nil
/-- RookHustingModel numberAt -/
noncomputable def con_2185 : Con2 := ((yX12_numberAt, cX12_numberAt, 3, (some .long)), (0, 0), ([(6, 0, 0), (0, 2, 0), (0, 39, 0)], gi_1853, [ac_1100, ac_1208], []), [((4, 48, 0), gi_1854, [(false, ac_1100), (false, ac_1208)], [], [1])])
theorem hd_2185 : con_2185.1 = (yX12_numberAt, cX12_numberAt, 3, (some .long)) := rfl
noncomputable def cu_2185 : List CUT2 := []
theorem ch_2185 : staG tb_X12_numberAt 1 bt_RX12 [] ct_2 [] [] cu_2185 11 con_2185 = true := by decide +kernel
theorem vl_2185 (l : Launch) : Vld2 l vwCl gTbl con_2185 := conR_ok3 gT_all (hd_2185) rfl pn_RX12 tk_X12_numberAt bo_RX12 xo_RX12 (cto_2 l) ch_2185 cut_nil
/-- RookHustingModel numberAt -/
noncomputable def con_2186 : Con2 := ((yX12_numberAt, cX12_numberAt, 3, (some .long)), (0, 0), ([(6, 0, 0), (0, 2, 0), (0, 41, 0)], gi_1855, [ac_1100, ac_1210], []), [((4, 48, 0), gi_1856, [(false, ac_1100), (false, ac_1210)], [], [1])])
theorem hd_2186 : con_2186.1 = (yX12_numberAt, cX12_numberAt, 3, (some .long)) := rfl
noncomputable def cu_2186 : List CUT2 := []
theorem ch_2186 : staG tb_X12_numberAt 1 bt_RX12 [] ct_2 [] [] cu_2186 11 con_2186 = true := by decide +kernel
theorem vl_2186 (l : Launch) : Vld2 l vwCl gTbl con_2186 := conR_ok3 gT_all (hd_2186) rfl pn_RX12 tk_X12_numberAt bo_RX12 xo_RX12 (cto_2 l) ch_2186 cut_nil
/-- RookHustingModel numberAt -/
noncomputable def con_2187 : Con2 := ((yX12_numberAt, cX12_numberAt, 3, (some .long)), (0, 0), ([(6, 0, 0), (0, 2, 0), (0, 43, 0)], gi_1851, [ac_1100, ac_1212], []), [((4, 48, 0), gi_1852, [(false, ac_1100), (false, ac_1212)], [], [1])])
theorem hd_2187 : con_2187.1 = (yX12_numberAt, cX12_numberAt, 3, (some .long)) := rfl
noncomputable def cu_2187 : List CUT2 := []
theorem ch_2187 : staG tb_X12_numberAt 1 bt_RX12 [] ct_2 [] [] cu_2187 11 con_2187 = true := by decide +kernel
theorem vl_2187 (l : Launch) : Vld2 l vwCl gTbl con_2187 := conR_ok3 gT_all (hd_2187) rfl pn_RX12 tk_X12_numberAt bo_RX12 xo_RX12 (cto_2 l) ch_2187 cut_nil
/-- RookHustingModel numberAt -/
noncomputable def con_2188 : Con2 := ((yX12_numberAt, cX12_numberAt, 3, (some .long)), (0, 0), ([(6, 0, 0), (0, 2, 0), (0, 42, 0)], gi_1853, [ac_1100, ac_1211], []), [((4, 48, 0), gi_1854, [(false, ac_1100), (false, ac_1211)], [], [1])])
theorem hd_2188 : con_2188.1 = (yX12_numberAt, cX12_numberAt, 3, (some .long)) := rfl
noncomputable def cu_2188 : List CUT2 := []
theorem ch_2188 : staG tb_X12_numberAt 1 bt_RX12 [] ct_2 [] [] cu_2188 11 con_2188 = true := by decide +kernel
theorem vl_2188 (l : Launch) : Vld2 l vwCl gTbl con_2188 := conR_ok3 gT_all (hd_2188) rfl pn_RX12 tk_X12_numberAt bo_RX12 xo_RX12 (cto_2 l) ch_2188 cut_nil
/-- RookHustingModel numberAt -/
noncomputable def con_2189 : Con2 := ((yX12_numberAt, cX12_numberAt, 3, (some .long)), (0, 0), ([(6, 0, 0), (0, 2, 0), (0, 44, 0)], gi_1855, [ac_1100, ac_1213], []), [((4, 48, 0), gi_1856, [(false, ac_1100), (false, ac_1213)], [], [1])])
theorem hd_2189 : con_2189.1 = (yX12_numberAt, cX12_numberAt, 3, (some .long)) := rfl
noncomputable def cu_2189 : List CUT2 := []
theorem ch_2189 : staG tb_X12_numberAt 1 bt_RX12 [] ct_2 [] [] cu_2189 11 con_2189 = true := by decide +kernel
theorem vl_2189 (l : Launch) : Vld2 l vwCl gTbl con_2189 := conR_ok3 gT_all (hd_2189) rfl pn_RX12 tk_X12_numberAt bo_RX12 xo_RX12 (cto_2 l) ch_2189 cut_nil
/-- RookHustingModel numberAt -/
noncomputable def con_2190 : Con2 := ((yX12_numberAt, cX12_numberAt, 3, (some .long)), (0, 0), ([(6, 0, 0), (0, 2, 0), (0, 46, 0)], gi_1851, [ac_1100, ac_1215], []), [((4, 48, 0), gi_1852, [(false, ac_1100), (false, ac_1215)], [], [1])])
theorem hd_2190 : con_2190.1 = (yX12_numberAt, cX12_numberAt, 3, (some .long)) := rfl
noncomputable def cu_2190 : List CUT2 := []
theorem ch_2190 : staG tb_X12_numberAt 1 bt_RX12 [] ct_2 [] [] cu_2190 11 con_2190 = true := by decide +kernel
theorem vl_2190 (l : Launch) : Vld2 l vwCl gTbl con_2190 := conR_ok3 gT_all (hd_2190) rfl pn_RX12 tk_X12_numberAt bo_RX12 xo_RX12 (cto_2 l) ch_2190 cut_nil
/-- RookHustingModel numberAt -/
noncomputable def con_2191 : Con2 := ((yX12_numberAt, cX12_numberAt, 3, (some .long)), (0, 0), ([(6, 0, 0), (0, 2, 0), (0, 45, 0)], gi_1853, [ac_1100, ac_1214], []), [((4, 48, 0), gi_1854, [(false, ac_1100), (false, ac_1214)], [], [1])])
theorem hd_2191 : con_2191.1 = (yX12_numberAt, cX12_numberAt, 3, (some .long)) := rfl
noncomputable def cu_2191 : List CUT2 := []
theorem ch_2191 : staG tb_X12_numberAt 1 bt_RX12 [] ct_2 [] [] cu_2191 11 con_2191 = true := by decide +kernel
theorem vl_2191 (l : Launch) : Vld2 l vwCl gTbl con_2191 := conR_ok3 gT_all (hd_2191) rfl pn_RX12 tk_X12_numberAt bo_RX12 xo_RX12 (cto_2 l) ch_2191 cut_nil
/-- RookHustingModel numberAt -/
noncomputable def con_2192 : Con2 := ((yX12_numberAt, cX12_numberAt, 3, (some .long)), (0, 0), ([(6, 0, 0), (0, 2, 0), (0, 47, 0)], gi_1855, [ac_1100, ac_1216], []), [((4, 48, 0), gi_1856, [(false, ac_1100), (false, ac_1216)], [], [1])])
theorem hd_2192 : con_2192.1 = (yX12_numberAt, cX12_numberAt, 3, (some .long)) := rfl
noncomputable def cu_2192 : List CUT2 := []
theorem ch_2192 : staG tb_X12_numberAt 1 bt_RX12 [] ct_2 [] [] cu_2192 11 con_2192 = true := by decide +kernel
theorem vl_2192 (l : Launch) : Vld2 l vwCl gTbl con_2192 := conR_ok3 gT_all (hd_2192) rfl pn_RX12 tk_X12_numberAt bo_RX12 xo_RX12 (cto_2 l) ch_2192 cut_nil
/-- RookHustingModel numberAt -/
noncomputable def con_2193 : Con2 := ((yX12_numberAt, cX12_numberAt, 3, (some .long)), (0, 0), ([(6, 0, 0), (0, 2, 0), (0, 49, 0)], gi_1851, [ac_1100, ac_1218], []), [((4, 48, 0), gi_1852, [(false, ac_1100), (false, ac_1218)], [], [1])])
theorem hd_2193 : con_2193.1 = (yX12_numberAt, cX12_numberAt, 3, (some .long)) := rfl
noncomputable def cu_2193 : List CUT2 := []
theorem ch_2193 : staG tb_X12_numberAt 1 bt_RX12 [] ct_2 [] [] cu_2193 11 con_2193 = true := by decide +kernel
theorem vl_2193 (l : Launch) : Vld2 l vwCl gTbl con_2193 := conR_ok3 gT_all (hd_2193) rfl pn_RX12 tk_X12_numberAt bo_RX12 xo_RX12 (cto_2 l) ch_2193 cut_nil
/-- RookHustingModel numberAt -/
noncomputable def con_2194 : Con2 := ((yX12_numberAt, cX12_numberAt, 3, (some .long)), (0, 0), ([(6, 0, 0), (0, 2, 0), (0, 48, 0)], gi_1853, [ac_1100, ac_1217], []), [((4, 48, 0), gi_1854, [(false, ac_1100), (false, ac_1217)], [], [1])])
theorem hd_2194 : con_2194.1 = (yX12_numberAt, cX12_numberAt, 3, (some .long)) := rfl
noncomputable def cu_2194 : List CUT2 := []
theorem ch_2194 : staG tb_X12_numberAt 1 bt_RX12 [] ct_2 [] [] cu_2194 11 con_2194 = true := by decide +kernel
theorem vl_2194 (l : Launch) : Vld2 l vwCl gTbl con_2194 := conR_ok3 gT_all (hd_2194) rfl pn_RX12 tk_X12_numberAt bo_RX12 xo_RX12 (cto_2 l) ch_2194 cut_nil
/-- RookHustingModel numberAt -/
noncomputable def con_2195 : Con2 := ((yX12_numberAt, cX12_numberAt, 3, (some .long)), (0, 0), ([(6, 0, 0), (0, 2, 0), (0, 50, 0)], gi_1855, [ac_1100, ac_1219], []), [((4, 48, 0), gi_1856, [(false, ac_1100), (false, ac_1219)], [], [1])])
theorem hd_2195 : con_2195.1 = (yX12_numberAt, cX12_numberAt, 3, (some .long)) := rfl
noncomputable def cu_2195 : List CUT2 := []
theorem ch_2195 : staG tb_X12_numberAt 1 bt_RX12 [] ct_2 [] [] cu_2195 11 con_2195 = true := by decide +kernel
theorem vl_2195 (l : Launch) : Vld2 l vwCl gTbl con_2195 := conR_ok3 gT_all (hd_2195) rfl pn_RX12 tk_X12_numberAt bo_RX12 xo_RX12 (cto_2 l) ch_2195 cut_nil
/-- RookHustingModel numberAt -/
noncomputable def con_2196 : Con2 := ((yX12_numberAt, cX12_numberAt, 3, (some .long)), (0, 0), ([(6, 0, 0), (0, 2, 0), (0, 52, 0)], gi_1851, [ac_1100, ac_1221], []), [((4, 48, 0), gi_1852, [(false, ac_1100), (false, ac_1221)], [], [1])])
theorem hd_2196 : con_2196.1 = (yX12_numberAt, cX12_numberAt, 3, (some .long)) := rfl
noncomputable def cu_2196 : List CUT2 := []
theorem ch_2196 : staG tb_X12_numberAt 1 bt_RX12 [] ct_2 [] [] cu_2196 11 con_2196 = true := by decide +kernel
theorem vl_2196 (l : Launch) : Vld2 l vwCl gTbl con_2196 := conR_ok3 gT_all (hd_2196) rfl pn_RX12 tk_X12_numberAt bo_RX12 xo_RX12 (cto_2 l) ch_2196 cut_nil
/-- RookHustingModel numberAt -/
noncomputable def con_2197 : Con2 := ((yX12_numberAt, cX12_numberAt, 3, (some .long)), (0, 0), ([(6, 0, 0), (0, 2, 0), (0, 51, 0)], gi_1853, [ac_1100, ac_1220], []), [((4, 48, 0), gi_1854, [(false, ac_1100), (false, ac_1220)], [], [1])])
theorem hd_2197 : con_2197.1 = (yX12_numberAt, cX12_numberAt, 3, (some .long)) := rfl
noncomputable def cu_2197 : List CUT2 := []
theorem ch_2197 : staG tb_X12_numberAt 1 bt_RX12 [] ct_2 [] [] cu_2197 11 con_2197 = true := by decide +kernel
theorem vl_2197 (l : Launch) : Vld2 l vwCl gTbl con_2197 := conR_ok3 gT_all (hd_2197) rfl pn_RX12 tk_X12_numberAt bo_RX12 xo_RX12 (cto_2 l) ch_2197 cut_nil
/-- RookHustingModel numberAt -/
noncomputable def con_2198 : Con2 := ((yX12_numberAt, cX12_numberAt, 3, (some .long)), (0, 0), ([(6, 0, 0), (0, 2, 0), (0, 53, 0)], gi_1855, [ac_1100, ac_1222], []), [((4, 48, 0), gi_1856, [(false, ac_1100), (false, ac_1222)], [], [1])])
theorem hd_2198 : con_2198.1 = (yX12_numberAt, cX12_numberAt, 3, (some .long)) := rfl
noncomputable def cu_2198 : List CUT2 := []
theorem ch_2198 : staG tb_X12_numberAt 1 bt_RX12 [] ct_2 [] [] cu_2198 11 con_2198 = true := by decide +kernel
theorem vl_2198 (l : Launch) : Vld2 l vwCl gTbl con_2198 := conR_ok3 gT_all (hd_2198) rfl pn_RX12 tk_X12_numberAt bo_RX12 xo_RX12 (cto_2 l) ch_2198 cut_nil
/-- RookHustingModel numberAt -/
noncomputable def con_2199 : Con2 := ((yX12_numberAt, cX12_numberAt, 3, (some .long)), (0, 0), ([(6, 0, 0), (0, 2, 0), (0, 55, 0)], gi_1851, [ac_1100, ac_1224], []), [((4, 48, 0), gi_1852, [(false, ac_1100), (false, ac_1224)], [], [1])])
theorem hd_2199 : con_2199.1 = (yX12_numberAt, cX12_numberAt, 3, (some .long)) := rfl
noncomputable def cu_2199 : List CUT2 := []
theorem ch_2199 : staG tb_X12_numberAt 1 bt_RX12 [] ct_2 [] [] cu_2199 11 con_2199 = true := by decide +kernel
theorem vl_2199 (l : Launch) : Vld2 l vwCl gTbl con_2199 := conR_ok3 gT_all (hd_2199) rfl pn_RX12 tk_X12_numberAt bo_RX12 xo_RX12 (cto_2 l) ch_2199 cut_nil
/-- RookHustingModel numberAt -/
noncomputable def con_2200 : Con2 := ((yX12_numberAt, cX12_numberAt, 3, (some .long)), (0, 0), ([(6, 0, 0), (0, 2, 0), (0, 54, 0)], gi_1853, [ac_1100, ac_1223], []), [((4, 48, 0), gi_1854, [(false, ac_1100), (false, ac_1223)], [], [1])])
theorem hd_2200 : con_2200.1 = (yX12_numberAt, cX12_numberAt, 3, (some .long)) := rfl
noncomputable def cu_2200 : List CUT2 := []
theorem ch_2200 : staG tb_X12_numberAt 1 bt_RX12 [] ct_2 [] [] cu_2200 11 con_2200 = true := by decide +kernel
theorem vl_2200 (l : Launch) : Vld2 l vwCl gTbl con_2200 := conR_ok3 gT_all (hd_2200) rfl pn_RX12 tk_X12_numberAt bo_RX12 xo_RX12 (cto_2 l) ch_2200 cut_nil
/-- RookHustingModel numberAt -/
noncomputable def con_2201 : Con2 := ((yX12_numberAt, cX12_numberAt, 3, (some .long)), (0, 0), ([(6, 0, 0), (0, 2, 0), (0, 56, 0)], gi_1855, [ac_1100, ac_1225], []), [((4, 48, 0), gi_1856, [(false, ac_1100), (false, ac_1225)], [], [1])])
theorem hd_2201 : con_2201.1 = (yX12_numberAt, cX12_numberAt, 3, (some .long)) := rfl
noncomputable def cu_2201 : List CUT2 := []
theorem ch_2201 : staG tb_X12_numberAt 1 bt_RX12 [] ct_2 [] [] cu_2201 11 con_2201 = true := by decide +kernel
theorem vl_2201 (l : Launch) : Vld2 l vwCl gTbl con_2201 := conR_ok3 gT_all (hd_2201) rfl pn_RX12 tk_X12_numberAt bo_RX12 xo_RX12 (cto_2 l) ch_2201 cut_nil
/-- RookHustingModel numberAt -/
noncomputable def con_2202 : Con2 := ((yX12_numberAt, cX12_numberAt, 3, (some .long)), (0, 0), ([(6, 0, 0), (0, 2, 0), (0, 58, 0)], gi_1851, [ac_1100, ac_1227], []), [((4, 48, 0), gi_1852, [(false, ac_1100), (false, ac_1227)], [], [1])])
theorem hd_2202 : con_2202.1 = (yX12_numberAt, cX12_numberAt, 3, (some .long)) := rfl
noncomputable def cu_2202 : List CUT2 := []
theorem ch_2202 : staG tb_X12_numberAt 1 bt_RX12 [] ct_2 [] [] cu_2202 11 con_2202 = true := by decide +kernel
theorem vl_2202 (l : Launch) : Vld2 l vwCl gTbl con_2202 := conR_ok3 gT_all (hd_2202) rfl pn_RX12 tk_X12_numberAt bo_RX12 xo_RX12 (cto_2 l) ch_2202 cut_nil
/-- RookHustingModel numberAt -/
noncomputable def con_2203 : Con2 := ((yX12_numberAt, cX12_numberAt, 3, (some .long)), (0, 0), ([(6, 0, 0), (0, 2, 0), (0, 57, 0)], gi_1853, [ac_1100, ac_1226], []), [((4, 48, 0), gi_1854, [(false, ac_1100), (false, ac_1226)], [], [1])])
theorem hd_2203 : con_2203.1 = (yX12_numberAt, cX12_numberAt, 3, (some .long)) := rfl
noncomputable def cu_2203 : List CUT2 := []
theorem ch_2203 : staG tb_X12_numberAt 1 bt_RX12 [] ct_2 [] [] cu_2203 11 con_2203 = true := by decide +kernel
theorem vl_2203 (l : Launch) : Vld2 l vwCl gTbl con_2203 := conR_ok3 gT_all (hd_2203) rfl pn_RX12 tk_X12_numberAt bo_RX12 xo_RX12 (cto_2 l) ch_2203 cut_nil
/-- RookHustingModel numberAt -/
noncomputable def con_2204 : Con2 := ((yX12_numberAt, cX12_numberAt, 3, (some .long)), (0, 0), ([(6, 0, 0), (0, 2, 0), (0, 59, 0)], gi_1855, [ac_1100, ac_1228], []), [((4, 48, 0), gi_1856, [(false, ac_1100), (false, ac_1228)], [], [1])])
theorem hd_2204 : con_2204.1 = (yX12_numberAt, cX12_numberAt, 3, (some .long)) := rfl
noncomputable def cu_2204 : List CUT2 := []
theorem ch_2204 : staG tb_X12_numberAt 1 bt_RX12 [] ct_2 [] [] cu_2204 11 con_2204 = true := by decide +kernel
theorem vl_2204 (l : Launch) : Vld2 l vwCl gTbl con_2204 := conR_ok3 gT_all (hd_2204) rfl pn_RX12 tk_X12_numberAt bo_RX12 xo_RX12 (cto_2 l) ch_2204 cut_nil
/-- RookHustingModel isSeen -/
noncomputable def gi_2056 : GI := jl_n [gp_769, gp_534]
noncomputable def gi_2057 : GI := jl_n [gp_769, gp_534, jl_z 1]
noncomputable def con_2205 : Con2 := ((yX12_isSeen, cX12_isSeen, 3, (some .boolean)), (1, 22), ([(6, 0, 0), (0, 2, 0)], gi_2056, hc_218, []), [((0, 0, 0), gi_2057, hq_922, [], [1]), ((0, 1, 0), gi_2057, hq_922, [], [1])])
theorem hd_2205 : con_2205.1 = (yX12_isSeen, cX12_isSeen, 3, (some .boolean)) := rfl
theorem ck_RX12_417_2156 : COK2 RX12 vwCl gTbl 417 0 con_2156 := ⟨wd_2061, wd_137, mh_X12_numberAt, .inr (.inr ⟨rfl, wd_2058, wd_2060, wd_114, ⟨_, rfl, pd_X12_numberAt⟩, 12, _, TX12, 45, rfl, rfl⟩)⟩
theorem ck_RX12_417_2159 : COK2 RX12 vwCl gTbl 417 0 con_2159 := ⟨wd_2061, wd_137, mh_X12_numberAt, .inr (.inr ⟨rfl, wd_2058, wd_2060, wd_114, ⟨_, rfl, pd_X12_numberAt⟩, 12, _, TX12, 45, rfl, rfl⟩)⟩
theorem ck_RX12_417_2162 : COK2 RX12 vwCl gTbl 417 0 con_2162 := ⟨wd_2061, wd_137, mh_X12_numberAt, .inr (.inr ⟨rfl, wd_2058, wd_2060, wd_114, ⟨_, rfl, pd_X12_numberAt⟩, 12, _, TX12, 45, rfl, rfl⟩)⟩
theorem ck_RX12_417_2165 : COK2 RX12 vwCl gTbl 417 0 con_2165 := ⟨wd_2061, wd_137, mh_X12_numberAt, .inr (.inr ⟨rfl, wd_2058, wd_2060, wd_114, ⟨_, rfl, pd_X12_numberAt⟩, 12, _, TX12, 45, rfl, rfl⟩)⟩
theorem ck_RX12_417_2168 : COK2 RX12 vwCl gTbl 417 0 con_2168 := ⟨wd_2061, wd_137, mh_X12_numberAt, .inr (.inr ⟨rfl, wd_2058, wd_2060, wd_114, ⟨_, rfl, pd_X12_numberAt⟩, 12, _, TX12, 45, rfl, rfl⟩)⟩
theorem ck_RX12_417_2171 : COK2 RX12 vwCl gTbl 417 0 con_2171 := ⟨wd_2061, wd_137, mh_X12_numberAt, .inr (.inr ⟨rfl, wd_2058, wd_2060, wd_114, ⟨_, rfl, pd_X12_numberAt⟩, 12, _, TX12, 45, rfl, rfl⟩)⟩
theorem ck_RX12_417_2174 : COK2 RX12 vwCl gTbl 417 0 con_2174 := ⟨wd_2061, wd_137, mh_X12_numberAt, .inr (.inr ⟨rfl, wd_2058, wd_2060, wd_114, ⟨_, rfl, pd_X12_numberAt⟩, 12, _, TX12, 45, rfl, rfl⟩)⟩
theorem ck_RX12_417_2177 : COK2 RX12 vwCl gTbl 417 0 con_2177 := ⟨wd_2061, wd_137, mh_X12_numberAt, .inr (.inr ⟨rfl, wd_2058, wd_2060, wd_114, ⟨_, rfl, pd_X12_numberAt⟩, 12, _, TX12, 45, rfl, rfl⟩)⟩
theorem ck_RX12_417_2180 : COK2 RX12 vwCl gTbl 417 0 con_2180 := ⟨wd_2061, wd_137, mh_X12_numberAt, .inr (.inr ⟨rfl, wd_2058, wd_2060, wd_114, ⟨_, rfl, pd_X12_numberAt⟩, 12, _, TX12, 45, rfl, rfl⟩)⟩
theorem ck_RX12_417_2183 : COK2 RX12 vwCl gTbl 417 0 con_2183 := ⟨wd_2061, wd_137, mh_X12_numberAt, .inr (.inr ⟨rfl, wd_2058, wd_2060, wd_114, ⟨_, rfl, pd_X12_numberAt⟩, 12, _, TX12, 45, rfl, rfl⟩)⟩
theorem ck_RX12_417_2186 : COK2 RX12 vwCl gTbl 417 0 con_2186 := ⟨wd_2061, wd_137, mh_X12_numberAt, .inr (.inr ⟨rfl, wd_2058, wd_2060, wd_114, ⟨_, rfl, pd_X12_numberAt⟩, 12, _, TX12, 45, rfl, rfl⟩)⟩
theorem ck_RX12_417_2189 : COK2 RX12 vwCl gTbl 417 0 con_2189 := ⟨wd_2061, wd_137, mh_X12_numberAt, .inr (.inr ⟨rfl, wd_2058, wd_2060, wd_114, ⟨_, rfl, pd_X12_numberAt⟩, 12, _, TX12, 45, rfl, rfl⟩)⟩
theorem ck_RX12_417_2192 : COK2 RX12 vwCl gTbl 417 0 con_2192 := ⟨wd_2061, wd_137, mh_X12_numberAt, .inr (.inr ⟨rfl, wd_2058, wd_2060, wd_114, ⟨_, rfl, pd_X12_numberAt⟩, 12, _, TX12, 45, rfl, rfl⟩)⟩
theorem ck_RX12_417_2195 : COK2 RX12 vwCl gTbl 417 0 con_2195 := ⟨wd_2061, wd_137, mh_X12_numberAt, .inr (.inr ⟨rfl, wd_2058, wd_2060, wd_114, ⟨_, rfl, pd_X12_numberAt⟩, 12, _, TX12, 45, rfl, rfl⟩)⟩
theorem ck_RX12_417_2198 : COK2 RX12 vwCl gTbl 417 0 con_2198 := ⟨wd_2061, wd_137, mh_X12_numberAt, .inr (.inr ⟨rfl, wd_2058, wd_2060, wd_114, ⟨_, rfl, pd_X12_numberAt⟩, 12, _, TX12, 45, rfl, rfl⟩)⟩
theorem ck_RX12_417_2201 : COK2 RX12 vwCl gTbl 417 0 con_2201 := ⟨wd_2061, wd_137, mh_X12_numberAt, .inr (.inr ⟨rfl, wd_2058, wd_2060, wd_114, ⟨_, rfl, pd_X12_numberAt⟩, 12, _, TX12, 45, rfl, rfl⟩)⟩
theorem ck_RX12_417_2204 : COK2 RX12 vwCl gTbl 417 0 con_2204 := ⟨wd_2061, wd_137, mh_X12_numberAt, .inr (.inr ⟨rfl, wd_2058, wd_2060, wd_114, ⟨_, rfl, pd_X12_numberAt⟩, 12, _, TX12, 45, rfl, rfl⟩)⟩
theorem ck_RX12_417_2155 : COK2 RX12 vwCl gTbl 417 0 con_2155 := ⟨wd_2061, wd_137, mh_X12_numberAt, .inr (.inr ⟨rfl, wd_2058, wd_2060, wd_114, ⟨_, rfl, pd_X12_numberAt⟩, 12, _, TX12, 45, rfl, rfl⟩)⟩
theorem ck_RX12_417_2158 : COK2 RX12 vwCl gTbl 417 0 con_2158 := ⟨wd_2061, wd_137, mh_X12_numberAt, .inr (.inr ⟨rfl, wd_2058, wd_2060, wd_114, ⟨_, rfl, pd_X12_numberAt⟩, 12, _, TX12, 45, rfl, rfl⟩)⟩
theorem ck_RX12_417_2161 : COK2 RX12 vwCl gTbl 417 0 con_2161 := ⟨wd_2061, wd_137, mh_X12_numberAt, .inr (.inr ⟨rfl, wd_2058, wd_2060, wd_114, ⟨_, rfl, pd_X12_numberAt⟩, 12, _, TX12, 45, rfl, rfl⟩)⟩
theorem ck_RX12_417_2164 : COK2 RX12 vwCl gTbl 417 0 con_2164 := ⟨wd_2061, wd_137, mh_X12_numberAt, .inr (.inr ⟨rfl, wd_2058, wd_2060, wd_114, ⟨_, rfl, pd_X12_numberAt⟩, 12, _, TX12, 45, rfl, rfl⟩)⟩
theorem ck_RX12_417_2167 : COK2 RX12 vwCl gTbl 417 0 con_2167 := ⟨wd_2061, wd_137, mh_X12_numberAt, .inr (.inr ⟨rfl, wd_2058, wd_2060, wd_114, ⟨_, rfl, pd_X12_numberAt⟩, 12, _, TX12, 45, rfl, rfl⟩)⟩
theorem ck_RX12_417_2170 : COK2 RX12 vwCl gTbl 417 0 con_2170 := ⟨wd_2061, wd_137, mh_X12_numberAt, .inr (.inr ⟨rfl, wd_2058, wd_2060, wd_114, ⟨_, rfl, pd_X12_numberAt⟩, 12, _, TX12, 45, rfl, rfl⟩)⟩
theorem ck_RX12_417_2173 : COK2 RX12 vwCl gTbl 417 0 con_2173 := ⟨wd_2061, wd_137, mh_X12_numberAt, .inr (.inr ⟨rfl, wd_2058, wd_2060, wd_114, ⟨_, rfl, pd_X12_numberAt⟩, 12, _, TX12, 45, rfl, rfl⟩)⟩
theorem ck_RX12_417_2176 : COK2 RX12 vwCl gTbl 417 0 con_2176 := ⟨wd_2061, wd_137, mh_X12_numberAt, .inr (.inr ⟨rfl, wd_2058, wd_2060, wd_114, ⟨_, rfl, pd_X12_numberAt⟩, 12, _, TX12, 45, rfl, rfl⟩)⟩
theorem ck_RX12_417_2179 : COK2 RX12 vwCl gTbl 417 0 con_2179 := ⟨wd_2061, wd_137, mh_X12_numberAt, .inr (.inr ⟨rfl, wd_2058, wd_2060, wd_114, ⟨_, rfl, pd_X12_numberAt⟩, 12, _, TX12, 45, rfl, rfl⟩)⟩
theorem ck_RX12_417_2182 : COK2 RX12 vwCl gTbl 417 0 con_2182 := ⟨wd_2061, wd_137, mh_X12_numberAt, .inr (.inr ⟨rfl, wd_2058, wd_2060, wd_114, ⟨_, rfl, pd_X12_numberAt⟩, 12, _, TX12, 45, rfl, rfl⟩)⟩
theorem ck_RX12_417_2185 : COK2 RX12 vwCl gTbl 417 0 con_2185 := ⟨wd_2061, wd_137, mh_X12_numberAt, .inr (.inr ⟨rfl, wd_2058, wd_2060, wd_114, ⟨_, rfl, pd_X12_numberAt⟩, 12, _, TX12, 45, rfl, rfl⟩)⟩
theorem ck_RX12_417_2188 : COK2 RX12 vwCl gTbl 417 0 con_2188 := ⟨wd_2061, wd_137, mh_X12_numberAt, .inr (.inr ⟨rfl, wd_2058, wd_2060, wd_114, ⟨_, rfl, pd_X12_numberAt⟩, 12, _, TX12, 45, rfl, rfl⟩)⟩
theorem ck_RX12_417_2191 : COK2 RX12 vwCl gTbl 417 0 con_2191 := ⟨wd_2061, wd_137, mh_X12_numberAt, .inr (.inr ⟨rfl, wd_2058, wd_2060, wd_114, ⟨_, rfl, pd_X12_numberAt⟩, 12, _, TX12, 45, rfl, rfl⟩)⟩
theorem ck_RX12_417_2194 : COK2 RX12 vwCl gTbl 417 0 con_2194 := ⟨wd_2061, wd_137, mh_X12_numberAt, .inr (.inr ⟨rfl, wd_2058, wd_2060, wd_114, ⟨_, rfl, pd_X12_numberAt⟩, 12, _, TX12, 45, rfl, rfl⟩)⟩
theorem ck_RX12_417_2197 : COK2 RX12 vwCl gTbl 417 0 con_2197 := ⟨wd_2061, wd_137, mh_X12_numberAt, .inr (.inr ⟨rfl, wd_2058, wd_2060, wd_114, ⟨_, rfl, pd_X12_numberAt⟩, 12, _, TX12, 45, rfl, rfl⟩)⟩
theorem ck_RX12_417_2200 : COK2 RX12 vwCl gTbl 417 0 con_2200 := ⟨wd_2061, wd_137, mh_X12_numberAt, .inr (.inr ⟨rfl, wd_2058, wd_2060, wd_114, ⟨_, rfl, pd_X12_numberAt⟩, 12, _, TX12, 45, rfl, rfl⟩)⟩
theorem ck_RX12_417_2203 : COK2 RX12 vwCl gTbl 417 0 con_2203 := ⟨wd_2061, wd_137, mh_X12_numberAt, .inr (.inr ⟨rfl, wd_2058, wd_2060, wd_114, ⟨_, rfl, pd_X12_numberAt⟩, 12, _, TX12, 45, rfl, rfl⟩)⟩
theorem ck_RX12_417_2154 : COK2 RX12 vwCl gTbl 417 0 con_2154 := ⟨wd_2061, wd_137, mh_X12_numberAt, .inr (.inr ⟨rfl, wd_2058, wd_2060, wd_114, ⟨_, rfl, pd_X12_numberAt⟩, 12, _, TX12, 45, rfl, rfl⟩)⟩
theorem ck_RX12_417_2157 : COK2 RX12 vwCl gTbl 417 0 con_2157 := ⟨wd_2061, wd_137, mh_X12_numberAt, .inr (.inr ⟨rfl, wd_2058, wd_2060, wd_114, ⟨_, rfl, pd_X12_numberAt⟩, 12, _, TX12, 45, rfl, rfl⟩)⟩
theorem ck_RX12_417_2160 : COK2 RX12 vwCl gTbl 417 0 con_2160 := ⟨wd_2061, wd_137, mh_X12_numberAt, .inr (.inr ⟨rfl, wd_2058, wd_2060, wd_114, ⟨_, rfl, pd_X12_numberAt⟩, 12, _, TX12, 45, rfl, rfl⟩)⟩
theorem ck_RX12_417_2163 : COK2 RX12 vwCl gTbl 417 0 con_2163 := ⟨wd_2061, wd_137, mh_X12_numberAt, .inr (.inr ⟨rfl, wd_2058, wd_2060, wd_114, ⟨_, rfl, pd_X12_numberAt⟩, 12, _, TX12, 45, rfl, rfl⟩)⟩
theorem ck_RX12_417_2166 : COK2 RX12 vwCl gTbl 417 0 con_2166 := ⟨wd_2061, wd_137, mh_X12_numberAt, .inr (.inr ⟨rfl, wd_2058, wd_2060, wd_114, ⟨_, rfl, pd_X12_numberAt⟩, 12, _, TX12, 45, rfl, rfl⟩)⟩
theorem ck_RX12_417_2169 : COK2 RX12 vwCl gTbl 417 0 con_2169 := ⟨wd_2061, wd_137, mh_X12_numberAt, .inr (.inr ⟨rfl, wd_2058, wd_2060, wd_114, ⟨_, rfl, pd_X12_numberAt⟩, 12, _, TX12, 45, rfl, rfl⟩)⟩
theorem ck_RX12_417_2172 : COK2 RX12 vwCl gTbl 417 0 con_2172 := ⟨wd_2061, wd_137, mh_X12_numberAt, .inr (.inr ⟨rfl, wd_2058, wd_2060, wd_114, ⟨_, rfl, pd_X12_numberAt⟩, 12, _, TX12, 45, rfl, rfl⟩)⟩
theorem ck_RX12_417_2175 : COK2 RX12 vwCl gTbl 417 0 con_2175 := ⟨wd_2061, wd_137, mh_X12_numberAt, .inr (.inr ⟨rfl, wd_2058, wd_2060, wd_114, ⟨_, rfl, pd_X12_numberAt⟩, 12, _, TX12, 45, rfl, rfl⟩)⟩
theorem ck_RX12_417_2178 : COK2 RX12 vwCl gTbl 417 0 con_2178 := ⟨wd_2061, wd_137, mh_X12_numberAt, .inr (.inr ⟨rfl, wd_2058, wd_2060, wd_114, ⟨_, rfl, pd_X12_numberAt⟩, 12, _, TX12, 45, rfl, rfl⟩)⟩
theorem ck_RX12_417_2181 : COK2 RX12 vwCl gTbl 417 0 con_2181 := ⟨wd_2061, wd_137, mh_X12_numberAt, .inr (.inr ⟨rfl, wd_2058, wd_2060, wd_114, ⟨_, rfl, pd_X12_numberAt⟩, 12, _, TX12, 45, rfl, rfl⟩)⟩
theorem ck_RX12_417_2184 : COK2 RX12 vwCl gTbl 417 0 con_2184 := ⟨wd_2061, wd_137, mh_X12_numberAt, .inr (.inr ⟨rfl, wd_2058, wd_2060, wd_114, ⟨_, rfl, pd_X12_numberAt⟩, 12, _, TX12, 45, rfl, rfl⟩)⟩
theorem ck_RX12_417_2187 : COK2 RX12 vwCl gTbl 417 0 con_2187 := ⟨wd_2061, wd_137, mh_X12_numberAt, .inr (.inr ⟨rfl, wd_2058, wd_2060, wd_114, ⟨_, rfl, pd_X12_numberAt⟩, 12, _, TX12, 45, rfl, rfl⟩)⟩
theorem ck_RX12_417_2190 : COK2 RX12 vwCl gTbl 417 0 con_2190 := ⟨wd_2061, wd_137, mh_X12_numberAt, .inr (.inr ⟨rfl, wd_2058, wd_2060, wd_114, ⟨_, rfl, pd_X12_numberAt⟩, 12, _, TX12, 45, rfl, rfl⟩)⟩
theorem ck_RX12_417_2193 : COK2 RX12 vwCl gTbl 417 0 con_2193 := ⟨wd_2061, wd_137, mh_X12_numberAt, .inr (.inr ⟨rfl, wd_2058, wd_2060, wd_114, ⟨_, rfl, pd_X12_numberAt⟩, 12, _, TX12, 45, rfl, rfl⟩)⟩
theorem ck_RX12_417_2196 : COK2 RX12 vwCl gTbl 417 0 con_2196 := ⟨wd_2061, wd_137, mh_X12_numberAt, .inr (.inr ⟨rfl, wd_2058, wd_2060, wd_114, ⟨_, rfl, pd_X12_numberAt⟩, 12, _, TX12, 45, rfl, rfl⟩)⟩
theorem ck_RX12_417_2199 : COK2 RX12 vwCl gTbl 417 0 con_2199 := ⟨wd_2061, wd_137, mh_X12_numberAt, .inr (.inr ⟨rfl, wd_2058, wd_2060, wd_114, ⟨_, rfl, pd_X12_numberAt⟩, 12, _, TX12, 45, rfl, rfl⟩)⟩
theorem ck_RX12_417_2202 : COK2 RX12 vwCl gTbl 417 0 con_2202 := ⟨wd_2061, wd_137, mh_X12_numberAt, .inr (.inr ⟨rfl, wd_2058, wd_2060, wd_114, ⟨_, rfl, pd_X12_numberAt⟩, 12, _, TX12, 45, rfl, rfl⟩)⟩
noncomputable def ct_2205 : CTB2 := [(22, 417, 0, con_2202, [0, 2]), (22, 417, 0, con_2199, [0, 2]), (22, 417, 0, con_2196, [0, 2]), (22, 417, 0, con_2193, [0, 2]), (22, 417, 0, con_2190, [0, 2]), (22, 417, 0, con_2187, [0, 2]), (22, 417, 0, con_2184, [0, 2]), (22, 417, 0, con_2181, [0, 2]), (22, 417, 0, con_2178, [0, 2]), (22, 417, 0, con_2175, [0, 2]), (22, 417, 0, con_2172, [0, 2]), (22, 417, 0, con_2169, [0, 2]), (22, 417, 0, con_2166, [0, 2]), (22, 417, 0, con_2163, [0, 2]), (22, 417, 0, con_2160, [0, 2]), (22, 417, 0, con_2157, [0, 2]), (22, 417, 0, con_2154, [0, 2]), (22, 417, 0, con_2150, [0, 2]), (22, 417, 0, con_2147, [0, 2]), (22, 417, 0, con_2144, [0, 2]), (30, 417, 0, con_2203, [0, 2]), (30, 417, 0, con_2200, [0, 2]), (30, 417, 0, con_2197, [0, 2]), (30, 417, 0, con_2194, [0, 2]), (30, 417, 0, con_2191, [0, 2]), (30, 417, 0, con_2188, [0, 2]), (30, 417, 0, con_2185, [0, 2]), (30, 417, 0, con_2182, [0, 2]), (30, 417, 0, con_2179, [0, 2]), (30, 417, 0, con_2176, [0, 2]), (30, 417, 0, con_2173, [0, 2]), (30, 417, 0, con_2170, [0, 2]), (30, 417, 0, con_2167, [0, 2]), (30, 417, 0, con_2164, [0, 2]), (30, 417, 0, con_2161, [0, 2]), (30, 417, 0, con_2158, [0, 2]), (30, 417, 0, con_2155, [0, 2]), (30, 417, 0, con_2151, [0, 2]), (30, 417, 0, con_2148, [0, 2]), (30, 417, 0, con_2145, [0, 2]), (42, 417, 0, con_2204, [0, 2]), (42, 417, 0, con_2201, [0, 2]), (42, 417, 0, con_2198, [0, 2]), (42, 417, 0, con_2195, [0, 2]), (42, 417, 0, con_2192, [0, 2]), (42, 417, 0, con_2189, [0, 2]), (42, 417, 0, con_2186, [0, 2]), (42, 417, 0, con_2183, [0, 2]), (42, 417, 0, con_2180, [0, 2]), (42, 417, 0, con_2177, [0, 2]), (42, 417, 0, con_2174, [0, 2]), (42, 417, 0, con_2171, [0, 2]), (42, 417, 0, con_2168, [0, 2]), (42, 417, 0, con_2165, [0, 2]), (42, 417, 0, con_2162, [0, 2]), (42, 417, 0, con_2159, [0, 2]), (42, 417, 0, con_2156, [0, 2]), (42, 417, 0, con_2152, [0, 2]), (42, 417, 0, con_2149, [0, 2]), (42, 417, 0, con_2146, [0, 2])]
noncomputable def gi_2058 : GI := jl_n [gp_769, gp_534, jl_z 3]
noncomputable def cu_2205_0 : List CUT2 := [((2, [lq 0 6 0, lq 1 0 2, lq 2 0 0], [], gi_2058, hq_922), [], ([], 60)), ((2, [lq 0 6 0, lq 1 0 2, lq 2 0 3], [], gi_2058, hq_922), [], ([], 57)), ((2, [lq 0 6 0, lq 1 0 2, lq 2 0 6], [], gi_2058, hq_922), [], ([], 54)), ((2, [lq 0 6 0, lq 1 0 2, lq 2 0 9], [], gi_2058, hq_922), [], ([], 51)), ((2, [lq 0 6 0, lq 1 0 2, lq 2 0 12], [], gi_2058, hq_922), [], ([], 48)), ((2, [lq 0 6 0, lq 1 0 2, lq 2 0 15], [], gi_2058, hq_922), [], ([], 45)), ((2, [lq 0 6 0, lq 1 0 2, lq 2 0 18], [], gi_2058, hq_922), [], ([], 42)), ((2, [lq 0 6 0, lq 1 0 2, lq 2 0 21], [], gi_2058, hq_922), [], ([], 39)), ((2, [lq 0 6 0, lq 1 0 2, lq 2 0 24], [], gi_2058, hq_922), [], ([], 36)), ((2, [lq 0 6 0, lq 1 0 2, lq 2 0 27], [], gi_2058, hq_922), [], ([], 33)), ((2, [lq 0 6 0, lq 1 0 2, lq 2 0 30], [], gi_2058, hq_922), [], ([], 30)), ((2, [lq 0 6 0, lq 1 0 2, lq 2 0 33], [], gi_2058, hq_922), [], ([], 27)), ((2, [lq 0 6 0, lq 1 0 2, lq 2 0 36], [], gi_2058, hq_922), [], ([], 24)), ((2, [lq 0 6 0, lq 1 0 2, lq 2 0 39], [], gi_2058, hq_922), [], ([], 21)), ((2, [lq 0 6 0, lq 1 0 2, lq 2 0 42], [], gi_2058, hq_922), [], ([], 18)), ((2, [lq 0 6 0, lq 1 0 2, lq 2 0 45], [], gi_2058, hq_922), [], ([], 15)), ((2, [lq 0 6 0, lq 1 0 2, lq 2 0 48], [], gi_2058, hq_922), [], ([], 12)), ((2, [lq 0 6 0, lq 1 0 2, lq 2 0 51], [], gi_2058, hq_922), [], ([], 9))]
noncomputable def cu_2205_1 : List CUT2 := [((2, [lq 0 6 0, lq 1 0 2, lq 2 0 54], [], gi_2058, hq_922), [], ([], 6)), ((2, [lq 0 6 0, lq 1 0 2, lq 2 0 57], [], gi_2058, hq_922), [], ([], 3)), ((2, [lq 0 6 0, lq 1 0 2, lq 2 0 60], [], gi_2058, hq_922), [], ([], 0))]
noncomputable def cu_2205 : List CUT2 := cu_2205_0 ++ (cu_2205_1)
theorem ch_2205 : staG tb_X12_isSeen 1 bt_RX12 [] ct_2205 [] [] cu_2205 37 con_2205 = true := by decide +kernel
theorem cc_2205_0 : cu_2205_0.all (cutG tb_X12_isSeen 1 bt_RX12 [] ct_2205 [] [] cu_2205 37 con_2205) = true := by decide +kernel
theorem cc_2205_1 : cu_2205_1.all (cutG tb_X12_isSeen 1 bt_RX12 [] ct_2205 [] [] cu_2205 37 con_2205) = true := by decide +kernel
theorem cto_2205 (l : Launch) : CTOK2 l RX12 vwCl gTbl ct_2205 := ct2_cons (vl_2202 l) ck_RX12_417_2202 (ct2_cons (vl_2199 l) ck_RX12_417_2199 (ct2_cons (vl_2196 l) ck_RX12_417_2196 (ct2_cons (vl_2193 l) ck_RX12_417_2193 (ct2_cons (vl_2190 l) ck_RX12_417_2190 (ct2_cons (vl_2187 l) ck_RX12_417_2187 (ct2_cons (vl_2184 l) ck_RX12_417_2184 (ct2_cons (vl_2181 l) ck_RX12_417_2181 (ct2_cons (vl_2178 l) ck_RX12_417_2178 (ct2_cons (vl_2175 l) ck_RX12_417_2175 (ct2_cons (vl_2172 l) ck_RX12_417_2172 (ct2_cons (vl_2169 l) ck_RX12_417_2169 (ct2_cons (vl_2166 l) ck_RX12_417_2166 (ct2_cons (vl_2163 l) ck_RX12_417_2163 (ct2_cons (vl_2160 l) ck_RX12_417_2160 (ct2_cons (vl_2157 l) ck_RX12_417_2157 (ct2_cons (vl_2154 l) ck_RX12_417_2154 (ct2_cons (vl_2150 l) ck_RX12_417_2150 (ct2_cons (vl_2147 l) ck_RX12_417_2147 (ct2_cons (vl_2144 l) ck_RX12_417_2144 (ct2_cons (vl_2203 l) ck_RX12_417_2203 (ct2_cons (vl_2200 l) ck_RX12_417_2200 (ct2_cons (vl_2197 l) ck_RX12_417_2197 (ct2_cons (vl_2194 l) ck_RX12_417_2194 (ct2_cons (vl_2191 l) ck_RX12_417_2191 (ct2_cons (vl_2188 l) ck_RX12_417_2188 (ct2_cons (vl_2185 l) ck_RX12_417_2185 (ct2_cons (vl_2182 l) ck_RX12_417_2182 (ct2_cons (vl_2179 l) ck_RX12_417_2179 (ct2_cons (vl_2176 l) ck_RX12_417_2176 (ct2_cons (vl_2173 l) ck_RX12_417_2173 (ct2_cons (vl_2170 l) ck_RX12_417_2170 (ct2_cons (vl_2167 l) ck_RX12_417_2167 (ct2_cons (vl_2164 l) ck_RX12_417_2164 (ct2_cons (vl_2161 l) ck_RX12_417_2161 (ct2_cons (vl_2158 l) ck_RX12_417_2158 (ct2_cons (vl_2155 l) ck_RX12_417_2155 (ct2_cons (vl_2151 l) ck_RX12_417_2151 (ct2_cons (vl_2148 l) ck_RX12_417_2148 (ct2_cons (vl_2145 l) ck_RX12_417_2145 (ct2_cons (vl_2204 l) ck_RX12_417_2204 (ct2_cons (vl_2201 l) ck_RX12_417_2201 (ct2_cons (vl_2198 l) ck_RX12_417_2198 (ct2_cons (vl_2195 l) ck_RX12_417_2195 (ct2_cons (vl_2192 l) ck_RX12_417_2192 (ct2_cons (vl_2189 l) ck_RX12_417_2189 (ct2_cons (vl_2186 l) ck_RX12_417_2186 (ct2_cons (vl_2183 l) ck_RX12_417_2183 (ct2_cons (vl_2180 l) ck_RX12_417_2180 (ct2_cons (vl_2177 l) ck_RX12_417_2177 (ct2_cons (vl_2174 l) ck_RX12_417_2174 (ct2_cons (vl_2171 l) ck_RX12_417_2171 (ct2_cons (vl_2168 l) ck_RX12_417_2168 (ct2_cons (vl_2165 l) ck_RX12_417_2165 (ct2_cons (vl_2162 l) ck_RX12_417_2162 (ct2_cons (vl_2159 l) ck_RX12_417_2159 (ct2_cons (vl_2156 l) ck_RX12_417_2156 (ct2_cons (vl_2152 l) ck_RX12_417_2152 (ct2_cons (vl_2149 l) ck_RX12_417_2149 (ct2_cons (vl_2146 l) ck_RX12_417_2146 (ct2_nil))))))))))))))))))))))))))))))))))))))))))))))))))))))))))))
theorem vl_2205 (l : Launch) : Vld2 l vwCl gTbl con_2205 := conR_ok3 gT_all (hd_2205) rfl pn_RX12 tk_X12_isSeen bo_RX12 xo_RX12 (cto_2205 l) ch_2205 (cut_app (cut_all cc_2205_0) (cut_all cc_2205_1))
/-- RookHustingModel isSeen -/
noncomputable def gi_2059 : GI := jl_n [gp_769, gp_533]
noncomputable def gi_2060 : GI := jl_n [gp_769, gp_533, jl_z 1]
noncomputable def con_2206 : Con2 := ((yX12_isSeen, cX12_isSeen, 3, (some .boolean)), (1, 22), ([(6, 0, 0), (0, 2, 0)], gi_2059, hc_218, []), [((0, 0, 0), gi_2060, hq_922, [], [1]), ((0, 1, 0), gi_2060, hq_922, [], [1])])
theorem hd_2206 : con_2206.1 = (yX12_isSeen, cX12_isSeen, 3, (some .boolean)) := rfl
noncomputable def ct_2206 : CTB2 := [(22, 417, 0, con_2147, [0, 2]), (22, 417, 0, con_2144, [0, 2]), (30, 417, 0, con_2148, [0, 2]), (30, 417, 0, con_2145, [0, 2]), (42, 417, 0, con_2149, [0, 2]), (42, 417, 0, con_2146, [0, 2])]
noncomputable def gi_2061 : GI := jl_n [gp_769, gp_533, jl_z 3]
noncomputable def cu_2206 : List CUT2 := [((2, [lq 0 6 0, lq 1 0 2, lq 2 0 0], [], gi_2061, hq_922), [], ([], 6)), ((2, [lq 0 6 0, lq 1 0 2, lq 2 0 3], [], gi_2061, hq_922), [], ([], 3)), ((2, [lq 0 6 0, lq 1 0 2, lq 2 0 6], [], gi_2061, hq_922), [], ([], 0))]
theorem ch_2206 : staG tb_X12_isSeen 1 bt_RX12 [] ct_2206 [] [] cu_2206 37 con_2206 = true := by decide +kernel
theorem cc_2206 : cu_2206.all (cutG tb_X12_isSeen 1 bt_RX12 [] ct_2206 [] [] cu_2206 37 con_2206) = true := by decide +kernel
theorem cto_2206 (l : Launch) : CTOK2 l RX12 vwCl gTbl ct_2206 := ct2_cons (vl_2147 l) ck_RX12_417_2147 (ct2_cons (vl_2144 l) ck_RX12_417_2144 (ct2_cons (vl_2148 l) ck_RX12_417_2148 (ct2_cons (vl_2145 l) ck_RX12_417_2145 (ct2_cons (vl_2149 l) ck_RX12_417_2149 (ct2_cons (vl_2146 l) ck_RX12_417_2146 (ct2_nil))))))
theorem vl_2206 (l : Launch) : Vld2 l vwCl gTbl con_2206 := conR_ok3 gT_all (hd_2206) rfl pn_RX12 tk_X12_isSeen bo_RX12 xo_RX12 (cto_2206 l) ch_2206 (cut_all cc_2206)
/-- RookHustingModel isSeen -/
noncomputable def gi_2062 : GI := jl_n [gp_769, gp_531]
noncomputable def gi_2063 : GI := jl_n [gp_769, gp_531, jl_z 1]
noncomputable def con_2207 : Con2 := ((yX12_isSeen, cX12_isSeen, 3, (some .boolean)), (1, 22), ([(6, 0, 0), (0, 2, 0)], gi_2062, hc_218, []), [((0, 0, 0), gi_2063, hq_922, [], [1]), ((0, 1, 0), gi_2063, hq_922, [], [1])])
theorem hd_2207 : con_2207.1 = (yX12_isSeen, cX12_isSeen, 3, (some .boolean)) := rfl
noncomputable def ct_2207 : CTB2 := [(22, 417, 0, con_2199, [0, 2]), (22, 417, 0, con_2196, [0, 2]), (22, 417, 0, con_2193, [0, 2]), (22, 417, 0, con_2190, [0, 2]), (22, 417, 0, con_2187, [0, 2]), (22, 417, 0, con_2184, [0, 2]), (22, 417, 0, con_2181, [0, 2]), (22, 417, 0, con_2178, [0, 2]), (22, 417, 0, con_2175, [0, 2]), (22, 417, 0, con_2172, [0, 2]), (22, 417, 0, con_2169, [0, 2]), (22, 417, 0, con_2166, [0, 2]), (22, 417, 0, con_2163, [0, 2]), (22, 417, 0, con_2160, [0, 2]), (22, 417, 0, con_2157, [0, 2]), (22, 417, 0, con_2154, [0, 2]), (22, 417, 0, con_2150, [0, 2]), (22, 417, 0, con_2147, [0, 2]), (22, 417, 0, con_2144, [0, 2]), (30, 417, 0, con_2200, [0, 2]), (30, 417, 0, con_2197, [0, 2]), (30, 417, 0, con_2194, [0, 2]), (30, 417, 0, con_2191, [0, 2]), (30, 417, 0, con_2188, [0, 2]), (30, 417, 0, con_2185, [0, 2]), (30, 417, 0, con_2182, [0, 2]), (30, 417, 0, con_2179, [0, 2]), (30, 417, 0, con_2176, [0, 2]), (30, 417, 0, con_2173, [0, 2]), (30, 417, 0, con_2170, [0, 2]), (30, 417, 0, con_2167, [0, 2]), (30, 417, 0, con_2164, [0, 2]), (30, 417, 0, con_2161, [0, 2]), (30, 417, 0, con_2158, [0, 2]), (30, 417, 0, con_2155, [0, 2]), (30, 417, 0, con_2151, [0, 2]), (30, 417, 0, con_2148, [0, 2]), (30, 417, 0, con_2145, [0, 2]), (42, 417, 0, con_2201, [0, 2]), (42, 417, 0, con_2198, [0, 2]), (42, 417, 0, con_2195, [0, 2]), (42, 417, 0, con_2192, [0, 2]), (42, 417, 0, con_2189, [0, 2]), (42, 417, 0, con_2186, [0, 2]), (42, 417, 0, con_2183, [0, 2]), (42, 417, 0, con_2180, [0, 2]), (42, 417, 0, con_2177, [0, 2]), (42, 417, 0, con_2174, [0, 2]), (42, 417, 0, con_2171, [0, 2]), (42, 417, 0, con_2168, [0, 2]), (42, 417, 0, con_2165, [0, 2]), (42, 417, 0, con_2162, [0, 2]), (42, 417, 0, con_2159, [0, 2]), (42, 417, 0, con_2156, [0, 2]), (42, 417, 0, con_2152, [0, 2]), (42, 417, 0, con_2149, [0, 2]), (42, 417, 0, con_2146, [0, 2])]
noncomputable def gi_2064 : GI := jl_n [gp_769, gp_531, jl_z 3]
noncomputable def cu_2207_0 : List CUT2 := [((2, [lq 0 6 0, lq 1 0 2, lq 2 0 0], [], gi_2064, hq_922), [], ([], 57)), ((2, [lq 0 6 0, lq 1 0 2, lq 2 0 3], [], gi_2064, hq_922), [], ([], 54)), ((2, [lq 0 6 0, lq 1 0 2, lq 2 0 6], [], gi_2064, hq_922), [], ([], 51)), ((2, [lq 0 6 0, lq 1 0 2, lq 2 0 9], [], gi_2064, hq_922), [], ([], 48)), ((2, [lq 0 6 0, lq 1 0 2, lq 2 0 12], [], gi_2064, hq_922), [], ([], 45)), ((2, [lq 0 6 0, lq 1 0 2, lq 2 0 15], [], gi_2064, hq_922), [], ([], 42)), ((2, [lq 0 6 0, lq 1 0 2, lq 2 0 18], [], gi_2064, hq_922), [], ([], 39)), ((2, [lq 0 6 0, lq 1 0 2, lq 2 0 21], [], gi_2064, hq_922), [], ([], 36)), ((2, [lq 0 6 0, lq 1 0 2, lq 2 0 24], [], gi_2064, hq_922), [], ([], 33)), ((2, [lq 0 6 0, lq 1 0 2, lq 2 0 27], [], gi_2064, hq_922), [], ([], 30)), ((2, [lq 0 6 0, lq 1 0 2, lq 2 0 30], [], gi_2064, hq_922), [], ([], 27)), ((2, [lq 0 6 0, lq 1 0 2, lq 2 0 33], [], gi_2064, hq_922), [], ([], 24)), ((2, [lq 0 6 0, lq 1 0 2, lq 2 0 36], [], gi_2064, hq_922), [], ([], 21)), ((2, [lq 0 6 0, lq 1 0 2, lq 2 0 39], [], gi_2064, hq_922), [], ([], 18)), ((2, [lq 0 6 0, lq 1 0 2, lq 2 0 42], [], gi_2064, hq_922), [], ([], 15)), ((2, [lq 0 6 0, lq 1 0 2, lq 2 0 45], [], gi_2064, hq_922), [], ([], 12)), ((2, [lq 0 6 0, lq 1 0 2, lq 2 0 48], [], gi_2064, hq_922), [], ([], 9)), ((2, [lq 0 6 0, lq 1 0 2, lq 2 0 51], [], gi_2064, hq_922), [], ([], 6))]
noncomputable def cu_2207_1 : List CUT2 := [((2, [lq 0 6 0, lq 1 0 2, lq 2 0 54], [], gi_2064, hq_922), [], ([], 3)), ((2, [lq 0 6 0, lq 1 0 2, lq 2 0 57], [], gi_2064, hq_922), [], ([], 0))]
noncomputable def cu_2207 : List CUT2 := cu_2207_0 ++ (cu_2207_1)
theorem ch_2207 : staG tb_X12_isSeen 1 bt_RX12 [] ct_2207 [] [] cu_2207 37 con_2207 = true := by decide +kernel
theorem cc_2207_0 : cu_2207_0.all (cutG tb_X12_isSeen 1 bt_RX12 [] ct_2207 [] [] cu_2207 37 con_2207) = true := by decide +kernel
theorem cc_2207_1 : cu_2207_1.all (cutG tb_X12_isSeen 1 bt_RX12 [] ct_2207 [] [] cu_2207 37 con_2207) = true := by decide +kernel
theorem cto_2207 (l : Launch) : CTOK2 l RX12 vwCl gTbl ct_2207 := ct2_cons (vl_2199 l) ck_RX12_417_2199 (ct2_cons (vl_2196 l) ck_RX12_417_2196 (ct2_cons (vl_2193 l) ck_RX12_417_2193 (ct2_cons (vl_2190 l) ck_RX12_417_2190 (ct2_cons (vl_2187 l) ck_RX12_417_2187 (ct2_cons (vl_2184 l) ck_RX12_417_2184 (ct2_cons (vl_2181 l) ck_RX12_417_2181 (ct2_cons (vl_2178 l) ck_RX12_417_2178 (ct2_cons (vl_2175 l) ck_RX12_417_2175 (ct2_cons (vl_2172 l) ck_RX12_417_2172 (ct2_cons (vl_2169 l) ck_RX12_417_2169 (ct2_cons (vl_2166 l) ck_RX12_417_2166 (ct2_cons (vl_2163 l) ck_RX12_417_2163 (ct2_cons (vl_2160 l) ck_RX12_417_2160 (ct2_cons (vl_2157 l) ck_RX12_417_2157 (ct2_cons (vl_2154 l) ck_RX12_417_2154 (ct2_cons (vl_2150 l) ck_RX12_417_2150 (ct2_cons (vl_2147 l) ck_RX12_417_2147 (ct2_cons (vl_2144 l) ck_RX12_417_2144 (ct2_cons (vl_2200 l) ck_RX12_417_2200 (ct2_cons (vl_2197 l) ck_RX12_417_2197 (ct2_cons (vl_2194 l) ck_RX12_417_2194 (ct2_cons (vl_2191 l) ck_RX12_417_2191 (ct2_cons (vl_2188 l) ck_RX12_417_2188 (ct2_cons (vl_2185 l) ck_RX12_417_2185 (ct2_cons (vl_2182 l) ck_RX12_417_2182 (ct2_cons (vl_2179 l) ck_RX12_417_2179 (ct2_cons (vl_2176 l) ck_RX12_417_2176 (ct2_cons (vl_2173 l) ck_RX12_417_2173 (ct2_cons (vl_2170 l) ck_RX12_417_2170 (ct2_cons (vl_2167 l) ck_RX12_417_2167 (ct2_cons (vl_2164 l) ck_RX12_417_2164 (ct2_cons (vl_2161 l) ck_RX12_417_2161 (ct2_cons (vl_2158 l) ck_RX12_417_2158 (ct2_cons (vl_2155 l) ck_RX12_417_2155 (ct2_cons (vl_2151 l) ck_RX12_417_2151 (ct2_cons (vl_2148 l) ck_RX12_417_2148 (ct2_cons (vl_2145 l) ck_RX12_417_2145 (ct2_cons (vl_2201 l) ck_RX12_417_2201 (ct2_cons (vl_2198 l) ck_RX12_417_2198 (ct2_cons (vl_2195 l) ck_RX12_417_2195 (ct2_cons (vl_2192 l) ck_RX12_417_2192 (ct2_cons (vl_2189 l) ck_RX12_417_2189 (ct2_cons (vl_2186 l) ck_RX12_417_2186 (ct2_cons (vl_2183 l) ck_RX12_417_2183 (ct2_cons (vl_2180 l) ck_RX12_417_2180 (ct2_cons (vl_2177 l) ck_RX12_417_2177 (ct2_cons (vl_2174 l) ck_RX12_417_2174 (ct2_cons (vl_2171 l) ck_RX12_417_2171 (ct2_cons (vl_2168 l) ck_RX12_417_2168 (ct2_cons (vl_2165 l) ck_RX12_417_2165 (ct2_cons (vl_2162 l) ck_RX12_417_2162 (ct2_cons (vl_2159 l) ck_RX12_417_2159 (ct2_cons (vl_2156 l) ck_RX12_417_2156 (ct2_cons (vl_2152 l) ck_RX12_417_2152 (ct2_cons (vl_2149 l) ck_RX12_417_2149 (ct2_cons (vl_2146 l) ck_RX12_417_2146 (ct2_nil)))))))))))))))))))))))))))))))))))))))))))))))))))))))))
theorem vl_2207 (l : Launch) : Vld2 l vwCl gTbl con_2207 := conR_ok3 gT_all (hd_2207) rfl pn_RX12 tk_X12_isSeen bo_RX12 xo_RX12 (cto_2207 l) ch_2207 (cut_app (cut_all cc_2207_0) (cut_all cc_2207_1))
/-- RookHustingModel isSeen -/
noncomputable def gi_2065 : GI := jl_n [gp_769, gp_529]
noncomputable def gi_2066 : GI := jl_n [gp_769, gp_529, jl_z 1]
noncomputable def con_2208 : Con2 := ((yX12_isSeen, cX12_isSeen, 3, (some .boolean)), (1, 22), ([(6, 0, 0), (0, 2, 0)], gi_2065, hc_218, []), [((0, 0, 0), gi_2066, hq_922, [], [1]), ((0, 1, 0), gi_2066, hq_922, [], [1])])
theorem hd_2208 : con_2208.1 = (yX12_isSeen, cX12_isSeen, 3, (some .boolean)) := rfl
noncomputable def ct_2208 : CTB2 := [(22, 417, 0, con_2196, [0, 2]), (22, 417, 0, con_2193, [0, 2]), (22, 417, 0, con_2190, [0, 2]), (22, 417, 0, con_2187, [0, 2]), (22, 417, 0, con_2184, [0, 2]), (22, 417, 0, con_2181, [0, 2]), (22, 417, 0, con_2178, [0, 2]), (22, 417, 0, con_2175, [0, 2]), (22, 417, 0, con_2172, [0, 2]), (22, 417, 0, con_2169, [0, 2]), (22, 417, 0, con_2166, [0, 2]), (22, 417, 0, con_2163, [0, 2]), (22, 417, 0, con_2160, [0, 2]), (22, 417, 0, con_2157, [0, 2]), (22, 417, 0, con_2154, [0, 2]), (22, 417, 0, con_2150, [0, 2]), (22, 417, 0, con_2147, [0, 2]), (22, 417, 0, con_2144, [0, 2]), (30, 417, 0, con_2197, [0, 2]), (30, 417, 0, con_2194, [0, 2]), (30, 417, 0, con_2191, [0, 2]), (30, 417, 0, con_2188, [0, 2]), (30, 417, 0, con_2185, [0, 2]), (30, 417, 0, con_2182, [0, 2]), (30, 417, 0, con_2179, [0, 2]), (30, 417, 0, con_2176, [0, 2]), (30, 417, 0, con_2173, [0, 2]), (30, 417, 0, con_2170, [0, 2]), (30, 417, 0, con_2167, [0, 2]), (30, 417, 0, con_2164, [0, 2]), (30, 417, 0, con_2161, [0, 2]), (30, 417, 0, con_2158, [0, 2]), (30, 417, 0, con_2155, [0, 2]), (30, 417, 0, con_2151, [0, 2]), (30, 417, 0, con_2148, [0, 2]), (30, 417, 0, con_2145, [0, 2]), (42, 417, 0, con_2198, [0, 2]), (42, 417, 0, con_2195, [0, 2]), (42, 417, 0, con_2192, [0, 2]), (42, 417, 0, con_2189, [0, 2]), (42, 417, 0, con_2186, [0, 2]), (42, 417, 0, con_2183, [0, 2]), (42, 417, 0, con_2180, [0, 2]), (42, 417, 0, con_2177, [0, 2]), (42, 417, 0, con_2174, [0, 2]), (42, 417, 0, con_2171, [0, 2]), (42, 417, 0, con_2168, [0, 2]), (42, 417, 0, con_2165, [0, 2]), (42, 417, 0, con_2162, [0, 2]), (42, 417, 0, con_2159, [0, 2]), (42, 417, 0, con_2156, [0, 2]), (42, 417, 0, con_2152, [0, 2]), (42, 417, 0, con_2149, [0, 2]), (42, 417, 0, con_2146, [0, 2])]
noncomputable def gi_2067 : GI := jl_n [gp_769, gp_529, jl_z 3]
noncomputable def cu_2208 : List CUT2 := [((2, [lq 0 6 0, lq 1 0 2, lq 2 0 0], [], gi_2067, hq_922), [], ([], 54)), ((2, [lq 0 6 0, lq 1 0 2, lq 2 0 3], [], gi_2067, hq_922), [], ([], 51)), ((2, [lq 0 6 0, lq 1 0 2, lq 2 0 6], [], gi_2067, hq_922), [], ([], 48)), ((2, [lq 0 6 0, lq 1 0 2, lq 2 0 9], [], gi_2067, hq_922), [], ([], 45)), ((2, [lq 0 6 0, lq 1 0 2, lq 2 0 12], [], gi_2067, hq_922), [], ([], 42)), ((2, [lq 0 6 0, lq 1 0 2, lq 2 0 15], [], gi_2067, hq_922), [], ([], 39)), ((2, [lq 0 6 0, lq 1 0 2, lq 2 0 18], [], gi_2067, hq_922), [], ([], 36)), ((2, [lq 0 6 0, lq 1 0 2, lq 2 0 21], [], gi_2067, hq_922), [], ([], 33)), ((2, [lq 0 6 0, lq 1 0 2, lq 2 0 24], [], gi_2067, hq_922), [], ([], 30)), ((2, [lq 0 6 0, lq 1 0 2, lq 2 0 27], [], gi_2067, hq_922), [], ([], 27)), ((2, [lq 0 6 0, lq 1 0 2, lq 2 0 30], [], gi_2067, hq_922), [], ([], 24)), ((2, [lq 0 6 0, lq 1 0 2, lq 2 0 33], [], gi_2067, hq_922), [], ([], 21)), ((2, [lq 0 6 0, lq 1 0 2, lq 2 0 36], [], gi_2067, hq_922), [], ([], 18)), ((2, [lq 0 6 0, lq 1 0 2, lq 2 0 39], [], gi_2067, hq_922), [], ([], 15)), ((2, [lq 0 6 0, lq 1 0 2, lq 2 0 42], [], gi_2067, hq_922), [], ([], 12)), ((2, [lq 0 6 0, lq 1 0 2, lq 2 0 45], [], gi_2067, hq_922), [], ([], 9)), ((2, [lq 0 6 0, lq 1 0 2, lq 2 0 48], [], gi_2067, hq_922), [], ([], 6)), ((2, [lq 0 6 0, lq 1 0 2, lq 2 0 51], [], gi_2067, hq_922), [], ([], 3)), ((2, [lq 0 6 0, lq 1 0 2, lq 2 0 54], [], gi_2067, hq_922), [], ([], 0))]
theorem ch_2208 : staG tb_X12_isSeen 1 bt_RX12 [] ct_2208 [] [] cu_2208 37 con_2208 = true := by decide +kernel
theorem cc_2208 : cu_2208.all (cutG tb_X12_isSeen 1 bt_RX12 [] ct_2208 [] [] cu_2208 37 con_2208) = true := by decide +kernel
theorem cto_2208 (l : Launch) : CTOK2 l RX12 vwCl gTbl ct_2208 := ct2_cons (vl_2196 l) ck_RX12_417_2196 (ct2_cons (vl_2193 l) ck_RX12_417_2193 (ct2_cons (vl_2190 l) ck_RX12_417_2190 (ct2_cons (vl_2187 l) ck_RX12_417_2187 (ct2_cons (vl_2184 l) ck_RX12_417_2184 (ct2_cons (vl_2181 l) ck_RX12_417_2181 (ct2_cons (vl_2178 l) ck_RX12_417_2178 (ct2_cons (vl_2175 l) ck_RX12_417_2175 (ct2_cons (vl_2172 l) ck_RX12_417_2172 (ct2_cons (vl_2169 l) ck_RX12_417_2169 (ct2_cons (vl_2166 l) ck_RX12_417_2166 (ct2_cons (vl_2163 l) ck_RX12_417_2163 (ct2_cons (vl_2160 l) ck_RX12_417_2160 (ct2_cons (vl_2157 l) ck_RX12_417_2157 (ct2_cons (vl_2154 l) ck_RX12_417_2154 (ct2_cons (vl_2150 l) ck_RX12_417_2150 (ct2_cons (vl_2147 l) ck_RX12_417_2147 (ct2_cons (vl_2144 l) ck_RX12_417_2144 (ct2_cons (vl_2197 l) ck_RX12_417_2197 (ct2_cons (vl_2194 l) ck_RX12_417_2194 (ct2_cons (vl_2191 l) ck_RX12_417_2191 (ct2_cons (vl_2188 l) ck_RX12_417_2188 (ct2_cons (vl_2185 l) ck_RX12_417_2185 (ct2_cons (vl_2182 l) ck_RX12_417_2182 (ct2_cons (vl_2179 l) ck_RX12_417_2179 (ct2_cons (vl_2176 l) ck_RX12_417_2176 (ct2_cons (vl_2173 l) ck_RX12_417_2173 (ct2_cons (vl_2170 l) ck_RX12_417_2170 (ct2_cons (vl_2167 l) ck_RX12_417_2167 (ct2_cons (vl_2164 l) ck_RX12_417_2164 (ct2_cons (vl_2161 l) ck_RX12_417_2161 (ct2_cons (vl_2158 l) ck_RX12_417_2158 (ct2_cons (vl_2155 l) ck_RX12_417_2155 (ct2_cons (vl_2151 l) ck_RX12_417_2151 (ct2_cons (vl_2148 l) ck_RX12_417_2148 (ct2_cons (vl_2145 l) ck_RX12_417_2145 (ct2_cons (vl_2198 l) ck_RX12_417_2198 (ct2_cons (vl_2195 l) ck_RX12_417_2195 (ct2_cons (vl_2192 l) ck_RX12_417_2192 (ct2_cons (vl_2189 l) ck_RX12_417_2189 (ct2_cons (vl_2186 l) ck_RX12_417_2186 (ct2_cons (vl_2183 l) ck_RX12_417_2183 (ct2_cons (vl_2180 l) ck_RX12_417_2180 (ct2_cons (vl_2177 l) ck_RX12_417_2177 (ct2_cons (vl_2174 l) ck_RX12_417_2174 (ct2_cons (vl_2171 l) ck_RX12_417_2171 (ct2_cons (vl_2168 l) ck_RX12_417_2168 (ct2_cons (vl_2165 l) ck_RX12_417_2165 (ct2_cons (vl_2162 l) ck_RX12_417_2162 (ct2_cons (vl_2159 l) ck_RX12_417_2159 (ct2_cons (vl_2156 l) ck_RX12_417_2156 (ct2_cons (vl_2152 l) ck_RX12_417_2152 (ct2_cons (vl_2149 l) ck_RX12_417_2149 (ct2_cons (vl_2146 l) ck_RX12_417_2146 (ct2_nil))))))))))))))))))))))))))))))))))))))))))))))))))))))
theorem vl_2208 (l : Launch) : Vld2 l vwCl gTbl con_2208 := conR_ok3 gT_all (hd_2208) rfl pn_RX12 tk_X12_isSeen bo_RX12 xo_RX12 (cto_2208 l) ch_2208 (cut_all cc_2208)
