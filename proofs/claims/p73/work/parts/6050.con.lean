/-! ===== contracts, 50 ===== -/
/-- RookHustingModel isSlot -/
noncomputable def con_2226 : Con2 := ((yX12_isSlot, cX12_isSlot, 1, (some .boolean)), (1, 25), ([(0, 1, 0)], [(0, 0)], [], []), [((0, 1, 0), [(0, 0), (0, 0)], [], [], [1])])
theorem hd_2226 : con_2226.1 = (yX12_isSlot, cX12_isSlot, 1, (some .boolean)) := rfl
noncomputable def cu_2226 : List CUT2 := []
theorem ch_2226 : staG tb_X12_isSlot 1 bt_RX12 [] ct_1927 [] [] cu_2226 8 con_2226 = true := by decide +kernel
theorem vl_2226 (l : Launch) : Vld2 l vwCl gTbl con_2226 := conR_ok3 gT_all (hd_2226) rfl pn_RX12 tk_X12_isSlot bo_RX12 xo_RX12 (cto_1927 l) ch_2226 cut_nil
/-- RookHustingModel numberAt -/
noncomputable def ac_1232 : AC := .inr (2, jl_n [js_5 60 9223372036854775807 9223372036854775807, js_4 49 1, js_5 179 9223372036854775807 9223372036854775807])
noncomputable def con_2227 : Con2 := ((yX12_numberAt, cX12_numberAt, 3, (some .long)), (0, 0), ([(6, 0, 0), (0, 1, 0), (0, 0, 0)], gi_1801, [ac_1100, ac_1232], []), [((4, 48, 0), gi_1802, [(false, ac_1100), (false, ac_1232)], [], [1])])
theorem hd_2227 : con_2227.1 = (yX12_numberAt, cX12_numberAt, 3, (some .long)) := rfl
noncomputable def cu_2227 : List CUT2 := []
theorem ch_2227 : staG tb_X12_numberAt 1 bt_RX12 [] ct_2 [] [] cu_2227 11 con_2227 = true := by decide +kernel
theorem vl_2227 (l : Launch) : Vld2 l vwCl gTbl con_2227 := conR_ok3 gT_all (hd_2227) rfl pn_RX12 tk_X12_numberAt bo_RX12 xo_RX12 (cto_2 l) ch_2227 cut_nil
/-- RookHustingModel numberAt -/
noncomputable def ac_1233 : AC := .inr (2, jl_n [js_5 61 9223372036854775807 9223372036854775807, js_4 49 1, js_5 178 9223372036854775807 9223372036854775807])
noncomputable def con_2228 : Con2 := ((yX12_numberAt, cX12_numberAt, 3, (some .long)), (0, 0), ([(6, 0, 0), (0, 1, 0), (0, 1, 0)], gi_1801, [ac_1100, ac_1233], []), [((4, 48, 0), gi_1802, [(false, ac_1100), (false, ac_1233)], [], [1])])
theorem hd_2228 : con_2228.1 = (yX12_numberAt, cX12_numberAt, 3, (some .long)) := rfl
noncomputable def cu_2228 : List CUT2 := []
theorem ch_2228 : staG tb_X12_numberAt 1 bt_RX12 [] ct_2 [] [] cu_2228 11 con_2228 = true := by decide +kernel
theorem vl_2228 (l : Launch) : Vld2 l vwCl gTbl con_2228 := conR_ok3 gT_all (hd_2228) rfl pn_RX12 tk_X12_numberAt bo_RX12 xo_RX12 (cto_2 l) ch_2228 cut_nil
/-- RookHustingModel numberAt -/
noncomputable def ac_1234 : AC := .inr (2, jl_n [js_5 62 9223372036854775807 9223372036854775807, js_4 49 1, js_5 177 9223372036854775807 9223372036854775807])
noncomputable def con_2229 : Con2 := ((yX12_numberAt, cX12_numberAt, 3, (some .long)), (0, 0), ([(6, 0, 0), (0, 1, 0), (0, 2, 0)], gi_1801, [ac_1100, ac_1234], []), [((4, 48, 0), gi_1802, [(false, ac_1100), (false, ac_1234)], [], [1])])
theorem hd_2229 : con_2229.1 = (yX12_numberAt, cX12_numberAt, 3, (some .long)) := rfl
noncomputable def cu_2229 : List CUT2 := []
theorem ch_2229 : staG tb_X12_numberAt 1 bt_RX12 [] ct_2 [] [] cu_2229 11 con_2229 = true := by decide +kernel
theorem vl_2229 (l : Launch) : Vld2 l vwCl gTbl con_2229 := conR_ok3 gT_all (hd_2229) rfl pn_RX12 tk_X12_numberAt bo_RX12 xo_RX12 (cto_2 l) ch_2229 cut_nil
/-- RookHustingModel numberAt -/
noncomputable def ac_1235 : AC := .inr (2, jl_n [js_5 63 9223372036854775807 9223372036854775807, js_4 49 1, js_5 176 9223372036854775807 9223372036854775807])
noncomputable def con_2230 : Con2 := ((yX12_numberAt, cX12_numberAt, 3, (some .long)), (0, 0), ([(6, 0, 0), (0, 1, 0), (0, 3, 0)], gi_1801, [ac_1100, ac_1235], []), [((4, 48, 0), gi_1802, [(false, ac_1100), (false, ac_1235)], [], [1])])
theorem hd_2230 : con_2230.1 = (yX12_numberAt, cX12_numberAt, 3, (some .long)) := rfl
noncomputable def cu_2230 : List CUT2 := []
theorem ch_2230 : staG tb_X12_numberAt 1 bt_RX12 [] ct_2 [] [] cu_2230 11 con_2230 = true := by decide +kernel
theorem vl_2230 (l : Launch) : Vld2 l vwCl gTbl con_2230 := conR_ok3 gT_all (hd_2230) rfl pn_RX12 tk_X12_numberAt bo_RX12 xo_RX12 (cto_2 l) ch_2230 cut_nil
/-- RookHustingModel numberAt -/
noncomputable def ac_1236 : AC := .inr (2, jl_n [js_5 64 9223372036854775807 9223372036854775807, js_4 49 1, js_5 175 9223372036854775807 9223372036854775807])
noncomputable def con_2231 : Con2 := ((yX12_numberAt, cX12_numberAt, 3, (some .long)), (0, 0), ([(6, 0, 0), (0, 1, 0), (0, 4, 0)], gi_1801, [ac_1100, ac_1236], []), [((4, 48, 0), gi_1802, [(false, ac_1100), (false, ac_1236)], [], [1])])
theorem hd_2231 : con_2231.1 = (yX12_numberAt, cX12_numberAt, 3, (some .long)) := rfl
noncomputable def cu_2231 : List CUT2 := []
theorem ch_2231 : staG tb_X12_numberAt 1 bt_RX12 [] ct_2 [] [] cu_2231 11 con_2231 = true := by decide +kernel
theorem vl_2231 (l : Launch) : Vld2 l vwCl gTbl con_2231 := conR_ok3 gT_all (hd_2231) rfl pn_RX12 tk_X12_numberAt bo_RX12 xo_RX12 (cto_2 l) ch_2231 cut_nil
/-- RookHustingModel numberAt -/
noncomputable def ac_1237 : AC := .inr (2, jl_n [js_5 65 9223372036854775807 9223372036854775807, js_4 49 1, js_5 174 9223372036854775807 9223372036854775807])
noncomputable def con_2232 : Con2 := ((yX12_numberAt, cX12_numberAt, 3, (some .long)), (0, 0), ([(6, 0, 0), (0, 1, 0), (0, 5, 0)], gi_1801, [ac_1100, ac_1237], []), [((4, 48, 0), gi_1802, [(false, ac_1100), (false, ac_1237)], [], [1])])
theorem hd_2232 : con_2232.1 = (yX12_numberAt, cX12_numberAt, 3, (some .long)) := rfl
noncomputable def cu_2232 : List CUT2 := []
theorem ch_2232 : staG tb_X12_numberAt 1 bt_RX12 [] ct_2 [] [] cu_2232 11 con_2232 = true := by decide +kernel
theorem vl_2232 (l : Launch) : Vld2 l vwCl gTbl con_2232 := conR_ok3 gT_all (hd_2232) rfl pn_RX12 tk_X12_numberAt bo_RX12 xo_RX12 (cto_2 l) ch_2232 cut_nil
/-- RookHustingModel numberAt -/
noncomputable def ac_1238 : AC := .inr (2, jl_n [js_5 66 9223372036854775807 9223372036854775807, js_4 49 1, js_5 173 9223372036854775807 9223372036854775807])
noncomputable def con_2233 : Con2 := ((yX12_numberAt, cX12_numberAt, 3, (some .long)), (0, 0), ([(6, 0, 0), (0, 1, 0), (0, 6, 0)], gi_1801, [ac_1100, ac_1238], []), [((4, 48, 0), gi_1802, [(false, ac_1100), (false, ac_1238)], [], [1])])
theorem hd_2233 : con_2233.1 = (yX12_numberAt, cX12_numberAt, 3, (some .long)) := rfl
noncomputable def cu_2233 : List CUT2 := []
theorem ch_2233 : staG tb_X12_numberAt 1 bt_RX12 [] ct_2 [] [] cu_2233 11 con_2233 = true := by decide +kernel
theorem vl_2233 (l : Launch) : Vld2 l vwCl gTbl con_2233 := conR_ok3 gT_all (hd_2233) rfl pn_RX12 tk_X12_numberAt bo_RX12 xo_RX12 (cto_2 l) ch_2233 cut_nil
/-- RookHustingModel numberAt -/
noncomputable def ac_1239 : AC := .inr (2, jl_n [js_5 67 9223372036854775807 9223372036854775807, js_4 49 1, js_5 172 9223372036854775807 9223372036854775807])
noncomputable def con_2234 : Con2 := ((yX12_numberAt, cX12_numberAt, 3, (some .long)), (0, 0), ([(6, 0, 0), (0, 1, 0), (0, 7, 0)], gi_1801, [ac_1100, ac_1239], []), [((4, 48, 0), gi_1802, [(false, ac_1100), (false, ac_1239)], [], [1])])
theorem hd_2234 : con_2234.1 = (yX12_numberAt, cX12_numberAt, 3, (some .long)) := rfl
noncomputable def cu_2234 : List CUT2 := []
theorem ch_2234 : staG tb_X12_numberAt 1 bt_RX12 [] ct_2 [] [] cu_2234 11 con_2234 = true := by decide +kernel
theorem vl_2234 (l : Launch) : Vld2 l vwCl gTbl con_2234 := conR_ok3 gT_all (hd_2234) rfl pn_RX12 tk_X12_numberAt bo_RX12 xo_RX12 (cto_2 l) ch_2234 cut_nil
/-- RookHustingModel numberAt -/
noncomputable def ac_1240 : AC := .inr (2, jl_n [js_5 68 9223372036854775807 9223372036854775807, js_4 49 1, js_5 171 9223372036854775807 9223372036854775807])
noncomputable def con_2235 : Con2 := ((yX12_numberAt, cX12_numberAt, 3, (some .long)), (0, 0), ([(6, 0, 0), (0, 1, 0), (0, 8, 0)], gi_1801, [ac_1100, ac_1240], []), [((4, 48, 0), gi_1802, [(false, ac_1100), (false, ac_1240)], [], [1])])
theorem hd_2235 : con_2235.1 = (yX12_numberAt, cX12_numberAt, 3, (some .long)) := rfl
noncomputable def cu_2235 : List CUT2 := []
theorem ch_2235 : staG tb_X12_numberAt 1 bt_RX12 [] ct_2 [] [] cu_2235 11 con_2235 = true := by decide +kernel
theorem vl_2235 (l : Launch) : Vld2 l vwCl gTbl con_2235 := conR_ok3 gT_all (hd_2235) rfl pn_RX12 tk_X12_numberAt bo_RX12 xo_RX12 (cto_2 l) ch_2235 cut_nil
/-- RookHustingModel numberAt -/
noncomputable def ac_1241 : AC := .inr (2, jl_n [js_5 69 9223372036854775807 9223372036854775807, js_4 49 1, js_5 170 9223372036854775807 9223372036854775807])
noncomputable def con_2236 : Con2 := ((yX12_numberAt, cX12_numberAt, 3, (some .long)), (0, 0), ([(6, 0, 0), (0, 1, 0), (0, 9, 0)], gi_1801, [ac_1100, ac_1241], []), [((4, 48, 0), gi_1802, [(false, ac_1100), (false, ac_1241)], [], [1])])
theorem hd_2236 : con_2236.1 = (yX12_numberAt, cX12_numberAt, 3, (some .long)) := rfl
noncomputable def cu_2236 : List CUT2 := []
theorem ch_2236 : staG tb_X12_numberAt 1 bt_RX12 [] ct_2 [] [] cu_2236 11 con_2236 = true := by decide +kernel
theorem vl_2236 (l : Launch) : Vld2 l vwCl gTbl con_2236 := conR_ok3 gT_all (hd_2236) rfl pn_RX12 tk_X12_numberAt bo_RX12 xo_RX12 (cto_2 l) ch_2236 cut_nil
/-- RookHustingModel numberAt -/
noncomputable def ac_1242 : AC := .inr (2, jl_n [js_5 70 9223372036854775807 9223372036854775807, js_4 49 1, js_5 169 9223372036854775807 9223372036854775807])
noncomputable def con_2237 : Con2 := ((yX12_numberAt, cX12_numberAt, 3, (some .long)), (0, 0), ([(6, 0, 0), (0, 1, 0), (0, 10, 0)], gi_1801, [ac_1100, ac_1242], []), [((4, 48, 0), gi_1802, [(false, ac_1100), (false, ac_1242)], [], [1])])
theorem hd_2237 : con_2237.1 = (yX12_numberAt, cX12_numberAt, 3, (some .long)) := rfl
noncomputable def cu_2237 : List CUT2 := []
theorem ch_2237 : staG tb_X12_numberAt 1 bt_RX12 [] ct_2 [] [] cu_2237 11 con_2237 = true := by decide +kernel
theorem vl_2237 (l : Launch) : Vld2 l vwCl gTbl con_2237 := conR_ok3 gT_all (hd_2237) rfl pn_RX12 tk_X12_numberAt bo_RX12 xo_RX12 (cto_2 l) ch_2237 cut_nil
/-- RookHustingModel numberAt -/
noncomputable def ac_1243 : AC := .inr (2, jl_n [js_5 71 9223372036854775807 9223372036854775807, js_4 49 1, js_5 168 9223372036854775807 9223372036854775807])
noncomputable def con_2238 : Con2 := ((yX12_numberAt, cX12_numberAt, 3, (some .long)), (0, 0), ([(6, 0, 0), (0, 1, 0), (0, 11, 0)], gi_1801, [ac_1100, ac_1243], []), [((4, 48, 0), gi_1802, [(false, ac_1100), (false, ac_1243)], [], [1])])
theorem hd_2238 : con_2238.1 = (yX12_numberAt, cX12_numberAt, 3, (some .long)) := rfl
noncomputable def cu_2238 : List CUT2 := []
theorem ch_2238 : staG tb_X12_numberAt 1 bt_RX12 [] ct_2 [] [] cu_2238 11 con_2238 = true := by decide +kernel
theorem vl_2238 (l : Launch) : Vld2 l vwCl gTbl con_2238 := conR_ok3 gT_all (hd_2238) rfl pn_RX12 tk_X12_numberAt bo_RX12 xo_RX12 (cto_2 l) ch_2238 cut_nil
/-- RookHustingModel numberAt -/
noncomputable def ac_1244 : AC := .inr (2, jl_n [js_5 72 9223372036854775807 9223372036854775807, js_4 49 1, js_5 167 9223372036854775807 9223372036854775807])
noncomputable def con_2239 : Con2 := ((yX12_numberAt, cX12_numberAt, 3, (some .long)), (0, 0), ([(6, 0, 0), (0, 1, 0), (0, 12, 0)], gi_1801, [ac_1100, ac_1244], []), [((4, 48, 0), gi_1802, [(false, ac_1100), (false, ac_1244)], [], [1])])
theorem hd_2239 : con_2239.1 = (yX12_numberAt, cX12_numberAt, 3, (some .long)) := rfl
noncomputable def cu_2239 : List CUT2 := []
theorem ch_2239 : staG tb_X12_numberAt 1 bt_RX12 [] ct_2 [] [] cu_2239 11 con_2239 = true := by decide +kernel
theorem vl_2239 (l : Launch) : Vld2 l vwCl gTbl con_2239 := conR_ok3 gT_all (hd_2239) rfl pn_RX12 tk_X12_numberAt bo_RX12 xo_RX12 (cto_2 l) ch_2239 cut_nil
/-- RookHustingModel numberAt -/
noncomputable def ac_1245 : AC := .inr (2, jl_n [js_5 73 9223372036854775807 9223372036854775807, js_4 49 1, js_5 166 9223372036854775807 9223372036854775807])
noncomputable def con_2240 : Con2 := ((yX12_numberAt, cX12_numberAt, 3, (some .long)), (0, 0), ([(6, 0, 0), (0, 1, 0), (0, 13, 0)], gi_1801, [ac_1100, ac_1245], []), [((4, 48, 0), gi_1802, [(false, ac_1100), (false, ac_1245)], [], [1])])
theorem hd_2240 : con_2240.1 = (yX12_numberAt, cX12_numberAt, 3, (some .long)) := rfl
noncomputable def cu_2240 : List CUT2 := []
theorem ch_2240 : staG tb_X12_numberAt 1 bt_RX12 [] ct_2 [] [] cu_2240 11 con_2240 = true := by decide +kernel
theorem vl_2240 (l : Launch) : Vld2 l vwCl gTbl con_2240 := conR_ok3 gT_all (hd_2240) rfl pn_RX12 tk_X12_numberAt bo_RX12 xo_RX12 (cto_2 l) ch_2240 cut_nil
/-- RookHustingModel numberAt -/
noncomputable def ac_1246 : AC := .inr (2, jl_n [js_5 74 9223372036854775807 9223372036854775807, js_4 49 1, js_5 165 9223372036854775807 9223372036854775807])
noncomputable def con_2241 : Con2 := ((yX12_numberAt, cX12_numberAt, 3, (some .long)), (0, 0), ([(6, 0, 0), (0, 1, 0), (0, 14, 0)], gi_1801, [ac_1100, ac_1246], []), [((4, 48, 0), gi_1802, [(false, ac_1100), (false, ac_1246)], [], [1])])
theorem hd_2241 : con_2241.1 = (yX12_numberAt, cX12_numberAt, 3, (some .long)) := rfl
noncomputable def cu_2241 : List CUT2 := []
theorem ch_2241 : staG tb_X12_numberAt 1 bt_RX12 [] ct_2 [] [] cu_2241 11 con_2241 = true := by decide +kernel
theorem vl_2241 (l : Launch) : Vld2 l vwCl gTbl con_2241 := conR_ok3 gT_all (hd_2241) rfl pn_RX12 tk_X12_numberAt bo_RX12 xo_RX12 (cto_2 l) ch_2241 cut_nil
/-- RookHustingModel numberAt -/
noncomputable def ac_1247 : AC := .inr (2, jl_n [js_5 75 9223372036854775807 9223372036854775807, js_4 49 1, js_5 164 9223372036854775807 9223372036854775807])
noncomputable def con_2242 : Con2 := ((yX12_numberAt, cX12_numberAt, 3, (some .long)), (0, 0), ([(6, 0, 0), (0, 1, 0), (0, 15, 0)], gi_1801, [ac_1100, ac_1247], []), [((4, 48, 0), gi_1802, [(false, ac_1100), (false, ac_1247)], [], [1])])
theorem hd_2242 : con_2242.1 = (yX12_numberAt, cX12_numberAt, 3, (some .long)) := rfl
noncomputable def cu_2242 : List CUT2 := []
theorem ch_2242 : staG tb_X12_numberAt 1 bt_RX12 [] ct_2 [] [] cu_2242 11 con_2242 = true := by decide +kernel
theorem vl_2242 (l : Launch) : Vld2 l vwCl gTbl con_2242 := conR_ok3 gT_all (hd_2242) rfl pn_RX12 tk_X12_numberAt bo_RX12 xo_RX12 (cto_2 l) ch_2242 cut_nil
/-- RookHustingModel numberAt -/
noncomputable def ac_1248 : AC := .inr (2, jl_n [js_5 76 9223372036854775807 9223372036854775807, js_4 49 1, js_5 163 9223372036854775807 9223372036854775807])
noncomputable def con_2243 : Con2 := ((yX12_numberAt, cX12_numberAt, 3, (some .long)), (0, 0), ([(6, 0, 0), (0, 1, 0), (0, 16, 0)], gi_1801, [ac_1100, ac_1248], []), [((4, 48, 0), gi_1802, [(false, ac_1100), (false, ac_1248)], [], [1])])
theorem hd_2243 : con_2243.1 = (yX12_numberAt, cX12_numberAt, 3, (some .long)) := rfl
noncomputable def cu_2243 : List CUT2 := []
theorem ch_2243 : staG tb_X12_numberAt 1 bt_RX12 [] ct_2 [] [] cu_2243 11 con_2243 = true := by decide +kernel
theorem vl_2243 (l : Launch) : Vld2 l vwCl gTbl con_2243 := conR_ok3 gT_all (hd_2243) rfl pn_RX12 tk_X12_numberAt bo_RX12 xo_RX12 (cto_2 l) ch_2243 cut_nil
/-- RookHustingModel numberAt -/
noncomputable def ac_1249 : AC := .inr (2, jl_n [js_5 77 9223372036854775807 9223372036854775807, js_4 49 1, js_5 162 9223372036854775807 9223372036854775807])
noncomputable def con_2244 : Con2 := ((yX12_numberAt, cX12_numberAt, 3, (some .long)), (0, 0), ([(6, 0, 0), (0, 1, 0), (0, 17, 0)], gi_1801, [ac_1100, ac_1249], []), [((4, 48, 0), gi_1802, [(false, ac_1100), (false, ac_1249)], [], [1])])
theorem hd_2244 : con_2244.1 = (yX12_numberAt, cX12_numberAt, 3, (some .long)) := rfl
noncomputable def cu_2244 : List CUT2 := []
theorem ch_2244 : staG tb_X12_numberAt 1 bt_RX12 [] ct_2 [] [] cu_2244 11 con_2244 = true := by decide +kernel
theorem vl_2244 (l : Launch) : Vld2 l vwCl gTbl con_2244 := conR_ok3 gT_all (hd_2244) rfl pn_RX12 tk_X12_numberAt bo_RX12 xo_RX12 (cto_2 l) ch_2244 cut_nil
/-- RookHustingModel numberAt -/
noncomputable def ac_1250 : AC := .inr (2, jl_n [js_5 78 9223372036854775807 9223372036854775807, js_4 49 1, js_5 161 9223372036854775807 9223372036854775807])
noncomputable def con_2245 : Con2 := ((yX12_numberAt, cX12_numberAt, 3, (some .long)), (0, 0), ([(6, 0, 0), (0, 1, 0), (0, 18, 0)], gi_1801, [ac_1100, ac_1250], []), [((4, 48, 0), gi_1802, [(false, ac_1100), (false, ac_1250)], [], [1])])
theorem hd_2245 : con_2245.1 = (yX12_numberAt, cX12_numberAt, 3, (some .long)) := rfl
noncomputable def cu_2245 : List CUT2 := []
theorem ch_2245 : staG tb_X12_numberAt 1 bt_RX12 [] ct_2 [] [] cu_2245 11 con_2245 = true := by decide +kernel
theorem vl_2245 (l : Launch) : Vld2 l vwCl gTbl con_2245 := conR_ok3 gT_all (hd_2245) rfl pn_RX12 tk_X12_numberAt bo_RX12 xo_RX12 (cto_2 l) ch_2245 cut_nil
/-- RookHustingModel numberAt -/
noncomputable def ac_1251 : AC := .inr (2, jl_n [js_5 79 9223372036854775807 9223372036854775807, js_4 49 1, js_5 160 9223372036854775807 9223372036854775807])
noncomputable def con_2246 : Con2 := ((yX12_numberAt, cX12_numberAt, 3, (some .long)), (0, 0), ([(6, 0, 0), (0, 1, 0), (0, 19, 0)], gi_1801, [ac_1100, ac_1251], []), [((4, 48, 0), gi_1802, [(false, ac_1100), (false, ac_1251)], [], [1])])
theorem hd_2246 : con_2246.1 = (yX12_numberAt, cX12_numberAt, 3, (some .long)) := rfl
noncomputable def cu_2246 : List CUT2 := []
theorem ch_2246 : staG tb_X12_numberAt 1 bt_RX12 [] ct_2 [] [] cu_2246 11 con_2246 = true := by decide +kernel
theorem vl_2246 (l : Launch) : Vld2 l vwCl gTbl con_2246 := conR_ok3 gT_all (hd_2246) rfl pn_RX12 tk_X12_numberAt bo_RX12 xo_RX12 (cto_2 l) ch_2246 cut_nil
/-- RookHustingModel numberAt -/
noncomputable def ac_1252 : AC := .inr (2, jl_n [js_5 80 9223372036854775807 9223372036854775807, js_4 49 1, js_5 159 9223372036854775807 9223372036854775807])
noncomputable def con_2247 : Con2 := ((yX12_numberAt, cX12_numberAt, 3, (some .long)), (0, 0), ([(6, 0, 0), (0, 1, 0), (0, 20, 0)], gi_1801, [ac_1100, ac_1252], []), [((4, 48, 0), gi_1802, [(false, ac_1100), (false, ac_1252)], [], [1])])
theorem hd_2247 : con_2247.1 = (yX12_numberAt, cX12_numberAt, 3, (some .long)) := rfl
noncomputable def cu_2247 : List CUT2 := []
theorem ch_2247 : staG tb_X12_numberAt 1 bt_RX12 [] ct_2 [] [] cu_2247 11 con_2247 = true := by decide +kernel
theorem vl_2247 (l : Launch) : Vld2 l vwCl gTbl con_2247 := conR_ok3 gT_all (hd_2247) rfl pn_RX12 tk_X12_numberAt bo_RX12 xo_RX12 (cto_2 l) ch_2247 cut_nil
/-- RookHustingModel numberAt -/
noncomputable def ac_1253 : AC := .inr (2, jl_n [js_5 81 9223372036854775807 9223372036854775807, js_4 49 1, js_5 158 9223372036854775807 9223372036854775807])
noncomputable def con_2248 : Con2 := ((yX12_numberAt, cX12_numberAt, 3, (some .long)), (0, 0), ([(6, 0, 0), (0, 1, 0), (0, 21, 0)], gi_1801, [ac_1100, ac_1253], []), [((4, 48, 0), gi_1802, [(false, ac_1100), (false, ac_1253)], [], [1])])
theorem hd_2248 : con_2248.1 = (yX12_numberAt, cX12_numberAt, 3, (some .long)) := rfl
noncomputable def cu_2248 : List CUT2 := []
theorem ch_2248 : staG tb_X12_numberAt 1 bt_RX12 [] ct_2 [] [] cu_2248 11 con_2248 = true := by decide +kernel
theorem vl_2248 (l : Launch) : Vld2 l vwCl gTbl con_2248 := conR_ok3 gT_all (hd_2248) rfl pn_RX12 tk_X12_numberAt bo_RX12 xo_RX12 (cto_2 l) ch_2248 cut_nil
/-- RookHustingModel numberAt -/
noncomputable def ac_1254 : AC := .inr (2, jl_n [js_5 82 9223372036854775807 9223372036854775807, js_4 49 1, js_5 157 9223372036854775807 9223372036854775807])
noncomputable def con_2249 : Con2 := ((yX12_numberAt, cX12_numberAt, 3, (some .long)), (0, 0), ([(6, 0, 0), (0, 1, 0), (0, 22, 0)], gi_1801, [ac_1100, ac_1254], []), [((4, 48, 0), gi_1802, [(false, ac_1100), (false, ac_1254)], [], [1])])
theorem hd_2249 : con_2249.1 = (yX12_numberAt, cX12_numberAt, 3, (some .long)) := rfl
noncomputable def cu_2249 : List CUT2 := []
theorem ch_2249 : staG tb_X12_numberAt 1 bt_RX12 [] ct_2 [] [] cu_2249 11 con_2249 = true := by decide +kernel
theorem vl_2249 (l : Launch) : Vld2 l vwCl gTbl con_2249 := conR_ok3 gT_all (hd_2249) rfl pn_RX12 tk_X12_numberAt bo_RX12 xo_RX12 (cto_2 l) ch_2249 cut_nil
/-- RookHustingModel numberAt -/
noncomputable def ac_1255 : AC := .inr (2, jl_n [js_5 83 9223372036854775807 9223372036854775807, js_4 49 1, js_5 156 9223372036854775807 9223372036854775807])
noncomputable def con_2250 : Con2 := ((yX12_numberAt, cX12_numberAt, 3, (some .long)), (0, 0), ([(6, 0, 0), (0, 1, 0), (0, 23, 0)], gi_1801, [ac_1100, ac_1255], []), [((4, 48, 0), gi_1802, [(false, ac_1100), (false, ac_1255)], [], [1])])
theorem hd_2250 : con_2250.1 = (yX12_numberAt, cX12_numberAt, 3, (some .long)) := rfl
noncomputable def cu_2250 : List CUT2 := []
theorem ch_2250 : staG tb_X12_numberAt 1 bt_RX12 [] ct_2 [] [] cu_2250 11 con_2250 = true := by decide +kernel
theorem vl_2250 (l : Launch) : Vld2 l vwCl gTbl con_2250 := conR_ok3 gT_all (hd_2250) rfl pn_RX12 tk_X12_numberAt bo_RX12 xo_RX12 (cto_2 l) ch_2250 cut_nil
/-- RookHustingModel numberAt -/
noncomputable def ac_1256 : AC := .inr (2, jl_n [js_5 84 9223372036854775807 9223372036854775807, js_4 49 1, js_5 155 9223372036854775807 9223372036854775807])
noncomputable def con_2251 : Con2 := ((yX12_numberAt, cX12_numberAt, 3, (some .long)), (0, 0), ([(6, 0, 0), (0, 1, 0), (0, 24, 0)], gi_1801, [ac_1100, ac_1256], []), [((4, 48, 0), gi_1802, [(false, ac_1100), (false, ac_1256)], [], [1])])
theorem hd_2251 : con_2251.1 = (yX12_numberAt, cX12_numberAt, 3, (some .long)) := rfl
noncomputable def cu_2251 : List CUT2 := []
theorem ch_2251 : staG tb_X12_numberAt 1 bt_RX12 [] ct_2 [] [] cu_2251 11 con_2251 = true := by decide +kernel
theorem vl_2251 (l : Launch) : Vld2 l vwCl gTbl con_2251 := conR_ok3 gT_all (hd_2251) rfl pn_RX12 tk_X12_numberAt bo_RX12 xo_RX12 (cto_2 l) ch_2251 cut_nil
/-- RookHustingModel numberAt -/
noncomputable def ac_1257 : AC := .inr (2, jl_n [js_5 85 9223372036854775807 9223372036854775807, js_4 49 1, js_5 154 9223372036854775807 9223372036854775807])
noncomputable def con_2252 : Con2 := ((yX12_numberAt, cX12_numberAt, 3, (some .long)), (0, 0), ([(6, 0, 0), (0, 1, 0), (0, 25, 0)], gi_1801, [ac_1100, ac_1257], []), [((4, 48, 0), gi_1802, [(false, ac_1100), (false, ac_1257)], [], [1])])
theorem hd_2252 : con_2252.1 = (yX12_numberAt, cX12_numberAt, 3, (some .long)) := rfl
noncomputable def cu_2252 : List CUT2 := []
theorem ch_2252 : staG tb_X12_numberAt 1 bt_RX12 [] ct_2 [] [] cu_2252 11 con_2252 = true := by decide +kernel
theorem vl_2252 (l : Launch) : Vld2 l vwCl gTbl con_2252 := conR_ok3 gT_all (hd_2252) rfl pn_RX12 tk_X12_numberAt bo_RX12 xo_RX12 (cto_2 l) ch_2252 cut_nil
/-- RookHustingModel numberAt -/
noncomputable def ac_1258 : AC := .inr (2, jl_n [js_5 86 9223372036854775807 9223372036854775807, js_4 49 1, js_5 153 9223372036854775807 9223372036854775807])
noncomputable def con_2253 : Con2 := ((yX12_numberAt, cX12_numberAt, 3, (some .long)), (0, 0), ([(6, 0, 0), (0, 1, 0), (0, 26, 0)], gi_1801, [ac_1100, ac_1258], []), [((4, 48, 0), gi_1802, [(false, ac_1100), (false, ac_1258)], [], [1])])
theorem hd_2253 : con_2253.1 = (yX12_numberAt, cX12_numberAt, 3, (some .long)) := rfl
noncomputable def cu_2253 : List CUT2 := []
theorem ch_2253 : staG tb_X12_numberAt 1 bt_RX12 [] ct_2 [] [] cu_2253 11 con_2253 = true := by decide +kernel
theorem vl_2253 (l : Launch) : Vld2 l vwCl gTbl con_2253 := conR_ok3 gT_all (hd_2253) rfl pn_RX12 tk_X12_numberAt bo_RX12 xo_RX12 (cto_2 l) ch_2253 cut_nil
/-- RookHustingModel numberAt -/
noncomputable def ac_1259 : AC := .inr (2, jl_n [js_5 87 9223372036854775807 9223372036854775807, js_4 49 1, js_5 152 9223372036854775807 9223372036854775807])
noncomputable def con_2254 : Con2 := ((yX12_numberAt, cX12_numberAt, 3, (some .long)), (0, 0), ([(6, 0, 0), (0, 1, 0), (0, 27, 0)], gi_1801, [ac_1100, ac_1259], []), [((4, 48, 0), gi_1802, [(false, ac_1100), (false, ac_1259)], [], [1])])
theorem hd_2254 : con_2254.1 = (yX12_numberAt, cX12_numberAt, 3, (some .long)) := rfl
noncomputable def cu_2254 : List CUT2 := []
theorem ch_2254 : staG tb_X12_numberAt 1 bt_RX12 [] ct_2 [] [] cu_2254 11 con_2254 = true := by decide +kernel
theorem vl_2254 (l : Launch) : Vld2 l vwCl gTbl con_2254 := conR_ok3 gT_all (hd_2254) rfl pn_RX12 tk_X12_numberAt bo_RX12 xo_RX12 (cto_2 l) ch_2254 cut_nil
/-- RookHustingModel numberAt -/
noncomputable def ac_1260 : AC := .inr (2, jl_n [js_5 88 9223372036854775807 9223372036854775807, js_4 49 1, js_5 151 9223372036854775807 9223372036854775807])
noncomputable def con_2255 : Con2 := ((yX12_numberAt, cX12_numberAt, 3, (some .long)), (0, 0), ([(6, 0, 0), (0, 1, 0), (0, 28, 0)], gi_1801, [ac_1100, ac_1260], []), [((4, 48, 0), gi_1802, [(false, ac_1100), (false, ac_1260)], [], [1])])
theorem hd_2255 : con_2255.1 = (yX12_numberAt, cX12_numberAt, 3, (some .long)) := rfl
noncomputable def cu_2255 : List CUT2 := []
theorem ch_2255 : staG tb_X12_numberAt 1 bt_RX12 [] ct_2 [] [] cu_2255 11 con_2255 = true := by decide +kernel
theorem vl_2255 (l : Launch) : Vld2 l vwCl gTbl con_2255 := conR_ok3 gT_all (hd_2255) rfl pn_RX12 tk_X12_numberAt bo_RX12 xo_RX12 (cto_2 l) ch_2255 cut_nil
/-- RookHustingModel numberAt -/
noncomputable def ac_1261 : AC := .inr (2, jl_n [js_5 89 9223372036854775807 9223372036854775807, js_4 49 1, js_5 150 9223372036854775807 9223372036854775807])
noncomputable def con_2256 : Con2 := ((yX12_numberAt, cX12_numberAt, 3, (some .long)), (0, 0), ([(6, 0, 0), (0, 1, 0), (0, 29, 0)], gi_1801, [ac_1100, ac_1261], []), [((4, 48, 0), gi_1802, [(false, ac_1100), (false, ac_1261)], [], [1])])
theorem hd_2256 : con_2256.1 = (yX12_numberAt, cX12_numberAt, 3, (some .long)) := rfl
noncomputable def cu_2256 : List CUT2 := []
theorem ch_2256 : staG tb_X12_numberAt 1 bt_RX12 [] ct_2 [] [] cu_2256 11 con_2256 = true := by decide +kernel
theorem vl_2256 (l : Launch) : Vld2 l vwCl gTbl con_2256 := conR_ok3 gT_all (hd_2256) rfl pn_RX12 tk_X12_numberAt bo_RX12 xo_RX12 (cto_2 l) ch_2256 cut_nil
/-- RookHustingModel numberAt -/
noncomputable def ac_1262 : AC := .inr (2, jl_n [js_5 90 9223372036854775807 9223372036854775807, js_4 49 1, js_5 149 9223372036854775807 9223372036854775807])
noncomputable def con_2257 : Con2 := ((yX12_numberAt, cX12_numberAt, 3, (some .long)), (0, 0), ([(6, 0, 0), (0, 1, 0), (0, 30, 0)], gi_1801, [ac_1100, ac_1262], []), [((4, 48, 0), gi_1802, [(false, ac_1100), (false, ac_1262)], [], [1])])
theorem hd_2257 : con_2257.1 = (yX12_numberAt, cX12_numberAt, 3, (some .long)) := rfl
noncomputable def cu_2257 : List CUT2 := []
theorem ch_2257 : staG tb_X12_numberAt 1 bt_RX12 [] ct_2 [] [] cu_2257 11 con_2257 = true := by decide +kernel
theorem vl_2257 (l : Launch) : Vld2 l vwCl gTbl con_2257 := conR_ok3 gT_all (hd_2257) rfl pn_RX12 tk_X12_numberAt bo_RX12 xo_RX12 (cto_2 l) ch_2257 cut_nil
/-- RookHustingModel numberAt -/
noncomputable def ac_1263 : AC := .inr (2, jl_n [js_5 91 9223372036854775807 9223372036854775807, js_4 49 1, js_5 148 9223372036854775807 9223372036854775807])
noncomputable def con_2258 : Con2 := ((yX12_numberAt, cX12_numberAt, 3, (some .long)), (0, 0), ([(6, 0, 0), (0, 1, 0), (0, 31, 0)], gi_1801, [ac_1100, ac_1263], []), [((4, 48, 0), gi_1802, [(false, ac_1100), (false, ac_1263)], [], [1])])
theorem hd_2258 : con_2258.1 = (yX12_numberAt, cX12_numberAt, 3, (some .long)) := rfl
noncomputable def cu_2258 : List CUT2 := []
theorem ch_2258 : staG tb_X12_numberAt 1 bt_RX12 [] ct_2 [] [] cu_2258 11 con_2258 = true := by decide +kernel
theorem vl_2258 (l : Launch) : Vld2 l vwCl gTbl con_2258 := conR_ok3 gT_all (hd_2258) rfl pn_RX12 tk_X12_numberAt bo_RX12 xo_RX12 (cto_2 l) ch_2258 cut_nil
/-- RookHustingModel numberAt -/
noncomputable def ac_1264 : AC := .inr (2, jl_n [js_5 92 9223372036854775807 9223372036854775807, js_4 49 1, js_5 147 9223372036854775807 9223372036854775807])
noncomputable def con_2259 : Con2 := ((yX12_numberAt, cX12_numberAt, 3, (some .long)), (0, 0), ([(6, 0, 0), (0, 1, 0), (0, 32, 0)], gi_1801, [ac_1100, ac_1264], []), [((4, 48, 0), gi_1802, [(false, ac_1100), (false, ac_1264)], [], [1])])
theorem hd_2259 : con_2259.1 = (yX12_numberAt, cX12_numberAt, 3, (some .long)) := rfl
noncomputable def cu_2259 : List CUT2 := []
theorem ch_2259 : staG tb_X12_numberAt 1 bt_RX12 [] ct_2 [] [] cu_2259 11 con_2259 = true := by decide +kernel
theorem vl_2259 (l : Launch) : Vld2 l vwCl gTbl con_2259 := conR_ok3 gT_all (hd_2259) rfl pn_RX12 tk_X12_numberAt bo_RX12 xo_RX12 (cto_2 l) ch_2259 cut_nil
/-- RookHustingModel numberAt -/
noncomputable def ac_1265 : AC := .inr (2, jl_n [js_5 93 9223372036854775807 9223372036854775807, js_4 49 1, js_5 146 9223372036854775807 9223372036854775807])
noncomputable def con_2260 : Con2 := ((yX12_numberAt, cX12_numberAt, 3, (some .long)), (0, 0), ([(6, 0, 0), (0, 1, 0), (0, 33, 0)], gi_1801, [ac_1100, ac_1265], []), [((4, 48, 0), gi_1802, [(false, ac_1100), (false, ac_1265)], [], [1])])
theorem hd_2260 : con_2260.1 = (yX12_numberAt, cX12_numberAt, 3, (some .long)) := rfl
noncomputable def cu_2260 : List CUT2 := []
theorem ch_2260 : staG tb_X12_numberAt 1 bt_RX12 [] ct_2 [] [] cu_2260 11 con_2260 = true := by decide +kernel
theorem vl_2260 (l : Launch) : Vld2 l vwCl gTbl con_2260 := conR_ok3 gT_all (hd_2260) rfl pn_RX12 tk_X12_numberAt bo_RX12 xo_RX12 (cto_2 l) ch_2260 cut_nil
/-- RookHustingModel numberAt -/
noncomputable def ac_1266 : AC := .inr (2, jl_n [js_5 94 9223372036854775807 9223372036854775807, js_4 49 1, js_5 145 9223372036854775807 9223372036854775807])
noncomputable def con_2261 : Con2 := ((yX12_numberAt, cX12_numberAt, 3, (some .long)), (0, 0), ([(6, 0, 0), (0, 1, 0), (0, 34, 0)], gi_1801, [ac_1100, ac_1266], []), [((4, 48, 0), gi_1802, [(false, ac_1100), (false, ac_1266)], [], [1])])
theorem hd_2261 : con_2261.1 = (yX12_numberAt, cX12_numberAt, 3, (some .long)) := rfl
noncomputable def cu_2261 : List CUT2 := []
theorem ch_2261 : staG tb_X12_numberAt 1 bt_RX12 [] ct_2 [] [] cu_2261 11 con_2261 = true := by decide +kernel
theorem vl_2261 (l : Launch) : Vld2 l vwCl gTbl con_2261 := conR_ok3 gT_all (hd_2261) rfl pn_RX12 tk_X12_numberAt bo_RX12 xo_RX12 (cto_2 l) ch_2261 cut_nil
/-- RookHustingModel numberAt -/
noncomputable def ac_1267 : AC := .inr (2, jl_n [js_5 95 9223372036854775807 9223372036854775807, js_4 49 1, js_5 144 9223372036854775807 9223372036854775807])
noncomputable def con_2262 : Con2 := ((yX12_numberAt, cX12_numberAt, 3, (some .long)), (0, 0), ([(6, 0, 0), (0, 1, 0), (0, 35, 0)], gi_1801, [ac_1100, ac_1267], []), [((4, 48, 0), gi_1802, [(false, ac_1100), (false, ac_1267)], [], [1])])
theorem hd_2262 : con_2262.1 = (yX12_numberAt, cX12_numberAt, 3, (some .long)) := rfl
noncomputable def cu_2262 : List CUT2 := []
theorem ch_2262 : staG tb_X12_numberAt 1 bt_RX12 [] ct_2 [] [] cu_2262 11 con_2262 = true := by decide +kernel
theorem vl_2262 (l : Launch) : Vld2 l vwCl gTbl con_2262 := conR_ok3 gT_all (hd_2262) rfl pn_RX12 tk_X12_numberAt bo_RX12 xo_RX12 (cto_2 l) ch_2262 cut_nil
/-- RookHustingModel numberAt -/
noncomputable def ac_1268 : AC := .inr (2, jl_n [js_5 96 9223372036854775807 9223372036854775807, js_4 49 1, js_5 143 9223372036854775807 9223372036854775807])
noncomputable def con_2263 : Con2 := ((yX12_numberAt, cX12_numberAt, 3, (some .long)), (0, 0), ([(6, 0, 0), (0, 1, 0), (0, 36, 0)], gi_1801, [ac_1100, ac_1268], []), [((4, 48, 0), gi_1802, [(false, ac_1100), (false, ac_1268)], [], [1])])
theorem hd_2263 : con_2263.1 = (yX12_numberAt, cX12_numberAt, 3, (some .long)) := rfl
noncomputable def cu_2263 : List CUT2 := []
theorem ch_2263 : staG tb_X12_numberAt 1 bt_RX12 [] ct_2 [] [] cu_2263 11 con_2263 = true := by decide +kernel
theorem vl_2263 (l : Launch) : Vld2 l vwCl gTbl con_2263 := conR_ok3 gT_all (hd_2263) rfl pn_RX12 tk_X12_numberAt bo_RX12 xo_RX12 (cto_2 l) ch_2263 cut_nil
/-- RookHustingModel numberAt -/
noncomputable def ac_1269 : AC := .inr (2, jl_n [js_5 97 9223372036854775807 9223372036854775807, js_4 49 1, js_5 142 9223372036854775807 9223372036854775807])
noncomputable def con_2264 : Con2 := ((yX12_numberAt, cX12_numberAt, 3, (some .long)), (0, 0), ([(6, 0, 0), (0, 1, 0), (0, 37, 0)], gi_1801, [ac_1100, ac_1269], []), [((4, 48, 0), gi_1802, [(false, ac_1100), (false, ac_1269)], [], [1])])
theorem hd_2264 : con_2264.1 = (yX12_numberAt, cX12_numberAt, 3, (some .long)) := rfl
noncomputable def cu_2264 : List CUT2 := []
theorem ch_2264 : staG tb_X12_numberAt 1 bt_RX12 [] ct_2 [] [] cu_2264 11 con_2264 = true := by decide +kernel
theorem vl_2264 (l : Launch) : Vld2 l vwCl gTbl con_2264 := conR_ok3 gT_all (hd_2264) rfl pn_RX12 tk_X12_numberAt bo_RX12 xo_RX12 (cto_2 l) ch_2264 cut_nil
/-- RookHustingModel numberAt -/
noncomputable def ac_1270 : AC := .inr (2, jl_n [js_5 98 9223372036854775807 9223372036854775807, js_4 49 1, js_5 141 9223372036854775807 9223372036854775807])
noncomputable def con_2265 : Con2 := ((yX12_numberAt, cX12_numberAt, 3, (some .long)), (0, 0), ([(6, 0, 0), (0, 1, 0), (0, 38, 0)], gi_1801, [ac_1100, ac_1270], []), [((4, 48, 0), gi_1802, [(false, ac_1100), (false, ac_1270)], [], [1])])
theorem hd_2265 : con_2265.1 = (yX12_numberAt, cX12_numberAt, 3, (some .long)) := rfl
noncomputable def cu_2265 : List CUT2 := []
theorem ch_2265 : staG tb_X12_numberAt 1 bt_RX12 [] ct_2 [] [] cu_2265 11 con_2265 = true := by decide +kernel
theorem vl_2265 (l : Launch) : Vld2 l vwCl gTbl con_2265 := conR_ok3 gT_all (hd_2265) rfl pn_RX12 tk_X12_numberAt bo_RX12 xo_RX12 (cto_2 l) ch_2265 cut_nil
/-- RookHustingModel numberAt -/
noncomputable def ac_1271 : AC := .inr (2, jl_n [js_5 99 9223372036854775807 9223372036854775807, js_4 49 1, js_5 140 9223372036854775807 9223372036854775807])
noncomputable def con_2266 : Con2 := ((yX12_numberAt, cX12_numberAt, 3, (some .long)), (0, 0), ([(6, 0, 0), (0, 1, 0), (0, 39, 0)], gi_1801, [ac_1100, ac_1271], []), [((4, 48, 0), gi_1802, [(false, ac_1100), (false, ac_1271)], [], [1])])
theorem hd_2266 : con_2266.1 = (yX12_numberAt, cX12_numberAt, 3, (some .long)) := rfl
noncomputable def cu_2266 : List CUT2 := []
theorem ch_2266 : staG tb_X12_numberAt 1 bt_RX12 [] ct_2 [] [] cu_2266 11 con_2266 = true := by decide +kernel
theorem vl_2266 (l : Launch) : Vld2 l vwCl gTbl con_2266 := conR_ok3 gT_all (hd_2266) rfl pn_RX12 tk_X12_numberAt bo_RX12 xo_RX12 (cto_2 l) ch_2266 cut_nil
/-- RookHustingModel numberAt -/
noncomputable def ac_1272 : AC := .inr (2, jl_n [js_5 100 9223372036854775807 9223372036854775807, js_4 49 1, js_5 139 9223372036854775807 9223372036854775807])
noncomputable def con_2267 : Con2 := ((yX12_numberAt, cX12_numberAt, 3, (some .long)), (0, 0), ([(6, 0, 0), (0, 1, 0), (0, 40, 0)], gi_1801, [ac_1100, ac_1272], []), [((4, 48, 0), gi_1802, [(false, ac_1100), (false, ac_1272)], [], [1])])
theorem hd_2267 : con_2267.1 = (yX12_numberAt, cX12_numberAt, 3, (some .long)) := rfl
noncomputable def cu_2267 : List CUT2 := []
theorem ch_2267 : staG tb_X12_numberAt 1 bt_RX12 [] ct_2 [] [] cu_2267 11 con_2267 = true := by decide +kernel
theorem vl_2267 (l : Launch) : Vld2 l vwCl gTbl con_2267 := conR_ok3 gT_all (hd_2267) rfl pn_RX12 tk_X12_numberAt bo_RX12 xo_RX12 (cto_2 l) ch_2267 cut_nil
/-- RookHustingModel numberAt -/
noncomputable def ac_1273 : AC := .inr (2, jl_n [js_5 101 9223372036854775807 9223372036854775807, js_4 49 1, js_5 138 9223372036854775807 9223372036854775807])
noncomputable def con_2268 : Con2 := ((yX12_numberAt, cX12_numberAt, 3, (some .long)), (0, 0), ([(6, 0, 0), (0, 1, 0), (0, 41, 0)], gi_1801, [ac_1100, ac_1273], []), [((4, 48, 0), gi_1802, [(false, ac_1100), (false, ac_1273)], [], [1])])
theorem hd_2268 : con_2268.1 = (yX12_numberAt, cX12_numberAt, 3, (some .long)) := rfl
noncomputable def cu_2268 : List CUT2 := []
theorem ch_2268 : staG tb_X12_numberAt 1 bt_RX12 [] ct_2 [] [] cu_2268 11 con_2268 = true := by decide +kernel
theorem vl_2268 (l : Launch) : Vld2 l vwCl gTbl con_2268 := conR_ok3 gT_all (hd_2268) rfl pn_RX12 tk_X12_numberAt bo_RX12 xo_RX12 (cto_2 l) ch_2268 cut_nil
/-- RookHustingModel numberAt -/
noncomputable def ac_1274 : AC := .inr (2, jl_n [js_5 102 9223372036854775807 9223372036854775807, js_4 49 1, js_5 137 9223372036854775807 9223372036854775807])
noncomputable def con_2269 : Con2 := ((yX12_numberAt, cX12_numberAt, 3, (some .long)), (0, 0), ([(6, 0, 0), (0, 1, 0), (0, 42, 0)], gi_1801, [ac_1100, ac_1274], []), [((4, 48, 0), gi_1802, [(false, ac_1100), (false, ac_1274)], [], [1])])
theorem hd_2269 : con_2269.1 = (yX12_numberAt, cX12_numberAt, 3, (some .long)) := rfl
noncomputable def cu_2269 : List CUT2 := []
theorem ch_2269 : staG tb_X12_numberAt 1 bt_RX12 [] ct_2 [] [] cu_2269 11 con_2269 = true := by decide +kernel
theorem vl_2269 (l : Launch) : Vld2 l vwCl gTbl con_2269 := conR_ok3 gT_all (hd_2269) rfl pn_RX12 tk_X12_numberAt bo_RX12 xo_RX12 (cto_2 l) ch_2269 cut_nil
/-- RookHustingModel numberAt -/
noncomputable def ac_1275 : AC := .inr (2, jl_n [js_5 103 9223372036854775807 9223372036854775807, js_4 49 1, js_5 136 9223372036854775807 9223372036854775807])
noncomputable def con_2270 : Con2 := ((yX12_numberAt, cX12_numberAt, 3, (some .long)), (0, 0), ([(6, 0, 0), (0, 1, 0), (0, 43, 0)], gi_1801, [ac_1100, ac_1275], []), [((4, 48, 0), gi_1802, [(false, ac_1100), (false, ac_1275)], [], [1])])
theorem hd_2270 : con_2270.1 = (yX12_numberAt, cX12_numberAt, 3, (some .long)) := rfl
noncomputable def cu_2270 : List CUT2 := []
theorem ch_2270 : staG tb_X12_numberAt 1 bt_RX12 [] ct_2 [] [] cu_2270 11 con_2270 = true := by decide +kernel
theorem vl_2270 (l : Launch) : Vld2 l vwCl gTbl con_2270 := conR_ok3 gT_all (hd_2270) rfl pn_RX12 tk_X12_numberAt bo_RX12 xo_RX12 (cto_2 l) ch_2270 cut_nil
/-- RookHustingModel numberAt -/
noncomputable def ac_1276 : AC := .inr (2, jl_n [js_5 104 9223372036854775807 9223372036854775807, js_4 49 1, js_5 135 9223372036854775807 9223372036854775807])
noncomputable def con_2271 : Con2 := ((yX12_numberAt, cX12_numberAt, 3, (some .long)), (0, 0), ([(6, 0, 0), (0, 1, 0), (0, 44, 0)], gi_1801, [ac_1100, ac_1276], []), [((4, 48, 0), gi_1802, [(false, ac_1100), (false, ac_1276)], [], [1])])
theorem hd_2271 : con_2271.1 = (yX12_numberAt, cX12_numberAt, 3, (some .long)) := rfl
noncomputable def cu_2271 : List CUT2 := []
theorem ch_2271 : staG tb_X12_numberAt 1 bt_RX12 [] ct_2 [] [] cu_2271 11 con_2271 = true := by decide +kernel
theorem vl_2271 (l : Launch) : Vld2 l vwCl gTbl con_2271 := conR_ok3 gT_all (hd_2271) rfl pn_RX12 tk_X12_numberAt bo_RX12 xo_RX12 (cto_2 l) ch_2271 cut_nil
/-- RookHustingModel numberAt -/
noncomputable def ac_1277 : AC := .inr (2, jl_n [js_5 105 9223372036854775807 9223372036854775807, js_4 49 1, js_5 134 9223372036854775807 9223372036854775807])
noncomputable def con_2272 : Con2 := ((yX12_numberAt, cX12_numberAt, 3, (some .long)), (0, 0), ([(6, 0, 0), (0, 1, 0), (0, 45, 0)], gi_1801, [ac_1100, ac_1277], []), [((4, 48, 0), gi_1802, [(false, ac_1100), (false, ac_1277)], [], [1])])
theorem hd_2272 : con_2272.1 = (yX12_numberAt, cX12_numberAt, 3, (some .long)) := rfl
noncomputable def cu_2272 : List CUT2 := []
theorem ch_2272 : staG tb_X12_numberAt 1 bt_RX12 [] ct_2 [] [] cu_2272 11 con_2272 = true := by decide +kernel
theorem vl_2272 (l : Launch) : Vld2 l vwCl gTbl con_2272 := conR_ok3 gT_all (hd_2272) rfl pn_RX12 tk_X12_numberAt bo_RX12 xo_RX12 (cto_2 l) ch_2272 cut_nil
/-- RookHustingModel numberAt -/
noncomputable def ac_1278 : AC := .inr (2, jl_n [js_5 106 9223372036854775807 9223372036854775807, js_4 49 1, js_5 133 9223372036854775807 9223372036854775807])
noncomputable def con_2273 : Con2 := ((yX12_numberAt, cX12_numberAt, 3, (some .long)), (0, 0), ([(6, 0, 0), (0, 1, 0), (0, 46, 0)], gi_1801, [ac_1100, ac_1278], []), [((4, 48, 0), gi_1802, [(false, ac_1100), (false, ac_1278)], [], [1])])
theorem hd_2273 : con_2273.1 = (yX12_numberAt, cX12_numberAt, 3, (some .long)) := rfl
noncomputable def cu_2273 : List CUT2 := []
theorem ch_2273 : staG tb_X12_numberAt 1 bt_RX12 [] ct_2 [] [] cu_2273 11 con_2273 = true := by decide +kernel
theorem vl_2273 (l : Launch) : Vld2 l vwCl gTbl con_2273 := conR_ok3 gT_all (hd_2273) rfl pn_RX12 tk_X12_numberAt bo_RX12 xo_RX12 (cto_2 l) ch_2273 cut_nil
/-- RookHustingModel numberAt -/
noncomputable def ac_1279 : AC := .inr (2, jl_n [js_5 107 9223372036854775807 9223372036854775807, js_4 49 1, js_5 132 9223372036854775807 9223372036854775807])
noncomputable def con_2274 : Con2 := ((yX12_numberAt, cX12_numberAt, 3, (some .long)), (0, 0), ([(6, 0, 0), (0, 1, 0), (0, 47, 0)], gi_1801, [ac_1100, ac_1279], []), [((4, 48, 0), gi_1802, [(false, ac_1100), (false, ac_1279)], [], [1])])
theorem hd_2274 : con_2274.1 = (yX12_numberAt, cX12_numberAt, 3, (some .long)) := rfl
noncomputable def cu_2274 : List CUT2 := []
theorem ch_2274 : staG tb_X12_numberAt 1 bt_RX12 [] ct_2 [] [] cu_2274 11 con_2274 = true := by decide +kernel
theorem vl_2274 (l : Launch) : Vld2 l vwCl gTbl con_2274 := conR_ok3 gT_all (hd_2274) rfl pn_RX12 tk_X12_numberAt bo_RX12 xo_RX12 (cto_2 l) ch_2274 cut_nil
/-- RookHustingModel numberAt -/
noncomputable def ac_1280 : AC := .inr (2, jl_n [js_5 108 9223372036854775807 9223372036854775807, js_4 49 1, js_5 131 9223372036854775807 9223372036854775807])
noncomputable def con_2275 : Con2 := ((yX12_numberAt, cX12_numberAt, 3, (some .long)), (0, 0), ([(6, 0, 0), (0, 1, 0), (0, 48, 0)], gi_1801, [ac_1100, ac_1280], []), [((4, 48, 0), gi_1802, [(false, ac_1100), (false, ac_1280)], [], [1])])
theorem hd_2275 : con_2275.1 = (yX12_numberAt, cX12_numberAt, 3, (some .long)) := rfl
noncomputable def cu_2275 : List CUT2 := []
theorem ch_2275 : staG tb_X12_numberAt 1 bt_RX12 [] ct_2 [] [] cu_2275 11 con_2275 = true := by decide +kernel
theorem vl_2275 (l : Launch) : Vld2 l vwCl gTbl con_2275 := conR_ok3 gT_all (hd_2275) rfl pn_RX12 tk_X12_numberAt bo_RX12 xo_RX12 (cto_2 l) ch_2275 cut_nil
/-- RookHustingModel numberAt -/
noncomputable def ac_1281 : AC := .inr (2, jl_n [js_5 109 9223372036854775807 9223372036854775807, js_4 49 1, js_5 130 9223372036854775807 9223372036854775807])
noncomputable def con_2276 : Con2 := ((yX12_numberAt, cX12_numberAt, 3, (some .long)), (0, 0), ([(6, 0, 0), (0, 1, 0), (0, 49, 0)], gi_1801, [ac_1100, ac_1281], []), [((4, 48, 0), gi_1802, [(false, ac_1100), (false, ac_1281)], [], [1])])
theorem hd_2276 : con_2276.1 = (yX12_numberAt, cX12_numberAt, 3, (some .long)) := rfl
noncomputable def cu_2276 : List CUT2 := []
theorem ch_2276 : staG tb_X12_numberAt 1 bt_RX12 [] ct_2 [] [] cu_2276 11 con_2276 = true := by decide +kernel
theorem vl_2276 (l : Launch) : Vld2 l vwCl gTbl con_2276 := conR_ok3 gT_all (hd_2276) rfl pn_RX12 tk_X12_numberAt bo_RX12 xo_RX12 (cto_2 l) ch_2276 cut_nil
/-- RookHustingModel numberAt -/
noncomputable def ac_1282 : AC := .inr (2, jl_n [js_5 110 9223372036854775807 9223372036854775807, js_4 49 1, js_5 129 9223372036854775807 9223372036854775807])
noncomputable def con_2277 : Con2 := ((yX12_numberAt, cX12_numberAt, 3, (some .long)), (0, 0), ([(6, 0, 0), (0, 1, 0), (0, 50, 0)], gi_1801, [ac_1100, ac_1282], []), [((4, 48, 0), gi_1802, [(false, ac_1100), (false, ac_1282)], [], [1])])
theorem hd_2277 : con_2277.1 = (yX12_numberAt, cX12_numberAt, 3, (some .long)) := rfl
noncomputable def cu_2277 : List CUT2 := []
theorem ch_2277 : staG tb_X12_numberAt 1 bt_RX12 [] ct_2 [] [] cu_2277 11 con_2277 = true := by decide +kernel
theorem vl_2277 (l : Launch) : Vld2 l vwCl gTbl con_2277 := conR_ok3 gT_all (hd_2277) rfl pn_RX12 tk_X12_numberAt bo_RX12 xo_RX12 (cto_2 l) ch_2277 cut_nil
/-- RookHustingModel numberAt -/
noncomputable def ac_1283 : AC := .inr (2, jl_n [js_5 111 9223372036854775807 9223372036854775807, js_4 49 1, js_5 128 9223372036854775807 9223372036854775807])
noncomputable def con_2278 : Con2 := ((yX12_numberAt, cX12_numberAt, 3, (some .long)), (0, 0), ([(6, 0, 0), (0, 1, 0), (0, 51, 0)], gi_1801, [ac_1100, ac_1283], []), [((4, 48, 0), gi_1802, [(false, ac_1100), (false, ac_1283)], [], [1])])
theorem hd_2278 : con_2278.1 = (yX12_numberAt, cX12_numberAt, 3, (some .long)) := rfl
noncomputable def cu_2278 : List CUT2 := []
theorem ch_2278 : staG tb_X12_numberAt 1 bt_RX12 [] ct_2 [] [] cu_2278 11 con_2278 = true := by decide +kernel
theorem vl_2278 (l : Launch) : Vld2 l vwCl gTbl con_2278 := conR_ok3 gT_all (hd_2278) rfl pn_RX12 tk_X12_numberAt bo_RX12 xo_RX12 (cto_2 l) ch_2278 cut_nil
/-- RookHustingModel numberAt -/
noncomputable def ac_1284 : AC := .inr (2, jl_n [js_5 112 9223372036854775807 9223372036854775807, js_4 49 1, js_5 127 9223372036854775807 9223372036854775807])
noncomputable def con_2279 : Con2 := ((yX12_numberAt, cX12_numberAt, 3, (some .long)), (0, 0), ([(6, 0, 0), (0, 1, 0), (0, 52, 0)], gi_1801, [ac_1100, ac_1284], []), [((4, 48, 0), gi_1802, [(false, ac_1100), (false, ac_1284)], [], [1])])
theorem hd_2279 : con_2279.1 = (yX12_numberAt, cX12_numberAt, 3, (some .long)) := rfl
noncomputable def cu_2279 : List CUT2 := []
theorem ch_2279 : staG tb_X12_numberAt 1 bt_RX12 [] ct_2 [] [] cu_2279 11 con_2279 = true := by decide +kernel
theorem vl_2279 (l : Launch) : Vld2 l vwCl gTbl con_2279 := conR_ok3 gT_all (hd_2279) rfl pn_RX12 tk_X12_numberAt bo_RX12 xo_RX12 (cto_2 l) ch_2279 cut_nil
/-- RookHustingModel numberAt -/
noncomputable def ac_1285 : AC := .inr (2, jl_n [js_5 113 9223372036854775807 9223372036854775807, js_4 49 1, js_5 126 9223372036854775807 9223372036854775807])
noncomputable def con_2280 : Con2 := ((yX12_numberAt, cX12_numberAt, 3, (some .long)), (0, 0), ([(6, 0, 0), (0, 1, 0), (0, 53, 0)], gi_1801, [ac_1100, ac_1285], []), [((4, 48, 0), gi_1802, [(false, ac_1100), (false, ac_1285)], [], [1])])
theorem hd_2280 : con_2280.1 = (yX12_numberAt, cX12_numberAt, 3, (some .long)) := rfl
noncomputable def cu_2280 : List CUT2 := []
theorem ch_2280 : staG tb_X12_numberAt 1 bt_RX12 [] ct_2 [] [] cu_2280 11 con_2280 = true := by decide +kernel
theorem vl_2280 (l : Launch) : Vld2 l vwCl gTbl con_2280 := conR_ok3 gT_all (hd_2280) rfl pn_RX12 tk_X12_numberAt bo_RX12 xo_RX12 (cto_2 l) ch_2280 cut_nil
/-- RookHustingModel numberAt -/
noncomputable def ac_1286 : AC := .inr (2, jl_n [js_5 114 9223372036854775807 9223372036854775807, js_4 49 1, js_5 125 9223372036854775807 9223372036854775807])
noncomputable def con_2281 : Con2 := ((yX12_numberAt, cX12_numberAt, 3, (some .long)), (0, 0), ([(6, 0, 0), (0, 1, 0), (0, 54, 0)], gi_1801, [ac_1100, ac_1286], []), [((4, 48, 0), gi_1802, [(false, ac_1100), (false, ac_1286)], [], [1])])
theorem hd_2281 : con_2281.1 = (yX12_numberAt, cX12_numberAt, 3, (some .long)) := rfl
noncomputable def cu_2281 : List CUT2 := []
theorem ch_2281 : staG tb_X12_numberAt 1 bt_RX12 [] ct_2 [] [] cu_2281 11 con_2281 = true := by decide +kernel
theorem vl_2281 (l : Launch) : Vld2 l vwCl gTbl con_2281 := conR_ok3 gT_all (hd_2281) rfl pn_RX12 tk_X12_numberAt bo_RX12 xo_RX12 (cto_2 l) ch_2281 cut_nil
/-- RookHustingModel numberAt -/
noncomputable def ac_1287 : AC := .inr (2, jl_n [js_5 115 9223372036854775807 9223372036854775807, js_4 49 1, js_5 124 9223372036854775807 9223372036854775807])
noncomputable def con_2282 : Con2 := ((yX12_numberAt, cX12_numberAt, 3, (some .long)), (0, 0), ([(6, 0, 0), (0, 1, 0), (0, 55, 0)], gi_1801, [ac_1100, ac_1287], []), [((4, 48, 0), gi_1802, [(false, ac_1100), (false, ac_1287)], [], [1])])
theorem hd_2282 : con_2282.1 = (yX12_numberAt, cX12_numberAt, 3, (some .long)) := rfl
noncomputable def cu_2282 : List CUT2 := []
theorem ch_2282 : staG tb_X12_numberAt 1 bt_RX12 [] ct_2 [] [] cu_2282 11 con_2282 = true := by decide +kernel
theorem vl_2282 (l : Launch) : Vld2 l vwCl gTbl con_2282 := conR_ok3 gT_all (hd_2282) rfl pn_RX12 tk_X12_numberAt bo_RX12 xo_RX12 (cto_2 l) ch_2282 cut_nil
/-- RookHustingModel numberAt -/
noncomputable def ac_1288 : AC := .inr (2, jl_n [js_5 116 9223372036854775807 9223372036854775807, js_4 49 1, js_5 123 9223372036854775807 9223372036854775807])
noncomputable def con_2283 : Con2 := ((yX12_numberAt, cX12_numberAt, 3, (some .long)), (0, 0), ([(6, 0, 0), (0, 1, 0), (0, 56, 0)], gi_1801, [ac_1100, ac_1288], []), [((4, 48, 0), gi_1802, [(false, ac_1100), (false, ac_1288)], [], [1])])
theorem hd_2283 : con_2283.1 = (yX12_numberAt, cX12_numberAt, 3, (some .long)) := rfl
noncomputable def cu_2283 : List CUT2 := []
theorem ch_2283 : staG tb_X12_numberAt 1 bt_RX12 [] ct_2 [] [] cu_2283 11 con_2283 = true := by decide +kernel
theorem vl_2283 (l : Launch) : Vld2 l vwCl gTbl con_2283 := conR_ok3 gT_all (hd_2283) rfl pn_RX12 tk_X12_numberAt bo_RX12 xo_RX12 (cto_2 l) ch_2283 cut_nil
/-- RookHustingModel numberAt -/
noncomputable def ac_1289 : AC := .inr (2, jl_n [js_5 117 9223372036854775807 9223372036854775807, js_4 49 1, js_5 122 9223372036854775807 9223372036854775807])
noncomputable def con_2284 : Con2 := ((yX12_numberAt, cX12_numberAt, 3, (some .long)), (0, 0), ([(6, 0, 0), (0, 1, 0), (0, 57, 0)], gi_1801, [ac_1100, ac_1289], []), [((4, 48, 0), gi_1802, [(false, ac_1100), (false, ac_1289)], [], [1])])
theorem hd_2284 : con_2284.1 = (yX12_numberAt, cX12_numberAt, 3, (some .long)) := rfl
noncomputable def cu_2284 : List CUT2 := []
theorem ch_2284 : staG tb_X12_numberAt 1 bt_RX12 [] ct_2 [] [] cu_2284 11 con_2284 = true := by decide +kernel
theorem vl_2284 (l : Launch) : Vld2 l vwCl gTbl con_2284 := conR_ok3 gT_all (hd_2284) rfl pn_RX12 tk_X12_numberAt bo_RX12 xo_RX12 (cto_2 l) ch_2284 cut_nil
/-- RookHustingModel numberAt -/
noncomputable def ac_1290 : AC := .inr (2, jl_n [js_5 118 9223372036854775807 9223372036854775807, js_4 49 1, js_5 121 9223372036854775807 9223372036854775807])
noncomputable def con_2285 : Con2 := ((yX12_numberAt, cX12_numberAt, 3, (some .long)), (0, 0), ([(6, 0, 0), (0, 1, 0), (0, 58, 0)], gi_1801, [ac_1100, ac_1290], []), [((4, 48, 0), gi_1802, [(false, ac_1100), (false, ac_1290)], [], [1])])
theorem hd_2285 : con_2285.1 = (yX12_numberAt, cX12_numberAt, 3, (some .long)) := rfl
noncomputable def cu_2285 : List CUT2 := []
theorem ch_2285 : staG tb_X12_numberAt 1 bt_RX12 [] ct_2 [] [] cu_2285 11 con_2285 = true := by decide +kernel
theorem vl_2285 (l : Launch) : Vld2 l vwCl gTbl con_2285 := conR_ok3 gT_all (hd_2285) rfl pn_RX12 tk_X12_numberAt bo_RX12 xo_RX12 (cto_2 l) ch_2285 cut_nil
/-- RookHustingModel numberAt -/
noncomputable def ac_1291 : AC := .inr (2, jl_n [js_5 119 9223372036854775807 9223372036854775807, js_4 49 1, js_5 120 9223372036854775807 9223372036854775807])
noncomputable def con_2286 : Con2 := ((yX12_numberAt, cX12_numberAt, 3, (some .long)), (0, 0), ([(6, 0, 0), (0, 1, 0), (0, 59, 0)], gi_1801, [ac_1100, ac_1291], []), [((4, 48, 0), gi_1802, [(false, ac_1100), (false, ac_1291)], [], [1])])
theorem hd_2286 : con_2286.1 = (yX12_numberAt, cX12_numberAt, 3, (some .long)) := rfl
noncomputable def cu_2286 : List CUT2 := []
theorem ch_2286 : staG tb_X12_numberAt 1 bt_RX12 [] ct_2 [] [] cu_2286 11 con_2286 = true := by decide +kernel
theorem vl_2286 (l : Launch) : Vld2 l vwCl gTbl con_2286 := conR_ok3 gT_all (hd_2286) rfl pn_RX12 tk_X12_numberAt bo_RX12 xo_RX12 (cto_2 l) ch_2286 cut_nil
/-- RookHustingModel askSeen -/
noncomputable def ac_1292 : AC := .inr (2, jl_n [js_5 60 9223372036854775807 9223372036854775807, js_4 135 60, js_5 120 9223372036854775807 9223372036854775807])
noncomputable def hq_928 : HP := [(false, ac_1097), (false, ac_440), (false, ac_1098), (false, ac_1292)]
noncomputable def gi_2202 : GI := jl_n [gp_739, gp_537, gp_540, jl_z 1]
noncomputable def gi_2203 : GI := jl_n [gp_739, gp_772, jl_z 1]
noncomputable def gi_2204 : GI := jl_n [gp_773, gp_543, jl_z 1]
noncomputable def gi_2205 : GI := jl_n [gp_773, gp_545, jl_z 1]
noncomputable def gi_2206 : GI := jl_n [gp_773, gp_547, jl_z 1]
noncomputable def gi_2207 : GI := jl_n [gp_773, gp_549, jl_z 1]
noncomputable def gi_2208 : GI := jl_n [gp_773, gp_552, jl_z 1]
noncomputable def gi_2209 : GI := jl_n [gp_773, gp_554, jl_z 1]
noncomputable def gi_2210 : GI := jl_n [gp_773, gp_556, jl_z 1]
noncomputable def gi_2211 : GI := jl_n [gp_773, gp_558, jl_z 1]
noncomputable def gi_2212 : GI := jl_n [gp_773, gp_560, jl_z 1]
noncomputable def gi_2213 : GI := jl_n [gp_773, gp_562, jl_z 1]
noncomputable def gi_2214 : GI := jl_n [gp_773, gp_564, jl_z 1]
noncomputable def gi_2215 : GI := jl_n [gp_773, gp_566, jl_z 1]
noncomputable def gi_2216 : GI := jl_n [gp_773, gp_568, jl_z 1]
noncomputable def gi_2217 : GI := jl_n [gp_773, gp_570, jl_z 1]
noncomputable def gi_2218 : GI := jl_n [gp_773, gp_572, jl_z 1]
noncomputable def gi_2219 : GI := jl_n [gp_773, gp_574, jl_z 1]
noncomputable def gi_2220 : GI := jl_n [gp_773, gp_576, jl_z 1]
noncomputable def gi_2221 : GI := jl_n [gp_773, gp_578, jl_z 1]
noncomputable def gi_2222 : GI := jl_n [gp_773, gp_579, jl_z 1]
noncomputable def gi_2223 : GI := jl_n [gp_773, gp_581, jl_z 1]
noncomputable def con_2287 : Con2 := ((yX12_askSeen, cX12_askSeen, 4, (some .int)), (2, 47), ([(6, 0, 0), (0, 1, 0), (1, 2, 0)], gi_1806, [ac_1097, ac_440, ac_1098, ac_1292], []), [((0, (-2), 0), gi_1807, hq_928, [], [1]), ((0, (-6), 0), gi_2202, hq_928, [], [1]), ((0, 0, 0), gi_2203, hq_928, [], [1]), ((0, 0, 0), gi_2204, hq_928, [], [1]), ((0, 0, 0), gi_2205, hq_928, [], [1]), ((0, 0, 0), gi_2206, hq_928, [], [1]), ((0, 0, 0), gi_2207, hq_928, [], [1]), ((0, 0, 0), gi_2208, hq_928, [], [1]), ((0, 0, 0), gi_2209, hq_928, [], [1]), ((0, 0, 0), gi_2210, hq_928, [], [1]), ((0, 0, 0), gi_2211, hq_928, [], [1]), ((0, 0, 0), gi_2212, hq_928, [], [1]), ((0, 0, 0), gi_2213, hq_928, [], [1]), ((0, 0, 0), gi_2214, hq_928, [], [1]), ((0, 0, 0), gi_2215, hq_928, [], [1]), ((0, 0, 0), gi_2216, hq_928, [], [1]), ((0, 0, 0), gi_2217, hq_928, [], [1]), ((0, 0, 0), gi_2218, hq_928, [], [1]), ((0, 0, 0), gi_2219, hq_928, [], [1]), ((0, 0, 0), gi_2220, hq_928, [], [1]), ((0, 0, 0), gi_2221, hq_928, [], [1]), ((0, 0, 0), gi_2222, hq_928, [], [1]), ((0, 0, 0), gi_2223, hq_928, [], [1])])
theorem hd_2287 : con_2287.1 = (yX12_askSeen, cX12_askSeen, 4, (some .int)) := rfl
theorem ck_RX12_417_2229 : COK2 RX12 vwCl gTbl 417 0 con_2229 := ⟨wd_2061, wd_137, mh_X12_numberAt, .inr (.inr ⟨rfl, wd_2058, wd_2060, wd_114, ⟨_, rfl, pd_X12_numberAt⟩, 12, _, TX12, 45, rfl, rfl⟩)⟩
theorem ck_RX12_417_2232 : COK2 RX12 vwCl gTbl 417 0 con_2232 := ⟨wd_2061, wd_137, mh_X12_numberAt, .inr (.inr ⟨rfl, wd_2058, wd_2060, wd_114, ⟨_, rfl, pd_X12_numberAt⟩, 12, _, TX12, 45, rfl, rfl⟩)⟩
theorem ck_RX12_417_2235 : COK2 RX12 vwCl gTbl 417 0 con_2235 := ⟨wd_2061, wd_137, mh_X12_numberAt, .inr (.inr ⟨rfl, wd_2058, wd_2060, wd_114, ⟨_, rfl, pd_X12_numberAt⟩, 12, _, TX12, 45, rfl, rfl⟩)⟩
theorem ck_RX12_417_2238 : COK2 RX12 vwCl gTbl 417 0 con_2238 := ⟨wd_2061, wd_137, mh_X12_numberAt, .inr (.inr ⟨rfl, wd_2058, wd_2060, wd_114, ⟨_, rfl, pd_X12_numberAt⟩, 12, _, TX12, 45, rfl, rfl⟩)⟩
theorem ck_RX12_417_2241 : COK2 RX12 vwCl gTbl 417 0 con_2241 := ⟨wd_2061, wd_137, mh_X12_numberAt, .inr (.inr ⟨rfl, wd_2058, wd_2060, wd_114, ⟨_, rfl, pd_X12_numberAt⟩, 12, _, TX12, 45, rfl, rfl⟩)⟩
theorem ck_RX12_417_2244 : COK2 RX12 vwCl gTbl 417 0 con_2244 := ⟨wd_2061, wd_137, mh_X12_numberAt, .inr (.inr ⟨rfl, wd_2058, wd_2060, wd_114, ⟨_, rfl, pd_X12_numberAt⟩, 12, _, TX12, 45, rfl, rfl⟩)⟩
theorem ck_RX12_417_2247 : COK2 RX12 vwCl gTbl 417 0 con_2247 := ⟨wd_2061, wd_137, mh_X12_numberAt, .inr (.inr ⟨rfl, wd_2058, wd_2060, wd_114, ⟨_, rfl, pd_X12_numberAt⟩, 12, _, TX12, 45, rfl, rfl⟩)⟩
theorem ck_RX12_417_2250 : COK2 RX12 vwCl gTbl 417 0 con_2250 := ⟨wd_2061, wd_137, mh_X12_numberAt, .inr (.inr ⟨rfl, wd_2058, wd_2060, wd_114, ⟨_, rfl, pd_X12_numberAt⟩, 12, _, TX12, 45, rfl, rfl⟩)⟩
theorem ck_RX12_417_2253 : COK2 RX12 vwCl gTbl 417 0 con_2253 := ⟨wd_2061, wd_137, mh_X12_numberAt, .inr (.inr ⟨rfl, wd_2058, wd_2060, wd_114, ⟨_, rfl, pd_X12_numberAt⟩, 12, _, TX12, 45, rfl, rfl⟩)⟩
theorem ck_RX12_417_2256 : COK2 RX12 vwCl gTbl 417 0 con_2256 := ⟨wd_2061, wd_137, mh_X12_numberAt, .inr (.inr ⟨rfl, wd_2058, wd_2060, wd_114, ⟨_, rfl, pd_X12_numberAt⟩, 12, _, TX12, 45, rfl, rfl⟩)⟩
theorem ck_RX12_417_2259 : COK2 RX12 vwCl gTbl 417 0 con_2259 := ⟨wd_2061, wd_137, mh_X12_numberAt, .inr (.inr ⟨rfl, wd_2058, wd_2060, wd_114, ⟨_, rfl, pd_X12_numberAt⟩, 12, _, TX12, 45, rfl, rfl⟩)⟩
theorem ck_RX12_417_2262 : COK2 RX12 vwCl gTbl 417 0 con_2262 := ⟨wd_2061, wd_137, mh_X12_numberAt, .inr (.inr ⟨rfl, wd_2058, wd_2060, wd_114, ⟨_, rfl, pd_X12_numberAt⟩, 12, _, TX12, 45, rfl, rfl⟩)⟩
theorem ck_RX12_417_2265 : COK2 RX12 vwCl gTbl 417 0 con_2265 := ⟨wd_2061, wd_137, mh_X12_numberAt, .inr (.inr ⟨rfl, wd_2058, wd_2060, wd_114, ⟨_, rfl, pd_X12_numberAt⟩, 12, _, TX12, 45, rfl, rfl⟩)⟩
theorem ck_RX12_417_2268 : COK2 RX12 vwCl gTbl 417 0 con_2268 := ⟨wd_2061, wd_137, mh_X12_numberAt, .inr (.inr ⟨rfl, wd_2058, wd_2060, wd_114, ⟨_, rfl, pd_X12_numberAt⟩, 12, _, TX12, 45, rfl, rfl⟩)⟩
theorem ck_RX12_417_2271 : COK2 RX12 vwCl gTbl 417 0 con_2271 := ⟨wd_2061, wd_137, mh_X12_numberAt, .inr (.inr ⟨rfl, wd_2058, wd_2060, wd_114, ⟨_, rfl, pd_X12_numberAt⟩, 12, _, TX12, 45, rfl, rfl⟩)⟩
theorem ck_RX12_417_2274 : COK2 RX12 vwCl gTbl 417 0 con_2274 := ⟨wd_2061, wd_137, mh_X12_numberAt, .inr (.inr ⟨rfl, wd_2058, wd_2060, wd_114, ⟨_, rfl, pd_X12_numberAt⟩, 12, _, TX12, 45, rfl, rfl⟩)⟩
theorem ck_RX12_417_2277 : COK2 RX12 vwCl gTbl 417 0 con_2277 := ⟨wd_2061, wd_137, mh_X12_numberAt, .inr (.inr ⟨rfl, wd_2058, wd_2060, wd_114, ⟨_, rfl, pd_X12_numberAt⟩, 12, _, TX12, 45, rfl, rfl⟩)⟩
theorem ck_RX12_417_2280 : COK2 RX12 vwCl gTbl 417 0 con_2280 := ⟨wd_2061, wd_137, mh_X12_numberAt, .inr (.inr ⟨rfl, wd_2058, wd_2060, wd_114, ⟨_, rfl, pd_X12_numberAt⟩, 12, _, TX12, 45, rfl, rfl⟩)⟩
theorem ck_RX12_417_2283 : COK2 RX12 vwCl gTbl 417 0 con_2283 := ⟨wd_2061, wd_137, mh_X12_numberAt, .inr (.inr ⟨rfl, wd_2058, wd_2060, wd_114, ⟨_, rfl, pd_X12_numberAt⟩, 12, _, TX12, 45, rfl, rfl⟩)⟩
theorem ck_RX12_417_2286 : COK2 RX12 vwCl gTbl 417 0 con_2286 := ⟨wd_2061, wd_137, mh_X12_numberAt, .inr (.inr ⟨rfl, wd_2058, wd_2060, wd_114, ⟨_, rfl, pd_X12_numberAt⟩, 12, _, TX12, 45, rfl, rfl⟩)⟩
theorem ck_RX12_417_2228 : COK2 RX12 vwCl gTbl 417 0 con_2228 := ⟨wd_2061, wd_137, mh_X12_numberAt, .inr (.inr ⟨rfl, wd_2058, wd_2060, wd_114, ⟨_, rfl, pd_X12_numberAt⟩, 12, _, TX12, 45, rfl, rfl⟩)⟩
theorem ck_RX12_417_2231 : COK2 RX12 vwCl gTbl 417 0 con_2231 := ⟨wd_2061, wd_137, mh_X12_numberAt, .inr (.inr ⟨rfl, wd_2058, wd_2060, wd_114, ⟨_, rfl, pd_X12_numberAt⟩, 12, _, TX12, 45, rfl, rfl⟩)⟩
theorem ck_RX12_417_2234 : COK2 RX12 vwCl gTbl 417 0 con_2234 := ⟨wd_2061, wd_137, mh_X12_numberAt, .inr (.inr ⟨rfl, wd_2058, wd_2060, wd_114, ⟨_, rfl, pd_X12_numberAt⟩, 12, _, TX12, 45, rfl, rfl⟩)⟩
theorem ck_RX12_417_2237 : COK2 RX12 vwCl gTbl 417 0 con_2237 := ⟨wd_2061, wd_137, mh_X12_numberAt, .inr (.inr ⟨rfl, wd_2058, wd_2060, wd_114, ⟨_, rfl, pd_X12_numberAt⟩, 12, _, TX12, 45, rfl, rfl⟩)⟩
theorem ck_RX12_417_2240 : COK2 RX12 vwCl gTbl 417 0 con_2240 := ⟨wd_2061, wd_137, mh_X12_numberAt, .inr (.inr ⟨rfl, wd_2058, wd_2060, wd_114, ⟨_, rfl, pd_X12_numberAt⟩, 12, _, TX12, 45, rfl, rfl⟩)⟩
theorem ck_RX12_417_2243 : COK2 RX12 vwCl gTbl 417 0 con_2243 := ⟨wd_2061, wd_137, mh_X12_numberAt, .inr (.inr ⟨rfl, wd_2058, wd_2060, wd_114, ⟨_, rfl, pd_X12_numberAt⟩, 12, _, TX12, 45, rfl, rfl⟩)⟩
theorem ck_RX12_417_2246 : COK2 RX12 vwCl gTbl 417 0 con_2246 := ⟨wd_2061, wd_137, mh_X12_numberAt, .inr (.inr ⟨rfl, wd_2058, wd_2060, wd_114, ⟨_, rfl, pd_X12_numberAt⟩, 12, _, TX12, 45, rfl, rfl⟩)⟩
theorem ck_RX12_417_2249 : COK2 RX12 vwCl gTbl 417 0 con_2249 := ⟨wd_2061, wd_137, mh_X12_numberAt, .inr (.inr ⟨rfl, wd_2058, wd_2060, wd_114, ⟨_, rfl, pd_X12_numberAt⟩, 12, _, TX12, 45, rfl, rfl⟩)⟩
theorem ck_RX12_417_2252 : COK2 RX12 vwCl gTbl 417 0 con_2252 := ⟨wd_2061, wd_137, mh_X12_numberAt, .inr (.inr ⟨rfl, wd_2058, wd_2060, wd_114, ⟨_, rfl, pd_X12_numberAt⟩, 12, _, TX12, 45, rfl, rfl⟩)⟩
theorem ck_RX12_417_2255 : COK2 RX12 vwCl gTbl 417 0 con_2255 := ⟨wd_2061, wd_137, mh_X12_numberAt, .inr (.inr ⟨rfl, wd_2058, wd_2060, wd_114, ⟨_, rfl, pd_X12_numberAt⟩, 12, _, TX12, 45, rfl, rfl⟩)⟩
theorem ck_RX12_417_2258 : COK2 RX12 vwCl gTbl 417 0 con_2258 := ⟨wd_2061, wd_137, mh_X12_numberAt, .inr (.inr ⟨rfl, wd_2058, wd_2060, wd_114, ⟨_, rfl, pd_X12_numberAt⟩, 12, _, TX12, 45, rfl, rfl⟩)⟩
theorem ck_RX12_417_2261 : COK2 RX12 vwCl gTbl 417 0 con_2261 := ⟨wd_2061, wd_137, mh_X12_numberAt, .inr (.inr ⟨rfl, wd_2058, wd_2060, wd_114, ⟨_, rfl, pd_X12_numberAt⟩, 12, _, TX12, 45, rfl, rfl⟩)⟩
theorem ck_RX12_417_2264 : COK2 RX12 vwCl gTbl 417 0 con_2264 := ⟨wd_2061, wd_137, mh_X12_numberAt, .inr (.inr ⟨rfl, wd_2058, wd_2060, wd_114, ⟨_, rfl, pd_X12_numberAt⟩, 12, _, TX12, 45, rfl, rfl⟩)⟩
theorem ck_RX12_417_2267 : COK2 RX12 vwCl gTbl 417 0 con_2267 := ⟨wd_2061, wd_137, mh_X12_numberAt, .inr (.inr ⟨rfl, wd_2058, wd_2060, wd_114, ⟨_, rfl, pd_X12_numberAt⟩, 12, _, TX12, 45, rfl, rfl⟩)⟩
theorem ck_RX12_417_2270 : COK2 RX12 vwCl gTbl 417 0 con_2270 := ⟨wd_2061, wd_137, mh_X12_numberAt, .inr (.inr ⟨rfl, wd_2058, wd_2060, wd_114, ⟨_, rfl, pd_X12_numberAt⟩, 12, _, TX12, 45, rfl, rfl⟩)⟩
theorem ck_RX12_417_2273 : COK2 RX12 vwCl gTbl 417 0 con_2273 := ⟨wd_2061, wd_137, mh_X12_numberAt, .inr (.inr ⟨rfl, wd_2058, wd_2060, wd_114, ⟨_, rfl, pd_X12_numberAt⟩, 12, _, TX12, 45, rfl, rfl⟩)⟩
theorem ck_RX12_417_2276 : COK2 RX12 vwCl gTbl 417 0 con_2276 := ⟨wd_2061, wd_137, mh_X12_numberAt, .inr (.inr ⟨rfl, wd_2058, wd_2060, wd_114, ⟨_, rfl, pd_X12_numberAt⟩, 12, _, TX12, 45, rfl, rfl⟩)⟩
theorem ck_RX12_417_2279 : COK2 RX12 vwCl gTbl 417 0 con_2279 := ⟨wd_2061, wd_137, mh_X12_numberAt, .inr (.inr ⟨rfl, wd_2058, wd_2060, wd_114, ⟨_, rfl, pd_X12_numberAt⟩, 12, _, TX12, 45, rfl, rfl⟩)⟩
theorem ck_RX12_417_2282 : COK2 RX12 vwCl gTbl 417 0 con_2282 := ⟨wd_2061, wd_137, mh_X12_numberAt, .inr (.inr ⟨rfl, wd_2058, wd_2060, wd_114, ⟨_, rfl, pd_X12_numberAt⟩, 12, _, TX12, 45, rfl, rfl⟩)⟩
theorem ck_RX12_417_2285 : COK2 RX12 vwCl gTbl 417 0 con_2285 := ⟨wd_2061, wd_137, mh_X12_numberAt, .inr (.inr ⟨rfl, wd_2058, wd_2060, wd_114, ⟨_, rfl, pd_X12_numberAt⟩, 12, _, TX12, 45, rfl, rfl⟩)⟩
theorem ck_RX12_417_2227 : COK2 RX12 vwCl gTbl 417 0 con_2227 := ⟨wd_2061, wd_137, mh_X12_numberAt, .inr (.inr ⟨rfl, wd_2058, wd_2060, wd_114, ⟨_, rfl, pd_X12_numberAt⟩, 12, _, TX12, 45, rfl, rfl⟩)⟩
theorem ck_RX12_417_2230 : COK2 RX12 vwCl gTbl 417 0 con_2230 := ⟨wd_2061, wd_137, mh_X12_numberAt, .inr (.inr ⟨rfl, wd_2058, wd_2060, wd_114, ⟨_, rfl, pd_X12_numberAt⟩, 12, _, TX12, 45, rfl, rfl⟩)⟩
theorem ck_RX12_417_2233 : COK2 RX12 vwCl gTbl 417 0 con_2233 := ⟨wd_2061, wd_137, mh_X12_numberAt, .inr (.inr ⟨rfl, wd_2058, wd_2060, wd_114, ⟨_, rfl, pd_X12_numberAt⟩, 12, _, TX12, 45, rfl, rfl⟩)⟩
theorem ck_RX12_417_2236 : COK2 RX12 vwCl gTbl 417 0 con_2236 := ⟨wd_2061, wd_137, mh_X12_numberAt, .inr (.inr ⟨rfl, wd_2058, wd_2060, wd_114, ⟨_, rfl, pd_X12_numberAt⟩, 12, _, TX12, 45, rfl, rfl⟩)⟩
theorem ck_RX12_417_2239 : COK2 RX12 vwCl gTbl 417 0 con_2239 := ⟨wd_2061, wd_137, mh_X12_numberAt, .inr (.inr ⟨rfl, wd_2058, wd_2060, wd_114, ⟨_, rfl, pd_X12_numberAt⟩, 12, _, TX12, 45, rfl, rfl⟩)⟩
theorem ck_RX12_417_2242 : COK2 RX12 vwCl gTbl 417 0 con_2242 := ⟨wd_2061, wd_137, mh_X12_numberAt, .inr (.inr ⟨rfl, wd_2058, wd_2060, wd_114, ⟨_, rfl, pd_X12_numberAt⟩, 12, _, TX12, 45, rfl, rfl⟩)⟩
theorem ck_RX12_417_2245 : COK2 RX12 vwCl gTbl 417 0 con_2245 := ⟨wd_2061, wd_137, mh_X12_numberAt, .inr (.inr ⟨rfl, wd_2058, wd_2060, wd_114, ⟨_, rfl, pd_X12_numberAt⟩, 12, _, TX12, 45, rfl, rfl⟩)⟩
theorem ck_RX12_417_2248 : COK2 RX12 vwCl gTbl 417 0 con_2248 := ⟨wd_2061, wd_137, mh_X12_numberAt, .inr (.inr ⟨rfl, wd_2058, wd_2060, wd_114, ⟨_, rfl, pd_X12_numberAt⟩, 12, _, TX12, 45, rfl, rfl⟩)⟩
theorem ck_RX12_417_2251 : COK2 RX12 vwCl gTbl 417 0 con_2251 := ⟨wd_2061, wd_137, mh_X12_numberAt, .inr (.inr ⟨rfl, wd_2058, wd_2060, wd_114, ⟨_, rfl, pd_X12_numberAt⟩, 12, _, TX12, 45, rfl, rfl⟩)⟩
theorem ck_RX12_417_2254 : COK2 RX12 vwCl gTbl 417 0 con_2254 := ⟨wd_2061, wd_137, mh_X12_numberAt, .inr (.inr ⟨rfl, wd_2058, wd_2060, wd_114, ⟨_, rfl, pd_X12_numberAt⟩, 12, _, TX12, 45, rfl, rfl⟩)⟩
theorem ck_RX12_417_2257 : COK2 RX12 vwCl gTbl 417 0 con_2257 := ⟨wd_2061, wd_137, mh_X12_numberAt, .inr (.inr ⟨rfl, wd_2058, wd_2060, wd_114, ⟨_, rfl, pd_X12_numberAt⟩, 12, _, TX12, 45, rfl, rfl⟩)⟩
theorem ck_RX12_417_2260 : COK2 RX12 vwCl gTbl 417 0 con_2260 := ⟨wd_2061, wd_137, mh_X12_numberAt, .inr (.inr ⟨rfl, wd_2058, wd_2060, wd_114, ⟨_, rfl, pd_X12_numberAt⟩, 12, _, TX12, 45, rfl, rfl⟩)⟩
theorem ck_RX12_417_2263 : COK2 RX12 vwCl gTbl 417 0 con_2263 := ⟨wd_2061, wd_137, mh_X12_numberAt, .inr (.inr ⟨rfl, wd_2058, wd_2060, wd_114, ⟨_, rfl, pd_X12_numberAt⟩, 12, _, TX12, 45, rfl, rfl⟩)⟩
theorem ck_RX12_417_2266 : COK2 RX12 vwCl gTbl 417 0 con_2266 := ⟨wd_2061, wd_137, mh_X12_numberAt, .inr (.inr ⟨rfl, wd_2058, wd_2060, wd_114, ⟨_, rfl, pd_X12_numberAt⟩, 12, _, TX12, 45, rfl, rfl⟩)⟩
theorem ck_RX12_417_2269 : COK2 RX12 vwCl gTbl 417 0 con_2269 := ⟨wd_2061, wd_137, mh_X12_numberAt, .inr (.inr ⟨rfl, wd_2058, wd_2060, wd_114, ⟨_, rfl, pd_X12_numberAt⟩, 12, _, TX12, 45, rfl, rfl⟩)⟩
theorem ck_RX12_417_2272 : COK2 RX12 vwCl gTbl 417 0 con_2272 := ⟨wd_2061, wd_137, mh_X12_numberAt, .inr (.inr ⟨rfl, wd_2058, wd_2060, wd_114, ⟨_, rfl, pd_X12_numberAt⟩, 12, _, TX12, 45, rfl, rfl⟩)⟩
theorem ck_RX12_417_2275 : COK2 RX12 vwCl gTbl 417 0 con_2275 := ⟨wd_2061, wd_137, mh_X12_numberAt, .inr (.inr ⟨rfl, wd_2058, wd_2060, wd_114, ⟨_, rfl, pd_X12_numberAt⟩, 12, _, TX12, 45, rfl, rfl⟩)⟩
theorem ck_RX12_417_2278 : COK2 RX12 vwCl gTbl 417 0 con_2278 := ⟨wd_2061, wd_137, mh_X12_numberAt, .inr (.inr ⟨rfl, wd_2058, wd_2060, wd_114, ⟨_, rfl, pd_X12_numberAt⟩, 12, _, TX12, 45, rfl, rfl⟩)⟩
theorem ck_RX12_417_2281 : COK2 RX12 vwCl gTbl 417 0 con_2281 := ⟨wd_2061, wd_137, mh_X12_numberAt, .inr (.inr ⟨rfl, wd_2058, wd_2060, wd_114, ⟨_, rfl, pd_X12_numberAt⟩, 12, _, TX12, 45, rfl, rfl⟩)⟩
theorem ck_RX12_417_2284 : COK2 RX12 vwCl gTbl 417 0 con_2284 := ⟨wd_2061, wd_137, mh_X12_numberAt, .inr (.inr ⟨rfl, wd_2058, wd_2060, wd_114, ⟨_, rfl, pd_X12_numberAt⟩, 12, _, TX12, 45, rfl, rfl⟩)⟩
theorem ck_RX12_414_2226 : COK2 RX12 vwCl gTbl 414 1 con_2226 := ⟨wd_2057, wd_137, mh_X12_isSlot, .inl ⟨rfl, wd_2055, wd_2056, pd_X12_isSlot⟩⟩
noncomputable def ct_2287 : CTB2 := [(1, 414, 1, con_2226, []), (10, 109, 0, con_647, [0, 1]), (62, 417, 0, con_2284, [0, 3]), (62, 417, 0, con_2281, [0, 3]), (62, 417, 0, con_2278, [0, 3]), (62, 417, 0, con_2275, [0, 3]), (62, 417, 0, con_2272, [0, 3]), (62, 417, 0, con_2269, [0, 3]), (62, 417, 0, con_2266, [0, 3]), (62, 417, 0, con_2263, [0, 3]), (62, 417, 0, con_2260, [0, 3]), (62, 417, 0, con_2257, [0, 3]), (62, 417, 0, con_2254, [0, 3]), (62, 417, 0, con_2251, [0, 3]), (62, 417, 0, con_2248, [0, 3]), (62, 417, 0, con_2245, [0, 3]), (62, 417, 0, con_2242, [0, 3]), (62, 417, 0, con_2239, [0, 3]), (62, 417, 0, con_2236, [0, 3]), (62, 417, 0, con_2233, [0, 3]), (62, 417, 0, con_2230, [0, 3]), (62, 417, 0, con_2227, [0, 3]), (65, 109, 0, con_1932, [0, 1]), (77, 417, 0, con_2285, [0, 3]), (77, 417, 0, con_2282, [0, 3]), (77, 417, 0, con_2279, [0, 3]), (77, 417, 0, con_2276, [0, 3]), (77, 417, 0, con_2273, [0, 3]), (77, 417, 0, con_2270, [0, 3]), (77, 417, 0, con_2267, [0, 3]), (77, 417, 0, con_2264, [0, 3]), (77, 417, 0, con_2261, [0, 3]), (77, 417, 0, con_2258, [0, 3]), (77, 417, 0, con_2255, [0, 3]), (77, 417, 0, con_2252, [0, 3]), (77, 417, 0, con_2249, [0, 3]), (77, 417, 0, con_2246, [0, 3]), (77, 417, 0, con_2243, [0, 3]), (77, 417, 0, con_2240, [0, 3]), (77, 417, 0, con_2237, [0, 3]), (77, 417, 0, con_2234, [0, 3]), (77, 417, 0, con_2231, [0, 3]), (77, 417, 0, con_2228, [0, 3]), (80, 369, 0, con_1934, [0, 1]), (91, 417, 0, con_2286, [0, 3]), (91, 417, 0, con_2283, [0, 3]), (91, 417, 0, con_2280, [0, 3]), (91, 417, 0, con_2277, [0, 3]), (91, 417, 0, con_2274, [0, 3]), (91, 417, 0, con_2271, [0, 3]), (91, 417, 0, con_2268, [0, 3]), (91, 417, 0, con_2265, [0, 3]), (91, 417, 0, con_2262, [0, 3]), (91, 417, 0, con_2259, [0, 3]), (91, 417, 0, con_2256, [0, 3]), (91, 417, 0, con_2253, [0, 3]), (91, 417, 0, con_2250, [0, 3]), (91, 417, 0, con_2247, [0, 3]), (91, 417, 0, con_2244, [0, 3]), (91, 417, 0, con_2241, [0, 3]), (91, 417, 0, con_2238, [0, 3]), (91, 417, 0, con_2235, [0, 3]), (91, 417, 0, con_2232, [0, 3]), (91, 417, 0, con_2229, [0, 3]), (98, 91, 1, con_1936, [])]
noncomputable def gi_2224 : GI := jl_n [gp_739, gp_774, gp_540, jl_z 4]
noncomputable def gi_2225 : GI := jl_n [gp_773, jl_i 1 60, gp_555, jl_z 4]
noncomputable def gi_2226 : GI := jl_n [gp_773, jl_i 4 60, gp_577, jl_z 4]
noncomputable def gi_2227 : GI := jl_n [gp_773, jl_i 7 60, gp_580, jl_z 4]
noncomputable def gi_2228 : GI := jl_n [gp_773, jl_i 10 60, gp_542, jl_z 4]
noncomputable def gi_2229 : GI := jl_n [gp_773, jl_i 13 60, gp_544, jl_z 4]
noncomputable def gi_2230 : GI := jl_n [gp_773, jl_i 16 60, gp_546, jl_z 4]
noncomputable def gi_2231 : GI := jl_n [gp_773, jl_i 19 60, gp_548, jl_z 4]
noncomputable def gi_2232 : GI := jl_n [gp_773, jl_i 22 60, gp_551, jl_z 4]
noncomputable def gi_2233 : GI := jl_n [gp_773, jl_i 25 60, gp_553, jl_z 4]
noncomputable def gi_2234 : GI := jl_n [gp_773, jl_i 28 60, gp_557, jl_z 4]
noncomputable def gi_2235 : GI := jl_n [gp_773, jl_i 31 60, gp_559, jl_z 4]
noncomputable def gi_2236 : GI := jl_n [gp_773, jl_i 34 60, gp_561, jl_z 4]
noncomputable def gi_2237 : GI := jl_n [gp_773, jl_i 37 60, gp_563, jl_z 4]
noncomputable def gi_2238 : GI := jl_n [gp_773, jl_i 40 60, gp_565, jl_z 4]
noncomputable def gi_2239 : GI := jl_n [gp_773, jl_i 43 60, gp_567, jl_z 4]
noncomputable def gi_2240 : GI := jl_n [gp_773, jl_i 46 60, gp_569, jl_z 4]
noncomputable def gi_2241 : GI := jl_n [gp_773, jl_i 49 60, gp_571, jl_z 4]
noncomputable def gi_2242 : GI := jl_n [gp_773, jl_i 52 60, gp_573, jl_z 4]
noncomputable def gi_2243 : GI := jl_n [gp_773, jl_i 55 60, jl_r 2 (jl_m 0 60), gp_745]
noncomputable def gi_2244 : GI := jl_n [gp_773, gp_579, jl_z 4]
noncomputable def cu_2287_0 : List CUT2 := [((48, [lq 0 6 0, lq 1 0 1, lq 2 1 2, lq 3 0 0], [], gi_2224, hq_928), [], ([], 60)), ((48, [lq 0 6 0, lq 1 0 1, lq 2 1 2, lq 3 0 3], [], gi_2225, hq_928), [], ([], 57)), ((48, [lq 0 6 0, lq 1 0 1, lq 2 1 2, lq 3 0 6], [], gi_2226, hq_928), [], ([], 54)), ((48, [lq 0 6 0, lq 1 0 1, lq 2 1 2, lq 3 0 9], [], gi_2227, hq_928), [], ([], 51)), ((48, [lq 0 6 0, lq 1 0 1, lq 2 1 2, lq 3 0 12], [], gi_2228, hq_928), [], ([], 48)), ((48, [lq 0 6 0, lq 1 0 1, lq 2 1 2, lq 3 0 15], [], gi_2229, hq_928), [], ([], 45)), ((48, [lq 0 6 0, lq 1 0 1, lq 2 1 2, lq 3 0 18], [], gi_2230, hq_928), [], ([], 42)), ((48, [lq 0 6 0, lq 1 0 1, lq 2 1 2, lq 3 0 21], [], gi_2231, hq_928), [], ([], 39)), ((48, [lq 0 6 0, lq 1 0 1, lq 2 1 2, lq 3 0 24], [], gi_2232, hq_928), [], ([], 36)), ((48, [lq 0 6 0, lq 1 0 1, lq 2 1 2, lq 3 0 27], [], gi_2233, hq_928), [], ([], 33)), ((48, [lq 0 6 0, lq 1 0 1, lq 2 1 2, lq 3 0 30], [], gi_2234, hq_928), [], ([], 30)), ((48, [lq 0 6 0, lq 1 0 1, lq 2 1 2, lq 3 0 33], [], gi_2235, hq_928), [], ([], 27)), ((48, [lq 0 6 0, lq 1 0 1, lq 2 1 2, lq 3 0 36], [], gi_2236, hq_928), [], ([], 24))]
noncomputable def cu_2287_1 : List CUT2 := [((48, [lq 0 6 0, lq 1 0 1, lq 2 1 2, lq 3 0 39], [], gi_2237, hq_928), [], ([], 21)), ((48, [lq 0 6 0, lq 1 0 1, lq 2 1 2, lq 3 0 42], [], gi_2238, hq_928), [], ([], 18)), ((48, [lq 0 6 0, lq 1 0 1, lq 2 1 2, lq 3 0 45], [], gi_2239, hq_928), [], ([], 15)), ((48, [lq 0 6 0, lq 1 0 1, lq 2 1 2, lq 3 0 48], [], gi_2240, hq_928), [], ([], 12)), ((48, [lq 0 6 0, lq 1 0 1, lq 2 1 2, lq 3 0 51], [], gi_2241, hq_928), [], ([], 9)), ((48, [lq 0 6 0, lq 1 0 1, lq 2 1 2, lq 3 0 54], [], gi_2242, hq_928), [], ([], 6)), ((48, [lq 0 6 0, lq 1 0 1, lq 2 1 2, lq 3 0 57], [], gi_2243, hq_928), [], ([], 3)), ((48, [lq 0 6 0, lq 1 0 1, lq 2 1 2, lq 3 0 60], [], gi_2244, hq_928), [], ([], 0))]
noncomputable def cu_2287 : List CUT2 := cu_2287_0 ++ (cu_2287_1)
theorem ch_2287 : staG tb_X12_askSeen 1 bt_RX12 [] ct_2287 [] [] cu_2287 37 con_2287 = true := by decide +kernel
theorem cc_2287_0 : cu_2287_0.all (cutG tb_X12_askSeen 1 bt_RX12 [] ct_2287 [] [] cu_2287 37 con_2287) = true := by decide +kernel
theorem cc_2287_1 : cu_2287_1.all (cutG tb_X12_askSeen 1 bt_RX12 [] ct_2287 [] [] cu_2287 37 con_2287) = true := by decide +kernel
theorem cto_2287 (l : Launch) : CTOK2 l RX12 vwCl gTbl ct_2287 := ct2_cons (vl_2226 l) ck_RX12_414_2226 (ct2_cons (vl_647 l) ck_RX12_109_647 (ct2_cons (vl_2284 l) ck_RX12_417_2284 (ct2_cons (vl_2281 l) ck_RX12_417_2281 (ct2_cons (vl_2278 l) ck_RX12_417_2278 (ct2_cons (vl_2275 l) ck_RX12_417_2275 (ct2_cons (vl_2272 l) ck_RX12_417_2272 (ct2_cons (vl_2269 l) ck_RX12_417_2269 (ct2_cons (vl_2266 l) ck_RX12_417_2266 (ct2_cons (vl_2263 l) ck_RX12_417_2263 (ct2_cons (vl_2260 l) ck_RX12_417_2260 (ct2_cons (vl_2257 l) ck_RX12_417_2257 (ct2_cons (vl_2254 l) ck_RX12_417_2254 (ct2_cons (vl_2251 l) ck_RX12_417_2251 (ct2_cons (vl_2248 l) ck_RX12_417_2248 (ct2_cons (vl_2245 l) ck_RX12_417_2245 (ct2_cons (vl_2242 l) ck_RX12_417_2242 (ct2_cons (vl_2239 l) ck_RX12_417_2239 (ct2_cons (vl_2236 l) ck_RX12_417_2236 (ct2_cons (vl_2233 l) ck_RX12_417_2233 (ct2_cons (vl_2230 l) ck_RX12_417_2230 (ct2_cons (vl_2227 l) ck_RX12_417_2227 (ct2_cons (vl_1932 l) ck_RX12_109_1932 (ct2_cons (vl_2285 l) ck_RX12_417_2285 (ct2_cons (vl_2282 l) ck_RX12_417_2282 (ct2_cons (vl_2279 l) ck_RX12_417_2279 (ct2_cons (vl_2276 l) ck_RX12_417_2276 (ct2_cons (vl_2273 l) ck_RX12_417_2273 (ct2_cons (vl_2270 l) ck_RX12_417_2270 (ct2_cons (vl_2267 l) ck_RX12_417_2267 (ct2_cons (vl_2264 l) ck_RX12_417_2264 (ct2_cons (vl_2261 l) ck_RX12_417_2261 (ct2_cons (vl_2258 l) ck_RX12_417_2258 (ct2_cons (vl_2255 l) ck_RX12_417_2255 (ct2_cons (vl_2252 l) ck_RX12_417_2252 (ct2_cons (vl_2249 l) ck_RX12_417_2249 (ct2_cons (vl_2246 l) ck_RX12_417_2246 (ct2_cons (vl_2243 l) ck_RX12_417_2243 (ct2_cons (vl_2240 l) ck_RX12_417_2240 (ct2_cons (vl_2237 l) ck_RX12_417_2237 (ct2_cons (vl_2234 l) ck_RX12_417_2234 (ct2_cons (vl_2231 l) ck_RX12_417_2231 (ct2_cons (vl_2228 l) ck_RX12_417_2228 (ct2_cons (vl_1934 l) ck_RX12_369_1934 (ct2_cons (vl_2286 l) ck_RX12_417_2286 (ct2_cons (vl_2283 l) ck_RX12_417_2283 (ct2_cons (vl_2280 l) ck_RX12_417_2280 (ct2_cons (vl_2277 l) ck_RX12_417_2277 (ct2_cons (vl_2274 l) ck_RX12_417_2274 (ct2_cons (vl_2271 l) ck_RX12_417_2271 (ct2_cons (vl_2268 l) ck_RX12_417_2268 (ct2_cons (vl_2265 l) ck_RX12_417_2265 (ct2_cons (vl_2262 l) ck_RX12_417_2262 (ct2_cons (vl_2259 l) ck_RX12_417_2259 (ct2_cons (vl_2256 l) ck_RX12_417_2256 (ct2_cons (vl_2253 l) ck_RX12_417_2253 (ct2_cons (vl_2250 l) ck_RX12_417_2250 (ct2_cons (vl_2247 l) ck_RX12_417_2247 (ct2_cons (vl_2244 l) ck_RX12_417_2244 (ct2_cons (vl_2241 l) ck_RX12_417_2241 (ct2_cons (vl_2238 l) ck_RX12_417_2238 (ct2_cons (vl_2235 l) ck_RX12_417_2235 (ct2_cons (vl_2232 l) ck_RX12_417_2232 (ct2_cons (vl_2229 l) ck_RX12_417_2229 (ct2_cons (vl_1936 l) ck_RX12_91_1936 (ct2_nil)))))))))))))))))))))))))))))))))))))))))))))))))))))))))))))))))
theorem vl_2287 (l : Launch) : Vld2 l vwCl gTbl con_2287 := conR_ok3 gT_all (hd_2287) rfl pn_RX12 tk_X12_askSeen bo_RX12 xo_RX12 (cto_2287 l) ch_2287 (cut_app (cut_all cc_2287_0) (cut_all cc_2287_1))
/-- RookHustingModel numberAt -/
noncomputable def con_2288 : Con2 := ((yX12_numberAt, cX12_numberAt, 3, (some .long)), (0, 0), ([(6, 0, 0), (0, 1, 0), (0, 1, 0)], gi_1851, [ac_1100, ac_1233], []), [((4, 48, 0), gi_1852, [(false, ac_1100), (false, ac_1233)], [], [1])])
theorem hd_2288 : con_2288.1 = (yX12_numberAt, cX12_numberAt, 3, (some .long)) := rfl
noncomputable def cu_2288 : List CUT2 := []
theorem ch_2288 : staG tb_X12_numberAt 1 bt_RX12 [] ct_2 [] [] cu_2288 11 con_2288 = true := by decide +kernel
theorem vl_2288 (l : Launch) : Vld2 l vwCl gTbl con_2288 := conR_ok3 gT_all (hd_2288) rfl pn_RX12 tk_X12_numberAt bo_RX12 xo_RX12 (cto_2 l) ch_2288 cut_nil
/-- RookHustingModel numberAt -/
noncomputable def con_2289 : Con2 := ((yX12_numberAt, cX12_numberAt, 3, (some .long)), (0, 0), ([(6, 0, 0), (0, 1, 0), (0, 0, 0)], gi_1853, [ac_1100, ac_1232], []), [((4, 48, 0), gi_1854, [(false, ac_1100), (false, ac_1232)], [], [1])])
theorem hd_2289 : con_2289.1 = (yX12_numberAt, cX12_numberAt, 3, (some .long)) := rfl
noncomputable def cu_2289 : List CUT2 := []
theorem ch_2289 : staG tb_X12_numberAt 1 bt_RX12 [] ct_2 [] [] cu_2289 11 con_2289 = true := by decide +kernel
theorem vl_2289 (l : Launch) : Vld2 l vwCl gTbl con_2289 := conR_ok3 gT_all (hd_2289) rfl pn_RX12 tk_X12_numberAt bo_RX12 xo_RX12 (cto_2 l) ch_2289 cut_nil
/-- RookHustingModel numberAt -/
noncomputable def con_2290 : Con2 := ((yX12_numberAt, cX12_numberAt, 3, (some .long)), (0, 0), ([(6, 0, 0), (0, 1, 0), (0, 2, 0)], gi_1855, [ac_1100, ac_1234], []), [((4, 48, 0), gi_1856, [(false, ac_1100), (false, ac_1234)], [], [1])])
theorem hd_2290 : con_2290.1 = (yX12_numberAt, cX12_numberAt, 3, (some .long)) := rfl
noncomputable def cu_2290 : List CUT2 := []
theorem ch_2290 : staG tb_X12_numberAt 1 bt_RX12 [] ct_2 [] [] cu_2290 11 con_2290 = true := by decide +kernel
theorem vl_2290 (l : Launch) : Vld2 l vwCl gTbl con_2290 := conR_ok3 gT_all (hd_2290) rfl pn_RX12 tk_X12_numberAt bo_RX12 xo_RX12 (cto_2 l) ch_2290 cut_nil
/-- RookHustingModel numberAt -/
noncomputable def con_2291 : Con2 := ((yX12_numberAt, cX12_numberAt, 3, (some .long)), (0, 0), ([(6, 0, 0), (0, 1, 0), (0, 4, 0)], gi_1851, [ac_1100, ac_1236], []), [((4, 48, 0), gi_1852, [(false, ac_1100), (false, ac_1236)], [], [1])])
theorem hd_2291 : con_2291.1 = (yX12_numberAt, cX12_numberAt, 3, (some .long)) := rfl
noncomputable def cu_2291 : List CUT2 := []
theorem ch_2291 : staG tb_X12_numberAt 1 bt_RX12 [] ct_2 [] [] cu_2291 11 con_2291 = true := by decide +kernel
theorem vl_2291 (l : Launch) : Vld2 l vwCl gTbl con_2291 := conR_ok3 gT_all (hd_2291) rfl pn_RX12 tk_X12_numberAt bo_RX12 xo_RX12 (cto_2 l) ch_2291 cut_nil
/-- RookHustingModel numberAt -/
noncomputable def con_2292 : Con2 := ((yX12_numberAt, cX12_numberAt, 3, (some .long)), (0, 0), ([(6, 0, 0), (0, 1, 0), (0, 3, 0)], gi_1853, [ac_1100, ac_1235], []), [((4, 48, 0), gi_1854, [(false, ac_1100), (false, ac_1235)], [], [1])])
theorem hd_2292 : con_2292.1 = (yX12_numberAt, cX12_numberAt, 3, (some .long)) := rfl
noncomputable def cu_2292 : List CUT2 := []
theorem ch_2292 : staG tb_X12_numberAt 1 bt_RX12 [] ct_2 [] [] cu_2292 11 con_2292 = true := by decide +kernel
theorem vl_2292 (l : Launch) : Vld2 l vwCl gTbl con_2292 := conR_ok3 gT_all (hd_2292) rfl pn_RX12 tk_X12_numberAt bo_RX12 xo_RX12 (cto_2 l) ch_2292 cut_nil
/-- RookHustingModel numberAt -/
noncomputable def con_2293 : Con2 := ((yX12_numberAt, cX12_numberAt, 3, (some .long)), (0, 0), ([(6, 0, 0), (0, 1, 0), (0, 5, 0)], gi_1855, [ac_1100, ac_1237], []), [((4, 48, 0), gi_1856, [(false, ac_1100), (false, ac_1237)], [], [1])])
theorem hd_2293 : con_2293.1 = (yX12_numberAt, cX12_numberAt, 3, (some .long)) := rfl
noncomputable def cu_2293 : List CUT2 := []
theorem ch_2293 : staG tb_X12_numberAt 1 bt_RX12 [] ct_2 [] [] cu_2293 11 con_2293 = true := by decide +kernel
theorem vl_2293 (l : Launch) : Vld2 l vwCl gTbl con_2293 := conR_ok3 gT_all (hd_2293) rfl pn_RX12 tk_X12_numberAt bo_RX12 xo_RX12 (cto_2 l) ch_2293 cut_nil
/-- RookHustingModel numberAt -/
noncomputable def con_2294 : Con2 := ((yX12_numberAt, cX12_numberAt, 3, (some .long)), (0, 0), ([(6, 0, 0), (0, 1, 0), (0, 7, 0)], gi_1851, [ac_1100, ac_1239], []), [((4, 48, 0), gi_1852, [(false, ac_1100), (false, ac_1239)], [], [1])])
theorem hd_2294 : con_2294.1 = (yX12_numberAt, cX12_numberAt, 3, (some .long)) := rfl
noncomputable def cu_2294 : List CUT2 := []
theorem ch_2294 : staG tb_X12_numberAt 1 bt_RX12 [] ct_2 [] [] cu_2294 11 con_2294 = true := by decide +kernel
theorem vl_2294 (l : Launch) : Vld2 l vwCl gTbl con_2294 := conR_ok3 gT_all (hd_2294) rfl pn_RX12 tk_X12_numberAt bo_RX12 xo_RX12 (cto_2 l) ch_2294 cut_nil
/-- RookHustingModel numberAt -/
noncomputable def con_2295 : Con2 := ((yX12_numberAt, cX12_numberAt, 3, (some .long)), (0, 0), ([(6, 0, 0), (0, 1, 0), (0, 6, 0)], gi_1853, [ac_1100, ac_1238], []), [((4, 48, 0), gi_1854, [(false, ac_1100), (false, ac_1238)], [], [1])])
theorem hd_2295 : con_2295.1 = (yX12_numberAt, cX12_numberAt, 3, (some .long)) := rfl
noncomputable def cu_2295 : List CUT2 := []
theorem ch_2295 : staG tb_X12_numberAt 1 bt_RX12 [] ct_2 [] [] cu_2295 11 con_2295 = true := by decide +kernel
theorem vl_2295 (l : Launch) : Vld2 l vwCl gTbl con_2295 := conR_ok3 gT_all (hd_2295) rfl pn_RX12 tk_X12_numberAt bo_RX12 xo_RX12 (cto_2 l) ch_2295 cut_nil
/-- RookHustingModel numberAt -/
noncomputable def con_2296 : Con2 := ((yX12_numberAt, cX12_numberAt, 3, (some .long)), (0, 0), ([(6, 0, 0), (0, 1, 0), (0, 8, 0)], gi_1855, [ac_1100, ac_1240], []), [((4, 48, 0), gi_1856, [(false, ac_1100), (false, ac_1240)], [], [1])])
theorem hd_2296 : con_2296.1 = (yX12_numberAt, cX12_numberAt, 3, (some .long)) := rfl
noncomputable def cu_2296 : List CUT2 := []
theorem ch_2296 : staG tb_X12_numberAt 1 bt_RX12 [] ct_2 [] [] cu_2296 11 con_2296 = true := by decide +kernel
theorem vl_2296 (l : Launch) : Vld2 l vwCl gTbl con_2296 := conR_ok3 gT_all (hd_2296) rfl pn_RX12 tk_X12_numberAt bo_RX12 xo_RX12 (cto_2 l) ch_2296 cut_nil
/-- RookHustingModel isSeen -/
noncomputable def gi_2245 : GI := jl_n [gp_775, gp_581]
noncomputable def ac_1293 : AC := .inr (2, jl_n [js_5 60 9223372036854775807 9223372036854775807, js_4 111 60, js_5 120 9223372036854775807 9223372036854775807])
noncomputable def hc_221 : List AC := [ac_1162, ac_1163, ac_1293, am_0]
noncomputable def gi_2246 : GI := jl_n [gp_775, gp_581, jl_z 1]
noncomputable def hq_929 : HP := [(false, ac_1162), (false, ac_1163), (false, ac_1293), (false, am_0)]
noncomputable def con_2297 : Con2 := ((yX12_isSeen, cX12_isSeen, 3, (some .boolean)), (1, 22), ([(6, 0, 0), (0, 1, 0)], gi_2245, hc_221, []), [((0, 0, 0), gi_2246, hq_929, [], [1]), ((0, 1, 0), gi_2246, hq_929, [], [1])])
theorem hd_2297 : con_2297.1 = (yX12_isSeen, cX12_isSeen, 3, (some .boolean)) := rfl
theorem ck_RX12_417_2290 : COK2 RX12 vwCl gTbl 417 0 con_2290 := ⟨wd_2061, wd_137, mh_X12_numberAt, .inr (.inr ⟨rfl, wd_2058, wd_2060, wd_114, ⟨_, rfl, pd_X12_numberAt⟩, 12, _, TX12, 45, rfl, rfl⟩)⟩
theorem ck_RX12_417_2293 : COK2 RX12 vwCl gTbl 417 0 con_2293 := ⟨wd_2061, wd_137, mh_X12_numberAt, .inr (.inr ⟨rfl, wd_2058, wd_2060, wd_114, ⟨_, rfl, pd_X12_numberAt⟩, 12, _, TX12, 45, rfl, rfl⟩)⟩
theorem ck_RX12_417_2296 : COK2 RX12 vwCl gTbl 417 0 con_2296 := ⟨wd_2061, wd_137, mh_X12_numberAt, .inr (.inr ⟨rfl, wd_2058, wd_2060, wd_114, ⟨_, rfl, pd_X12_numberAt⟩, 12, _, TX12, 45, rfl, rfl⟩)⟩
theorem ck_RX12_417_2289 : COK2 RX12 vwCl gTbl 417 0 con_2289 := ⟨wd_2061, wd_137, mh_X12_numberAt, .inr (.inr ⟨rfl, wd_2058, wd_2060, wd_114, ⟨_, rfl, pd_X12_numberAt⟩, 12, _, TX12, 45, rfl, rfl⟩)⟩
theorem ck_RX12_417_2292 : COK2 RX12 vwCl gTbl 417 0 con_2292 := ⟨wd_2061, wd_137, mh_X12_numberAt, .inr (.inr ⟨rfl, wd_2058, wd_2060, wd_114, ⟨_, rfl, pd_X12_numberAt⟩, 12, _, TX12, 45, rfl, rfl⟩)⟩
theorem ck_RX12_417_2295 : COK2 RX12 vwCl gTbl 417 0 con_2295 := ⟨wd_2061, wd_137, mh_X12_numberAt, .inr (.inr ⟨rfl, wd_2058, wd_2060, wd_114, ⟨_, rfl, pd_X12_numberAt⟩, 12, _, TX12, 45, rfl, rfl⟩)⟩
theorem ck_RX12_417_2288 : COK2 RX12 vwCl gTbl 417 0 con_2288 := ⟨wd_2061, wd_137, mh_X12_numberAt, .inr (.inr ⟨rfl, wd_2058, wd_2060, wd_114, ⟨_, rfl, pd_X12_numberAt⟩, 12, _, TX12, 45, rfl, rfl⟩)⟩
theorem ck_RX12_417_2291 : COK2 RX12 vwCl gTbl 417 0 con_2291 := ⟨wd_2061, wd_137, mh_X12_numberAt, .inr (.inr ⟨rfl, wd_2058, wd_2060, wd_114, ⟨_, rfl, pd_X12_numberAt⟩, 12, _, TX12, 45, rfl, rfl⟩)⟩
theorem ck_RX12_417_2294 : COK2 RX12 vwCl gTbl 417 0 con_2294 := ⟨wd_2061, wd_137, mh_X12_numberAt, .inr (.inr ⟨rfl, wd_2058, wd_2060, wd_114, ⟨_, rfl, pd_X12_numberAt⟩, 12, _, TX12, 45, rfl, rfl⟩)⟩
noncomputable def ct_2297 : CTB2 := [(22, 417, 0, con_2294, [0, 2]), (22, 417, 0, con_2291, [0, 2]), (22, 417, 0, con_2288, [0, 2]), (30, 417, 0, con_2295, [0, 2]), (30, 417, 0, con_2292, [0, 2]), (30, 417, 0, con_2289, [0, 2]), (42, 417, 0, con_2296, [0, 2]), (42, 417, 0, con_2293, [0, 2]), (42, 417, 0, con_2290, [0, 2])]
noncomputable def gi_2247 : GI := jl_n [gp_775, gp_581, jl_z 3]
noncomputable def cu_2297 : List CUT2 := [((2, [lq 0 6 0, lq 1 0 1, lq 2 0 0], [], gi_2247, hq_929), [], ([], 9)), ((2, [lq 0 6 0, lq 1 0 1, lq 2 0 3], [], gi_2247, hq_929), [], ([], 6)), ((2, [lq 0 6 0, lq 1 0 1, lq 2 0 6], [], gi_2247, hq_929), [], ([], 3)), ((2, [lq 0 6 0, lq 1 0 1, lq 2 0 9], [], gi_2247, hq_929), [], ([], 0))]
theorem ch_2297 : staG tb_X12_isSeen 1 bt_RX12 [] ct_2297 [] [] cu_2297 37 con_2297 = true := by decide +kernel
theorem cc_2297 : cu_2297.all (cutG tb_X12_isSeen 1 bt_RX12 [] ct_2297 [] [] cu_2297 37 con_2297) = true := by decide +kernel
theorem cto_2297 (l : Launch) : CTOK2 l RX12 vwCl gTbl ct_2297 := ct2_cons (vl_2294 l) ck_RX12_417_2294 (ct2_cons (vl_2291 l) ck_RX12_417_2291 (ct2_cons (vl_2288 l) ck_RX12_417_2288 (ct2_cons (vl_2295 l) ck_RX12_417_2295 (ct2_cons (vl_2292 l) ck_RX12_417_2292 (ct2_cons (vl_2289 l) ck_RX12_417_2289 (ct2_cons (vl_2296 l) ck_RX12_417_2296 (ct2_cons (vl_2293 l) ck_RX12_417_2293 (ct2_cons (vl_2290 l) ck_RX12_417_2290 (ct2_nil)))))))))
theorem vl_2297 (l : Launch) : Vld2 l vwCl gTbl con_2297 := conR_ok3 gT_all (hd_2297) rfl pn_RX12 tk_X12_isSeen bo_RX12 xo_RX12 (cto_2297 l) ch_2297 (cut_all cc_2297)
/-- RookHustingModel numberAt -/
noncomputable def con_2298 : Con2 := ((yX12_numberAt, cX12_numberAt, 3, (some .long)), (0, 0), ([(6, 0, 0), (0, 1, 0), (0, 10, 0)], gi_1851, [ac_1100, ac_1242], []), [((4, 48, 0), gi_1852, [(false, ac_1100), (false, ac_1242)], [], [1])])
theorem hd_2298 : con_2298.1 = (yX12_numberAt, cX12_numberAt, 3, (some .long)) := rfl
noncomputable def cu_2298 : List CUT2 := []
theorem ch_2298 : staG tb_X12_numberAt 1 bt_RX12 [] ct_2 [] [] cu_2298 11 con_2298 = true := by decide +kernel
theorem vl_2298 (l : Launch) : Vld2 l vwCl gTbl con_2298 := conR_ok3 gT_all (hd_2298) rfl pn_RX12 tk_X12_numberAt bo_RX12 xo_RX12 (cto_2 l) ch_2298 cut_nil
/-- RookHustingModel numberAt -/
noncomputable def con_2299 : Con2 := ((yX12_numberAt, cX12_numberAt, 3, (some .long)), (0, 0), ([(6, 0, 0), (0, 1, 0), (0, 9, 0)], gi_1853, [ac_1100, ac_1241], []), [((4, 48, 0), gi_1854, [(false, ac_1100), (false, ac_1241)], [], [1])])
theorem hd_2299 : con_2299.1 = (yX12_numberAt, cX12_numberAt, 3, (some .long)) := rfl
noncomputable def cu_2299 : List CUT2 := []
theorem ch_2299 : staG tb_X12_numberAt 1 bt_RX12 [] ct_2 [] [] cu_2299 11 con_2299 = true := by decide +kernel
theorem vl_2299 (l : Launch) : Vld2 l vwCl gTbl con_2299 := conR_ok3 gT_all (hd_2299) rfl pn_RX12 tk_X12_numberAt bo_RX12 xo_RX12 (cto_2 l) ch_2299 cut_nil
/-- RookHustingModel numberAt -/
noncomputable def con_2300 : Con2 := ((yX12_numberAt, cX12_numberAt, 3, (some .long)), (0, 0), ([(6, 0, 0), (0, 1, 0), (0, 11, 0)], gi_1855, [ac_1100, ac_1243], []), [((4, 48, 0), gi_1856, [(false, ac_1100), (false, ac_1243)], [], [1])])
theorem hd_2300 : con_2300.1 = (yX12_numberAt, cX12_numberAt, 3, (some .long)) := rfl
noncomputable def cu_2300 : List CUT2 := []
theorem ch_2300 : staG tb_X12_numberAt 1 bt_RX12 [] ct_2 [] [] cu_2300 11 con_2300 = true := by decide +kernel
theorem vl_2300 (l : Launch) : Vld2 l vwCl gTbl con_2300 := conR_ok3 gT_all (hd_2300) rfl pn_RX12 tk_X12_numberAt bo_RX12 xo_RX12 (cto_2 l) ch_2300 cut_nil
/-- RookHustingModel numberAt -/
noncomputable def con_2301 : Con2 := ((yX12_numberAt, cX12_numberAt, 3, (some .long)), (0, 0), ([(6, 0, 0), (0, 1, 0), (0, 13, 0)], gi_1851, [ac_1100, ac_1245], []), [((4, 48, 0), gi_1852, [(false, ac_1100), (false, ac_1245)], [], [1])])
theorem hd_2301 : con_2301.1 = (yX12_numberAt, cX12_numberAt, 3, (some .long)) := rfl
noncomputable def cu_2301 : List CUT2 := []
theorem ch_2301 : staG tb_X12_numberAt 1 bt_RX12 [] ct_2 [] [] cu_2301 11 con_2301 = true := by decide +kernel
theorem vl_2301 (l : Launch) : Vld2 l vwCl gTbl con_2301 := conR_ok3 gT_all (hd_2301) rfl pn_RX12 tk_X12_numberAt bo_RX12 xo_RX12 (cto_2 l) ch_2301 cut_nil
/-- RookHustingModel numberAt -/
noncomputable def con_2302 : Con2 := ((yX12_numberAt, cX12_numberAt, 3, (some .long)), (0, 0), ([(6, 0, 0), (0, 1, 0), (0, 12, 0)], gi_1853, [ac_1100, ac_1244], []), [((4, 48, 0), gi_1854, [(false, ac_1100), (false, ac_1244)], [], [1])])
theorem hd_2302 : con_2302.1 = (yX12_numberAt, cX12_numberAt, 3, (some .long)) := rfl
noncomputable def cu_2302 : List CUT2 := []
theorem ch_2302 : staG tb_X12_numberAt 1 bt_RX12 [] ct_2 [] [] cu_2302 11 con_2302 = true := by decide +kernel
theorem vl_2302 (l : Launch) : Vld2 l vwCl gTbl con_2302 := conR_ok3 gT_all (hd_2302) rfl pn_RX12 tk_X12_numberAt bo_RX12 xo_RX12 (cto_2 l) ch_2302 cut_nil
/-- RookHustingModel numberAt -/
noncomputable def con_2303 : Con2 := ((yX12_numberAt, cX12_numberAt, 3, (some .long)), (0, 0), ([(6, 0, 0), (0, 1, 0), (0, 14, 0)], gi_1855, [ac_1100, ac_1246], []), [((4, 48, 0), gi_1856, [(false, ac_1100), (false, ac_1246)], [], [1])])
theorem hd_2303 : con_2303.1 = (yX12_numberAt, cX12_numberAt, 3, (some .long)) := rfl
noncomputable def cu_2303 : List CUT2 := []
theorem ch_2303 : staG tb_X12_numberAt 1 bt_RX12 [] ct_2 [] [] cu_2303 11 con_2303 = true := by decide +kernel
theorem vl_2303 (l : Launch) : Vld2 l vwCl gTbl con_2303 := conR_ok3 gT_all (hd_2303) rfl pn_RX12 tk_X12_numberAt bo_RX12 xo_RX12 (cto_2 l) ch_2303 cut_nil
/-- RookHustingModel numberAt -/
noncomputable def con_2304 : Con2 := ((yX12_numberAt, cX12_numberAt, 3, (some .long)), (0, 0), ([(6, 0, 0), (0, 1, 0), (0, 16, 0)], gi_1851, [ac_1100, ac_1248], []), [((4, 48, 0), gi_1852, [(false, ac_1100), (false, ac_1248)], [], [1])])
theorem hd_2304 : con_2304.1 = (yX12_numberAt, cX12_numberAt, 3, (some .long)) := rfl
noncomputable def cu_2304 : List CUT2 := []
theorem ch_2304 : staG tb_X12_numberAt 1 bt_RX12 [] ct_2 [] [] cu_2304 11 con_2304 = true := by decide +kernel
theorem vl_2304 (l : Launch) : Vld2 l vwCl gTbl con_2304 := conR_ok3 gT_all (hd_2304) rfl pn_RX12 tk_X12_numberAt bo_RX12 xo_RX12 (cto_2 l) ch_2304 cut_nil
/-- RookHustingModel numberAt -/
noncomputable def con_2305 : Con2 := ((yX12_numberAt, cX12_numberAt, 3, (some .long)), (0, 0), ([(6, 0, 0), (0, 1, 0), (0, 15, 0)], gi_1853, [ac_1100, ac_1247], []), [((4, 48, 0), gi_1854, [(false, ac_1100), (false, ac_1247)], [], [1])])
theorem hd_2305 : con_2305.1 = (yX12_numberAt, cX12_numberAt, 3, (some .long)) := rfl
noncomputable def cu_2305 : List CUT2 := []
theorem ch_2305 : staG tb_X12_numberAt 1 bt_RX12 [] ct_2 [] [] cu_2305 11 con_2305 = true := by decide +kernel
theorem vl_2305 (l : Launch) : Vld2 l vwCl gTbl con_2305 := conR_ok3 gT_all (hd_2305) rfl pn_RX12 tk_X12_numberAt bo_RX12 xo_RX12 (cto_2 l) ch_2305 cut_nil
/-- RookHustingModel numberAt -/
noncomputable def con_2306 : Con2 := ((yX12_numberAt, cX12_numberAt, 3, (some .long)), (0, 0), ([(6, 0, 0), (0, 1, 0), (0, 17, 0)], gi_1855, [ac_1100, ac_1249], []), [((4, 48, 0), gi_1856, [(false, ac_1100), (false, ac_1249)], [], [1])])
theorem hd_2306 : con_2306.1 = (yX12_numberAt, cX12_numberAt, 3, (some .long)) := rfl
noncomputable def cu_2306 : List CUT2 := []
theorem ch_2306 : staG tb_X12_numberAt 1 bt_RX12 [] ct_2 [] [] cu_2306 11 con_2306 = true := by decide +kernel
theorem vl_2306 (l : Launch) : Vld2 l vwCl gTbl con_2306 := conR_ok3 gT_all (hd_2306) rfl pn_RX12 tk_X12_numberAt bo_RX12 xo_RX12 (cto_2 l) ch_2306 cut_nil
/-- RookHustingModel numberAt -/
noncomputable def con_2307 : Con2 := ((yX12_numberAt, cX12_numberAt, 3, (some .long)), (0, 0), ([(6, 0, 0), (0, 1, 0), (0, 19, 0)], gi_1851, [ac_1100, ac_1251], []), [((4, 48, 0), gi_1852, [(false, ac_1100), (false, ac_1251)], [], [1])])
theorem hd_2307 : con_2307.1 = (yX12_numberAt, cX12_numberAt, 3, (some .long)) := rfl
noncomputable def cu_2307 : List CUT2 := []
theorem ch_2307 : staG tb_X12_numberAt 1 bt_RX12 [] ct_2 [] [] cu_2307 11 con_2307 = true := by decide +kernel
theorem vl_2307 (l : Launch) : Vld2 l vwCl gTbl con_2307 := conR_ok3 gT_all (hd_2307) rfl pn_RX12 tk_X12_numberAt bo_RX12 xo_RX12 (cto_2 l) ch_2307 cut_nil
/-- RookHustingModel numberAt -/
noncomputable def con_2308 : Con2 := ((yX12_numberAt, cX12_numberAt, 3, (some .long)), (0, 0), ([(6, 0, 0), (0, 1, 0), (0, 18, 0)], gi_1853, [ac_1100, ac_1250], []), [((4, 48, 0), gi_1854, [(false, ac_1100), (false, ac_1250)], [], [1])])
theorem hd_2308 : con_2308.1 = (yX12_numberAt, cX12_numberAt, 3, (some .long)) := rfl
noncomputable def cu_2308 : List CUT2 := []
theorem ch_2308 : staG tb_X12_numberAt 1 bt_RX12 [] ct_2 [] [] cu_2308 11 con_2308 = true := by decide +kernel
theorem vl_2308 (l : Launch) : Vld2 l vwCl gTbl con_2308 := conR_ok3 gT_all (hd_2308) rfl pn_RX12 tk_X12_numberAt bo_RX12 xo_RX12 (cto_2 l) ch_2308 cut_nil
/-- RookHustingModel numberAt -/
noncomputable def con_2309 : Con2 := ((yX12_numberAt, cX12_numberAt, 3, (some .long)), (0, 0), ([(6, 0, 0), (0, 1, 0), (0, 20, 0)], gi_1855, [ac_1100, ac_1252], []), [((4, 48, 0), gi_1856, [(false, ac_1100), (false, ac_1252)], [], [1])])
theorem hd_2309 : con_2309.1 = (yX12_numberAt, cX12_numberAt, 3, (some .long)) := rfl
noncomputable def cu_2309 : List CUT2 := []
theorem ch_2309 : staG tb_X12_numberAt 1 bt_RX12 [] ct_2 [] [] cu_2309 11 con_2309 = true := by decide +kernel
theorem vl_2309 (l : Launch) : Vld2 l vwCl gTbl con_2309 := conR_ok3 gT_all (hd_2309) rfl pn_RX12 tk_X12_numberAt bo_RX12 xo_RX12 (cto_2 l) ch_2309 cut_nil
/-- RookHustingModel numberAt -/
noncomputable def con_2310 : Con2 := ((yX12_numberAt, cX12_numberAt, 3, (some .long)), (0, 0), ([(6, 0, 0), (0, 1, 0), (0, 22, 0)], gi_1851, [ac_1100, ac_1254], []), [((4, 48, 0), gi_1852, [(false, ac_1100), (false, ac_1254)], [], [1])])
theorem hd_2310 : con_2310.1 = (yX12_numberAt, cX12_numberAt, 3, (some .long)) := rfl
noncomputable def cu_2310 : List CUT2 := []
theorem ch_2310 : staG tb_X12_numberAt 1 bt_RX12 [] ct_2 [] [] cu_2310 11 con_2310 = true := by decide +kernel
theorem vl_2310 (l : Launch) : Vld2 l vwCl gTbl con_2310 := conR_ok3 gT_all (hd_2310) rfl pn_RX12 tk_X12_numberAt bo_RX12 xo_RX12 (cto_2 l) ch_2310 cut_nil
/-- RookHustingModel numberAt -/
noncomputable def con_2311 : Con2 := ((yX12_numberAt, cX12_numberAt, 3, (some .long)), (0, 0), ([(6, 0, 0), (0, 1, 0), (0, 21, 0)], gi_1853, [ac_1100, ac_1253], []), [((4, 48, 0), gi_1854, [(false, ac_1100), (false, ac_1253)], [], [1])])
theorem hd_2311 : con_2311.1 = (yX12_numberAt, cX12_numberAt, 3, (some .long)) := rfl
noncomputable def cu_2311 : List CUT2 := []
theorem ch_2311 : staG tb_X12_numberAt 1 bt_RX12 [] ct_2 [] [] cu_2311 11 con_2311 = true := by decide +kernel
theorem vl_2311 (l : Launch) : Vld2 l vwCl gTbl con_2311 := conR_ok3 gT_all (hd_2311) rfl pn_RX12 tk_X12_numberAt bo_RX12 xo_RX12 (cto_2 l) ch_2311 cut_nil
/-- RookHustingModel numberAt -/
noncomputable def con_2312 : Con2 := ((yX12_numberAt, cX12_numberAt, 3, (some .long)), (0, 0), ([(6, 0, 0), (0, 1, 0), (0, 23, 0)], gi_1855, [ac_1100, ac_1255], []), [((4, 48, 0), gi_1856, [(false, ac_1100), (false, ac_1255)], [], [1])])
theorem hd_2312 : con_2312.1 = (yX12_numberAt, cX12_numberAt, 3, (some .long)) := rfl
noncomputable def cu_2312 : List CUT2 := []
theorem ch_2312 : staG tb_X12_numberAt 1 bt_RX12 [] ct_2 [] [] cu_2312 11 con_2312 = true := by decide +kernel
theorem vl_2312 (l : Launch) : Vld2 l vwCl gTbl con_2312 := conR_ok3 gT_all (hd_2312) rfl pn_RX12 tk_X12_numberAt bo_RX12 xo_RX12 (cto_2 l) ch_2312 cut_nil
/-- RookHustingModel numberAt -/
noncomputable def con_2313 : Con2 := ((yX12_numberAt, cX12_numberAt, 3, (some .long)), (0, 0), ([(6, 0, 0), (0, 1, 0), (0, 25, 0)], gi_1851, [ac_1100, ac_1257], []), [((4, 48, 0), gi_1852, [(false, ac_1100), (false, ac_1257)], [], [1])])
theorem hd_2313 : con_2313.1 = (yX12_numberAt, cX12_numberAt, 3, (some .long)) := rfl
noncomputable def cu_2313 : List CUT2 := []
theorem ch_2313 : staG tb_X12_numberAt 1 bt_RX12 [] ct_2 [] [] cu_2313 11 con_2313 = true := by decide +kernel
theorem vl_2313 (l : Launch) : Vld2 l vwCl gTbl con_2313 := conR_ok3 gT_all (hd_2313) rfl pn_RX12 tk_X12_numberAt bo_RX12 xo_RX12 (cto_2 l) ch_2313 cut_nil
/-- RookHustingModel numberAt -/
noncomputable def con_2314 : Con2 := ((yX12_numberAt, cX12_numberAt, 3, (some .long)), (0, 0), ([(6, 0, 0), (0, 1, 0), (0, 24, 0)], gi_1853, [ac_1100, ac_1256], []), [((4, 48, 0), gi_1854, [(false, ac_1100), (false, ac_1256)], [], [1])])
theorem hd_2314 : con_2314.1 = (yX12_numberAt, cX12_numberAt, 3, (some .long)) := rfl
noncomputable def cu_2314 : List CUT2 := []
theorem ch_2314 : staG tb_X12_numberAt 1 bt_RX12 [] ct_2 [] [] cu_2314 11 con_2314 = true := by decide +kernel
theorem vl_2314 (l : Launch) : Vld2 l vwCl gTbl con_2314 := conR_ok3 gT_all (hd_2314) rfl pn_RX12 tk_X12_numberAt bo_RX12 xo_RX12 (cto_2 l) ch_2314 cut_nil
/-- RookHustingModel numberAt -/
noncomputable def con_2315 : Con2 := ((yX12_numberAt, cX12_numberAt, 3, (some .long)), (0, 0), ([(6, 0, 0), (0, 1, 0), (0, 26, 0)], gi_1855, [ac_1100, ac_1258], []), [((4, 48, 0), gi_1856, [(false, ac_1100), (false, ac_1258)], [], [1])])
theorem hd_2315 : con_2315.1 = (yX12_numberAt, cX12_numberAt, 3, (some .long)) := rfl
noncomputable def cu_2315 : List CUT2 := []
theorem ch_2315 : staG tb_X12_numberAt 1 bt_RX12 [] ct_2 [] [] cu_2315 11 con_2315 = true := by decide +kernel
theorem vl_2315 (l : Launch) : Vld2 l vwCl gTbl con_2315 := conR_ok3 gT_all (hd_2315) rfl pn_RX12 tk_X12_numberAt bo_RX12 xo_RX12 (cto_2 l) ch_2315 cut_nil
/-- RookHustingModel numberAt -/
noncomputable def con_2316 : Con2 := ((yX12_numberAt, cX12_numberAt, 3, (some .long)), (0, 0), ([(6, 0, 0), (0, 1, 0), (0, 28, 0)], gi_1851, [ac_1100, ac_1260], []), [((4, 48, 0), gi_1852, [(false, ac_1100), (false, ac_1260)], [], [1])])
theorem hd_2316 : con_2316.1 = (yX12_numberAt, cX12_numberAt, 3, (some .long)) := rfl
noncomputable def cu_2316 : List CUT2 := []
theorem ch_2316 : staG tb_X12_numberAt 1 bt_RX12 [] ct_2 [] [] cu_2316 11 con_2316 = true := by decide +kernel
theorem vl_2316 (l : Launch) : Vld2 l vwCl gTbl con_2316 := conR_ok3 gT_all (hd_2316) rfl pn_RX12 tk_X12_numberAt bo_RX12 xo_RX12 (cto_2 l) ch_2316 cut_nil
/-- RookHustingModel numberAt -/
noncomputable def con_2317 : Con2 := ((yX12_numberAt, cX12_numberAt, 3, (some .long)), (0, 0), ([(6, 0, 0), (0, 1, 0), (0, 27, 0)], gi_1853, [ac_1100, ac_1259], []), [((4, 48, 0), gi_1854, [(false, ac_1100), (false, ac_1259)], [], [1])])
theorem hd_2317 : con_2317.1 = (yX12_numberAt, cX12_numberAt, 3, (some .long)) := rfl
noncomputable def cu_2317 : List CUT2 := []
theorem ch_2317 : staG tb_X12_numberAt 1 bt_RX12 [] ct_2 [] [] cu_2317 11 con_2317 = true := by decide +kernel
theorem vl_2317 (l : Launch) : Vld2 l vwCl gTbl con_2317 := conR_ok3 gT_all (hd_2317) rfl pn_RX12 tk_X12_numberAt bo_RX12 xo_RX12 (cto_2 l) ch_2317 cut_nil
/-- RookHustingModel numberAt -/
noncomputable def con_2318 : Con2 := ((yX12_numberAt, cX12_numberAt, 3, (some .long)), (0, 0), ([(6, 0, 0), (0, 1, 0), (0, 29, 0)], gi_1855, [ac_1100, ac_1261], []), [((4, 48, 0), gi_1856, [(false, ac_1100), (false, ac_1261)], [], [1])])
theorem hd_2318 : con_2318.1 = (yX12_numberAt, cX12_numberAt, 3, (some .long)) := rfl
noncomputable def cu_2318 : List CUT2 := []
theorem ch_2318 : staG tb_X12_numberAt 1 bt_RX12 [] ct_2 [] [] cu_2318 11 con_2318 = true := by decide +kernel
theorem vl_2318 (l : Launch) : Vld2 l vwCl gTbl con_2318 := conR_ok3 gT_all (hd_2318) rfl pn_RX12 tk_X12_numberAt bo_RX12 xo_RX12 (cto_2 l) ch_2318 cut_nil
/-- RookHustingModel numberAt -/
noncomputable def con_2319 : Con2 := ((yX12_numberAt, cX12_numberAt, 3, (some .long)), (0, 0), ([(6, 0, 0), (0, 1, 0), (0, 31, 0)], gi_1851, [ac_1100, ac_1263], []), [((4, 48, 0), gi_1852, [(false, ac_1100), (false, ac_1263)], [], [1])])
theorem hd_2319 : con_2319.1 = (yX12_numberAt, cX12_numberAt, 3, (some .long)) := rfl
noncomputable def cu_2319 : List CUT2 := []
theorem ch_2319 : staG tb_X12_numberAt 1 bt_RX12 [] ct_2 [] [] cu_2319 11 con_2319 = true := by decide +kernel
theorem vl_2319 (l : Launch) : Vld2 l vwCl gTbl con_2319 := conR_ok3 gT_all (hd_2319) rfl pn_RX12 tk_X12_numberAt bo_RX12 xo_RX12 (cto_2 l) ch_2319 cut_nil
/-- RookHustingModel numberAt -/
noncomputable def con_2320 : Con2 := ((yX12_numberAt, cX12_numberAt, 3, (some .long)), (0, 0), ([(6, 0, 0), (0, 1, 0), (0, 30, 0)], gi_1853, [ac_1100, ac_1262], []), [((4, 48, 0), gi_1854, [(false, ac_1100), (false, ac_1262)], [], [1])])
theorem hd_2320 : con_2320.1 = (yX12_numberAt, cX12_numberAt, 3, (some .long)) := rfl
noncomputable def cu_2320 : List CUT2 := []
theorem ch_2320 : staG tb_X12_numberAt 1 bt_RX12 [] ct_2 [] [] cu_2320 11 con_2320 = true := by decide +kernel
theorem vl_2320 (l : Launch) : Vld2 l vwCl gTbl con_2320 := conR_ok3 gT_all (hd_2320) rfl pn_RX12 tk_X12_numberAt bo_RX12 xo_RX12 (cto_2 l) ch_2320 cut_nil
/-- RookHustingModel numberAt -/
noncomputable def con_2321 : Con2 := ((yX12_numberAt, cX12_numberAt, 3, (some .long)), (0, 0), ([(6, 0, 0), (0, 1, 0), (0, 32, 0)], gi_1855, [ac_1100, ac_1264], []), [((4, 48, 0), gi_1856, [(false, ac_1100), (false, ac_1264)], [], [1])])
theorem hd_2321 : con_2321.1 = (yX12_numberAt, cX12_numberAt, 3, (some .long)) := rfl
noncomputable def cu_2321 : List CUT2 := []
theorem ch_2321 : staG tb_X12_numberAt 1 bt_RX12 [] ct_2 [] [] cu_2321 11 con_2321 = true := by decide +kernel
theorem vl_2321 (l : Launch) : Vld2 l vwCl gTbl con_2321 := conR_ok3 gT_all (hd_2321) rfl pn_RX12 tk_X12_numberAt bo_RX12 xo_RX12 (cto_2 l) ch_2321 cut_nil
/-- RookHustingModel numberAt -/
noncomputable def con_2322 : Con2 := ((yX12_numberAt, cX12_numberAt, 3, (some .long)), (0, 0), ([(6, 0, 0), (0, 1, 0), (0, 34, 0)], gi_1851, [ac_1100, ac_1266], []), [((4, 48, 0), gi_1852, [(false, ac_1100), (false, ac_1266)], [], [1])])
theorem hd_2322 : con_2322.1 = (yX12_numberAt, cX12_numberAt, 3, (some .long)) := rfl
noncomputable def cu_2322 : List CUT2 := []
theorem ch_2322 : staG tb_X12_numberAt 1 bt_RX12 [] ct_2 [] [] cu_2322 11 con_2322 = true := by decide +kernel
theorem vl_2322 (l : Launch) : Vld2 l vwCl gTbl con_2322 := conR_ok3 gT_all (hd_2322) rfl pn_RX12 tk_X12_numberAt bo_RX12 xo_RX12 (cto_2 l) ch_2322 cut_nil
/-- RookHustingModel numberAt -/
noncomputable def con_2323 : Con2 := ((yX12_numberAt, cX12_numberAt, 3, (some .long)), (0, 0), ([(6, 0, 0), (0, 1, 0), (0, 33, 0)], gi_1853, [ac_1100, ac_1265], []), [((4, 48, 0), gi_1854, [(false, ac_1100), (false, ac_1265)], [], [1])])
theorem hd_2323 : con_2323.1 = (yX12_numberAt, cX12_numberAt, 3, (some .long)) := rfl
noncomputable def cu_2323 : List CUT2 := []
theorem ch_2323 : staG tb_X12_numberAt 1 bt_RX12 [] ct_2 [] [] cu_2323 11 con_2323 = true := by decide +kernel
theorem vl_2323 (l : Launch) : Vld2 l vwCl gTbl con_2323 := conR_ok3 gT_all (hd_2323) rfl pn_RX12 tk_X12_numberAt bo_RX12 xo_RX12 (cto_2 l) ch_2323 cut_nil
/-- RookHustingModel numberAt -/
noncomputable def con_2324 : Con2 := ((yX12_numberAt, cX12_numberAt, 3, (some .long)), (0, 0), ([(6, 0, 0), (0, 1, 0), (0, 35, 0)], gi_1855, [ac_1100, ac_1267], []), [((4, 48, 0), gi_1856, [(false, ac_1100), (false, ac_1267)], [], [1])])
theorem hd_2324 : con_2324.1 = (yX12_numberAt, cX12_numberAt, 3, (some .long)) := rfl
noncomputable def cu_2324 : List CUT2 := []
theorem ch_2324 : staG tb_X12_numberAt 1 bt_RX12 [] ct_2 [] [] cu_2324 11 con_2324 = true := by decide +kernel
theorem vl_2324 (l : Launch) : Vld2 l vwCl gTbl con_2324 := conR_ok3 gT_all (hd_2324) rfl pn_RX12 tk_X12_numberAt bo_RX12 xo_RX12 (cto_2 l) ch_2324 cut_nil
/-- RookHustingModel numberAt -/
noncomputable def con_2325 : Con2 := ((yX12_numberAt, cX12_numberAt, 3, (some .long)), (0, 0), ([(6, 0, 0), (0, 1, 0), (0, 37, 0)], gi_1851, [ac_1100, ac_1269], []), [((4, 48, 0), gi_1852, [(false, ac_1100), (false, ac_1269)], [], [1])])
theorem hd_2325 : con_2325.1 = (yX12_numberAt, cX12_numberAt, 3, (some .long)) := rfl
noncomputable def cu_2325 : List CUT2 := []
theorem ch_2325 : staG tb_X12_numberAt 1 bt_RX12 [] ct_2 [] [] cu_2325 11 con_2325 = true := by decide +kernel
theorem vl_2325 (l : Launch) : Vld2 l vwCl gTbl con_2325 := conR_ok3 gT_all (hd_2325) rfl pn_RX12 tk_X12_numberAt bo_RX12 xo_RX12 (cto_2 l) ch_2325 cut_nil
/-- RookHustingModel numberAt -/
noncomputable def con_2326 : Con2 := ((yX12_numberAt, cX12_numberAt, 3, (some .long)), (0, 0), ([(6, 0, 0), (0, 1, 0), (0, 36, 0)], gi_1853, [ac_1100, ac_1268], []), [((4, 48, 0), gi_1854, [(false, ac_1100), (false, ac_1268)], [], [1])])
theorem hd_2326 : con_2326.1 = (yX12_numberAt, cX12_numberAt, 3, (some .long)) := rfl
noncomputable def cu_2326 : List CUT2 := []
theorem ch_2326 : staG tb_X12_numberAt 1 bt_RX12 [] ct_2 [] [] cu_2326 11 con_2326 = true := by decide +kernel
theorem vl_2326 (l : Launch) : Vld2 l vwCl gTbl con_2326 := conR_ok3 gT_all (hd_2326) rfl pn_RX12 tk_X12_numberAt bo_RX12 xo_RX12 (cto_2 l) ch_2326 cut_nil
/-- RookHustingModel numberAt -/
noncomputable def con_2327 : Con2 := ((yX12_numberAt, cX12_numberAt, 3, (some .long)), (0, 0), ([(6, 0, 0), (0, 1, 0), (0, 38, 0)], gi_1855, [ac_1100, ac_1270], []), [((4, 48, 0), gi_1856, [(false, ac_1100), (false, ac_1270)], [], [1])])
theorem hd_2327 : con_2327.1 = (yX12_numberAt, cX12_numberAt, 3, (some .long)) := rfl
noncomputable def cu_2327 : List CUT2 := []
theorem ch_2327 : staG tb_X12_numberAt 1 bt_RX12 [] ct_2 [] [] cu_2327 11 con_2327 = true := by decide +kernel
theorem vl_2327 (l : Launch) : Vld2 l vwCl gTbl con_2327 := conR_ok3 gT_all (hd_2327) rfl pn_RX12 tk_X12_numberAt bo_RX12 xo_RX12 (cto_2 l) ch_2327 cut_nil
/-- RookHustingModel numberAt -/
noncomputable def con_2328 : Con2 := ((yX12_numberAt, cX12_numberAt, 3, (some .long)), (0, 0), ([(6, 0, 0), (0, 1, 0), (0, 40, 0)], gi_1851, [ac_1100, ac_1272], []), [((4, 48, 0), gi_1852, [(false, ac_1100), (false, ac_1272)], [], [1])])
theorem hd_2328 : con_2328.1 = (yX12_numberAt, cX12_numberAt, 3, (some .long)) := rfl
noncomputable def cu_2328 : List CUT2 := []
theorem ch_2328 : staG tb_X12_numberAt 1 bt_RX12 [] ct_2 [] [] cu_2328 11 con_2328 = true := by decide +kernel
theorem vl_2328 (l : Launch) : Vld2 l vwCl gTbl con_2328 := conR_ok3 gT_all (hd_2328) rfl pn_RX12 tk_X12_numberAt bo_RX12 xo_RX12 (cto_2 l) ch_2328 cut_nil
/-- RookHustingModel numberAt -/
noncomputable def con_2329 : Con2 := ((yX12_numberAt, cX12_numberAt, 3, (some .long)), (0, 0), ([(6, 0, 0), (0, 1, 0), (0, 39, 0)], gi_1853, [ac_1100, ac_1271], []), [((4, 48, 0), gi_1854, [(false, ac_1100), (false, ac_1271)], [], [1])])
theorem hd_2329 : con_2329.1 = (yX12_numberAt, cX12_numberAt, 3, (some .long)) := rfl
noncomputable def cu_2329 : List CUT2 := []
theorem ch_2329 : staG tb_X12_numberAt 1 bt_RX12 [] ct_2 [] [] cu_2329 11 con_2329 = true := by decide +kernel
theorem vl_2329 (l : Launch) : Vld2 l vwCl gTbl con_2329 := conR_ok3 gT_all (hd_2329) rfl pn_RX12 tk_X12_numberAt bo_RX12 xo_RX12 (cto_2 l) ch_2329 cut_nil
/-- RookHustingModel numberAt -/
noncomputable def con_2330 : Con2 := ((yX12_numberAt, cX12_numberAt, 3, (some .long)), (0, 0), ([(6, 0, 0), (0, 1, 0), (0, 41, 0)], gi_1855, [ac_1100, ac_1273], []), [((4, 48, 0), gi_1856, [(false, ac_1100), (false, ac_1273)], [], [1])])
theorem hd_2330 : con_2330.1 = (yX12_numberAt, cX12_numberAt, 3, (some .long)) := rfl
noncomputable def cu_2330 : List CUT2 := []
theorem ch_2330 : staG tb_X12_numberAt 1 bt_RX12 [] ct_2 [] [] cu_2330 11 con_2330 = true := by decide +kernel
theorem vl_2330 (l : Launch) : Vld2 l vwCl gTbl con_2330 := conR_ok3 gT_all (hd_2330) rfl pn_RX12 tk_X12_numberAt bo_RX12 xo_RX12 (cto_2 l) ch_2330 cut_nil
/-- RookHustingModel numberAt -/
noncomputable def con_2331 : Con2 := ((yX12_numberAt, cX12_numberAt, 3, (some .long)), (0, 0), ([(6, 0, 0), (0, 1, 0), (0, 43, 0)], gi_1851, [ac_1100, ac_1275], []), [((4, 48, 0), gi_1852, [(false, ac_1100), (false, ac_1275)], [], [1])])
theorem hd_2331 : con_2331.1 = (yX12_numberAt, cX12_numberAt, 3, (some .long)) := rfl
noncomputable def cu_2331 : List CUT2 := []
theorem ch_2331 : staG tb_X12_numberAt 1 bt_RX12 [] ct_2 [] [] cu_2331 11 con_2331 = true := by decide +kernel
theorem vl_2331 (l : Launch) : Vld2 l vwCl gTbl con_2331 := conR_ok3 gT_all (hd_2331) rfl pn_RX12 tk_X12_numberAt bo_RX12 xo_RX12 (cto_2 l) ch_2331 cut_nil
/-- RookHustingModel numberAt -/
noncomputable def con_2332 : Con2 := ((yX12_numberAt, cX12_numberAt, 3, (some .long)), (0, 0), ([(6, 0, 0), (0, 1, 0), (0, 42, 0)], gi_1853, [ac_1100, ac_1274], []), [((4, 48, 0), gi_1854, [(false, ac_1100), (false, ac_1274)], [], [1])])
theorem hd_2332 : con_2332.1 = (yX12_numberAt, cX12_numberAt, 3, (some .long)) := rfl
noncomputable def cu_2332 : List CUT2 := []
theorem ch_2332 : staG tb_X12_numberAt 1 bt_RX12 [] ct_2 [] [] cu_2332 11 con_2332 = true := by decide +kernel
theorem vl_2332 (l : Launch) : Vld2 l vwCl gTbl con_2332 := conR_ok3 gT_all (hd_2332) rfl pn_RX12 tk_X12_numberAt bo_RX12 xo_RX12 (cto_2 l) ch_2332 cut_nil
/-- RookHustingModel numberAt -/
noncomputable def con_2333 : Con2 := ((yX12_numberAt, cX12_numberAt, 3, (some .long)), (0, 0), ([(6, 0, 0), (0, 1, 0), (0, 44, 0)], gi_1855, [ac_1100, ac_1276], []), [((4, 48, 0), gi_1856, [(false, ac_1100), (false, ac_1276)], [], [1])])
theorem hd_2333 : con_2333.1 = (yX12_numberAt, cX12_numberAt, 3, (some .long)) := rfl
noncomputable def cu_2333 : List CUT2 := []
theorem ch_2333 : staG tb_X12_numberAt 1 bt_RX12 [] ct_2 [] [] cu_2333 11 con_2333 = true := by decide +kernel
theorem vl_2333 (l : Launch) : Vld2 l vwCl gTbl con_2333 := conR_ok3 gT_all (hd_2333) rfl pn_RX12 tk_X12_numberAt bo_RX12 xo_RX12 (cto_2 l) ch_2333 cut_nil
/-- RookHustingModel numberAt -/
noncomputable def con_2334 : Con2 := ((yX12_numberAt, cX12_numberAt, 3, (some .long)), (0, 0), ([(6, 0, 0), (0, 1, 0), (0, 46, 0)], gi_1851, [ac_1100, ac_1278], []), [((4, 48, 0), gi_1852, [(false, ac_1100), (false, ac_1278)], [], [1])])
theorem hd_2334 : con_2334.1 = (yX12_numberAt, cX12_numberAt, 3, (some .long)) := rfl
noncomputable def cu_2334 : List CUT2 := []
theorem ch_2334 : staG tb_X12_numberAt 1 bt_RX12 [] ct_2 [] [] cu_2334 11 con_2334 = true := by decide +kernel
theorem vl_2334 (l : Launch) : Vld2 l vwCl gTbl con_2334 := conR_ok3 gT_all (hd_2334) rfl pn_RX12 tk_X12_numberAt bo_RX12 xo_RX12 (cto_2 l) ch_2334 cut_nil
/-- RookHustingModel numberAt -/
noncomputable def con_2335 : Con2 := ((yX12_numberAt, cX12_numberAt, 3, (some .long)), (0, 0), ([(6, 0, 0), (0, 1, 0), (0, 45, 0)], gi_1853, [ac_1100, ac_1277], []), [((4, 48, 0), gi_1854, [(false, ac_1100), (false, ac_1277)], [], [1])])
theorem hd_2335 : con_2335.1 = (yX12_numberAt, cX12_numberAt, 3, (some .long)) := rfl
noncomputable def cu_2335 : List CUT2 := []
theorem ch_2335 : staG tb_X12_numberAt 1 bt_RX12 [] ct_2 [] [] cu_2335 11 con_2335 = true := by decide +kernel
theorem vl_2335 (l : Launch) : Vld2 l vwCl gTbl con_2335 := conR_ok3 gT_all (hd_2335) rfl pn_RX12 tk_X12_numberAt bo_RX12 xo_RX12 (cto_2 l) ch_2335 cut_nil
/-- RookHustingModel numberAt -/
noncomputable def con_2336 : Con2 := ((yX12_numberAt, cX12_numberAt, 3, (some .long)), (0, 0), ([(6, 0, 0), (0, 1, 0), (0, 47, 0)], gi_1855, [ac_1100, ac_1279], []), [((4, 48, 0), gi_1856, [(false, ac_1100), (false, ac_1279)], [], [1])])
theorem hd_2336 : con_2336.1 = (yX12_numberAt, cX12_numberAt, 3, (some .long)) := rfl
noncomputable def cu_2336 : List CUT2 := []
theorem ch_2336 : staG tb_X12_numberAt 1 bt_RX12 [] ct_2 [] [] cu_2336 11 con_2336 = true := by decide +kernel
theorem vl_2336 (l : Launch) : Vld2 l vwCl gTbl con_2336 := conR_ok3 gT_all (hd_2336) rfl pn_RX12 tk_X12_numberAt bo_RX12 xo_RX12 (cto_2 l) ch_2336 cut_nil
/-- RookHustingModel numberAt -/
noncomputable def con_2337 : Con2 := ((yX12_numberAt, cX12_numberAt, 3, (some .long)), (0, 0), ([(6, 0, 0), (0, 1, 0), (0, 49, 0)], gi_1851, [ac_1100, ac_1281], []), [((4, 48, 0), gi_1852, [(false, ac_1100), (false, ac_1281)], [], [1])])
theorem hd_2337 : con_2337.1 = (yX12_numberAt, cX12_numberAt, 3, (some .long)) := rfl
noncomputable def cu_2337 : List CUT2 := []
theorem ch_2337 : staG tb_X12_numberAt 1 bt_RX12 [] ct_2 [] [] cu_2337 11 con_2337 = true := by decide +kernel
theorem vl_2337 (l : Launch) : Vld2 l vwCl gTbl con_2337 := conR_ok3 gT_all (hd_2337) rfl pn_RX12 tk_X12_numberAt bo_RX12 xo_RX12 (cto_2 l) ch_2337 cut_nil
/-- RookHustingModel numberAt -/
noncomputable def con_2338 : Con2 := ((yX12_numberAt, cX12_numberAt, 3, (some .long)), (0, 0), ([(6, 0, 0), (0, 1, 0), (0, 48, 0)], gi_1853, [ac_1100, ac_1280], []), [((4, 48, 0), gi_1854, [(false, ac_1100), (false, ac_1280)], [], [1])])
theorem hd_2338 : con_2338.1 = (yX12_numberAt, cX12_numberAt, 3, (some .long)) := rfl
noncomputable def cu_2338 : List CUT2 := []
theorem ch_2338 : staG tb_X12_numberAt 1 bt_RX12 [] ct_2 [] [] cu_2338 11 con_2338 = true := by decide +kernel
theorem vl_2338 (l : Launch) : Vld2 l vwCl gTbl con_2338 := conR_ok3 gT_all (hd_2338) rfl pn_RX12 tk_X12_numberAt bo_RX12 xo_RX12 (cto_2 l) ch_2338 cut_nil
/-- RookHustingModel numberAt -/
noncomputable def con_2339 : Con2 := ((yX12_numberAt, cX12_numberAt, 3, (some .long)), (0, 0), ([(6, 0, 0), (0, 1, 0), (0, 50, 0)], gi_1855, [ac_1100, ac_1282], []), [((4, 48, 0), gi_1856, [(false, ac_1100), (false, ac_1282)], [], [1])])
theorem hd_2339 : con_2339.1 = (yX12_numberAt, cX12_numberAt, 3, (some .long)) := rfl
noncomputable def cu_2339 : List CUT2 := []
theorem ch_2339 : staG tb_X12_numberAt 1 bt_RX12 [] ct_2 [] [] cu_2339 11 con_2339 = true := by decide +kernel
theorem vl_2339 (l : Launch) : Vld2 l vwCl gTbl con_2339 := conR_ok3 gT_all (hd_2339) rfl pn_RX12 tk_X12_numberAt bo_RX12 xo_RX12 (cto_2 l) ch_2339 cut_nil
/-- RookHustingModel numberAt -/
noncomputable def con_2340 : Con2 := ((yX12_numberAt, cX12_numberAt, 3, (some .long)), (0, 0), ([(6, 0, 0), (0, 1, 0), (0, 52, 0)], gi_1851, [ac_1100, ac_1284], []), [((4, 48, 0), gi_1852, [(false, ac_1100), (false, ac_1284)], [], [1])])
theorem hd_2340 : con_2340.1 = (yX12_numberAt, cX12_numberAt, 3, (some .long)) := rfl
noncomputable def cu_2340 : List CUT2 := []
theorem ch_2340 : staG tb_X12_numberAt 1 bt_RX12 [] ct_2 [] [] cu_2340 11 con_2340 = true := by decide +kernel
theorem vl_2340 (l : Launch) : Vld2 l vwCl gTbl con_2340 := conR_ok3 gT_all (hd_2340) rfl pn_RX12 tk_X12_numberAt bo_RX12 xo_RX12 (cto_2 l) ch_2340 cut_nil
/-- RookHustingModel numberAt -/
noncomputable def con_2341 : Con2 := ((yX12_numberAt, cX12_numberAt, 3, (some .long)), (0, 0), ([(6, 0, 0), (0, 1, 0), (0, 51, 0)], gi_1853, [ac_1100, ac_1283], []), [((4, 48, 0), gi_1854, [(false, ac_1100), (false, ac_1283)], [], [1])])
theorem hd_2341 : con_2341.1 = (yX12_numberAt, cX12_numberAt, 3, (some .long)) := rfl
noncomputable def cu_2341 : List CUT2 := []
theorem ch_2341 : staG tb_X12_numberAt 1 bt_RX12 [] ct_2 [] [] cu_2341 11 con_2341 = true := by decide +kernel
theorem vl_2341 (l : Launch) : Vld2 l vwCl gTbl con_2341 := conR_ok3 gT_all (hd_2341) rfl pn_RX12 tk_X12_numberAt bo_RX12 xo_RX12 (cto_2 l) ch_2341 cut_nil
/-- RookHustingModel numberAt -/
noncomputable def con_2342 : Con2 := ((yX12_numberAt, cX12_numberAt, 3, (some .long)), (0, 0), ([(6, 0, 0), (0, 1, 0), (0, 53, 0)], gi_1855, [ac_1100, ac_1285], []), [((4, 48, 0), gi_1856, [(false, ac_1100), (false, ac_1285)], [], [1])])
theorem hd_2342 : con_2342.1 = (yX12_numberAt, cX12_numberAt, 3, (some .long)) := rfl
noncomputable def cu_2342 : List CUT2 := []
theorem ch_2342 : staG tb_X12_numberAt 1 bt_RX12 [] ct_2 [] [] cu_2342 11 con_2342 = true := by decide +kernel
theorem vl_2342 (l : Launch) : Vld2 l vwCl gTbl con_2342 := conR_ok3 gT_all (hd_2342) rfl pn_RX12 tk_X12_numberAt bo_RX12 xo_RX12 (cto_2 l) ch_2342 cut_nil
/-- RookHustingModel numberAt -/
noncomputable def con_2343 : Con2 := ((yX12_numberAt, cX12_numberAt, 3, (some .long)), (0, 0), ([(6, 0, 0), (0, 1, 0), (0, 55, 0)], gi_1851, [ac_1100, ac_1287], []), [((4, 48, 0), gi_1852, [(false, ac_1100), (false, ac_1287)], [], [1])])
theorem hd_2343 : con_2343.1 = (yX12_numberAt, cX12_numberAt, 3, (some .long)) := rfl
noncomputable def cu_2343 : List CUT2 := []
theorem ch_2343 : staG tb_X12_numberAt 1 bt_RX12 [] ct_2 [] [] cu_2343 11 con_2343 = true := by decide +kernel
theorem vl_2343 (l : Launch) : Vld2 l vwCl gTbl con_2343 := conR_ok3 gT_all (hd_2343) rfl pn_RX12 tk_X12_numberAt bo_RX12 xo_RX12 (cto_2 l) ch_2343 cut_nil
/-- RookHustingModel numberAt -/
noncomputable def con_2344 : Con2 := ((yX12_numberAt, cX12_numberAt, 3, (some .long)), (0, 0), ([(6, 0, 0), (0, 1, 0), (0, 54, 0)], gi_1853, [ac_1100, ac_1286], []), [((4, 48, 0), gi_1854, [(false, ac_1100), (false, ac_1286)], [], [1])])
theorem hd_2344 : con_2344.1 = (yX12_numberAt, cX12_numberAt, 3, (some .long)) := rfl
noncomputable def cu_2344 : List CUT2 := []
theorem ch_2344 : staG tb_X12_numberAt 1 bt_RX12 [] ct_2 [] [] cu_2344 11 con_2344 = true := by decide +kernel
theorem vl_2344 (l : Launch) : Vld2 l vwCl gTbl con_2344 := conR_ok3 gT_all (hd_2344) rfl pn_RX12 tk_X12_numberAt bo_RX12 xo_RX12 (cto_2 l) ch_2344 cut_nil
/-- RookHustingModel numberAt -/
noncomputable def con_2345 : Con2 := ((yX12_numberAt, cX12_numberAt, 3, (some .long)), (0, 0), ([(6, 0, 0), (0, 1, 0), (0, 56, 0)], gi_1855, [ac_1100, ac_1288], []), [((4, 48, 0), gi_1856, [(false, ac_1100), (false, ac_1288)], [], [1])])
theorem hd_2345 : con_2345.1 = (yX12_numberAt, cX12_numberAt, 3, (some .long)) := rfl
noncomputable def cu_2345 : List CUT2 := []
theorem ch_2345 : staG tb_X12_numberAt 1 bt_RX12 [] ct_2 [] [] cu_2345 11 con_2345 = true := by decide +kernel
theorem vl_2345 (l : Launch) : Vld2 l vwCl gTbl con_2345 := conR_ok3 gT_all (hd_2345) rfl pn_RX12 tk_X12_numberAt bo_RX12 xo_RX12 (cto_2 l) ch_2345 cut_nil
/-- RookHustingModel numberAt -/
noncomputable def con_2346 : Con2 := ((yX12_numberAt, cX12_numberAt, 3, (some .long)), (0, 0), ([(6, 0, 0), (0, 1, 0), (0, 58, 0)], gi_1851, [ac_1100, ac_1290], []), [((4, 48, 0), gi_1852, [(false, ac_1100), (false, ac_1290)], [], [1])])
theorem hd_2346 : con_2346.1 = (yX12_numberAt, cX12_numberAt, 3, (some .long)) := rfl
noncomputable def cu_2346 : List CUT2 := []
theorem ch_2346 : staG tb_X12_numberAt 1 bt_RX12 [] ct_2 [] [] cu_2346 11 con_2346 = true := by decide +kernel
theorem vl_2346 (l : Launch) : Vld2 l vwCl gTbl con_2346 := conR_ok3 gT_all (hd_2346) rfl pn_RX12 tk_X12_numberAt bo_RX12 xo_RX12 (cto_2 l) ch_2346 cut_nil
/-- RookHustingModel numberAt -/
noncomputable def con_2347 : Con2 := ((yX12_numberAt, cX12_numberAt, 3, (some .long)), (0, 0), ([(6, 0, 0), (0, 1, 0), (0, 57, 0)], gi_1853, [ac_1100, ac_1289], []), [((4, 48, 0), gi_1854, [(false, ac_1100), (false, ac_1289)], [], [1])])
theorem hd_2347 : con_2347.1 = (yX12_numberAt, cX12_numberAt, 3, (some .long)) := rfl
noncomputable def cu_2347 : List CUT2 := []
theorem ch_2347 : staG tb_X12_numberAt 1 bt_RX12 [] ct_2 [] [] cu_2347 11 con_2347 = true := by decide +kernel
theorem vl_2347 (l : Launch) : Vld2 l vwCl gTbl con_2347 := conR_ok3 gT_all (hd_2347) rfl pn_RX12 tk_X12_numberAt bo_RX12 xo_RX12 (cto_2 l) ch_2347 cut_nil
/-- RookHustingModel numberAt -/
noncomputable def con_2348 : Con2 := ((yX12_numberAt, cX12_numberAt, 3, (some .long)), (0, 0), ([(6, 0, 0), (0, 1, 0), (0, 59, 0)], gi_1855, [ac_1100, ac_1291], []), [((4, 48, 0), gi_1856, [(false, ac_1100), (false, ac_1291)], [], [1])])
theorem hd_2348 : con_2348.1 = (yX12_numberAt, cX12_numberAt, 3, (some .long)) := rfl
noncomputable def cu_2348 : List CUT2 := []
theorem ch_2348 : staG tb_X12_numberAt 1 bt_RX12 [] ct_2 [] [] cu_2348 11 con_2348 = true := by decide +kernel
theorem vl_2348 (l : Launch) : Vld2 l vwCl gTbl con_2348 := conR_ok3 gT_all (hd_2348) rfl pn_RX12 tk_X12_numberAt bo_RX12 xo_RX12 (cto_2 l) ch_2348 cut_nil
/-- RookHustingModel isSeen -/
noncomputable def gi_2248 : GI := jl_n [gp_775, gp_579]
noncomputable def gi_2249 : GI := jl_n [gp_775, gp_579, jl_z 1]
noncomputable def con_2349 : Con2 := ((yX12_isSeen, cX12_isSeen, 3, (some .boolean)), (1, 22), ([(6, 0, 0), (0, 1, 0)], gi_2248, hc_221, []), [((0, 0, 0), gi_2249, hq_929, [], [1]), ((0, 1, 0), gi_2249, hq_929, [], [1])])
theorem hd_2349 : con_2349.1 = (yX12_isSeen, cX12_isSeen, 3, (some .boolean)) := rfl
theorem ck_RX12_417_2300 : COK2 RX12 vwCl gTbl 417 0 con_2300 := ⟨wd_2061, wd_137, mh_X12_numberAt, .inr (.inr ⟨rfl, wd_2058, wd_2060, wd_114, ⟨_, rfl, pd_X12_numberAt⟩, 12, _, TX12, 45, rfl, rfl⟩)⟩
theorem ck_RX12_417_2303 : COK2 RX12 vwCl gTbl 417 0 con_2303 := ⟨wd_2061, wd_137, mh_X12_numberAt, .inr (.inr ⟨rfl, wd_2058, wd_2060, wd_114, ⟨_, rfl, pd_X12_numberAt⟩, 12, _, TX12, 45, rfl, rfl⟩)⟩
theorem ck_RX12_417_2306 : COK2 RX12 vwCl gTbl 417 0 con_2306 := ⟨wd_2061, wd_137, mh_X12_numberAt, .inr (.inr ⟨rfl, wd_2058, wd_2060, wd_114, ⟨_, rfl, pd_X12_numberAt⟩, 12, _, TX12, 45, rfl, rfl⟩)⟩
theorem ck_RX12_417_2309 : COK2 RX12 vwCl gTbl 417 0 con_2309 := ⟨wd_2061, wd_137, mh_X12_numberAt, .inr (.inr ⟨rfl, wd_2058, wd_2060, wd_114, ⟨_, rfl, pd_X12_numberAt⟩, 12, _, TX12, 45, rfl, rfl⟩)⟩
theorem ck_RX12_417_2312 : COK2 RX12 vwCl gTbl 417 0 con_2312 := ⟨wd_2061, wd_137, mh_X12_numberAt, .inr (.inr ⟨rfl, wd_2058, wd_2060, wd_114, ⟨_, rfl, pd_X12_numberAt⟩, 12, _, TX12, 45, rfl, rfl⟩)⟩
theorem ck_RX12_417_2315 : COK2 RX12 vwCl gTbl 417 0 con_2315 := ⟨wd_2061, wd_137, mh_X12_numberAt, .inr (.inr ⟨rfl, wd_2058, wd_2060, wd_114, ⟨_, rfl, pd_X12_numberAt⟩, 12, _, TX12, 45, rfl, rfl⟩)⟩
theorem ck_RX12_417_2318 : COK2 RX12 vwCl gTbl 417 0 con_2318 := ⟨wd_2061, wd_137, mh_X12_numberAt, .inr (.inr ⟨rfl, wd_2058, wd_2060, wd_114, ⟨_, rfl, pd_X12_numberAt⟩, 12, _, TX12, 45, rfl, rfl⟩)⟩
theorem ck_RX12_417_2321 : COK2 RX12 vwCl gTbl 417 0 con_2321 := ⟨wd_2061, wd_137, mh_X12_numberAt, .inr (.inr ⟨rfl, wd_2058, wd_2060, wd_114, ⟨_, rfl, pd_X12_numberAt⟩, 12, _, TX12, 45, rfl, rfl⟩)⟩
theorem ck_RX12_417_2324 : COK2 RX12 vwCl gTbl 417 0 con_2324 := ⟨wd_2061, wd_137, mh_X12_numberAt, .inr (.inr ⟨rfl, wd_2058, wd_2060, wd_114, ⟨_, rfl, pd_X12_numberAt⟩, 12, _, TX12, 45, rfl, rfl⟩)⟩
theorem ck_RX12_417_2327 : COK2 RX12 vwCl gTbl 417 0 con_2327 := ⟨wd_2061, wd_137, mh_X12_numberAt, .inr (.inr ⟨rfl, wd_2058, wd_2060, wd_114, ⟨_, rfl, pd_X12_numberAt⟩, 12, _, TX12, 45, rfl, rfl⟩)⟩
theorem ck_RX12_417_2330 : COK2 RX12 vwCl gTbl 417 0 con_2330 := ⟨wd_2061, wd_137, mh_X12_numberAt, .inr (.inr ⟨rfl, wd_2058, wd_2060, wd_114, ⟨_, rfl, pd_X12_numberAt⟩, 12, _, TX12, 45, rfl, rfl⟩)⟩
theorem ck_RX12_417_2333 : COK2 RX12 vwCl gTbl 417 0 con_2333 := ⟨wd_2061, wd_137, mh_X12_numberAt, .inr (.inr ⟨rfl, wd_2058, wd_2060, wd_114, ⟨_, rfl, pd_X12_numberAt⟩, 12, _, TX12, 45, rfl, rfl⟩)⟩
theorem ck_RX12_417_2336 : COK2 RX12 vwCl gTbl 417 0 con_2336 := ⟨wd_2061, wd_137, mh_X12_numberAt, .inr (.inr ⟨rfl, wd_2058, wd_2060, wd_114, ⟨_, rfl, pd_X12_numberAt⟩, 12, _, TX12, 45, rfl, rfl⟩)⟩
theorem ck_RX12_417_2339 : COK2 RX12 vwCl gTbl 417 0 con_2339 := ⟨wd_2061, wd_137, mh_X12_numberAt, .inr (.inr ⟨rfl, wd_2058, wd_2060, wd_114, ⟨_, rfl, pd_X12_numberAt⟩, 12, _, TX12, 45, rfl, rfl⟩)⟩
theorem ck_RX12_417_2342 : COK2 RX12 vwCl gTbl 417 0 con_2342 := ⟨wd_2061, wd_137, mh_X12_numberAt, .inr (.inr ⟨rfl, wd_2058, wd_2060, wd_114, ⟨_, rfl, pd_X12_numberAt⟩, 12, _, TX12, 45, rfl, rfl⟩)⟩
theorem ck_RX12_417_2345 : COK2 RX12 vwCl gTbl 417 0 con_2345 := ⟨wd_2061, wd_137, mh_X12_numberAt, .inr (.inr ⟨rfl, wd_2058, wd_2060, wd_114, ⟨_, rfl, pd_X12_numberAt⟩, 12, _, TX12, 45, rfl, rfl⟩)⟩
theorem ck_RX12_417_2348 : COK2 RX12 vwCl gTbl 417 0 con_2348 := ⟨wd_2061, wd_137, mh_X12_numberAt, .inr (.inr ⟨rfl, wd_2058, wd_2060, wd_114, ⟨_, rfl, pd_X12_numberAt⟩, 12, _, TX12, 45, rfl, rfl⟩)⟩
theorem ck_RX12_417_2299 : COK2 RX12 vwCl gTbl 417 0 con_2299 := ⟨wd_2061, wd_137, mh_X12_numberAt, .inr (.inr ⟨rfl, wd_2058, wd_2060, wd_114, ⟨_, rfl, pd_X12_numberAt⟩, 12, _, TX12, 45, rfl, rfl⟩)⟩
theorem ck_RX12_417_2302 : COK2 RX12 vwCl gTbl 417 0 con_2302 := ⟨wd_2061, wd_137, mh_X12_numberAt, .inr (.inr ⟨rfl, wd_2058, wd_2060, wd_114, ⟨_, rfl, pd_X12_numberAt⟩, 12, _, TX12, 45, rfl, rfl⟩)⟩
theorem ck_RX12_417_2305 : COK2 RX12 vwCl gTbl 417 0 con_2305 := ⟨wd_2061, wd_137, mh_X12_numberAt, .inr (.inr ⟨rfl, wd_2058, wd_2060, wd_114, ⟨_, rfl, pd_X12_numberAt⟩, 12, _, TX12, 45, rfl, rfl⟩)⟩
theorem ck_RX12_417_2308 : COK2 RX12 vwCl gTbl 417 0 con_2308 := ⟨wd_2061, wd_137, mh_X12_numberAt, .inr (.inr ⟨rfl, wd_2058, wd_2060, wd_114, ⟨_, rfl, pd_X12_numberAt⟩, 12, _, TX12, 45, rfl, rfl⟩)⟩
theorem ck_RX12_417_2311 : COK2 RX12 vwCl gTbl 417 0 con_2311 := ⟨wd_2061, wd_137, mh_X12_numberAt, .inr (.inr ⟨rfl, wd_2058, wd_2060, wd_114, ⟨_, rfl, pd_X12_numberAt⟩, 12, _, TX12, 45, rfl, rfl⟩)⟩
theorem ck_RX12_417_2314 : COK2 RX12 vwCl gTbl 417 0 con_2314 := ⟨wd_2061, wd_137, mh_X12_numberAt, .inr (.inr ⟨rfl, wd_2058, wd_2060, wd_114, ⟨_, rfl, pd_X12_numberAt⟩, 12, _, TX12, 45, rfl, rfl⟩)⟩
theorem ck_RX12_417_2317 : COK2 RX12 vwCl gTbl 417 0 con_2317 := ⟨wd_2061, wd_137, mh_X12_numberAt, .inr (.inr ⟨rfl, wd_2058, wd_2060, wd_114, ⟨_, rfl, pd_X12_numberAt⟩, 12, _, TX12, 45, rfl, rfl⟩)⟩
theorem ck_RX12_417_2320 : COK2 RX12 vwCl gTbl 417 0 con_2320 := ⟨wd_2061, wd_137, mh_X12_numberAt, .inr (.inr ⟨rfl, wd_2058, wd_2060, wd_114, ⟨_, rfl, pd_X12_numberAt⟩, 12, _, TX12, 45, rfl, rfl⟩)⟩
theorem ck_RX12_417_2323 : COK2 RX12 vwCl gTbl 417 0 con_2323 := ⟨wd_2061, wd_137, mh_X12_numberAt, .inr (.inr ⟨rfl, wd_2058, wd_2060, wd_114, ⟨_, rfl, pd_X12_numberAt⟩, 12, _, TX12, 45, rfl, rfl⟩)⟩
theorem ck_RX12_417_2326 : COK2 RX12 vwCl gTbl 417 0 con_2326 := ⟨wd_2061, wd_137, mh_X12_numberAt, .inr (.inr ⟨rfl, wd_2058, wd_2060, wd_114, ⟨_, rfl, pd_X12_numberAt⟩, 12, _, TX12, 45, rfl, rfl⟩)⟩
theorem ck_RX12_417_2329 : COK2 RX12 vwCl gTbl 417 0 con_2329 := ⟨wd_2061, wd_137, mh_X12_numberAt, .inr (.inr ⟨rfl, wd_2058, wd_2060, wd_114, ⟨_, rfl, pd_X12_numberAt⟩, 12, _, TX12, 45, rfl, rfl⟩)⟩
theorem ck_RX12_417_2332 : COK2 RX12 vwCl gTbl 417 0 con_2332 := ⟨wd_2061, wd_137, mh_X12_numberAt, .inr (.inr ⟨rfl, wd_2058, wd_2060, wd_114, ⟨_, rfl, pd_X12_numberAt⟩, 12, _, TX12, 45, rfl, rfl⟩)⟩
theorem ck_RX12_417_2335 : COK2 RX12 vwCl gTbl 417 0 con_2335 := ⟨wd_2061, wd_137, mh_X12_numberAt, .inr (.inr ⟨rfl, wd_2058, wd_2060, wd_114, ⟨_, rfl, pd_X12_numberAt⟩, 12, _, TX12, 45, rfl, rfl⟩)⟩
theorem ck_RX12_417_2338 : COK2 RX12 vwCl gTbl 417 0 con_2338 := ⟨wd_2061, wd_137, mh_X12_numberAt, .inr (.inr ⟨rfl, wd_2058, wd_2060, wd_114, ⟨_, rfl, pd_X12_numberAt⟩, 12, _, TX12, 45, rfl, rfl⟩)⟩
theorem ck_RX12_417_2341 : COK2 RX12 vwCl gTbl 417 0 con_2341 := ⟨wd_2061, wd_137, mh_X12_numberAt, .inr (.inr ⟨rfl, wd_2058, wd_2060, wd_114, ⟨_, rfl, pd_X12_numberAt⟩, 12, _, TX12, 45, rfl, rfl⟩)⟩
theorem ck_RX12_417_2344 : COK2 RX12 vwCl gTbl 417 0 con_2344 := ⟨wd_2061, wd_137, mh_X12_numberAt, .inr (.inr ⟨rfl, wd_2058, wd_2060, wd_114, ⟨_, rfl, pd_X12_numberAt⟩, 12, _, TX12, 45, rfl, rfl⟩)⟩
theorem ck_RX12_417_2347 : COK2 RX12 vwCl gTbl 417 0 con_2347 := ⟨wd_2061, wd_137, mh_X12_numberAt, .inr (.inr ⟨rfl, wd_2058, wd_2060, wd_114, ⟨_, rfl, pd_X12_numberAt⟩, 12, _, TX12, 45, rfl, rfl⟩)⟩
theorem ck_RX12_417_2298 : COK2 RX12 vwCl gTbl 417 0 con_2298 := ⟨wd_2061, wd_137, mh_X12_numberAt, .inr (.inr ⟨rfl, wd_2058, wd_2060, wd_114, ⟨_, rfl, pd_X12_numberAt⟩, 12, _, TX12, 45, rfl, rfl⟩)⟩
theorem ck_RX12_417_2301 : COK2 RX12 vwCl gTbl 417 0 con_2301 := ⟨wd_2061, wd_137, mh_X12_numberAt, .inr (.inr ⟨rfl, wd_2058, wd_2060, wd_114, ⟨_, rfl, pd_X12_numberAt⟩, 12, _, TX12, 45, rfl, rfl⟩)⟩
theorem ck_RX12_417_2304 : COK2 RX12 vwCl gTbl 417 0 con_2304 := ⟨wd_2061, wd_137, mh_X12_numberAt, .inr (.inr ⟨rfl, wd_2058, wd_2060, wd_114, ⟨_, rfl, pd_X12_numberAt⟩, 12, _, TX12, 45, rfl, rfl⟩)⟩
theorem ck_RX12_417_2307 : COK2 RX12 vwCl gTbl 417 0 con_2307 := ⟨wd_2061, wd_137, mh_X12_numberAt, .inr (.inr ⟨rfl, wd_2058, wd_2060, wd_114, ⟨_, rfl, pd_X12_numberAt⟩, 12, _, TX12, 45, rfl, rfl⟩)⟩
theorem ck_RX12_417_2310 : COK2 RX12 vwCl gTbl 417 0 con_2310 := ⟨wd_2061, wd_137, mh_X12_numberAt, .inr (.inr ⟨rfl, wd_2058, wd_2060, wd_114, ⟨_, rfl, pd_X12_numberAt⟩, 12, _, TX12, 45, rfl, rfl⟩)⟩
theorem ck_RX12_417_2313 : COK2 RX12 vwCl gTbl 417 0 con_2313 := ⟨wd_2061, wd_137, mh_X12_numberAt, .inr (.inr ⟨rfl, wd_2058, wd_2060, wd_114, ⟨_, rfl, pd_X12_numberAt⟩, 12, _, TX12, 45, rfl, rfl⟩)⟩
theorem ck_RX12_417_2316 : COK2 RX12 vwCl gTbl 417 0 con_2316 := ⟨wd_2061, wd_137, mh_X12_numberAt, .inr (.inr ⟨rfl, wd_2058, wd_2060, wd_114, ⟨_, rfl, pd_X12_numberAt⟩, 12, _, TX12, 45, rfl, rfl⟩)⟩
theorem ck_RX12_417_2319 : COK2 RX12 vwCl gTbl 417 0 con_2319 := ⟨wd_2061, wd_137, mh_X12_numberAt, .inr (.inr ⟨rfl, wd_2058, wd_2060, wd_114, ⟨_, rfl, pd_X12_numberAt⟩, 12, _, TX12, 45, rfl, rfl⟩)⟩
theorem ck_RX12_417_2322 : COK2 RX12 vwCl gTbl 417 0 con_2322 := ⟨wd_2061, wd_137, mh_X12_numberAt, .inr (.inr ⟨rfl, wd_2058, wd_2060, wd_114, ⟨_, rfl, pd_X12_numberAt⟩, 12, _, TX12, 45, rfl, rfl⟩)⟩
theorem ck_RX12_417_2325 : COK2 RX12 vwCl gTbl 417 0 con_2325 := ⟨wd_2061, wd_137, mh_X12_numberAt, .inr (.inr ⟨rfl, wd_2058, wd_2060, wd_114, ⟨_, rfl, pd_X12_numberAt⟩, 12, _, TX12, 45, rfl, rfl⟩)⟩
theorem ck_RX12_417_2328 : COK2 RX12 vwCl gTbl 417 0 con_2328 := ⟨wd_2061, wd_137, mh_X12_numberAt, .inr (.inr ⟨rfl, wd_2058, wd_2060, wd_114, ⟨_, rfl, pd_X12_numberAt⟩, 12, _, TX12, 45, rfl, rfl⟩)⟩
theorem ck_RX12_417_2331 : COK2 RX12 vwCl gTbl 417 0 con_2331 := ⟨wd_2061, wd_137, mh_X12_numberAt, .inr (.inr ⟨rfl, wd_2058, wd_2060, wd_114, ⟨_, rfl, pd_X12_numberAt⟩, 12, _, TX12, 45, rfl, rfl⟩)⟩
theorem ck_RX12_417_2334 : COK2 RX12 vwCl gTbl 417 0 con_2334 := ⟨wd_2061, wd_137, mh_X12_numberAt, .inr (.inr ⟨rfl, wd_2058, wd_2060, wd_114, ⟨_, rfl, pd_X12_numberAt⟩, 12, _, TX12, 45, rfl, rfl⟩)⟩
theorem ck_RX12_417_2337 : COK2 RX12 vwCl gTbl 417 0 con_2337 := ⟨wd_2061, wd_137, mh_X12_numberAt, .inr (.inr ⟨rfl, wd_2058, wd_2060, wd_114, ⟨_, rfl, pd_X12_numberAt⟩, 12, _, TX12, 45, rfl, rfl⟩)⟩
theorem ck_RX12_417_2340 : COK2 RX12 vwCl gTbl 417 0 con_2340 := ⟨wd_2061, wd_137, mh_X12_numberAt, .inr (.inr ⟨rfl, wd_2058, wd_2060, wd_114, ⟨_, rfl, pd_X12_numberAt⟩, 12, _, TX12, 45, rfl, rfl⟩)⟩
theorem ck_RX12_417_2343 : COK2 RX12 vwCl gTbl 417 0 con_2343 := ⟨wd_2061, wd_137, mh_X12_numberAt, .inr (.inr ⟨rfl, wd_2058, wd_2060, wd_114, ⟨_, rfl, pd_X12_numberAt⟩, 12, _, TX12, 45, rfl, rfl⟩)⟩
theorem ck_RX12_417_2346 : COK2 RX12 vwCl gTbl 417 0 con_2346 := ⟨wd_2061, wd_137, mh_X12_numberAt, .inr (.inr ⟨rfl, wd_2058, wd_2060, wd_114, ⟨_, rfl, pd_X12_numberAt⟩, 12, _, TX12, 45, rfl, rfl⟩)⟩
noncomputable def ct_2349 : CTB2 := [(22, 417, 0, con_2346, [0, 2]), (22, 417, 0, con_2343, [0, 2]), (22, 417, 0, con_2340, [0, 2]), (22, 417, 0, con_2337, [0, 2]), (22, 417, 0, con_2334, [0, 2]), (22, 417, 0, con_2331, [0, 2]), (22, 417, 0, con_2328, [0, 2]), (22, 417, 0, con_2325, [0, 2]), (22, 417, 0, con_2322, [0, 2]), (22, 417, 0, con_2319, [0, 2]), (22, 417, 0, con_2316, [0, 2]), (22, 417, 0, con_2313, [0, 2]), (22, 417, 0, con_2310, [0, 2]), (22, 417, 0, con_2307, [0, 2]), (22, 417, 0, con_2304, [0, 2]), (22, 417, 0, con_2301, [0, 2]), (22, 417, 0, con_2298, [0, 2]), (22, 417, 0, con_2294, [0, 2]), (22, 417, 0, con_2291, [0, 2]), (22, 417, 0, con_2288, [0, 2]), (30, 417, 0, con_2347, [0, 2]), (30, 417, 0, con_2344, [0, 2]), (30, 417, 0, con_2341, [0, 2]), (30, 417, 0, con_2338, [0, 2]), (30, 417, 0, con_2335, [0, 2]), (30, 417, 0, con_2332, [0, 2]), (30, 417, 0, con_2329, [0, 2]), (30, 417, 0, con_2326, [0, 2]), (30, 417, 0, con_2323, [0, 2]), (30, 417, 0, con_2320, [0, 2]), (30, 417, 0, con_2317, [0, 2]), (30, 417, 0, con_2314, [0, 2]), (30, 417, 0, con_2311, [0, 2]), (30, 417, 0, con_2308, [0, 2]), (30, 417, 0, con_2305, [0, 2]), (30, 417, 0, con_2302, [0, 2]), (30, 417, 0, con_2299, [0, 2]), (30, 417, 0, con_2295, [0, 2]), (30, 417, 0, con_2292, [0, 2]), (30, 417, 0, con_2289, [0, 2]), (42, 417, 0, con_2348, [0, 2]), (42, 417, 0, con_2345, [0, 2]), (42, 417, 0, con_2342, [0, 2]), (42, 417, 0, con_2339, [0, 2]), (42, 417, 0, con_2336, [0, 2]), (42, 417, 0, con_2333, [0, 2]), (42, 417, 0, con_2330, [0, 2]), (42, 417, 0, con_2327, [0, 2]), (42, 417, 0, con_2324, [0, 2]), (42, 417, 0, con_2321, [0, 2]), (42, 417, 0, con_2318, [0, 2]), (42, 417, 0, con_2315, [0, 2]), (42, 417, 0, con_2312, [0, 2]), (42, 417, 0, con_2309, [0, 2]), (42, 417, 0, con_2306, [0, 2]), (42, 417, 0, con_2303, [0, 2]), (42, 417, 0, con_2300, [0, 2]), (42, 417, 0, con_2296, [0, 2]), (42, 417, 0, con_2293, [0, 2]), (42, 417, 0, con_2290, [0, 2])]
noncomputable def gi_2250 : GI := jl_n [gp_775, gp_579, jl_z 3]
noncomputable def cu_2349_0 : List CUT2 := [((2, [lq 0 6 0, lq 1 0 1, lq 2 0 0], [], gi_2250, hq_929), [], ([], 60)), ((2, [lq 0 6 0, lq 1 0 1, lq 2 0 3], [], gi_2250, hq_929), [], ([], 57)), ((2, [lq 0 6 0, lq 1 0 1, lq 2 0 6], [], gi_2250, hq_929), [], ([], 54)), ((2, [lq 0 6 0, lq 1 0 1, lq 2 0 9], [], gi_2250, hq_929), [], ([], 51)), ((2, [lq 0 6 0, lq 1 0 1, lq 2 0 12], [], gi_2250, hq_929), [], ([], 48)), ((2, [lq 0 6 0, lq 1 0 1, lq 2 0 15], [], gi_2250, hq_929), [], ([], 45)), ((2, [lq 0 6 0, lq 1 0 1, lq 2 0 18], [], gi_2250, hq_929), [], ([], 42)), ((2, [lq 0 6 0, lq 1 0 1, lq 2 0 21], [], gi_2250, hq_929), [], ([], 39)), ((2, [lq 0 6 0, lq 1 0 1, lq 2 0 24], [], gi_2250, hq_929), [], ([], 36)), ((2, [lq 0 6 0, lq 1 0 1, lq 2 0 27], [], gi_2250, hq_929), [], ([], 33)), ((2, [lq 0 6 0, lq 1 0 1, lq 2 0 30], [], gi_2250, hq_929), [], ([], 30)), ((2, [lq 0 6 0, lq 1 0 1, lq 2 0 33], [], gi_2250, hq_929), [], ([], 27)), ((2, [lq 0 6 0, lq 1 0 1, lq 2 0 36], [], gi_2250, hq_929), [], ([], 24)), ((2, [lq 0 6 0, lq 1 0 1, lq 2 0 39], [], gi_2250, hq_929), [], ([], 21)), ((2, [lq 0 6 0, lq 1 0 1, lq 2 0 42], [], gi_2250, hq_929), [], ([], 18)), ((2, [lq 0 6 0, lq 1 0 1, lq 2 0 45], [], gi_2250, hq_929), [], ([], 15)), ((2, [lq 0 6 0, lq 1 0 1, lq 2 0 48], [], gi_2250, hq_929), [], ([], 12)), ((2, [lq 0 6 0, lq 1 0 1, lq 2 0 51], [], gi_2250, hq_929), [], ([], 9))]
noncomputable def cu_2349_1 : List CUT2 := [((2, [lq 0 6 0, lq 1 0 1, lq 2 0 54], [], gi_2250, hq_929), [], ([], 6)), ((2, [lq 0 6 0, lq 1 0 1, lq 2 0 57], [], gi_2250, hq_929), [], ([], 3)), ((2, [lq 0 6 0, lq 1 0 1, lq 2 0 60], [], gi_2250, hq_929), [], ([], 0))]
noncomputable def cu_2349 : List CUT2 := cu_2349_0 ++ (cu_2349_1)
theorem ch_2349 : staG tb_X12_isSeen 1 bt_RX12 [] ct_2349 [] [] cu_2349 37 con_2349 = true := by decide +kernel
theorem cc_2349_0 : cu_2349_0.all (cutG tb_X12_isSeen 1 bt_RX12 [] ct_2349 [] [] cu_2349 37 con_2349) = true := by decide +kernel
theorem cc_2349_1 : cu_2349_1.all (cutG tb_X12_isSeen 1 bt_RX12 [] ct_2349 [] [] cu_2349 37 con_2349) = true := by decide +kernel
theorem cto_2349 (l : Launch) : CTOK2 l RX12 vwCl gTbl ct_2349 := ct2_cons (vl_2346 l) ck_RX12_417_2346 (ct2_cons (vl_2343 l) ck_RX12_417_2343 (ct2_cons (vl_2340 l) ck_RX12_417_2340 (ct2_cons (vl_2337 l) ck_RX12_417_2337 (ct2_cons (vl_2334 l) ck_RX12_417_2334 (ct2_cons (vl_2331 l) ck_RX12_417_2331 (ct2_cons (vl_2328 l) ck_RX12_417_2328 (ct2_cons (vl_2325 l) ck_RX12_417_2325 (ct2_cons (vl_2322 l) ck_RX12_417_2322 (ct2_cons (vl_2319 l) ck_RX12_417_2319 (ct2_cons (vl_2316 l) ck_RX12_417_2316 (ct2_cons (vl_2313 l) ck_RX12_417_2313 (ct2_cons (vl_2310 l) ck_RX12_417_2310 (ct2_cons (vl_2307 l) ck_RX12_417_2307 (ct2_cons (vl_2304 l) ck_RX12_417_2304 (ct2_cons (vl_2301 l) ck_RX12_417_2301 (ct2_cons (vl_2298 l) ck_RX12_417_2298 (ct2_cons (vl_2294 l) ck_RX12_417_2294 (ct2_cons (vl_2291 l) ck_RX12_417_2291 (ct2_cons (vl_2288 l) ck_RX12_417_2288 (ct2_cons (vl_2347 l) ck_RX12_417_2347 (ct2_cons (vl_2344 l) ck_RX12_417_2344 (ct2_cons (vl_2341 l) ck_RX12_417_2341 (ct2_cons (vl_2338 l) ck_RX12_417_2338 (ct2_cons (vl_2335 l) ck_RX12_417_2335 (ct2_cons (vl_2332 l) ck_RX12_417_2332 (ct2_cons (vl_2329 l) ck_RX12_417_2329 (ct2_cons (vl_2326 l) ck_RX12_417_2326 (ct2_cons (vl_2323 l) ck_RX12_417_2323 (ct2_cons (vl_2320 l) ck_RX12_417_2320 (ct2_cons (vl_2317 l) ck_RX12_417_2317 (ct2_cons (vl_2314 l) ck_RX12_417_2314 (ct2_cons (vl_2311 l) ck_RX12_417_2311 (ct2_cons (vl_2308 l) ck_RX12_417_2308 (ct2_cons (vl_2305 l) ck_RX12_417_2305 (ct2_cons (vl_2302 l) ck_RX12_417_2302 (ct2_cons (vl_2299 l) ck_RX12_417_2299 (ct2_cons (vl_2295 l) ck_RX12_417_2295 (ct2_cons (vl_2292 l) ck_RX12_417_2292 (ct2_cons (vl_2289 l) ck_RX12_417_2289 (ct2_cons (vl_2348 l) ck_RX12_417_2348 (ct2_cons (vl_2345 l) ck_RX12_417_2345 (ct2_cons (vl_2342 l) ck_RX12_417_2342 (ct2_cons (vl_2339 l) ck_RX12_417_2339 (ct2_cons (vl_2336 l) ck_RX12_417_2336 (ct2_cons (vl_2333 l) ck_RX12_417_2333 (ct2_cons (vl_2330 l) ck_RX12_417_2330 (ct2_cons (vl_2327 l) ck_RX12_417_2327 (ct2_cons (vl_2324 l) ck_RX12_417_2324 (ct2_cons (vl_2321 l) ck_RX12_417_2321 (ct2_cons (vl_2318 l) ck_RX12_417_2318 (ct2_cons (vl_2315 l) ck_RX12_417_2315 (ct2_cons (vl_2312 l) ck_RX12_417_2312 (ct2_cons (vl_2309 l) ck_RX12_417_2309 (ct2_cons (vl_2306 l) ck_RX12_417_2306 (ct2_cons (vl_2303 l) ck_RX12_417_2303 (ct2_cons (vl_2300 l) ck_RX12_417_2300 (ct2_cons (vl_2296 l) ck_RX12_417_2296 (ct2_cons (vl_2293 l) ck_RX12_417_2293 (ct2_cons (vl_2290 l) ck_RX12_417_2290 (ct2_nil))))))))))))))))))))))))))))))))))))))))))))))))))))))))))))
theorem vl_2349 (l : Launch) : Vld2 l vwCl gTbl con_2349 := conR_ok3 gT_all (hd_2349) rfl pn_RX12 tk_X12_isSeen bo_RX12 xo_RX12 (cto_2349 l) ch_2349 (cut_app (cut_all cc_2349_0) (cut_all cc_2349_1))
/-- RookHustingModel isSeen -/
noncomputable def gi_2251 : GI := jl_n [gp_775, gp_578]
noncomputable def gi_2252 : GI := jl_n [gp_775, gp_578, jl_z 1]
noncomputable def con_2350 : Con2 := ((yX12_isSeen, cX12_isSeen, 3, (some .boolean)), (1, 22), ([(6, 0, 0), (0, 1, 0)], gi_2251, hc_221, []), [((0, 0, 0), gi_2252, hq_929, [], [1]), ((0, 1, 0), gi_2252, hq_929, [], [1])])
theorem hd_2350 : con_2350.1 = (yX12_isSeen, cX12_isSeen, 3, (some .boolean)) := rfl
noncomputable def ct_2350 : CTB2 := [(22, 417, 0, con_2291, [0, 2]), (22, 417, 0, con_2288, [0, 2]), (30, 417, 0, con_2292, [0, 2]), (30, 417, 0, con_2289, [0, 2]), (42, 417, 0, con_2293, [0, 2]), (42, 417, 0, con_2290, [0, 2])]
noncomputable def gi_2253 : GI := jl_n [gp_775, gp_578, jl_z 3]
noncomputable def cu_2350 : List CUT2 := [((2, [lq 0 6 0, lq 1 0 1, lq 2 0 0], [], gi_2253, hq_929), [], ([], 6)), ((2, [lq 0 6 0, lq 1 0 1, lq 2 0 3], [], gi_2253, hq_929), [], ([], 3)), ((2, [lq 0 6 0, lq 1 0 1, lq 2 0 6], [], gi_2253, hq_929), [], ([], 0))]
theorem ch_2350 : staG tb_X12_isSeen 1 bt_RX12 [] ct_2350 [] [] cu_2350 37 con_2350 = true := by decide +kernel
theorem cc_2350 : cu_2350.all (cutG tb_X12_isSeen 1 bt_RX12 [] ct_2350 [] [] cu_2350 37 con_2350) = true := by decide +kernel
theorem cto_2350 (l : Launch) : CTOK2 l RX12 vwCl gTbl ct_2350 := ct2_cons (vl_2291 l) ck_RX12_417_2291 (ct2_cons (vl_2288 l) ck_RX12_417_2288 (ct2_cons (vl_2292 l) ck_RX12_417_2292 (ct2_cons (vl_2289 l) ck_RX12_417_2289 (ct2_cons (vl_2293 l) ck_RX12_417_2293 (ct2_cons (vl_2290 l) ck_RX12_417_2290 (ct2_nil))))))
theorem vl_2350 (l : Launch) : Vld2 l vwCl gTbl con_2350 := conR_ok3 gT_all (hd_2350) rfl pn_RX12 tk_X12_isSeen bo_RX12 xo_RX12 (cto_2350 l) ch_2350 (cut_all cc_2350)
/-- RookHustingModel isSeen -/
noncomputable def gi_2254 : GI := jl_n [gp_775, gp_576]
noncomputable def gi_2255 : GI := jl_n [gp_775, gp_576, jl_z 1]
noncomputable def con_2351 : Con2 := ((yX12_isSeen, cX12_isSeen, 3, (some .boolean)), (1, 22), ([(6, 0, 0), (0, 1, 0)], gi_2254, hc_221, []), [((0, 0, 0), gi_2255, hq_929, [], [1]), ((0, 1, 0), gi_2255, hq_929, [], [1])])
theorem hd_2351 : con_2351.1 = (yX12_isSeen, cX12_isSeen, 3, (some .boolean)) := rfl
noncomputable def ct_2351 : CTB2 := [(22, 417, 0, con_2343, [0, 2]), (22, 417, 0, con_2340, [0, 2]), (22, 417, 0, con_2337, [0, 2]), (22, 417, 0, con_2334, [0, 2]), (22, 417, 0, con_2331, [0, 2]), (22, 417, 0, con_2328, [0, 2]), (22, 417, 0, con_2325, [0, 2]), (22, 417, 0, con_2322, [0, 2]), (22, 417, 0, con_2319, [0, 2]), (22, 417, 0, con_2316, [0, 2]), (22, 417, 0, con_2313, [0, 2]), (22, 417, 0, con_2310, [0, 2]), (22, 417, 0, con_2307, [0, 2]), (22, 417, 0, con_2304, [0, 2]), (22, 417, 0, con_2301, [0, 2]), (22, 417, 0, con_2298, [0, 2]), (22, 417, 0, con_2294, [0, 2]), (22, 417, 0, con_2291, [0, 2]), (22, 417, 0, con_2288, [0, 2]), (30, 417, 0, con_2344, [0, 2]), (30, 417, 0, con_2341, [0, 2]), (30, 417, 0, con_2338, [0, 2]), (30, 417, 0, con_2335, [0, 2]), (30, 417, 0, con_2332, [0, 2]), (30, 417, 0, con_2329, [0, 2]), (30, 417, 0, con_2326, [0, 2]), (30, 417, 0, con_2323, [0, 2]), (30, 417, 0, con_2320, [0, 2]), (30, 417, 0, con_2317, [0, 2]), (30, 417, 0, con_2314, [0, 2]), (30, 417, 0, con_2311, [0, 2]), (30, 417, 0, con_2308, [0, 2]), (30, 417, 0, con_2305, [0, 2]), (30, 417, 0, con_2302, [0, 2]), (30, 417, 0, con_2299, [0, 2]), (30, 417, 0, con_2295, [0, 2]), (30, 417, 0, con_2292, [0, 2]), (30, 417, 0, con_2289, [0, 2]), (42, 417, 0, con_2345, [0, 2]), (42, 417, 0, con_2342, [0, 2]), (42, 417, 0, con_2339, [0, 2]), (42, 417, 0, con_2336, [0, 2]), (42, 417, 0, con_2333, [0, 2]), (42, 417, 0, con_2330, [0, 2]), (42, 417, 0, con_2327, [0, 2]), (42, 417, 0, con_2324, [0, 2]), (42, 417, 0, con_2321, [0, 2]), (42, 417, 0, con_2318, [0, 2]), (42, 417, 0, con_2315, [0, 2]), (42, 417, 0, con_2312, [0, 2]), (42, 417, 0, con_2309, [0, 2]), (42, 417, 0, con_2306, [0, 2]), (42, 417, 0, con_2303, [0, 2]), (42, 417, 0, con_2300, [0, 2]), (42, 417, 0, con_2296, [0, 2]), (42, 417, 0, con_2293, [0, 2]), (42, 417, 0, con_2290, [0, 2])]
noncomputable def gi_2256 : GI := jl_n [gp_775, gp_576, jl_z 3]
noncomputable def cu_2351_0 : List CUT2 := [((2, [lq 0 6 0, lq 1 0 1, lq 2 0 0], [], gi_2256, hq_929), [], ([], 57)), ((2, [lq 0 6 0, lq 1 0 1, lq 2 0 3], [], gi_2256, hq_929), [], ([], 54)), ((2, [lq 0 6 0, lq 1 0 1, lq 2 0 6], [], gi_2256, hq_929), [], ([], 51)), ((2, [lq 0 6 0, lq 1 0 1, lq 2 0 9], [], gi_2256, hq_929), [], ([], 48)), ((2, [lq 0 6 0, lq 1 0 1, lq 2 0 12], [], gi_2256, hq_929), [], ([], 45)), ((2, [lq 0 6 0, lq 1 0 1, lq 2 0 15], [], gi_2256, hq_929), [], ([], 42)), ((2, [lq 0 6 0, lq 1 0 1, lq 2 0 18], [], gi_2256, hq_929), [], ([], 39)), ((2, [lq 0 6 0, lq 1 0 1, lq 2 0 21], [], gi_2256, hq_929), [], ([], 36)), ((2, [lq 0 6 0, lq 1 0 1, lq 2 0 24], [], gi_2256, hq_929), [], ([], 33)), ((2, [lq 0 6 0, lq 1 0 1, lq 2 0 27], [], gi_2256, hq_929), [], ([], 30)), ((2, [lq 0 6 0, lq 1 0 1, lq 2 0 30], [], gi_2256, hq_929), [], ([], 27)), ((2, [lq 0 6 0, lq 1 0 1, lq 2 0 33], [], gi_2256, hq_929), [], ([], 24)), ((2, [lq 0 6 0, lq 1 0 1, lq 2 0 36], [], gi_2256, hq_929), [], ([], 21)), ((2, [lq 0 6 0, lq 1 0 1, lq 2 0 39], [], gi_2256, hq_929), [], ([], 18)), ((2, [lq 0 6 0, lq 1 0 1, lq 2 0 42], [], gi_2256, hq_929), [], ([], 15)), ((2, [lq 0 6 0, lq 1 0 1, lq 2 0 45], [], gi_2256, hq_929), [], ([], 12)), ((2, [lq 0 6 0, lq 1 0 1, lq 2 0 48], [], gi_2256, hq_929), [], ([], 9)), ((2, [lq 0 6 0, lq 1 0 1, lq 2 0 51], [], gi_2256, hq_929), [], ([], 6))]
noncomputable def cu_2351_1 : List CUT2 := [((2, [lq 0 6 0, lq 1 0 1, lq 2 0 54], [], gi_2256, hq_929), [], ([], 3)), ((2, [lq 0 6 0, lq 1 0 1, lq 2 0 57], [], gi_2256, hq_929), [], ([], 0))]
noncomputable def cu_2351 : List CUT2 := cu_2351_0 ++ (cu_2351_1)
theorem ch_2351 : staG tb_X12_isSeen 1 bt_RX12 [] ct_2351 [] [] cu_2351 37 con_2351 = true := by decide +kernel
theorem cc_2351_0 : cu_2351_0.all (cutG tb_X12_isSeen 1 bt_RX12 [] ct_2351 [] [] cu_2351 37 con_2351) = true := by decide +kernel
theorem cc_2351_1 : cu_2351_1.all (cutG tb_X12_isSeen 1 bt_RX12 [] ct_2351 [] [] cu_2351 37 con_2351) = true := by decide +kernel
theorem cto_2351 (l : Launch) : CTOK2 l RX12 vwCl gTbl ct_2351 := ct2_cons (vl_2343 l) ck_RX12_417_2343 (ct2_cons (vl_2340 l) ck_RX12_417_2340 (ct2_cons (vl_2337 l) ck_RX12_417_2337 (ct2_cons (vl_2334 l) ck_RX12_417_2334 (ct2_cons (vl_2331 l) ck_RX12_417_2331 (ct2_cons (vl_2328 l) ck_RX12_417_2328 (ct2_cons (vl_2325 l) ck_RX12_417_2325 (ct2_cons (vl_2322 l) ck_RX12_417_2322 (ct2_cons (vl_2319 l) ck_RX12_417_2319 (ct2_cons (vl_2316 l) ck_RX12_417_2316 (ct2_cons (vl_2313 l) ck_RX12_417_2313 (ct2_cons (vl_2310 l) ck_RX12_417_2310 (ct2_cons (vl_2307 l) ck_RX12_417_2307 (ct2_cons (vl_2304 l) ck_RX12_417_2304 (ct2_cons (vl_2301 l) ck_RX12_417_2301 (ct2_cons (vl_2298 l) ck_RX12_417_2298 (ct2_cons (vl_2294 l) ck_RX12_417_2294 (ct2_cons (vl_2291 l) ck_RX12_417_2291 (ct2_cons (vl_2288 l) ck_RX12_417_2288 (ct2_cons (vl_2344 l) ck_RX12_417_2344 (ct2_cons (vl_2341 l) ck_RX12_417_2341 (ct2_cons (vl_2338 l) ck_RX12_417_2338 (ct2_cons (vl_2335 l) ck_RX12_417_2335 (ct2_cons (vl_2332 l) ck_RX12_417_2332 (ct2_cons (vl_2329 l) ck_RX12_417_2329 (ct2_cons (vl_2326 l) ck_RX12_417_2326 (ct2_cons (vl_2323 l) ck_RX12_417_2323 (ct2_cons (vl_2320 l) ck_RX12_417_2320 (ct2_cons (vl_2317 l) ck_RX12_417_2317 (ct2_cons (vl_2314 l) ck_RX12_417_2314 (ct2_cons (vl_2311 l) ck_RX12_417_2311 (ct2_cons (vl_2308 l) ck_RX12_417_2308 (ct2_cons (vl_2305 l) ck_RX12_417_2305 (ct2_cons (vl_2302 l) ck_RX12_417_2302 (ct2_cons (vl_2299 l) ck_RX12_417_2299 (ct2_cons (vl_2295 l) ck_RX12_417_2295 (ct2_cons (vl_2292 l) ck_RX12_417_2292 (ct2_cons (vl_2289 l) ck_RX12_417_2289 (ct2_cons (vl_2345 l) ck_RX12_417_2345 (ct2_cons (vl_2342 l) ck_RX12_417_2342 (ct2_cons (vl_2339 l) ck_RX12_417_2339 (ct2_cons (vl_2336 l) ck_RX12_417_2336 (ct2_cons (vl_2333 l) ck_RX12_417_2333 (ct2_cons (vl_2330 l) ck_RX12_417_2330 (ct2_cons (vl_2327 l) ck_RX12_417_2327 (ct2_cons (vl_2324 l) ck_RX12_417_2324 (ct2_cons (vl_2321 l) ck_RX12_417_2321 (ct2_cons (vl_2318 l) ck_RX12_417_2318 (ct2_cons (vl_2315 l) ck_RX12_417_2315 (ct2_cons (vl_2312 l) ck_RX12_417_2312 (ct2_cons (vl_2309 l) ck_RX12_417_2309 (ct2_cons (vl_2306 l) ck_RX12_417_2306 (ct2_cons (vl_2303 l) ck_RX12_417_2303 (ct2_cons (vl_2300 l) ck_RX12_417_2300 (ct2_cons (vl_2296 l) ck_RX12_417_2296 (ct2_cons (vl_2293 l) ck_RX12_417_2293 (ct2_cons (vl_2290 l) ck_RX12_417_2290 (ct2_nil)))))))))))))))))))))))))))))))))))))))))))))))))))))))))
theorem vl_2351 (l : Launch) : Vld2 l vwCl gTbl con_2351 := conR_ok3 gT_all (hd_2351) rfl pn_RX12 tk_X12_isSeen bo_RX12 xo_RX12 (cto_2351 l) ch_2351 (cut_app (cut_all cc_2351_0) (cut_all cc_2351_1))
/-- RookHustingModel isSeen -/
noncomputable def gi_2257 : GI := jl_n [gp_775, gp_574]
noncomputable def gi_2258 : GI := jl_n [gp_775, gp_574, jl_z 1]
noncomputable def con_2352 : Con2 := ((yX12_isSeen, cX12_isSeen, 3, (some .boolean)), (1, 22), ([(6, 0, 0), (0, 1, 0)], gi_2257, hc_221, []), [((0, 0, 0), gi_2258, hq_929, [], [1]), ((0, 1, 0), gi_2258, hq_929, [], [1])])
theorem hd_2352 : con_2352.1 = (yX12_isSeen, cX12_isSeen, 3, (some .boolean)) := rfl
noncomputable def ct_2352 : CTB2 := [(22, 417, 0, con_2340, [0, 2]), (22, 417, 0, con_2337, [0, 2]), (22, 417, 0, con_2334, [0, 2]), (22, 417, 0, con_2331, [0, 2]), (22, 417, 0, con_2328, [0, 2]), (22, 417, 0, con_2325, [0, 2]), (22, 417, 0, con_2322, [0, 2]), (22, 417, 0, con_2319, [0, 2]), (22, 417, 0, con_2316, [0, 2]), (22, 417, 0, con_2313, [0, 2]), (22, 417, 0, con_2310, [0, 2]), (22, 417, 0, con_2307, [0, 2]), (22, 417, 0, con_2304, [0, 2]), (22, 417, 0, con_2301, [0, 2]), (22, 417, 0, con_2298, [0, 2]), (22, 417, 0, con_2294, [0, 2]), (22, 417, 0, con_2291, [0, 2]), (22, 417, 0, con_2288, [0, 2]), (30, 417, 0, con_2341, [0, 2]), (30, 417, 0, con_2338, [0, 2]), (30, 417, 0, con_2335, [0, 2]), (30, 417, 0, con_2332, [0, 2]), (30, 417, 0, con_2329, [0, 2]), (30, 417, 0, con_2326, [0, 2]), (30, 417, 0, con_2323, [0, 2]), (30, 417, 0, con_2320, [0, 2]), (30, 417, 0, con_2317, [0, 2]), (30, 417, 0, con_2314, [0, 2]), (30, 417, 0, con_2311, [0, 2]), (30, 417, 0, con_2308, [0, 2]), (30, 417, 0, con_2305, [0, 2]), (30, 417, 0, con_2302, [0, 2]), (30, 417, 0, con_2299, [0, 2]), (30, 417, 0, con_2295, [0, 2]), (30, 417, 0, con_2292, [0, 2]), (30, 417, 0, con_2289, [0, 2]), (42, 417, 0, con_2342, [0, 2]), (42, 417, 0, con_2339, [0, 2]), (42, 417, 0, con_2336, [0, 2]), (42, 417, 0, con_2333, [0, 2]), (42, 417, 0, con_2330, [0, 2]), (42, 417, 0, con_2327, [0, 2]), (42, 417, 0, con_2324, [0, 2]), (42, 417, 0, con_2321, [0, 2]), (42, 417, 0, con_2318, [0, 2]), (42, 417, 0, con_2315, [0, 2]), (42, 417, 0, con_2312, [0, 2]), (42, 417, 0, con_2309, [0, 2]), (42, 417, 0, con_2306, [0, 2]), (42, 417, 0, con_2303, [0, 2]), (42, 417, 0, con_2300, [0, 2]), (42, 417, 0, con_2296, [0, 2]), (42, 417, 0, con_2293, [0, 2]), (42, 417, 0, con_2290, [0, 2])]
noncomputable def gi_2259 : GI := jl_n [gp_775, gp_574, jl_z 3]
noncomputable def cu_2352 : List CUT2 := [((2, [lq 0 6 0, lq 1 0 1, lq 2 0 0], [], gi_2259, hq_929), [], ([], 54)), ((2, [lq 0 6 0, lq 1 0 1, lq 2 0 3], [], gi_2259, hq_929), [], ([], 51)), ((2, [lq 0 6 0, lq 1 0 1, lq 2 0 6], [], gi_2259, hq_929), [], ([], 48)), ((2, [lq 0 6 0, lq 1 0 1, lq 2 0 9], [], gi_2259, hq_929), [], ([], 45)), ((2, [lq 0 6 0, lq 1 0 1, lq 2 0 12], [], gi_2259, hq_929), [], ([], 42)), ((2, [lq 0 6 0, lq 1 0 1, lq 2 0 15], [], gi_2259, hq_929), [], ([], 39)), ((2, [lq 0 6 0, lq 1 0 1, lq 2 0 18], [], gi_2259, hq_929), [], ([], 36)), ((2, [lq 0 6 0, lq 1 0 1, lq 2 0 21], [], gi_2259, hq_929), [], ([], 33)), ((2, [lq 0 6 0, lq 1 0 1, lq 2 0 24], [], gi_2259, hq_929), [], ([], 30)), ((2, [lq 0 6 0, lq 1 0 1, lq 2 0 27], [], gi_2259, hq_929), [], ([], 27)), ((2, [lq 0 6 0, lq 1 0 1, lq 2 0 30], [], gi_2259, hq_929), [], ([], 24)), ((2, [lq 0 6 0, lq 1 0 1, lq 2 0 33], [], gi_2259, hq_929), [], ([], 21)), ((2, [lq 0 6 0, lq 1 0 1, lq 2 0 36], [], gi_2259, hq_929), [], ([], 18)), ((2, [lq 0 6 0, lq 1 0 1, lq 2 0 39], [], gi_2259, hq_929), [], ([], 15)), ((2, [lq 0 6 0, lq 1 0 1, lq 2 0 42], [], gi_2259, hq_929), [], ([], 12)), ((2, [lq 0 6 0, lq 1 0 1, lq 2 0 45], [], gi_2259, hq_929), [], ([], 9)), ((2, [lq 0 6 0, lq 1 0 1, lq 2 0 48], [], gi_2259, hq_929), [], ([], 6)), ((2, [lq 0 6 0, lq 1 0 1, lq 2 0 51], [], gi_2259, hq_929), [], ([], 3)), ((2, [lq 0 6 0, lq 1 0 1, lq 2 0 54], [], gi_2259, hq_929), [], ([], 0))]
theorem ch_2352 : staG tb_X12_isSeen 1 bt_RX12 [] ct_2352 [] [] cu_2352 37 con_2352 = true := by decide +kernel
theorem cc_2352 : cu_2352.all (cutG tb_X12_isSeen 1 bt_RX12 [] ct_2352 [] [] cu_2352 37 con_2352) = true := by decide +kernel
theorem cto_2352 (l : Launch) : CTOK2 l RX12 vwCl gTbl ct_2352 := ct2_cons (vl_2340 l) ck_RX12_417_2340 (ct2_cons (vl_2337 l) ck_RX12_417_2337 (ct2_cons (vl_2334 l) ck_RX12_417_2334 (ct2_cons (vl_2331 l) ck_RX12_417_2331 (ct2_cons (vl_2328 l) ck_RX12_417_2328 (ct2_cons (vl_2325 l) ck_RX12_417_2325 (ct2_cons (vl_2322 l) ck_RX12_417_2322 (ct2_cons (vl_2319 l) ck_RX12_417_2319 (ct2_cons (vl_2316 l) ck_RX12_417_2316 (ct2_cons (vl_2313 l) ck_RX12_417_2313 (ct2_cons (vl_2310 l) ck_RX12_417_2310 (ct2_cons (vl_2307 l) ck_RX12_417_2307 (ct2_cons (vl_2304 l) ck_RX12_417_2304 (ct2_cons (vl_2301 l) ck_RX12_417_2301 (ct2_cons (vl_2298 l) ck_RX12_417_2298 (ct2_cons (vl_2294 l) ck_RX12_417_2294 (ct2_cons (vl_2291 l) ck_RX12_417_2291 (ct2_cons (vl_2288 l) ck_RX12_417_2288 (ct2_cons (vl_2341 l) ck_RX12_417_2341 (ct2_cons (vl_2338 l) ck_RX12_417_2338 (ct2_cons (vl_2335 l) ck_RX12_417_2335 (ct2_cons (vl_2332 l) ck_RX12_417_2332 (ct2_cons (vl_2329 l) ck_RX12_417_2329 (ct2_cons (vl_2326 l) ck_RX12_417_2326 (ct2_cons (vl_2323 l) ck_RX12_417_2323 (ct2_cons (vl_2320 l) ck_RX12_417_2320 (ct2_cons (vl_2317 l) ck_RX12_417_2317 (ct2_cons (vl_2314 l) ck_RX12_417_2314 (ct2_cons (vl_2311 l) ck_RX12_417_2311 (ct2_cons (vl_2308 l) ck_RX12_417_2308 (ct2_cons (vl_2305 l) ck_RX12_417_2305 (ct2_cons (vl_2302 l) ck_RX12_417_2302 (ct2_cons (vl_2299 l) ck_RX12_417_2299 (ct2_cons (vl_2295 l) ck_RX12_417_2295 (ct2_cons (vl_2292 l) ck_RX12_417_2292 (ct2_cons (vl_2289 l) ck_RX12_417_2289 (ct2_cons (vl_2342 l) ck_RX12_417_2342 (ct2_cons (vl_2339 l) ck_RX12_417_2339 (ct2_cons (vl_2336 l) ck_RX12_417_2336 (ct2_cons (vl_2333 l) ck_RX12_417_2333 (ct2_cons (vl_2330 l) ck_RX12_417_2330 (ct2_cons (vl_2327 l) ck_RX12_417_2327 (ct2_cons (vl_2324 l) ck_RX12_417_2324 (ct2_cons (vl_2321 l) ck_RX12_417_2321 (ct2_cons (vl_2318 l) ck_RX12_417_2318 (ct2_cons (vl_2315 l) ck_RX12_417_2315 (ct2_cons (vl_2312 l) ck_RX12_417_2312 (ct2_cons (vl_2309 l) ck_RX12_417_2309 (ct2_cons (vl_2306 l) ck_RX12_417_2306 (ct2_cons (vl_2303 l) ck_RX12_417_2303 (ct2_cons (vl_2300 l) ck_RX12_417_2300 (ct2_cons (vl_2296 l) ck_RX12_417_2296 (ct2_cons (vl_2293 l) ck_RX12_417_2293 (ct2_cons (vl_2290 l) ck_RX12_417_2290 (ct2_nil))))))))))))))))))))))))))))))))))))))))))))))))))))))
theorem vl_2352 (l : Launch) : Vld2 l vwCl gTbl con_2352 := conR_ok3 gT_all (hd_2352) rfl pn_RX12 tk_X12_isSeen bo_RX12 xo_RX12 (cto_2352 l) ch_2352 (cut_all cc_2352)
