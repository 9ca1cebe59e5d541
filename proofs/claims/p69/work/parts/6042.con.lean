/-! ===== contracts, 42 ===== -/
/-- RookHustingModel layMay -/
noncomputable def gi_1799 : GI := jl_n [jl_z 1, jl_i 4 2147483647, jl_t, jl_z 17, jl_i 0 128, jl_z 3, jl_r 2 (jl_t), jl_r 2 (jl_m 0 4), jl_z 11, jl_t, jl_z 8, jl_i 0 16, jl_i 0 3, jl_i 0 10, jl_i 0 5, jl_i 0 8, jl_i 0 5, jl_i 0 7, jl_i 0 30, jl_i 0 2147483647, jl_z 14, jl_r 4 (jl_m 0 60)]
noncomputable def ac_1099 : AC := .inl (12, jl_n [jl_8 4 1, jl_6 2 1, jl_8 18 13, jl_6 6 1, jl_6 5 1, jl_1 21 1, jl_6 9 3, jl_1 28 4, jl_6 12 1, jl_6 11 1, jl_6 10 1, jl_6 15 2, jl_6 13 1, jl_8 38 4, jl_6 16 1, jl_1 40 1, jl_8 44 4, jl_6 3 1, jl_8 46 1, jl_6 4 1, jl_8 48 1])
noncomputable def hc_214 : List AC := [ac_1099, ac_440, ac_1098, ac_807, .inr (1, [(7, (2, 0, 5))]), .inr (1, [(35, (2, 0, 4))]), .inr (1, [(5, (2, (-1), 4))]), .inr (1, [(5, (2, (-1), 4))]), .inr (1, [(5, (2, (-2147483648), 2147483647))]), .inr (1, [(85, (2, (-2147483648), 2147483647))]), .inr (1, [(85, (2, (-2147483648), 2147483647))]), .inr (1, [(85, (2, (-2147483648), 2147483647))]), .inr (1, [(16, (2, (-2147483648), 2147483647))]), .inr (1, [(80, (2, (-2147483648), 2147483647))]), .inr (1, [(80, (2, (-1), 4))]), .inr (1, [(510, (2, (-2147483648), 2147483647))])]
noncomputable def gi_1800 : GI := jl_n [jl_z 1, jl_i 4 2147483647, jl_t, jl_z 17, jl_i 0 128, jl_z 3, jl_r 2 (jl_t), jl_r 2 (jl_m 0 4), jl_z 11, jl_t, jl_z 8, jl_i 0 16, jl_i 0 3, jl_i 0 10, jl_i 0 5, jl_i 0 8, jl_i 0 5, jl_i 0 7, jl_i 0 30, jl_i 0 2147483647, jl_z 14, jl_r 4 (jl_m 0 60), jl_z 1]
noncomputable def hq_913 : HP := [(false, ac_1099), (false, ac_440), (false, ac_1098), (false, ac_807), (false, .inr (1, [(7, (2, 0, 5))])), (false, .inr (1, [(35, (2, 0, 4))])), (false, .inr (1, [(5, (2, (-1), 4))])), (false, .inr (1, [(5, (2, (-1), 4))])), (false, .inr (1, [(5, (2, (-2147483648), 2147483647))])), (false, .inr (1, [(85, (2, (-2147483648), 2147483647))])), (false, .inr (1, [(85, (2, (-2147483648), 2147483647))])), (false, .inr (1, [(85, (2, (-2147483648), 2147483647))])), (false, .inr (1, [(16, (2, (-2147483648), 2147483647))])), (false, .inr (1, [(80, (2, (-2147483648), 2147483647))])), (false, .inr (1, [(80, (2, (-1), 4))])), (false, .inr (1, [(510, (2, (-2147483648), 2147483647))]))]
noncomputable def con_1929 : Con2 := ((yX12_layMay, cX12_layMay, 6, (some .int)), (3, 68), ([(6, 0, 0), (1, 1, 0), (1, 2, 0)], gi_1799, hc_214, []), [((0, (-2), 0), gi_1800, hq_913, [], [1])])
theorem hd_1929 : con_1929.1 = (yX12_layMay, cX12_layMay, 6, (some .int)) := rfl
theorem ck_RX12_423_1928 : COK2 RX12 vwCl gTbl 423 0 con_1928 := ⟨wd_2054, wd_137, mh_X12_askSeen, .inr (.inr ⟨rfl, wd_2051, wd_2053, wd_113, ⟨_, rfl, pd_X12_askSeen⟩, 12, _, TX12, 45, rfl, rfl⟩)⟩
noncomputable def ct_1929 : CTB2 := [(3, 423, 0, con_1928, [0, 1, 2, 3])]
noncomputable def cu_1929 : List CUT2 := []
theorem ch_1929 : staG tb_X12_layMay 1 bt_RX12 [] ct_1929 [] [] cu_1929 11 con_1929 = true := by decide +kernel
theorem cto_1929 (l : Launch) : CTOK2 l RX12 vwCl gTbl ct_1929 := ct2_cons (vl_1928 l) ck_RX12_423_1928 (ct2_nil)
theorem vl_1929 (l : Launch) : Vld2 l vwCl gTbl con_1929 := conR_ok3 gT_all (hd_1929) rfl pn_RX12 tk_X12_layMay bo_RX12 xo_RX12 (cto_1929 l) ch_1929 cut_nil
/-- RookHustingModel isSlot -/
noncomputable def con_1930 : Con2 := ((yX12_isSlot, cX12_isSlot, 1, (some .boolean)), (1, 25), ([(0, 3, 0)], [(0, 0)], [], []), [((0, 0, 0), [(0, 0), (0, 0)], [], [], [1]), ((0, 1, 0), [(0, 0), (0, 0)], [], [], [1])])
theorem hd_1930 : con_1930.1 = (yX12_isSlot, cX12_isSlot, 1, (some .boolean)) := rfl
noncomputable def ct_1930 : CTB2 := [(6, 91, 1, con_332, [])]
noncomputable def cu_1930 : List CUT2 := []
theorem ch_1930 : staG tb_X12_isSlot 1 bt_RX12 [] ct_1930 [] [] cu_1930 8 con_1930 = true := by decide +kernel
theorem cto_1930 (l : Launch) : CTOK2 l RX12 vwCl gTbl ct_1930 := ct2_cons (vl_332 l) ck_RX12_91_332 (ct2_nil)
theorem vl_1930 (l : Launch) : Vld2 l vwCl gTbl con_1930 := conR_ok3 gT_all (hd_1930) rfl pn_RX12 tk_X12_isSlot bo_RX12 xo_RX12 (cto_1930 l) ch_1930 cut_nil
/-- RookHustingModel numberAt -/
noncomputable def gi_1801 : GI := jl_n [jl_z 48, jl_u]
noncomputable def ac_1100 : AC := .inl (12, jl_n [jl_8 46 43, jl_6 2 1, jl_8 48 1])
noncomputable def ac_1101 : AC := .inr (2, jl_n [js_5 180 9223372036854775807 9223372036854775807, js_4 49 1, js_5 59 9223372036854775807 9223372036854775807])
noncomputable def gi_1802 : GI := jl_n [jl_z 48, jl_u, jl_z 1]
noncomputable def con_1931 : Con2 := ((yX12_numberAt, cX12_numberAt, 3, (some .long)), (0, 0), ([(6, 0, 0), (0, 3, 0), (0, 0, 0)], gi_1801, [ac_1100, ac_1101], []), [((4, 48, 0), gi_1802, [(false, ac_1100), (false, ac_1101)], [], [1])])
theorem hd_1931 : con_1931.1 = (yX12_numberAt, cX12_numberAt, 3, (some .long)) := rfl
noncomputable def ct_1931 : CTB2 := []
noncomputable def cu_1931 : List CUT2 := []
theorem ch_1931 : staG tb_X12_numberAt 1 bt_RX12 [] ct_1931 [] [] cu_1931 11 con_1931 = true := by decide +kernel
theorem cto_1931 (l : Launch) : CTOK2 l RX12 vwCl gTbl ct_1931 := ct2_nil
theorem vl_1931 (l : Launch) : Vld2 l vwCl gTbl con_1931 := conR_ok3 gT_all (hd_1931) rfl pn_RX12 tk_X12_numberAt bo_RX12 xo_RX12 (cto_1931 l) ch_1931 cut_nil
/-- RookHustingModel isField -/
noncomputable def gi_1803 : GI := jl_n [jl_z 1, jl_u, jl_z 45, jl_i 0 16, jl_i 0 3, jl_i 0 10, jl_i 0 5, jl_i 0 8, jl_i 0 5, jl_i 0 7, jl_i 0 30, jl_i 0 2147483647, jl_z 14]
noncomputable def gi_1804 : GI := jl_n [jl_z 1, jl_u, jl_z 45, jl_i 0 16, jl_i 0 3, jl_i 0 10, jl_i 0 5, jl_i 0 8, jl_i 0 5, jl_i 0 7, jl_i 0 30, jl_i 0 2147483647, jl_z 15]
noncomputable def con_1932 : Con2 := ((yX12_isField, cX12_isField, 3, (some .boolean)), (1, 25), ([(6, 0, 0), (4, 1, 0)], gi_1803, [ac_437, ac_438], []), [((0, 0, 0), gi_1804, [(false, ac_437), (false, ac_438)], [], [1]), ((0, 1, 0), gi_303, [(false, ac_437), (false, ac_438)], [], [1])])
theorem hd_1932 : con_1932.1 = (yX12_isField, cX12_isField, 3, (some .boolean)) := rfl
noncomputable def ct_1932 : CTB2 := [(3, 106, 0, con_646, [0, 1]), (9, 91, 1, con_384, [])]
noncomputable def cu_1932 : List CUT2 := []
theorem ch_1932 : staG tb_X12_isField 1 bt_RX12 [] ct_1932 [] [] cu_1932 11 con_1932 = true := by decide +kernel
theorem cto_1932 (l : Launch) : CTOK2 l RX12 vwCl gTbl ct_1932 := ct2_cons (vl_646 l) ck_RX12_106_646 (ct2_cons (vl_384 l) ck_RX12_91_384 (ct2_nil))
theorem vl_1932 (l : Launch) : Vld2 l vwCl gTbl con_1932 := conR_ok3 gT_all (hd_1932) rfl pn_RX12 tk_X12_isField bo_RX12 xo_RX12 (cto_1932 l) ch_1932 cut_nil
/-- RookHustingModel numberAt -/
noncomputable def ac_1102 : AC := .inr (2, jl_n [js_5 181 9223372036854775807 9223372036854775807, js_4 49 1, js_5 58 9223372036854775807 9223372036854775807])
noncomputable def con_1933 : Con2 := ((yX12_numberAt, cX12_numberAt, 3, (some .long)), (0, 0), ([(6, 0, 0), (0, 3, 0), (0, 1, 0)], gi_1801, [ac_1100, ac_1102], []), [((4, 48, 0), gi_1802, [(false, ac_1100), (false, ac_1102)], [], [1])])
theorem hd_1933 : con_1933.1 = (yX12_numberAt, cX12_numberAt, 3, (some .long)) := rfl
noncomputable def ct_1933 : CTB2 := []
noncomputable def cu_1933 : List CUT2 := []
theorem ch_1933 : staG tb_X12_numberAt 1 bt_RX12 [] ct_1933 [] [] cu_1933 11 con_1933 = true := by decide +kernel
theorem cto_1933 (l : Launch) : CTOK2 l RX12 vwCl gTbl ct_1933 := ct2_nil
theorem vl_1933 (l : Launch) : Vld2 l vwCl gTbl con_1933 := conR_ok3 gT_all (hd_1933) rfl pn_RX12 tk_X12_numberAt bo_RX12 xo_RX12 (cto_1933 l) ch_1933 cut_nil
/-- RookHustingModel isDay -/
noncomputable def con_1934 : Con2 := ((yX12_isDay, cX12_isDay, 3, (some .boolean)), (1, 25), ([(6, 0, 0), (4, 1, 0)], gi_1803, [ac_437, ac_438], []), [((0, 0, 0), gi_1804, [(false, ac_437), (false, ac_438)], [], [1]), ((0, 1, 0), gi_743, [(false, ac_437), (false, ac_438)], [], [1])])
theorem hd_1934 : con_1934.1 = (yX12_isDay, cX12_isDay, 3, (some .boolean)) := rfl
noncomputable def ct_1934 : CTB2 := [(1, 99, 0, con_673, [0, 1]), (10, 103, 0, con_1100, [0, 1]), (14, 91, 1, con_1110, [])]
noncomputable def cu_1934 : List CUT2 := []
theorem ch_1934 : staG tb_X12_isDay 1 bt_RX12 [] ct_1934 [] [] cu_1934 15 con_1934 = true := by decide +kernel
theorem cto_1934 (l : Launch) : CTOK2 l RX12 vwCl gTbl ct_1934 := ct2_cons (vl_673 l) ck_RX12_99_673 (ct2_cons (vl_1100 l) ck_RX12_103_1100 (ct2_cons (vl_1110 l) ck_RX12_91_1110 (ct2_nil)))
theorem vl_1934 (l : Launch) : Vld2 l vwCl gTbl con_1934 := conR_ok3 gT_all (hd_1934) rfl pn_RX12 tk_X12_isDay bo_RX12 xo_RX12 (cto_1934 l) ch_1934 cut_nil
/-- RookHustingModel numberAt -/
noncomputable def ac_1103 : AC := .inr (2, jl_n [js_5 182 9223372036854775807 9223372036854775807, js_4 49 1, js_5 57 9223372036854775807 9223372036854775807])
noncomputable def con_1935 : Con2 := ((yX12_numberAt, cX12_numberAt, 3, (some .long)), (0, 0), ([(6, 0, 0), (0, 3, 0), (0, 2, 0)], gi_1801, [ac_1100, ac_1103], []), [((4, 48, 0), gi_1802, [(false, ac_1100), (false, ac_1103)], [], [1])])
theorem hd_1935 : con_1935.1 = (yX12_numberAt, cX12_numberAt, 3, (some .long)) := rfl
noncomputable def ct_1935 : CTB2 := []
noncomputable def cu_1935 : List CUT2 := []
theorem ch_1935 : staG tb_X12_numberAt 1 bt_RX12 [] ct_1935 [] [] cu_1935 11 con_1935 = true := by decide +kernel
theorem cto_1935 (l : Launch) : CTOK2 l RX12 vwCl gTbl ct_1935 := ct2_nil
theorem vl_1935 (l : Launch) : Vld2 l vwCl gTbl con_1935 := conR_ok3 gT_all (hd_1935) rfl pn_RX12 tk_X12_numberAt bo_RX12 xo_RX12 (cto_1935 l) ch_1935 cut_nil
/-- RookHustingModel in -/
noncomputable def con_1936 : Con2 := ((yX12_in, cX12_in, 6, (some .boolean)), (0, 0), ([(4, 0, 0), (3, 0, 0), (3, 250, 0)], gi_146, [], []), [((0, 0, 0), gi_147, [], [], [1]), ((0, 1, 0), [(0, 250), (0, 0), (0, 0), (0, 0)], [], [], [1])])
theorem hd_1936 : con_1936.1 = (yX12_in, cX12_in, 6, (some .boolean)) := rfl
noncomputable def ct_1936 : CTB2 := []
noncomputable def cu_1936 : List CUT2 := []
theorem ch_1936 : staG tb_X12_in 1 bt_RX12 [] ct_1936 [] [] cu_1936 11 con_1936 = true := by decide +kernel
theorem cto_1936 (l : Launch) : CTOK2 l RX12 vwCl gTbl ct_1936 := ct2_nil
theorem vl_1936 (l : Launch) : Vld2 l vwCl gTbl con_1936 := conR_ok3 gT_all (hd_1936) rfl pn_RX12 tk_X12_in bo_RX12 xo_RX12 (cto_1936 l) ch_1936 cut_nil
/-- RookHustingModel numberAt -/
noncomputable def ac_1104 : AC := .inr (2, jl_n [js_5 183 9223372036854775807 9223372036854775807, js_4 49 1, js_5 56 9223372036854775807 9223372036854775807])
noncomputable def con_1937 : Con2 := ((yX12_numberAt, cX12_numberAt, 3, (some .long)), (0, 0), ([(6, 0, 0), (0, 3, 0), (0, 3, 0)], gi_1801, [ac_1100, ac_1104], []), [((4, 48, 0), gi_1802, [(false, ac_1100), (false, ac_1104)], [], [1])])
theorem hd_1937 : con_1937.1 = (yX12_numberAt, cX12_numberAt, 3, (some .long)) := rfl
noncomputable def ct_1937 : CTB2 := []
noncomputable def cu_1937 : List CUT2 := []
theorem ch_1937 : staG tb_X12_numberAt 1 bt_RX12 [] ct_1937 [] [] cu_1937 11 con_1937 = true := by decide +kernel
theorem cto_1937 (l : Launch) : CTOK2 l RX12 vwCl gTbl ct_1937 := ct2_nil
theorem vl_1937 (l : Launch) : Vld2 l vwCl gTbl con_1937 := conR_ok3 gT_all (hd_1937) rfl pn_RX12 tk_X12_numberAt bo_RX12 xo_RX12 (cto_1937 l) ch_1937 cut_nil
/-- RookHustingModel numberAt -/
noncomputable def ac_1105 : AC := .inr (2, jl_n [js_5 184 9223372036854775807 9223372036854775807, js_4 49 1, js_5 55 9223372036854775807 9223372036854775807])
noncomputable def con_1938 : Con2 := ((yX12_numberAt, cX12_numberAt, 3, (some .long)), (0, 0), ([(6, 0, 0), (0, 3, 0), (0, 4, 0)], gi_1801, [ac_1100, ac_1105], []), [((4, 48, 0), gi_1802, [(false, ac_1100), (false, ac_1105)], [], [1])])
theorem hd_1938 : con_1938.1 = (yX12_numberAt, cX12_numberAt, 3, (some .long)) := rfl
noncomputable def ct_1938 : CTB2 := []
noncomputable def cu_1938 : List CUT2 := []
theorem ch_1938 : staG tb_X12_numberAt 1 bt_RX12 [] ct_1938 [] [] cu_1938 11 con_1938 = true := by decide +kernel
theorem cto_1938 (l : Launch) : CTOK2 l RX12 vwCl gTbl ct_1938 := ct2_nil
theorem vl_1938 (l : Launch) : Vld2 l vwCl gTbl con_1938 := conR_ok3 gT_all (hd_1938) rfl pn_RX12 tk_X12_numberAt bo_RX12 xo_RX12 (cto_1938 l) ch_1938 cut_nil
/-- RookHustingModel numberAt -/
noncomputable def ac_1106 : AC := .inr (2, jl_n [js_5 185 9223372036854775807 9223372036854775807, js_4 49 1, js_5 54 9223372036854775807 9223372036854775807])
noncomputable def con_1939 : Con2 := ((yX12_numberAt, cX12_numberAt, 3, (some .long)), (0, 0), ([(6, 0, 0), (0, 3, 0), (0, 5, 0)], gi_1801, [ac_1100, ac_1106], []), [((4, 48, 0), gi_1802, [(false, ac_1100), (false, ac_1106)], [], [1])])
theorem hd_1939 : con_1939.1 = (yX12_numberAt, cX12_numberAt, 3, (some .long)) := rfl
noncomputable def ct_1939 : CTB2 := []
noncomputable def cu_1939 : List CUT2 := []
theorem ch_1939 : staG tb_X12_numberAt 1 bt_RX12 [] ct_1939 [] [] cu_1939 11 con_1939 = true := by decide +kernel
theorem cto_1939 (l : Launch) : CTOK2 l RX12 vwCl gTbl ct_1939 := ct2_nil
theorem vl_1939 (l : Launch) : Vld2 l vwCl gTbl con_1939 := conR_ok3 gT_all (hd_1939) rfl pn_RX12 tk_X12_numberAt bo_RX12 xo_RX12 (cto_1939 l) ch_1939 cut_nil
/-- RookHustingModel numberAt -/
noncomputable def ac_1107 : AC := .inr (2, jl_n [js_5 186 9223372036854775807 9223372036854775807, js_4 49 1, js_5 53 9223372036854775807 9223372036854775807])
noncomputable def con_1940 : Con2 := ((yX12_numberAt, cX12_numberAt, 3, (some .long)), (0, 0), ([(6, 0, 0), (0, 3, 0), (0, 6, 0)], gi_1801, [ac_1100, ac_1107], []), [((4, 48, 0), gi_1802, [(false, ac_1100), (false, ac_1107)], [], [1])])
theorem hd_1940 : con_1940.1 = (yX12_numberAt, cX12_numberAt, 3, (some .long)) := rfl
noncomputable def ct_1940 : CTB2 := []
noncomputable def cu_1940 : List CUT2 := []
theorem ch_1940 : staG tb_X12_numberAt 1 bt_RX12 [] ct_1940 [] [] cu_1940 11 con_1940 = true := by decide +kernel
theorem cto_1940 (l : Launch) : CTOK2 l RX12 vwCl gTbl ct_1940 := ct2_nil
theorem vl_1940 (l : Launch) : Vld2 l vwCl gTbl con_1940 := conR_ok3 gT_all (hd_1940) rfl pn_RX12 tk_X12_numberAt bo_RX12 xo_RX12 (cto_1940 l) ch_1940 cut_nil
/-- RookHustingModel numberAt -/
noncomputable def ac_1108 : AC := .inr (2, jl_n [js_5 187 9223372036854775807 9223372036854775807, js_4 49 1, js_5 52 9223372036854775807 9223372036854775807])
noncomputable def con_1941 : Con2 := ((yX12_numberAt, cX12_numberAt, 3, (some .long)), (0, 0), ([(6, 0, 0), (0, 3, 0), (0, 7, 0)], gi_1801, [ac_1100, ac_1108], []), [((4, 48, 0), gi_1802, [(false, ac_1100), (false, ac_1108)], [], [1])])
theorem hd_1941 : con_1941.1 = (yX12_numberAt, cX12_numberAt, 3, (some .long)) := rfl
noncomputable def ct_1941 : CTB2 := []
noncomputable def cu_1941 : List CUT2 := []
theorem ch_1941 : staG tb_X12_numberAt 1 bt_RX12 [] ct_1941 [] [] cu_1941 11 con_1941 = true := by decide +kernel
theorem cto_1941 (l : Launch) : CTOK2 l RX12 vwCl gTbl ct_1941 := ct2_nil
theorem vl_1941 (l : Launch) : Vld2 l vwCl gTbl con_1941 := conR_ok3 gT_all (hd_1941) rfl pn_RX12 tk_X12_numberAt bo_RX12 xo_RX12 (cto_1941 l) ch_1941 cut_nil
/-- RookHustingModel numberAt -/
noncomputable def ac_1109 : AC := .inr (2, jl_n [js_5 188 9223372036854775807 9223372036854775807, js_4 49 1, js_5 51 9223372036854775807 9223372036854775807])
noncomputable def con_1942 : Con2 := ((yX12_numberAt, cX12_numberAt, 3, (some .long)), (0, 0), ([(6, 0, 0), (0, 3, 0), (0, 8, 0)], gi_1801, [ac_1100, ac_1109], []), [((4, 48, 0), gi_1802, [(false, ac_1100), (false, ac_1109)], [], [1])])
theorem hd_1942 : con_1942.1 = (yX12_numberAt, cX12_numberAt, 3, (some .long)) := rfl
noncomputable def ct_1942 : CTB2 := []
noncomputable def cu_1942 : List CUT2 := []
theorem ch_1942 : staG tb_X12_numberAt 1 bt_RX12 [] ct_1942 [] [] cu_1942 11 con_1942 = true := by decide +kernel
theorem cto_1942 (l : Launch) : CTOK2 l RX12 vwCl gTbl ct_1942 := ct2_nil
theorem vl_1942 (l : Launch) : Vld2 l vwCl gTbl con_1942 := conR_ok3 gT_all (hd_1942) rfl pn_RX12 tk_X12_numberAt bo_RX12 xo_RX12 (cto_1942 l) ch_1942 cut_nil
/-- RookHustingModel numberAt -/
noncomputable def ac_1110 : AC := .inr (2, jl_n [js_5 189 9223372036854775807 9223372036854775807, js_4 49 1, js_5 50 9223372036854775807 9223372036854775807])
noncomputable def con_1943 : Con2 := ((yX12_numberAt, cX12_numberAt, 3, (some .long)), (0, 0), ([(6, 0, 0), (0, 3, 0), (0, 9, 0)], gi_1801, [ac_1100, ac_1110], []), [((4, 48, 0), gi_1802, [(false, ac_1100), (false, ac_1110)], [], [1])])
theorem hd_1943 : con_1943.1 = (yX12_numberAt, cX12_numberAt, 3, (some .long)) := rfl
noncomputable def ct_1943 : CTB2 := []
noncomputable def cu_1943 : List CUT2 := []
theorem ch_1943 : staG tb_X12_numberAt 1 bt_RX12 [] ct_1943 [] [] cu_1943 11 con_1943 = true := by decide +kernel
theorem cto_1943 (l : Launch) : CTOK2 l RX12 vwCl gTbl ct_1943 := ct2_nil
theorem vl_1943 (l : Launch) : Vld2 l vwCl gTbl con_1943 := conR_ok3 gT_all (hd_1943) rfl pn_RX12 tk_X12_numberAt bo_RX12 xo_RX12 (cto_1943 l) ch_1943 cut_nil
/-- RookHustingModel numberAt -/
noncomputable def ac_1111 : AC := .inr (2, jl_n [js_5 190 9223372036854775807 9223372036854775807, js_4 49 1, js_5 49 9223372036854775807 9223372036854775807])
noncomputable def con_1944 : Con2 := ((yX12_numberAt, cX12_numberAt, 3, (some .long)), (0, 0), ([(6, 0, 0), (0, 3, 0), (0, 10, 0)], gi_1801, [ac_1100, ac_1111], []), [((4, 48, 0), gi_1802, [(false, ac_1100), (false, ac_1111)], [], [1])])
theorem hd_1944 : con_1944.1 = (yX12_numberAt, cX12_numberAt, 3, (some .long)) := rfl
noncomputable def ct_1944 : CTB2 := []
noncomputable def cu_1944 : List CUT2 := []
theorem ch_1944 : staG tb_X12_numberAt 1 bt_RX12 [] ct_1944 [] [] cu_1944 11 con_1944 = true := by decide +kernel
theorem cto_1944 (l : Launch) : CTOK2 l RX12 vwCl gTbl ct_1944 := ct2_nil
theorem vl_1944 (l : Launch) : Vld2 l vwCl gTbl con_1944 := conR_ok3 gT_all (hd_1944) rfl pn_RX12 tk_X12_numberAt bo_RX12 xo_RX12 (cto_1944 l) ch_1944 cut_nil
/-- RookHustingModel numberAt -/
noncomputable def ac_1112 : AC := .inr (2, jl_n [js_5 191 9223372036854775807 9223372036854775807, js_4 49 1, js_5 48 9223372036854775807 9223372036854775807])
noncomputable def con_1945 : Con2 := ((yX12_numberAt, cX12_numberAt, 3, (some .long)), (0, 0), ([(6, 0, 0), (0, 3, 0), (0, 11, 0)], gi_1801, [ac_1100, ac_1112], []), [((4, 48, 0), gi_1802, [(false, ac_1100), (false, ac_1112)], [], [1])])
theorem hd_1945 : con_1945.1 = (yX12_numberAt, cX12_numberAt, 3, (some .long)) := rfl
noncomputable def ct_1945 : CTB2 := []
noncomputable def cu_1945 : List CUT2 := []
theorem ch_1945 : staG tb_X12_numberAt 1 bt_RX12 [] ct_1945 [] [] cu_1945 11 con_1945 = true := by decide +kernel
theorem cto_1945 (l : Launch) : CTOK2 l RX12 vwCl gTbl ct_1945 := ct2_nil
theorem vl_1945 (l : Launch) : Vld2 l vwCl gTbl con_1945 := conR_ok3 gT_all (hd_1945) rfl pn_RX12 tk_X12_numberAt bo_RX12 xo_RX12 (cto_1945 l) ch_1945 cut_nil
/-- RookHustingModel numberAt -/
noncomputable def ac_1113 : AC := .inr (2, jl_n [js_5 192 9223372036854775807 9223372036854775807, js_4 49 1, js_5 47 9223372036854775807 9223372036854775807])
noncomputable def con_1946 : Con2 := ((yX12_numberAt, cX12_numberAt, 3, (some .long)), (0, 0), ([(6, 0, 0), (0, 3, 0), (0, 12, 0)], gi_1801, [ac_1100, ac_1113], []), [((4, 48, 0), gi_1802, [(false, ac_1100), (false, ac_1113)], [], [1])])
theorem hd_1946 : con_1946.1 = (yX12_numberAt, cX12_numberAt, 3, (some .long)) := rfl
noncomputable def ct_1946 : CTB2 := []
noncomputable def cu_1946 : List CUT2 := []
theorem ch_1946 : staG tb_X12_numberAt 1 bt_RX12 [] ct_1946 [] [] cu_1946 11 con_1946 = true := by decide +kernel
theorem cto_1946 (l : Launch) : CTOK2 l RX12 vwCl gTbl ct_1946 := ct2_nil
theorem vl_1946 (l : Launch) : Vld2 l vwCl gTbl con_1946 := conR_ok3 gT_all (hd_1946) rfl pn_RX12 tk_X12_numberAt bo_RX12 xo_RX12 (cto_1946 l) ch_1946 cut_nil
/-- RookHustingModel numberAt -/
noncomputable def ac_1114 : AC := .inr (2, jl_n [js_5 193 9223372036854775807 9223372036854775807, js_4 49 1, js_5 46 9223372036854775807 9223372036854775807])
noncomputable def con_1947 : Con2 := ((yX12_numberAt, cX12_numberAt, 3, (some .long)), (0, 0), ([(6, 0, 0), (0, 3, 0), (0, 13, 0)], gi_1801, [ac_1100, ac_1114], []), [((4, 48, 0), gi_1802, [(false, ac_1100), (false, ac_1114)], [], [1])])
theorem hd_1947 : con_1947.1 = (yX12_numberAt, cX12_numberAt, 3, (some .long)) := rfl
noncomputable def ct_1947 : CTB2 := []
noncomputable def cu_1947 : List CUT2 := []
theorem ch_1947 : staG tb_X12_numberAt 1 bt_RX12 [] ct_1947 [] [] cu_1947 11 con_1947 = true := by decide +kernel
theorem cto_1947 (l : Launch) : CTOK2 l RX12 vwCl gTbl ct_1947 := ct2_nil
theorem vl_1947 (l : Launch) : Vld2 l vwCl gTbl con_1947 := conR_ok3 gT_all (hd_1947) rfl pn_RX12 tk_X12_numberAt bo_RX12 xo_RX12 (cto_1947 l) ch_1947 cut_nil
/-- RookHustingModel numberAt -/
noncomputable def ac_1115 : AC := .inr (2, jl_n [js_5 194 9223372036854775807 9223372036854775807, js_4 49 1, js_5 45 9223372036854775807 9223372036854775807])
noncomputable def con_1948 : Con2 := ((yX12_numberAt, cX12_numberAt, 3, (some .long)), (0, 0), ([(6, 0, 0), (0, 3, 0), (0, 14, 0)], gi_1801, [ac_1100, ac_1115], []), [((4, 48, 0), gi_1802, [(false, ac_1100), (false, ac_1115)], [], [1])])
theorem hd_1948 : con_1948.1 = (yX12_numberAt, cX12_numberAt, 3, (some .long)) := rfl
noncomputable def ct_1948 : CTB2 := []
noncomputable def cu_1948 : List CUT2 := []
theorem ch_1948 : staG tb_X12_numberAt 1 bt_RX12 [] ct_1948 [] [] cu_1948 11 con_1948 = true := by decide +kernel
theorem cto_1948 (l : Launch) : CTOK2 l RX12 vwCl gTbl ct_1948 := ct2_nil
theorem vl_1948 (l : Launch) : Vld2 l vwCl gTbl con_1948 := conR_ok3 gT_all (hd_1948) rfl pn_RX12 tk_X12_numberAt bo_RX12 xo_RX12 (cto_1948 l) ch_1948 cut_nil
/-- RookHustingModel numberAt -/
noncomputable def ac_1116 : AC := .inr (2, jl_n [js_5 195 9223372036854775807 9223372036854775807, js_4 49 1, js_5 44 9223372036854775807 9223372036854775807])
noncomputable def con_1949 : Con2 := ((yX12_numberAt, cX12_numberAt, 3, (some .long)), (0, 0), ([(6, 0, 0), (0, 3, 0), (0, 15, 0)], gi_1801, [ac_1100, ac_1116], []), [((4, 48, 0), gi_1802, [(false, ac_1100), (false, ac_1116)], [], [1])])
theorem hd_1949 : con_1949.1 = (yX12_numberAt, cX12_numberAt, 3, (some .long)) := rfl
noncomputable def ct_1949 : CTB2 := []
noncomputable def cu_1949 : List CUT2 := []
theorem ch_1949 : staG tb_X12_numberAt 1 bt_RX12 [] ct_1949 [] [] cu_1949 11 con_1949 = true := by decide +kernel
theorem cto_1949 (l : Launch) : CTOK2 l RX12 vwCl gTbl ct_1949 := ct2_nil
theorem vl_1949 (l : Launch) : Vld2 l vwCl gTbl con_1949 := conR_ok3 gT_all (hd_1949) rfl pn_RX12 tk_X12_numberAt bo_RX12 xo_RX12 (cto_1949 l) ch_1949 cut_nil
/-- RookHustingModel numberAt -/
noncomputable def ac_1117 : AC := .inr (2, jl_n [js_5 196 9223372036854775807 9223372036854775807, js_4 49 1, js_5 43 9223372036854775807 9223372036854775807])
noncomputable def con_1950 : Con2 := ((yX12_numberAt, cX12_numberAt, 3, (some .long)), (0, 0), ([(6, 0, 0), (0, 3, 0), (0, 16, 0)], gi_1801, [ac_1100, ac_1117], []), [((4, 48, 0), gi_1802, [(false, ac_1100), (false, ac_1117)], [], [1])])
theorem hd_1950 : con_1950.1 = (yX12_numberAt, cX12_numberAt, 3, (some .long)) := rfl
noncomputable def ct_1950 : CTB2 := []
noncomputable def cu_1950 : List CUT2 := []
theorem ch_1950 : staG tb_X12_numberAt 1 bt_RX12 [] ct_1950 [] [] cu_1950 11 con_1950 = true := by decide +kernel
theorem cto_1950 (l : Launch) : CTOK2 l RX12 vwCl gTbl ct_1950 := ct2_nil
theorem vl_1950 (l : Launch) : Vld2 l vwCl gTbl con_1950 := conR_ok3 gT_all (hd_1950) rfl pn_RX12 tk_X12_numberAt bo_RX12 xo_RX12 (cto_1950 l) ch_1950 cut_nil
/-- RookHustingModel numberAt -/
noncomputable def ac_1118 : AC := .inr (2, jl_n [js_5 197 9223372036854775807 9223372036854775807, js_4 49 1, js_5 42 9223372036854775807 9223372036854775807])
noncomputable def con_1951 : Con2 := ((yX12_numberAt, cX12_numberAt, 3, (some .long)), (0, 0), ([(6, 0, 0), (0, 3, 0), (0, 17, 0)], gi_1801, [ac_1100, ac_1118], []), [((4, 48, 0), gi_1802, [(false, ac_1100), (false, ac_1118)], [], [1])])
theorem hd_1951 : con_1951.1 = (yX12_numberAt, cX12_numberAt, 3, (some .long)) := rfl
noncomputable def ct_1951 : CTB2 := []
noncomputable def cu_1951 : List CUT2 := []
theorem ch_1951 : staG tb_X12_numberAt 1 bt_RX12 [] ct_1951 [] [] cu_1951 11 con_1951 = true := by decide +kernel
theorem cto_1951 (l : Launch) : CTOK2 l RX12 vwCl gTbl ct_1951 := ct2_nil
theorem vl_1951 (l : Launch) : Vld2 l vwCl gTbl con_1951 := conR_ok3 gT_all (hd_1951) rfl pn_RX12 tk_X12_numberAt bo_RX12 xo_RX12 (cto_1951 l) ch_1951 cut_nil
/-- RookHustingModel numberAt -/
noncomputable def ac_1119 : AC := .inr (2, jl_n [js_5 198 9223372036854775807 9223372036854775807, js_4 49 1, js_5 41 9223372036854775807 9223372036854775807])
noncomputable def con_1952 : Con2 := ((yX12_numberAt, cX12_numberAt, 3, (some .long)), (0, 0), ([(6, 0, 0), (0, 3, 0), (0, 18, 0)], gi_1801, [ac_1100, ac_1119], []), [((4, 48, 0), gi_1802, [(false, ac_1100), (false, ac_1119)], [], [1])])
theorem hd_1952 : con_1952.1 = (yX12_numberAt, cX12_numberAt, 3, (some .long)) := rfl
noncomputable def ct_1952 : CTB2 := []
noncomputable def cu_1952 : List CUT2 := []
theorem ch_1952 : staG tb_X12_numberAt 1 bt_RX12 [] ct_1952 [] [] cu_1952 11 con_1952 = true := by decide +kernel
theorem cto_1952 (l : Launch) : CTOK2 l RX12 vwCl gTbl ct_1952 := ct2_nil
theorem vl_1952 (l : Launch) : Vld2 l vwCl gTbl con_1952 := conR_ok3 gT_all (hd_1952) rfl pn_RX12 tk_X12_numberAt bo_RX12 xo_RX12 (cto_1952 l) ch_1952 cut_nil
/-- RookHustingModel numberAt -/
noncomputable def ac_1120 : AC := .inr (2, jl_n [js_5 199 9223372036854775807 9223372036854775807, js_4 49 1, js_5 40 9223372036854775807 9223372036854775807])
noncomputable def con_1953 : Con2 := ((yX12_numberAt, cX12_numberAt, 3, (some .long)), (0, 0), ([(6, 0, 0), (0, 3, 0), (0, 19, 0)], gi_1801, [ac_1100, ac_1120], []), [((4, 48, 0), gi_1802, [(false, ac_1100), (false, ac_1120)], [], [1])])
theorem hd_1953 : con_1953.1 = (yX12_numberAt, cX12_numberAt, 3, (some .long)) := rfl
noncomputable def ct_1953 : CTB2 := []
noncomputable def cu_1953 : List CUT2 := []
theorem ch_1953 : staG tb_X12_numberAt 1 bt_RX12 [] ct_1953 [] [] cu_1953 11 con_1953 = true := by decide +kernel
theorem cto_1953 (l : Launch) : CTOK2 l RX12 vwCl gTbl ct_1953 := ct2_nil
theorem vl_1953 (l : Launch) : Vld2 l vwCl gTbl con_1953 := conR_ok3 gT_all (hd_1953) rfl pn_RX12 tk_X12_numberAt bo_RX12 xo_RX12 (cto_1953 l) ch_1953 cut_nil
/-- RookHustingModel numberAt -/
noncomputable def ac_1121 : AC := .inr (2, jl_n [js_5 200 9223372036854775807 9223372036854775807, js_4 49 1, js_5 39 9223372036854775807 9223372036854775807])
noncomputable def con_1954 : Con2 := ((yX12_numberAt, cX12_numberAt, 3, (some .long)), (0, 0), ([(6, 0, 0), (0, 3, 0), (0, 20, 0)], gi_1801, [ac_1100, ac_1121], []), [((4, 48, 0), gi_1802, [(false, ac_1100), (false, ac_1121)], [], [1])])
theorem hd_1954 : con_1954.1 = (yX12_numberAt, cX12_numberAt, 3, (some .long)) := rfl
noncomputable def ct_1954 : CTB2 := []
noncomputable def cu_1954 : List CUT2 := []
theorem ch_1954 : staG tb_X12_numberAt 1 bt_RX12 [] ct_1954 [] [] cu_1954 11 con_1954 = true := by decide +kernel
theorem cto_1954 (l : Launch) : CTOK2 l RX12 vwCl gTbl ct_1954 := ct2_nil
theorem vl_1954 (l : Launch) : Vld2 l vwCl gTbl con_1954 := conR_ok3 gT_all (hd_1954) rfl pn_RX12 tk_X12_numberAt bo_RX12 xo_RX12 (cto_1954 l) ch_1954 cut_nil
/-- RookHustingModel numberAt -/
noncomputable def ac_1122 : AC := .inr (2, jl_n [js_5 201 9223372036854775807 9223372036854775807, js_4 49 1, js_5 38 9223372036854775807 9223372036854775807])
noncomputable def con_1955 : Con2 := ((yX12_numberAt, cX12_numberAt, 3, (some .long)), (0, 0), ([(6, 0, 0), (0, 3, 0), (0, 21, 0)], gi_1801, [ac_1100, ac_1122], []), [((4, 48, 0), gi_1802, [(false, ac_1100), (false, ac_1122)], [], [1])])
theorem hd_1955 : con_1955.1 = (yX12_numberAt, cX12_numberAt, 3, (some .long)) := rfl
noncomputable def ct_1955 : CTB2 := []
noncomputable def cu_1955 : List CUT2 := []
theorem ch_1955 : staG tb_X12_numberAt 1 bt_RX12 [] ct_1955 [] [] cu_1955 11 con_1955 = true := by decide +kernel
theorem cto_1955 (l : Launch) : CTOK2 l RX12 vwCl gTbl ct_1955 := ct2_nil
theorem vl_1955 (l : Launch) : Vld2 l vwCl gTbl con_1955 := conR_ok3 gT_all (hd_1955) rfl pn_RX12 tk_X12_numberAt bo_RX12 xo_RX12 (cto_1955 l) ch_1955 cut_nil
/-- RookHustingModel numberAt -/
noncomputable def ac_1123 : AC := .inr (2, jl_n [js_5 202 9223372036854775807 9223372036854775807, js_4 49 1, js_5 37 9223372036854775807 9223372036854775807])
noncomputable def con_1956 : Con2 := ((yX12_numberAt, cX12_numberAt, 3, (some .long)), (0, 0), ([(6, 0, 0), (0, 3, 0), (0, 22, 0)], gi_1801, [ac_1100, ac_1123], []), [((4, 48, 0), gi_1802, [(false, ac_1100), (false, ac_1123)], [], [1])])
theorem hd_1956 : con_1956.1 = (yX12_numberAt, cX12_numberAt, 3, (some .long)) := rfl
noncomputable def ct_1956 : CTB2 := []
noncomputable def cu_1956 : List CUT2 := []
theorem ch_1956 : staG tb_X12_numberAt 1 bt_RX12 [] ct_1956 [] [] cu_1956 11 con_1956 = true := by decide +kernel
theorem cto_1956 (l : Launch) : CTOK2 l RX12 vwCl gTbl ct_1956 := ct2_nil
theorem vl_1956 (l : Launch) : Vld2 l vwCl gTbl con_1956 := conR_ok3 gT_all (hd_1956) rfl pn_RX12 tk_X12_numberAt bo_RX12 xo_RX12 (cto_1956 l) ch_1956 cut_nil
/-- RookHustingModel numberAt -/
noncomputable def ac_1124 : AC := .inr (2, jl_n [js_5 203 9223372036854775807 9223372036854775807, js_4 49 1, js_5 36 9223372036854775807 9223372036854775807])
noncomputable def con_1957 : Con2 := ((yX12_numberAt, cX12_numberAt, 3, (some .long)), (0, 0), ([(6, 0, 0), (0, 3, 0), (0, 23, 0)], gi_1801, [ac_1100, ac_1124], []), [((4, 48, 0), gi_1802, [(false, ac_1100), (false, ac_1124)], [], [1])])
theorem hd_1957 : con_1957.1 = (yX12_numberAt, cX12_numberAt, 3, (some .long)) := rfl
noncomputable def ct_1957 : CTB2 := []
noncomputable def cu_1957 : List CUT2 := []
theorem ch_1957 : staG tb_X12_numberAt 1 bt_RX12 [] ct_1957 [] [] cu_1957 11 con_1957 = true := by decide +kernel
theorem cto_1957 (l : Launch) : CTOK2 l RX12 vwCl gTbl ct_1957 := ct2_nil
theorem vl_1957 (l : Launch) : Vld2 l vwCl gTbl con_1957 := conR_ok3 gT_all (hd_1957) rfl pn_RX12 tk_X12_numberAt bo_RX12 xo_RX12 (cto_1957 l) ch_1957 cut_nil
/-- RookHustingModel numberAt -/
noncomputable def ac_1125 : AC := .inr (2, jl_n [js_5 204 9223372036854775807 9223372036854775807, js_4 49 1, js_5 35 9223372036854775807 9223372036854775807])
noncomputable def con_1958 : Con2 := ((yX12_numberAt, cX12_numberAt, 3, (some .long)), (0, 0), ([(6, 0, 0), (0, 3, 0), (0, 24, 0)], gi_1801, [ac_1100, ac_1125], []), [((4, 48, 0), gi_1802, [(false, ac_1100), (false, ac_1125)], [], [1])])
theorem hd_1958 : con_1958.1 = (yX12_numberAt, cX12_numberAt, 3, (some .long)) := rfl
noncomputable def ct_1958 : CTB2 := []
noncomputable def cu_1958 : List CUT2 := []
theorem ch_1958 : staG tb_X12_numberAt 1 bt_RX12 [] ct_1958 [] [] cu_1958 11 con_1958 = true := by decide +kernel
theorem cto_1958 (l : Launch) : CTOK2 l RX12 vwCl gTbl ct_1958 := ct2_nil
theorem vl_1958 (l : Launch) : Vld2 l vwCl gTbl con_1958 := conR_ok3 gT_all (hd_1958) rfl pn_RX12 tk_X12_numberAt bo_RX12 xo_RX12 (cto_1958 l) ch_1958 cut_nil
/-- RookHustingModel numberAt -/
noncomputable def ac_1126 : AC := .inr (2, jl_n [js_5 205 9223372036854775807 9223372036854775807, js_4 49 1, js_5 34 9223372036854775807 9223372036854775807])
noncomputable def con_1959 : Con2 := ((yX12_numberAt, cX12_numberAt, 3, (some .long)), (0, 0), ([(6, 0, 0), (0, 3, 0), (0, 25, 0)], gi_1801, [ac_1100, ac_1126], []), [((4, 48, 0), gi_1802, [(false, ac_1100), (false, ac_1126)], [], [1])])
theorem hd_1959 : con_1959.1 = (yX12_numberAt, cX12_numberAt, 3, (some .long)) := rfl
noncomputable def ct_1959 : CTB2 := []
noncomputable def cu_1959 : List CUT2 := []
theorem ch_1959 : staG tb_X12_numberAt 1 bt_RX12 [] ct_1959 [] [] cu_1959 11 con_1959 = true := by decide +kernel
theorem cto_1959 (l : Launch) : CTOK2 l RX12 vwCl gTbl ct_1959 := ct2_nil
theorem vl_1959 (l : Launch) : Vld2 l vwCl gTbl con_1959 := conR_ok3 gT_all (hd_1959) rfl pn_RX12 tk_X12_numberAt bo_RX12 xo_RX12 (cto_1959 l) ch_1959 cut_nil
/-- RookHustingModel numberAt -/
noncomputable def ac_1127 : AC := .inr (2, jl_n [js_5 206 9223372036854775807 9223372036854775807, js_4 49 1, js_5 33 9223372036854775807 9223372036854775807])
noncomputable def con_1960 : Con2 := ((yX12_numberAt, cX12_numberAt, 3, (some .long)), (0, 0), ([(6, 0, 0), (0, 3, 0), (0, 26, 0)], gi_1801, [ac_1100, ac_1127], []), [((4, 48, 0), gi_1802, [(false, ac_1100), (false, ac_1127)], [], [1])])
theorem hd_1960 : con_1960.1 = (yX12_numberAt, cX12_numberAt, 3, (some .long)) := rfl
noncomputable def ct_1960 : CTB2 := []
noncomputable def cu_1960 : List CUT2 := []
theorem ch_1960 : staG tb_X12_numberAt 1 bt_RX12 [] ct_1960 [] [] cu_1960 11 con_1960 = true := by decide +kernel
theorem cto_1960 (l : Launch) : CTOK2 l RX12 vwCl gTbl ct_1960 := ct2_nil
theorem vl_1960 (l : Launch) : Vld2 l vwCl gTbl con_1960 := conR_ok3 gT_all (hd_1960) rfl pn_RX12 tk_X12_numberAt bo_RX12 xo_RX12 (cto_1960 l) ch_1960 cut_nil
/-- RookHustingModel numberAt -/
noncomputable def ac_1128 : AC := .inr (2, jl_n [js_5 207 9223372036854775807 9223372036854775807, js_4 49 1, js_5 32 9223372036854775807 9223372036854775807])
noncomputable def con_1961 : Con2 := ((yX12_numberAt, cX12_numberAt, 3, (some .long)), (0, 0), ([(6, 0, 0), (0, 3, 0), (0, 27, 0)], gi_1801, [ac_1100, ac_1128], []), [((4, 48, 0), gi_1802, [(false, ac_1100), (false, ac_1128)], [], [1])])
theorem hd_1961 : con_1961.1 = (yX12_numberAt, cX12_numberAt, 3, (some .long)) := rfl
noncomputable def ct_1961 : CTB2 := []
noncomputable def cu_1961 : List CUT2 := []
theorem ch_1961 : staG tb_X12_numberAt 1 bt_RX12 [] ct_1961 [] [] cu_1961 11 con_1961 = true := by decide +kernel
theorem cto_1961 (l : Launch) : CTOK2 l RX12 vwCl gTbl ct_1961 := ct2_nil
theorem vl_1961 (l : Launch) : Vld2 l vwCl gTbl con_1961 := conR_ok3 gT_all (hd_1961) rfl pn_RX12 tk_X12_numberAt bo_RX12 xo_RX12 (cto_1961 l) ch_1961 cut_nil
/-- RookHustingModel numberAt -/
noncomputable def ac_1129 : AC := .inr (2, jl_n [js_5 208 9223372036854775807 9223372036854775807, js_4 49 1, js_5 31 9223372036854775807 9223372036854775807])
noncomputable def con_1962 : Con2 := ((yX12_numberAt, cX12_numberAt, 3, (some .long)), (0, 0), ([(6, 0, 0), (0, 3, 0), (0, 28, 0)], gi_1801, [ac_1100, ac_1129], []), [((4, 48, 0), gi_1802, [(false, ac_1100), (false, ac_1129)], [], [1])])
theorem hd_1962 : con_1962.1 = (yX12_numberAt, cX12_numberAt, 3, (some .long)) := rfl
noncomputable def ct_1962 : CTB2 := []
noncomputable def cu_1962 : List CUT2 := []
theorem ch_1962 : staG tb_X12_numberAt 1 bt_RX12 [] ct_1962 [] [] cu_1962 11 con_1962 = true := by decide +kernel
theorem cto_1962 (l : Launch) : CTOK2 l RX12 vwCl gTbl ct_1962 := ct2_nil
theorem vl_1962 (l : Launch) : Vld2 l vwCl gTbl con_1962 := conR_ok3 gT_all (hd_1962) rfl pn_RX12 tk_X12_numberAt bo_RX12 xo_RX12 (cto_1962 l) ch_1962 cut_nil
/-- RookHustingModel numberAt -/
noncomputable def ac_1130 : AC := .inr (2, jl_n [js_5 209 9223372036854775807 9223372036854775807, js_4 49 1, js_5 30 9223372036854775807 9223372036854775807])
noncomputable def con_1963 : Con2 := ((yX12_numberAt, cX12_numberAt, 3, (some .long)), (0, 0), ([(6, 0, 0), (0, 3, 0), (0, 29, 0)], gi_1801, [ac_1100, ac_1130], []), [((4, 48, 0), gi_1802, [(false, ac_1100), (false, ac_1130)], [], [1])])
theorem hd_1963 : con_1963.1 = (yX12_numberAt, cX12_numberAt, 3, (some .long)) := rfl
noncomputable def ct_1963 : CTB2 := []
noncomputable def cu_1963 : List CUT2 := []
theorem ch_1963 : staG tb_X12_numberAt 1 bt_RX12 [] ct_1963 [] [] cu_1963 11 con_1963 = true := by decide +kernel
theorem cto_1963 (l : Launch) : CTOK2 l RX12 vwCl gTbl ct_1963 := ct2_nil
theorem vl_1963 (l : Launch) : Vld2 l vwCl gTbl con_1963 := conR_ok3 gT_all (hd_1963) rfl pn_RX12 tk_X12_numberAt bo_RX12 xo_RX12 (cto_1963 l) ch_1963 cut_nil
/-- RookHustingModel numberAt -/
noncomputable def ac_1131 : AC := .inr (2, jl_n [js_5 210 9223372036854775807 9223372036854775807, js_4 49 1, js_5 29 9223372036854775807 9223372036854775807])
noncomputable def con_1964 : Con2 := ((yX12_numberAt, cX12_numberAt, 3, (some .long)), (0, 0), ([(6, 0, 0), (0, 3, 0), (0, 30, 0)], gi_1801, [ac_1100, ac_1131], []), [((4, 48, 0), gi_1802, [(false, ac_1100), (false, ac_1131)], [], [1])])
theorem hd_1964 : con_1964.1 = (yX12_numberAt, cX12_numberAt, 3, (some .long)) := rfl
noncomputable def ct_1964 : CTB2 := []
noncomputable def cu_1964 : List CUT2 := []
theorem ch_1964 : staG tb_X12_numberAt 1 bt_RX12 [] ct_1964 [] [] cu_1964 11 con_1964 = true := by decide +kernel
theorem cto_1964 (l : Launch) : CTOK2 l RX12 vwCl gTbl ct_1964 := ct2_nil
theorem vl_1964 (l : Launch) : Vld2 l vwCl gTbl con_1964 := conR_ok3 gT_all (hd_1964) rfl pn_RX12 tk_X12_numberAt bo_RX12 xo_RX12 (cto_1964 l) ch_1964 cut_nil
/-- RookHustingModel numberAt -/
noncomputable def ac_1132 : AC := .inr (2, jl_n [js_5 211 9223372036854775807 9223372036854775807, js_4 49 1, js_5 28 9223372036854775807 9223372036854775807])
noncomputable def con_1965 : Con2 := ((yX12_numberAt, cX12_numberAt, 3, (some .long)), (0, 0), ([(6, 0, 0), (0, 3, 0), (0, 31, 0)], gi_1801, [ac_1100, ac_1132], []), [((4, 48, 0), gi_1802, [(false, ac_1100), (false, ac_1132)], [], [1])])
theorem hd_1965 : con_1965.1 = (yX12_numberAt, cX12_numberAt, 3, (some .long)) := rfl
noncomputable def ct_1965 : CTB2 := []
noncomputable def cu_1965 : List CUT2 := []
theorem ch_1965 : staG tb_X12_numberAt 1 bt_RX12 [] ct_1965 [] [] cu_1965 11 con_1965 = true := by decide +kernel
theorem cto_1965 (l : Launch) : CTOK2 l RX12 vwCl gTbl ct_1965 := ct2_nil
theorem vl_1965 (l : Launch) : Vld2 l vwCl gTbl con_1965 := conR_ok3 gT_all (hd_1965) rfl pn_RX12 tk_X12_numberAt bo_RX12 xo_RX12 (cto_1965 l) ch_1965 cut_nil
/-- RookHustingModel numberAt -/
noncomputable def ac_1133 : AC := .inr (2, jl_n [js_5 212 9223372036854775807 9223372036854775807, js_4 49 1, js_5 27 9223372036854775807 9223372036854775807])
noncomputable def con_1966 : Con2 := ((yX12_numberAt, cX12_numberAt, 3, (some .long)), (0, 0), ([(6, 0, 0), (0, 3, 0), (0, 32, 0)], gi_1801, [ac_1100, ac_1133], []), [((4, 48, 0), gi_1802, [(false, ac_1100), (false, ac_1133)], [], [1])])
theorem hd_1966 : con_1966.1 = (yX12_numberAt, cX12_numberAt, 3, (some .long)) := rfl
noncomputable def ct_1966 : CTB2 := []
noncomputable def cu_1966 : List CUT2 := []
theorem ch_1966 : staG tb_X12_numberAt 1 bt_RX12 [] ct_1966 [] [] cu_1966 11 con_1966 = true := by decide +kernel
theorem cto_1966 (l : Launch) : CTOK2 l RX12 vwCl gTbl ct_1966 := ct2_nil
theorem vl_1966 (l : Launch) : Vld2 l vwCl gTbl con_1966 := conR_ok3 gT_all (hd_1966) rfl pn_RX12 tk_X12_numberAt bo_RX12 xo_RX12 (cto_1966 l) ch_1966 cut_nil
/-- RookHustingModel numberAt -/
noncomputable def ac_1134 : AC := .inr (2, jl_n [js_5 213 9223372036854775807 9223372036854775807, js_4 49 1, js_5 26 9223372036854775807 9223372036854775807])
noncomputable def con_1967 : Con2 := ((yX12_numberAt, cX12_numberAt, 3, (some .long)), (0, 0), ([(6, 0, 0), (0, 3, 0), (0, 33, 0)], gi_1801, [ac_1100, ac_1134], []), [((4, 48, 0), gi_1802, [(false, ac_1100), (false, ac_1134)], [], [1])])
theorem hd_1967 : con_1967.1 = (yX12_numberAt, cX12_numberAt, 3, (some .long)) := rfl
noncomputable def ct_1967 : CTB2 := []
noncomputable def cu_1967 : List CUT2 := []
theorem ch_1967 : staG tb_X12_numberAt 1 bt_RX12 [] ct_1967 [] [] cu_1967 11 con_1967 = true := by decide +kernel
theorem cto_1967 (l : Launch) : CTOK2 l RX12 vwCl gTbl ct_1967 := ct2_nil
theorem vl_1967 (l : Launch) : Vld2 l vwCl gTbl con_1967 := conR_ok3 gT_all (hd_1967) rfl pn_RX12 tk_X12_numberAt bo_RX12 xo_RX12 (cto_1967 l) ch_1967 cut_nil
/-- RookHustingModel numberAt -/
noncomputable def ac_1135 : AC := .inr (2, jl_n [js_5 214 9223372036854775807 9223372036854775807, js_4 49 1, js_5 25 9223372036854775807 9223372036854775807])
noncomputable def con_1968 : Con2 := ((yX12_numberAt, cX12_numberAt, 3, (some .long)), (0, 0), ([(6, 0, 0), (0, 3, 0), (0, 34, 0)], gi_1801, [ac_1100, ac_1135], []), [((4, 48, 0), gi_1802, [(false, ac_1100), (false, ac_1135)], [], [1])])
theorem hd_1968 : con_1968.1 = (yX12_numberAt, cX12_numberAt, 3, (some .long)) := rfl
noncomputable def ct_1968 : CTB2 := []
noncomputable def cu_1968 : List CUT2 := []
theorem ch_1968 : staG tb_X12_numberAt 1 bt_RX12 [] ct_1968 [] [] cu_1968 11 con_1968 = true := by decide +kernel
theorem cto_1968 (l : Launch) : CTOK2 l RX12 vwCl gTbl ct_1968 := ct2_nil
theorem vl_1968 (l : Launch) : Vld2 l vwCl gTbl con_1968 := conR_ok3 gT_all (hd_1968) rfl pn_RX12 tk_X12_numberAt bo_RX12 xo_RX12 (cto_1968 l) ch_1968 cut_nil
/-- RookHustingModel numberAt -/
noncomputable def ac_1136 : AC := .inr (2, jl_n [js_5 215 9223372036854775807 9223372036854775807, js_4 49 1, js_5 24 9223372036854775807 9223372036854775807])
noncomputable def con_1969 : Con2 := ((yX12_numberAt, cX12_numberAt, 3, (some .long)), (0, 0), ([(6, 0, 0), (0, 3, 0), (0, 35, 0)], gi_1801, [ac_1100, ac_1136], []), [((4, 48, 0), gi_1802, [(false, ac_1100), (false, ac_1136)], [], [1])])
theorem hd_1969 : con_1969.1 = (yX12_numberAt, cX12_numberAt, 3, (some .long)) := rfl
noncomputable def ct_1969 : CTB2 := []
noncomputable def cu_1969 : List CUT2 := []
theorem ch_1969 : staG tb_X12_numberAt 1 bt_RX12 [] ct_1969 [] [] cu_1969 11 con_1969 = true := by decide +kernel
theorem cto_1969 (l : Launch) : CTOK2 l RX12 vwCl gTbl ct_1969 := ct2_nil
theorem vl_1969 (l : Launch) : Vld2 l vwCl gTbl con_1969 := conR_ok3 gT_all (hd_1969) rfl pn_RX12 tk_X12_numberAt bo_RX12 xo_RX12 (cto_1969 l) ch_1969 cut_nil
/-- RookHustingModel numberAt -/
noncomputable def ac_1137 : AC := .inr (2, jl_n [js_5 216 9223372036854775807 9223372036854775807, js_4 49 1, js_5 23 9223372036854775807 9223372036854775807])
noncomputable def con_1970 : Con2 := ((yX12_numberAt, cX12_numberAt, 3, (some .long)), (0, 0), ([(6, 0, 0), (0, 3, 0), (0, 36, 0)], gi_1801, [ac_1100, ac_1137], []), [((4, 48, 0), gi_1802, [(false, ac_1100), (false, ac_1137)], [], [1])])
theorem hd_1970 : con_1970.1 = (yX12_numberAt, cX12_numberAt, 3, (some .long)) := rfl
noncomputable def ct_1970 : CTB2 := []
noncomputable def cu_1970 : List CUT2 := []
theorem ch_1970 : staG tb_X12_numberAt 1 bt_RX12 [] ct_1970 [] [] cu_1970 11 con_1970 = true := by decide +kernel
theorem cto_1970 (l : Launch) : CTOK2 l RX12 vwCl gTbl ct_1970 := ct2_nil
theorem vl_1970 (l : Launch) : Vld2 l vwCl gTbl con_1970 := conR_ok3 gT_all (hd_1970) rfl pn_RX12 tk_X12_numberAt bo_RX12 xo_RX12 (cto_1970 l) ch_1970 cut_nil
/-- RookHustingModel numberAt -/
noncomputable def ac_1138 : AC := .inr (2, jl_n [js_5 217 9223372036854775807 9223372036854775807, js_4 49 1, js_5 22 9223372036854775807 9223372036854775807])
noncomputable def con_1971 : Con2 := ((yX12_numberAt, cX12_numberAt, 3, (some .long)), (0, 0), ([(6, 0, 0), (0, 3, 0), (0, 37, 0)], gi_1801, [ac_1100, ac_1138], []), [((4, 48, 0), gi_1802, [(false, ac_1100), (false, ac_1138)], [], [1])])
theorem hd_1971 : con_1971.1 = (yX12_numberAt, cX12_numberAt, 3, (some .long)) := rfl
noncomputable def ct_1971 : CTB2 := []
noncomputable def cu_1971 : List CUT2 := []
theorem ch_1971 : staG tb_X12_numberAt 1 bt_RX12 [] ct_1971 [] [] cu_1971 11 con_1971 = true := by decide +kernel
theorem cto_1971 (l : Launch) : CTOK2 l RX12 vwCl gTbl ct_1971 := ct2_nil
theorem vl_1971 (l : Launch) : Vld2 l vwCl gTbl con_1971 := conR_ok3 gT_all (hd_1971) rfl pn_RX12 tk_X12_numberAt bo_RX12 xo_RX12 (cto_1971 l) ch_1971 cut_nil
/-- RookHustingModel numberAt -/
noncomputable def ac_1139 : AC := .inr (2, jl_n [js_5 218 9223372036854775807 9223372036854775807, js_4 49 1, js_5 21 9223372036854775807 9223372036854775807])
noncomputable def con_1972 : Con2 := ((yX12_numberAt, cX12_numberAt, 3, (some .long)), (0, 0), ([(6, 0, 0), (0, 3, 0), (0, 38, 0)], gi_1801, [ac_1100, ac_1139], []), [((4, 48, 0), gi_1802, [(false, ac_1100), (false, ac_1139)], [], [1])])
theorem hd_1972 : con_1972.1 = (yX12_numberAt, cX12_numberAt, 3, (some .long)) := rfl
noncomputable def ct_1972 : CTB2 := []
noncomputable def cu_1972 : List CUT2 := []
theorem ch_1972 : staG tb_X12_numberAt 1 bt_RX12 [] ct_1972 [] [] cu_1972 11 con_1972 = true := by decide +kernel
theorem cto_1972 (l : Launch) : CTOK2 l RX12 vwCl gTbl ct_1972 := ct2_nil
theorem vl_1972 (l : Launch) : Vld2 l vwCl gTbl con_1972 := conR_ok3 gT_all (hd_1972) rfl pn_RX12 tk_X12_numberAt bo_RX12 xo_RX12 (cto_1972 l) ch_1972 cut_nil
/-- RookHustingModel numberAt -/
noncomputable def ac_1140 : AC := .inr (2, jl_n [js_5 219 9223372036854775807 9223372036854775807, js_4 49 1, js_5 20 9223372036854775807 9223372036854775807])
noncomputable def con_1973 : Con2 := ((yX12_numberAt, cX12_numberAt, 3, (some .long)), (0, 0), ([(6, 0, 0), (0, 3, 0), (0, 39, 0)], gi_1801, [ac_1100, ac_1140], []), [((4, 48, 0), gi_1802, [(false, ac_1100), (false, ac_1140)], [], [1])])
theorem hd_1973 : con_1973.1 = (yX12_numberAt, cX12_numberAt, 3, (some .long)) := rfl
noncomputable def ct_1973 : CTB2 := []
noncomputable def cu_1973 : List CUT2 := []
theorem ch_1973 : staG tb_X12_numberAt 1 bt_RX12 [] ct_1973 [] [] cu_1973 11 con_1973 = true := by decide +kernel
theorem cto_1973 (l : Launch) : CTOK2 l RX12 vwCl gTbl ct_1973 := ct2_nil
theorem vl_1973 (l : Launch) : Vld2 l vwCl gTbl con_1973 := conR_ok3 gT_all (hd_1973) rfl pn_RX12 tk_X12_numberAt bo_RX12 xo_RX12 (cto_1973 l) ch_1973 cut_nil
/-- RookHustingModel numberAt -/
noncomputable def ac_1141 : AC := .inr (2, jl_n [js_5 220 9223372036854775807 9223372036854775807, js_4 49 1, js_5 19 9223372036854775807 9223372036854775807])
noncomputable def con_1974 : Con2 := ((yX12_numberAt, cX12_numberAt, 3, (some .long)), (0, 0), ([(6, 0, 0), (0, 3, 0), (0, 40, 0)], gi_1801, [ac_1100, ac_1141], []), [((4, 48, 0), gi_1802, [(false, ac_1100), (false, ac_1141)], [], [1])])
theorem hd_1974 : con_1974.1 = (yX12_numberAt, cX12_numberAt, 3, (some .long)) := rfl
noncomputable def ct_1974 : CTB2 := []
noncomputable def cu_1974 : List CUT2 := []
theorem ch_1974 : staG tb_X12_numberAt 1 bt_RX12 [] ct_1974 [] [] cu_1974 11 con_1974 = true := by decide +kernel
theorem cto_1974 (l : Launch) : CTOK2 l RX12 vwCl gTbl ct_1974 := ct2_nil
theorem vl_1974 (l : Launch) : Vld2 l vwCl gTbl con_1974 := conR_ok3 gT_all (hd_1974) rfl pn_RX12 tk_X12_numberAt bo_RX12 xo_RX12 (cto_1974 l) ch_1974 cut_nil
/-- RookHustingModel numberAt -/
noncomputable def ac_1142 : AC := .inr (2, jl_n [js_5 221 9223372036854775807 9223372036854775807, js_4 49 1, js_5 18 9223372036854775807 9223372036854775807])
noncomputable def con_1975 : Con2 := ((yX12_numberAt, cX12_numberAt, 3, (some .long)), (0, 0), ([(6, 0, 0), (0, 3, 0), (0, 41, 0)], gi_1801, [ac_1100, ac_1142], []), [((4, 48, 0), gi_1802, [(false, ac_1100), (false, ac_1142)], [], [1])])
theorem hd_1975 : con_1975.1 = (yX12_numberAt, cX12_numberAt, 3, (some .long)) := rfl
noncomputable def ct_1975 : CTB2 := []
noncomputable def cu_1975 : List CUT2 := []
theorem ch_1975 : staG tb_X12_numberAt 1 bt_RX12 [] ct_1975 [] [] cu_1975 11 con_1975 = true := by decide +kernel
theorem cto_1975 (l : Launch) : CTOK2 l RX12 vwCl gTbl ct_1975 := ct2_nil
theorem vl_1975 (l : Launch) : Vld2 l vwCl gTbl con_1975 := conR_ok3 gT_all (hd_1975) rfl pn_RX12 tk_X12_numberAt bo_RX12 xo_RX12 (cto_1975 l) ch_1975 cut_nil
/-- RookHustingModel numberAt -/
noncomputable def ac_1143 : AC := .inr (2, jl_n [js_5 222 9223372036854775807 9223372036854775807, js_4 49 1, js_5 17 9223372036854775807 9223372036854775807])
noncomputable def con_1976 : Con2 := ((yX12_numberAt, cX12_numberAt, 3, (some .long)), (0, 0), ([(6, 0, 0), (0, 3, 0), (0, 42, 0)], gi_1801, [ac_1100, ac_1143], []), [((4, 48, 0), gi_1802, [(false, ac_1100), (false, ac_1143)], [], [1])])
theorem hd_1976 : con_1976.1 = (yX12_numberAt, cX12_numberAt, 3, (some .long)) := rfl
noncomputable def ct_1976 : CTB2 := []
noncomputable def cu_1976 : List CUT2 := []
theorem ch_1976 : staG tb_X12_numberAt 1 bt_RX12 [] ct_1976 [] [] cu_1976 11 con_1976 = true := by decide +kernel
theorem cto_1976 (l : Launch) : CTOK2 l RX12 vwCl gTbl ct_1976 := ct2_nil
theorem vl_1976 (l : Launch) : Vld2 l vwCl gTbl con_1976 := conR_ok3 gT_all (hd_1976) rfl pn_RX12 tk_X12_numberAt bo_RX12 xo_RX12 (cto_1976 l) ch_1976 cut_nil
/-- RookHustingModel numberAt -/
noncomputable def ac_1144 : AC := .inr (2, jl_n [js_5 223 9223372036854775807 9223372036854775807, js_4 49 1, js_5 16 9223372036854775807 9223372036854775807])
noncomputable def con_1977 : Con2 := ((yX12_numberAt, cX12_numberAt, 3, (some .long)), (0, 0), ([(6, 0, 0), (0, 3, 0), (0, 43, 0)], gi_1801, [ac_1100, ac_1144], []), [((4, 48, 0), gi_1802, [(false, ac_1100), (false, ac_1144)], [], [1])])
theorem hd_1977 : con_1977.1 = (yX12_numberAt, cX12_numberAt, 3, (some .long)) := rfl
noncomputable def ct_1977 : CTB2 := []
noncomputable def cu_1977 : List CUT2 := []
theorem ch_1977 : staG tb_X12_numberAt 1 bt_RX12 [] ct_1977 [] [] cu_1977 11 con_1977 = true := by decide +kernel
theorem cto_1977 (l : Launch) : CTOK2 l RX12 vwCl gTbl ct_1977 := ct2_nil
theorem vl_1977 (l : Launch) : Vld2 l vwCl gTbl con_1977 := conR_ok3 gT_all (hd_1977) rfl pn_RX12 tk_X12_numberAt bo_RX12 xo_RX12 (cto_1977 l) ch_1977 cut_nil
/-- RookHustingModel numberAt -/
noncomputable def ac_1145 : AC := .inr (2, jl_n [js_5 224 9223372036854775807 9223372036854775807, js_4 49 1, js_5 15 9223372036854775807 9223372036854775807])
noncomputable def con_1978 : Con2 := ((yX12_numberAt, cX12_numberAt, 3, (some .long)), (0, 0), ([(6, 0, 0), (0, 3, 0), (0, 44, 0)], gi_1801, [ac_1100, ac_1145], []), [((4, 48, 0), gi_1802, [(false, ac_1100), (false, ac_1145)], [], [1])])
theorem hd_1978 : con_1978.1 = (yX12_numberAt, cX12_numberAt, 3, (some .long)) := rfl
noncomputable def ct_1978 : CTB2 := []
noncomputable def cu_1978 : List CUT2 := []
theorem ch_1978 : staG tb_X12_numberAt 1 bt_RX12 [] ct_1978 [] [] cu_1978 11 con_1978 = true := by decide +kernel
theorem cto_1978 (l : Launch) : CTOK2 l RX12 vwCl gTbl ct_1978 := ct2_nil
theorem vl_1978 (l : Launch) : Vld2 l vwCl gTbl con_1978 := conR_ok3 gT_all (hd_1978) rfl pn_RX12 tk_X12_numberAt bo_RX12 xo_RX12 (cto_1978 l) ch_1978 cut_nil
/-- RookHustingModel numberAt -/
noncomputable def ac_1146 : AC := .inr (2, jl_n [js_5 225 9223372036854775807 9223372036854775807, js_4 49 1, js_5 14 9223372036854775807 9223372036854775807])
noncomputable def con_1979 : Con2 := ((yX12_numberAt, cX12_numberAt, 3, (some .long)), (0, 0), ([(6, 0, 0), (0, 3, 0), (0, 45, 0)], gi_1801, [ac_1100, ac_1146], []), [((4, 48, 0), gi_1802, [(false, ac_1100), (false, ac_1146)], [], [1])])
theorem hd_1979 : con_1979.1 = (yX12_numberAt, cX12_numberAt, 3, (some .long)) := rfl
noncomputable def ct_1979 : CTB2 := []
noncomputable def cu_1979 : List CUT2 := []
theorem ch_1979 : staG tb_X12_numberAt 1 bt_RX12 [] ct_1979 [] [] cu_1979 11 con_1979 = true := by decide +kernel
theorem cto_1979 (l : Launch) : CTOK2 l RX12 vwCl gTbl ct_1979 := ct2_nil
theorem vl_1979 (l : Launch) : Vld2 l vwCl gTbl con_1979 := conR_ok3 gT_all (hd_1979) rfl pn_RX12 tk_X12_numberAt bo_RX12 xo_RX12 (cto_1979 l) ch_1979 cut_nil
/-- RookHustingModel numberAt -/
noncomputable def ac_1147 : AC := .inr (2, jl_n [js_5 226 9223372036854775807 9223372036854775807, js_4 49 1, js_5 13 9223372036854775807 9223372036854775807])
noncomputable def con_1980 : Con2 := ((yX12_numberAt, cX12_numberAt, 3, (some .long)), (0, 0), ([(6, 0, 0), (0, 3, 0), (0, 46, 0)], gi_1801, [ac_1100, ac_1147], []), [((4, 48, 0), gi_1802, [(false, ac_1100), (false, ac_1147)], [], [1])])
theorem hd_1980 : con_1980.1 = (yX12_numberAt, cX12_numberAt, 3, (some .long)) := rfl
noncomputable def ct_1980 : CTB2 := []
noncomputable def cu_1980 : List CUT2 := []
theorem ch_1980 : staG tb_X12_numberAt 1 bt_RX12 [] ct_1980 [] [] cu_1980 11 con_1980 = true := by decide +kernel
theorem cto_1980 (l : Launch) : CTOK2 l RX12 vwCl gTbl ct_1980 := ct2_nil
theorem vl_1980 (l : Launch) : Vld2 l vwCl gTbl con_1980 := conR_ok3 gT_all (hd_1980) rfl pn_RX12 tk_X12_numberAt bo_RX12 xo_RX12 (cto_1980 l) ch_1980 cut_nil
/-- RookHustingModel numberAt -/
noncomputable def ac_1148 : AC := .inr (2, jl_n [js_5 227 9223372036854775807 9223372036854775807, js_4 49 1, js_5 12 9223372036854775807 9223372036854775807])
noncomputable def con_1981 : Con2 := ((yX12_numberAt, cX12_numberAt, 3, (some .long)), (0, 0), ([(6, 0, 0), (0, 3, 0), (0, 47, 0)], gi_1801, [ac_1100, ac_1148], []), [((4, 48, 0), gi_1802, [(false, ac_1100), (false, ac_1148)], [], [1])])
theorem hd_1981 : con_1981.1 = (yX12_numberAt, cX12_numberAt, 3, (some .long)) := rfl
noncomputable def ct_1981 : CTB2 := []
noncomputable def cu_1981 : List CUT2 := []
theorem ch_1981 : staG tb_X12_numberAt 1 bt_RX12 [] ct_1981 [] [] cu_1981 11 con_1981 = true := by decide +kernel
theorem cto_1981 (l : Launch) : CTOK2 l RX12 vwCl gTbl ct_1981 := ct2_nil
theorem vl_1981 (l : Launch) : Vld2 l vwCl gTbl con_1981 := conR_ok3 gT_all (hd_1981) rfl pn_RX12 tk_X12_numberAt bo_RX12 xo_RX12 (cto_1981 l) ch_1981 cut_nil
/-- RookHustingModel numberAt -/
noncomputable def ac_1149 : AC := .inr (2, jl_n [js_5 228 9223372036854775807 9223372036854775807, js_4 49 1, js_5 11 9223372036854775807 9223372036854775807])
noncomputable def con_1982 : Con2 := ((yX12_numberAt, cX12_numberAt, 3, (some .long)), (0, 0), ([(6, 0, 0), (0, 3, 0), (0, 48, 0)], gi_1801, [ac_1100, ac_1149], []), [((4, 48, 0), gi_1802, [(false, ac_1100), (false, ac_1149)], [], [1])])
theorem hd_1982 : con_1982.1 = (yX12_numberAt, cX12_numberAt, 3, (some .long)) := rfl
noncomputable def ct_1982 : CTB2 := []
noncomputable def cu_1982 : List CUT2 := []
theorem ch_1982 : staG tb_X12_numberAt 1 bt_RX12 [] ct_1982 [] [] cu_1982 11 con_1982 = true := by decide +kernel
theorem cto_1982 (l : Launch) : CTOK2 l RX12 vwCl gTbl ct_1982 := ct2_nil
theorem vl_1982 (l : Launch) : Vld2 l vwCl gTbl con_1982 := conR_ok3 gT_all (hd_1982) rfl pn_RX12 tk_X12_numberAt bo_RX12 xo_RX12 (cto_1982 l) ch_1982 cut_nil
/-- RookHustingModel numberAt -/
noncomputable def ac_1150 : AC := .inr (2, jl_n [js_5 229 9223372036854775807 9223372036854775807, js_4 49 1, js_5 10 9223372036854775807 9223372036854775807])
noncomputable def con_1983 : Con2 := ((yX12_numberAt, cX12_numberAt, 3, (some .long)), (0, 0), ([(6, 0, 0), (0, 3, 0), (0, 49, 0)], gi_1801, [ac_1100, ac_1150], []), [((4, 48, 0), gi_1802, [(false, ac_1100), (false, ac_1150)], [], [1])])
theorem hd_1983 : con_1983.1 = (yX12_numberAt, cX12_numberAt, 3, (some .long)) := rfl
noncomputable def ct_1983 : CTB2 := []
noncomputable def cu_1983 : List CUT2 := []
theorem ch_1983 : staG tb_X12_numberAt 1 bt_RX12 [] ct_1983 [] [] cu_1983 11 con_1983 = true := by decide +kernel
theorem cto_1983 (l : Launch) : CTOK2 l RX12 vwCl gTbl ct_1983 := ct2_nil
theorem vl_1983 (l : Launch) : Vld2 l vwCl gTbl con_1983 := conR_ok3 gT_all (hd_1983) rfl pn_RX12 tk_X12_numberAt bo_RX12 xo_RX12 (cto_1983 l) ch_1983 cut_nil
/-- RookHustingModel numberAt -/
noncomputable def ac_1151 : AC := .inr (2, jl_n [js_5 230 9223372036854775807 9223372036854775807, js_4 49 1, js_5 9 9223372036854775807 9223372036854775807])
noncomputable def con_1984 : Con2 := ((yX12_numberAt, cX12_numberAt, 3, (some .long)), (0, 0), ([(6, 0, 0), (0, 3, 0), (0, 50, 0)], gi_1801, [ac_1100, ac_1151], []), [((4, 48, 0), gi_1802, [(false, ac_1100), (false, ac_1151)], [], [1])])
theorem hd_1984 : con_1984.1 = (yX12_numberAt, cX12_numberAt, 3, (some .long)) := rfl
noncomputable def ct_1984 : CTB2 := []
noncomputable def cu_1984 : List CUT2 := []
theorem ch_1984 : staG tb_X12_numberAt 1 bt_RX12 [] ct_1984 [] [] cu_1984 11 con_1984 = true := by decide +kernel
theorem cto_1984 (l : Launch) : CTOK2 l RX12 vwCl gTbl ct_1984 := ct2_nil
theorem vl_1984 (l : Launch) : Vld2 l vwCl gTbl con_1984 := conR_ok3 gT_all (hd_1984) rfl pn_RX12 tk_X12_numberAt bo_RX12 xo_RX12 (cto_1984 l) ch_1984 cut_nil
/-- RookHustingModel numberAt -/
noncomputable def ac_1152 : AC := .inr (2, jl_n [js_5 231 9223372036854775807 9223372036854775807, js_4 49 1, js_5 8 9223372036854775807 9223372036854775807])
noncomputable def con_1985 : Con2 := ((yX12_numberAt, cX12_numberAt, 3, (some .long)), (0, 0), ([(6, 0, 0), (0, 3, 0), (0, 51, 0)], gi_1801, [ac_1100, ac_1152], []), [((4, 48, 0), gi_1802, [(false, ac_1100), (false, ac_1152)], [], [1])])
theorem hd_1985 : con_1985.1 = (yX12_numberAt, cX12_numberAt, 3, (some .long)) := rfl
noncomputable def ct_1985 : CTB2 := []
noncomputable def cu_1985 : List CUT2 := []
theorem ch_1985 : staG tb_X12_numberAt 1 bt_RX12 [] ct_1985 [] [] cu_1985 11 con_1985 = true := by decide +kernel
theorem cto_1985 (l : Launch) : CTOK2 l RX12 vwCl gTbl ct_1985 := ct2_nil
theorem vl_1985 (l : Launch) : Vld2 l vwCl gTbl con_1985 := conR_ok3 gT_all (hd_1985) rfl pn_RX12 tk_X12_numberAt bo_RX12 xo_RX12 (cto_1985 l) ch_1985 cut_nil
/-- RookHustingModel numberAt -/
noncomputable def ac_1153 : AC := .inr (2, jl_n [js_5 232 9223372036854775807 9223372036854775807, js_4 49 1, js_5 7 9223372036854775807 9223372036854775807])
noncomputable def con_1986 : Con2 := ((yX12_numberAt, cX12_numberAt, 3, (some .long)), (0, 0), ([(6, 0, 0), (0, 3, 0), (0, 52, 0)], gi_1801, [ac_1100, ac_1153], []), [((4, 48, 0), gi_1802, [(false, ac_1100), (false, ac_1153)], [], [1])])
theorem hd_1986 : con_1986.1 = (yX12_numberAt, cX12_numberAt, 3, (some .long)) := rfl
noncomputable def ct_1986 : CTB2 := []
noncomputable def cu_1986 : List CUT2 := []
theorem ch_1986 : staG tb_X12_numberAt 1 bt_RX12 [] ct_1986 [] [] cu_1986 11 con_1986 = true := by decide +kernel
theorem cto_1986 (l : Launch) : CTOK2 l RX12 vwCl gTbl ct_1986 := ct2_nil
theorem vl_1986 (l : Launch) : Vld2 l vwCl gTbl con_1986 := conR_ok3 gT_all (hd_1986) rfl pn_RX12 tk_X12_numberAt bo_RX12 xo_RX12 (cto_1986 l) ch_1986 cut_nil
/-- RookHustingModel numberAt -/
noncomputable def ac_1154 : AC := .inr (2, jl_n [js_5 233 9223372036854775807 9223372036854775807, js_4 49 1, js_5 6 9223372036854775807 9223372036854775807])
noncomputable def con_1987 : Con2 := ((yX12_numberAt, cX12_numberAt, 3, (some .long)), (0, 0), ([(6, 0, 0), (0, 3, 0), (0, 53, 0)], gi_1801, [ac_1100, ac_1154], []), [((4, 48, 0), gi_1802, [(false, ac_1100), (false, ac_1154)], [], [1])])
theorem hd_1987 : con_1987.1 = (yX12_numberAt, cX12_numberAt, 3, (some .long)) := rfl
noncomputable def ct_1987 : CTB2 := []
noncomputable def cu_1987 : List CUT2 := []
theorem ch_1987 : staG tb_X12_numberAt 1 bt_RX12 [] ct_1987 [] [] cu_1987 11 con_1987 = true := by decide +kernel
theorem cto_1987 (l : Launch) : CTOK2 l RX12 vwCl gTbl ct_1987 := ct2_nil
theorem vl_1987 (l : Launch) : Vld2 l vwCl gTbl con_1987 := conR_ok3 gT_all (hd_1987) rfl pn_RX12 tk_X12_numberAt bo_RX12 xo_RX12 (cto_1987 l) ch_1987 cut_nil
/-- RookHustingModel numberAt -/
noncomputable def ac_1155 : AC := .inr (2, jl_n [js_5 234 9223372036854775807 9223372036854775807, js_4 49 1, js_5 5 9223372036854775807 9223372036854775807])
noncomputable def con_1988 : Con2 := ((yX12_numberAt, cX12_numberAt, 3, (some .long)), (0, 0), ([(6, 0, 0), (0, 3, 0), (0, 54, 0)], gi_1801, [ac_1100, ac_1155], []), [((4, 48, 0), gi_1802, [(false, ac_1100), (false, ac_1155)], [], [1])])
theorem hd_1988 : con_1988.1 = (yX12_numberAt, cX12_numberAt, 3, (some .long)) := rfl
noncomputable def ct_1988 : CTB2 := []
noncomputable def cu_1988 : List CUT2 := []
theorem ch_1988 : staG tb_X12_numberAt 1 bt_RX12 [] ct_1988 [] [] cu_1988 11 con_1988 = true := by decide +kernel
theorem cto_1988 (l : Launch) : CTOK2 l RX12 vwCl gTbl ct_1988 := ct2_nil
theorem vl_1988 (l : Launch) : Vld2 l vwCl gTbl con_1988 := conR_ok3 gT_all (hd_1988) rfl pn_RX12 tk_X12_numberAt bo_RX12 xo_RX12 (cto_1988 l) ch_1988 cut_nil
/-- RookHustingModel numberAt -/
noncomputable def ac_1156 : AC := .inr (2, jl_n [js_5 235 9223372036854775807 9223372036854775807, js_4 49 1, js_5 4 9223372036854775807 9223372036854775807])
noncomputable def con_1989 : Con2 := ((yX12_numberAt, cX12_numberAt, 3, (some .long)), (0, 0), ([(6, 0, 0), (0, 3, 0), (0, 55, 0)], gi_1801, [ac_1100, ac_1156], []), [((4, 48, 0), gi_1802, [(false, ac_1100), (false, ac_1156)], [], [1])])
theorem hd_1989 : con_1989.1 = (yX12_numberAt, cX12_numberAt, 3, (some .long)) := rfl
noncomputable def ct_1989 : CTB2 := []
noncomputable def cu_1989 : List CUT2 := []
theorem ch_1989 : staG tb_X12_numberAt 1 bt_RX12 [] ct_1989 [] [] cu_1989 11 con_1989 = true := by decide +kernel
theorem cto_1989 (l : Launch) : CTOK2 l RX12 vwCl gTbl ct_1989 := ct2_nil
theorem vl_1989 (l : Launch) : Vld2 l vwCl gTbl con_1989 := conR_ok3 gT_all (hd_1989) rfl pn_RX12 tk_X12_numberAt bo_RX12 xo_RX12 (cto_1989 l) ch_1989 cut_nil
/-- RookHustingModel numberAt -/
noncomputable def ac_1157 : AC := .inr (2, jl_n [js_5 236 9223372036854775807 9223372036854775807, js_4 49 1, js_5 3 9223372036854775807 9223372036854775807])
noncomputable def con_1990 : Con2 := ((yX12_numberAt, cX12_numberAt, 3, (some .long)), (0, 0), ([(6, 0, 0), (0, 3, 0), (0, 56, 0)], gi_1801, [ac_1100, ac_1157], []), [((4, 48, 0), gi_1802, [(false, ac_1100), (false, ac_1157)], [], [1])])
theorem hd_1990 : con_1990.1 = (yX12_numberAt, cX12_numberAt, 3, (some .long)) := rfl
noncomputable def ct_1990 : CTB2 := []
noncomputable def cu_1990 : List CUT2 := []
theorem ch_1990 : staG tb_X12_numberAt 1 bt_RX12 [] ct_1990 [] [] cu_1990 11 con_1990 = true := by decide +kernel
theorem cto_1990 (l : Launch) : CTOK2 l RX12 vwCl gTbl ct_1990 := ct2_nil
theorem vl_1990 (l : Launch) : Vld2 l vwCl gTbl con_1990 := conR_ok3 gT_all (hd_1990) rfl pn_RX12 tk_X12_numberAt bo_RX12 xo_RX12 (cto_1990 l) ch_1990 cut_nil
/-- RookHustingModel numberAt -/
noncomputable def ac_1158 : AC := .inr (2, jl_n [js_5 237 9223372036854775807 9223372036854775807, js_4 49 1, js_5 2 9223372036854775807 9223372036854775807])
noncomputable def con_1991 : Con2 := ((yX12_numberAt, cX12_numberAt, 3, (some .long)), (0, 0), ([(6, 0, 0), (0, 3, 0), (0, 57, 0)], gi_1801, [ac_1100, ac_1158], []), [((4, 48, 0), gi_1802, [(false, ac_1100), (false, ac_1158)], [], [1])])
theorem hd_1991 : con_1991.1 = (yX12_numberAt, cX12_numberAt, 3, (some .long)) := rfl
noncomputable def ct_1991 : CTB2 := []
noncomputable def cu_1991 : List CUT2 := []
theorem ch_1991 : staG tb_X12_numberAt 1 bt_RX12 [] ct_1991 [] [] cu_1991 11 con_1991 = true := by decide +kernel
theorem cto_1991 (l : Launch) : CTOK2 l RX12 vwCl gTbl ct_1991 := ct2_nil
theorem vl_1991 (l : Launch) : Vld2 l vwCl gTbl con_1991 := conR_ok3 gT_all (hd_1991) rfl pn_RX12 tk_X12_numberAt bo_RX12 xo_RX12 (cto_1991 l) ch_1991 cut_nil
/-- RookHustingModel numberAt -/
noncomputable def ac_1159 : AC := .inr (2, jl_n [js_5 238 9223372036854775807 9223372036854775807, js_4 49 1, js_5 1 9223372036854775807 9223372036854775807])
noncomputable def gi_1805 : GI := jl_n [jl_z 48, jl_u, jl_z 2]
noncomputable def con_1992 : Con2 := ((yX12_numberAt, cX12_numberAt, 3, (some .long)), (0, 0), ([(6, 0, 0), (0, 3, 0), (0, 58, 0)], gi_1802, [ac_1100, ac_1159], []), [((4, 48, 0), gi_1805, [(false, ac_1100), (false, ac_1159)], [], [1])])
theorem hd_1992 : con_1992.1 = (yX12_numberAt, cX12_numberAt, 3, (some .long)) := rfl
noncomputable def ct_1992 : CTB2 := []
noncomputable def cu_1992 : List CUT2 := []
theorem ch_1992 : staG tb_X12_numberAt 1 bt_RX12 [] ct_1992 [] [] cu_1992 11 con_1992 = true := by decide +kernel
theorem cto_1992 (l : Launch) : CTOK2 l RX12 vwCl gTbl ct_1992 := ct2_nil
theorem vl_1992 (l : Launch) : Vld2 l vwCl gTbl con_1992 := conR_ok3 gT_all (hd_1992) rfl pn_RX12 tk_X12_numberAt bo_RX12 xo_RX12 (cto_1992 l) ch_1992 cut_nil
/-- RookHustingModel numberAt -/
noncomputable def ac_1160 : AC := .inr (2, jl_n [js_5 239 9223372036854775807 9223372036854775807, js_4 49 1])
noncomputable def con_1993 : Con2 := ((yX12_numberAt, cX12_numberAt, 3, (some .long)), (0, 0), ([(6, 0, 0), (0, 3, 0), (0, 59, 0)], gi_1801, [ac_1100, ac_1160], []), [((4, 48, 0), gi_1802, [(false, ac_1100), (false, ac_1160)], [], [1])])
theorem hd_1993 : con_1993.1 = (yX12_numberAt, cX12_numberAt, 3, (some .long)) := rfl
noncomputable def ct_1993 : CTB2 := []
noncomputable def cu_1993 : List CUT2 := []
theorem ch_1993 : staG tb_X12_numberAt 1 bt_RX12 [] ct_1993 [] [] cu_1993 11 con_1993 = true := by decide +kernel
theorem cto_1993 (l : Launch) : CTOK2 l RX12 vwCl gTbl ct_1993 := ct2_nil
theorem vl_1993 (l : Launch) : Vld2 l vwCl gTbl con_1993 := conR_ok3 gT_all (hd_1993) rfl pn_RX12 tk_X12_numberAt bo_RX12 xo_RX12 (cto_1993 l) ch_1993 cut_nil
/-- RookHustingModel askSeen -/
noncomputable def gi_1806 : GI := jl_n [jl_z 2, jl_t, jl_z 45, jl_i 0 16, jl_i 0 3, jl_i 0 10, jl_i 0 5, jl_i 0 8, jl_i 0 5, jl_i 0 7, jl_i 0 30, jl_i 0 2147483647, jl_z 14, jl_r 4 (jl_m 0 60), jl_r 60 (jl_u)]
noncomputable def ac_1161 : AC := .inr (2, jl_n [js_5 180 9223372036854775807 9223372036854775807, js_4 135 60])
noncomputable def gi_1807 : GI := jl_n [jl_z 2, jl_t, jl_z 45, jl_i 0 16, jl_i 0 3, jl_i 0 10, jl_i 0 5, jl_i 0 8, jl_i 0 5, jl_i 0 7, jl_i 0 30, jl_i 0 2147483647, jl_z 14, jl_r 4 (jl_m 0 60), jl_r 60 (jl_u), jl_z 1]
noncomputable def hq_914 : HP := [(false, ac_1097), (false, ac_440), (false, ac_1098), (false, ac_1161)]
noncomputable def gi_1808 : GI := jl_n [jl_z 2, jl_i 0 4, jl_z 45, jl_i 0 16, jl_i 0 3, jl_i 0 10, jl_i 1 5, jl_i 0 8, jl_i 0 5, jl_i 0 7, jl_i 0 30, jl_i 0 2147483647, jl_z 14, jl_r 3 (jl_m 0 60), jl_k 0 0, jl_r 60 (jl_u), jl_z 1]
noncomputable def gi_1809 : GI := jl_n [jl_z 2, jl_i 0 4, jl_z 45, jl_i 0 16, jl_i 0 3, jl_i 0 10, jl_i 1 5, jl_i 0 8, jl_i 0 5, jl_i 0 7, jl_i 0 30, jl_i 0 2147483647, jl_z 14, jl_r 3 (jl_m 0 60), jl_z 1, jl_r 60 (jl_u), jl_z 1]
noncomputable def gi_1810 : GI := jl_n [jl_z 2, jl_i 0 4, jl_z 45, jl_i 0 16, jl_i 0 3, jl_i 0 10, jl_i 1 5, jl_i 0 8, jl_i 0 5, jl_i 0 7, jl_i 0 30, jl_i 1 2147483647, jl_z 14, jl_r 3 (jl_m 0 60), jl_i 10 12, jl_i 0 4, jl_i 0 16, jl_i 0 250, jl_i 0 4, jl_i 0 16, jl_i 0 250, jl_i 0 4, jl_i 0 16, jl_i 0 250, jl_i 0 4, jl_i 0 16, jl_i 0 250, jl_r 48 (jl_u), jl_z 1]
noncomputable def gi_1811 : GI := jl_n [jl_z 2, jl_i 0 4, jl_z 45, jl_i 0 16, jl_i 0 3, jl_i 0 10, jl_i 1 5, jl_i 0 8, jl_i 0 5, jl_i 0 7, jl_i 0 30, jl_i 1 2147483647, jl_z 14, jl_r 3 (jl_m 0 60), jl_i 13 15, jl_i 0 4, jl_i 0 16, jl_i 0 250, jl_i 0 4, jl_i 0 16, jl_i 0 250, jl_i 0 4, jl_i 0 16, jl_i 0 250, jl_i 0 4, jl_i 0 16, jl_i 0 250, jl_i 0 4, jl_i 0 16, jl_i 0 250, jl_r 45 (jl_u), jl_z 1]
noncomputable def gi_1812 : GI := jl_n [jl_z 2, jl_i 0 4, jl_z 45, jl_i 0 16, jl_i 0 3, jl_i 0 10, jl_i 1 5, jl_i 0 8, jl_i 0 5, jl_i 0 7, jl_i 0 30, jl_i 1 2147483647, jl_z 14, jl_r 3 (jl_m 0 60), jl_i 16 18, jl_i 0 4, jl_i 0 16, jl_i 0 250, jl_i 0 4, jl_i 0 16, jl_i 0 250, jl_i 0 4, jl_i 0 16, jl_i 0 250, jl_i 0 4, jl_i 0 16, jl_i 0 250, jl_i 0 4, jl_i 0 16, jl_i 0 250, jl_i 0 4, jl_i 0 16, jl_i 0 250, jl_r 42 (jl_u), jl_z 1]
noncomputable def gi_1813 : GI := jl_n [jl_z 2, jl_i 0 4, jl_z 45, jl_i 0 16, jl_i 0 3, jl_i 0 10, jl_i 1 5, jl_i 0 8, jl_i 0 5, jl_i 0 7, jl_i 0 30, jl_i 1 2147483647, jl_z 14, jl_r 3 (jl_m 0 60), jl_i 19 21, jl_i 0 4, jl_i 0 16, jl_i 0 250, jl_i 0 4, jl_i 0 16, jl_i 0 250, jl_i 0 4, jl_i 0 16, jl_i 0 250, jl_i 0 4, jl_i 0 16, jl_i 0 250, jl_i 0 4, jl_i 0 16, jl_i 0 250, jl_i 0 4, jl_i 0 16, jl_i 0 250, jl_i 0 4, jl_i 0 16, jl_i 0 250, jl_r 39 (jl_u), jl_z 1]
noncomputable def gi_1814 : GI := jl_n [jl_z 2, jl_i 0 4, jl_z 45, jl_i 0 16, jl_i 0 3, jl_i 0 10, jl_i 1 5, jl_i 0 8, jl_i 0 5, jl_i 0 7, jl_i 0 30, jl_i 1 2147483647, jl_z 14, jl_r 3 (jl_m 0 60), jl_i 22 24, jl_i 0 4, jl_i 0 16, jl_i 0 250, jl_i 0 4, jl_i 0 16, jl_i 0 250, jl_i 0 4, jl_i 0 16, jl_i 0 250, jl_i 0 4, jl_i 0 16, jl_i 0 250, jl_i 0 4, jl_i 0 16, jl_i 0 250, jl_i 0 4, jl_i 0 16, jl_i 0 250, jl_i 0 4, jl_i 0 16, jl_i 0 250, jl_i 0 4, jl_i 0 16, jl_i 0 250, jl_r 36 (jl_u), jl_z 1]
noncomputable def gi_1815 : GI := jl_n [jl_z 2, jl_i 0 4, jl_z 45, jl_i 0 16, jl_i 0 3, jl_i 0 10, jl_i 1 5, jl_i 0 8, jl_i 0 5, jl_i 0 7, jl_i 0 30, jl_i 1 2147483647, jl_z 14, jl_r 3 (jl_m 0 60), jl_i 25 27, jl_i 0 4, jl_i 0 16, jl_i 0 250, jl_i 0 4, jl_i 0 16, jl_i 0 250, jl_i 0 4, jl_i 0 16, jl_i 0 250, jl_i 0 4, jl_i 0 16, jl_i 0 250, jl_i 0 4, jl_i 0 16, jl_i 0 250, jl_i 0 4, jl_i 0 16, jl_i 0 250, jl_i 0 4, jl_i 0 16, jl_i 0 250, jl_i 0 4, jl_i 0 16, jl_i 0 250, jl_i 0 4, jl_i 0 16, jl_i 0 250, jl_r 33 (jl_u), jl_z 1]
noncomputable def gi_1816 : GI := jl_n [jl_z 2, jl_i 0 4, jl_z 45, jl_i 0 16, jl_i 0 3, jl_i 0 10, jl_i 1 5, jl_i 0 8, jl_i 0 5, jl_i 0 7, jl_i 0 30, jl_i 1 2147483647, jl_z 14, jl_r 3 (jl_m 0 60), jl_i 1 3, jl_i 0 4, jl_i 0 16, jl_i 0 250, jl_r 57 (jl_u), jl_z 1]
noncomputable def gi_1817 : GI := jl_n [jl_z 2, jl_i 0 4, jl_z 45, jl_i 0 16, jl_i 0 3, jl_i 0 10, jl_i 1 5, jl_i 0 8, jl_i 0 5, jl_i 0 7, jl_i 0 30, jl_i 1 2147483647, jl_z 14, jl_r 3 (jl_m 0 60), jl_i 28 30, jl_i 0 4, jl_i 0 16, jl_i 0 250, jl_i 0 4, jl_i 0 16, jl_i 0 250, jl_i 0 4, jl_i 0 16, jl_i 0 250, jl_i 0 4, jl_i 0 16, jl_i 0 250, jl_i 0 4, jl_i 0 16, jl_i 0 250, jl_i 0 4, jl_i 0 16, jl_i 0 250, jl_i 0 4, jl_i 0 16, jl_i 0 250, jl_i 0 4, jl_i 0 16, jl_i 0 250, jl_i 0 4, jl_i 0 16, jl_i 0 250, jl_i 0 4, jl_i 0 16, jl_i 0 250, jl_r 30 (jl_u), jl_z 1]
noncomputable def gi_1818 : GI := jl_n [jl_z 2, jl_i 0 4, jl_z 45, jl_i 0 16, jl_i 0 3, jl_i 0 10, jl_i 1 5, jl_i 0 8, jl_i 0 5, jl_i 0 7, jl_i 0 30, jl_i 1 2147483647, jl_z 14, jl_r 3 (jl_m 0 60), jl_i 31 33, jl_i 0 4, jl_i 0 16, jl_i 0 250, jl_i 0 4, jl_i 0 16, jl_i 0 250, jl_i 0 4, jl_i 0 16, jl_i 0 250, jl_i 0 4, jl_i 0 16, jl_i 0 250, jl_i 0 4, jl_i 0 16, jl_i 0 250, jl_i 0 4, jl_i 0 16, jl_i 0 250, jl_i 0 4, jl_i 0 16, jl_i 0 250, jl_i 0 4, jl_i 0 16, jl_i 0 250, jl_i 0 4, jl_i 0 16, jl_i 0 250, jl_i 0 4, jl_i 0 16, jl_i 0 250, jl_i 0 4, jl_i 0 16, jl_i 0 250, jl_r 27 (jl_u), jl_z 1]
noncomputable def gi_1819 : GI := jl_n [jl_z 2, jl_i 0 4, jl_z 45, jl_i 0 16, jl_i 0 3, jl_i 0 10, jl_i 1 5, jl_i 0 8, jl_i 0 5, jl_i 0 7, jl_i 0 30, jl_i 1 2147483647, jl_z 14, jl_r 3 (jl_m 0 60), jl_i 34 36, jl_i 0 4, jl_i 0 16, jl_i 0 250, jl_i 0 4, jl_i 0 16, jl_i 0 250, jl_i 0 4, jl_i 0 16, jl_i 0 250, jl_i 0 4, jl_i 0 16, jl_i 0 250, jl_i 0 4, jl_i 0 16, jl_i 0 250, jl_i 0 4, jl_i 0 16, jl_i 0 250, jl_i 0 4, jl_i 0 16, jl_i 0 250, jl_i 0 4, jl_i 0 16, jl_i 0 250, jl_i 0 4, jl_i 0 16, jl_i 0 250, jl_i 0 4, jl_i 0 16, jl_i 0 250, jl_i 0 4, jl_i 0 16, jl_i 0 250, jl_i 0 4, jl_i 0 16, jl_i 0 250, jl_r 24 (jl_u), jl_z 1]
noncomputable def gi_1820 : GI := jl_n [jl_z 2, jl_i 0 4, jl_z 45, jl_i 0 16, jl_i 0 3, jl_i 0 10, jl_i 1 5, jl_i 0 8, jl_i 0 5, jl_i 0 7, jl_i 0 30, jl_i 1 2147483647, jl_z 14, jl_r 3 (jl_m 0 60), jl_i 37 39, jl_i 0 4, jl_i 0 16, jl_i 0 250, jl_i 0 4, jl_i 0 16, jl_i 0 250, jl_i 0 4, jl_i 0 16, jl_i 0 250, jl_i 0 4, jl_i 0 16, jl_i 0 250, jl_i 0 4, jl_i 0 16, jl_i 0 250, jl_i 0 4, jl_i 0 16, jl_i 0 250, jl_i 0 4, jl_i 0 16, jl_i 0 250, jl_i 0 4, jl_i 0 16, jl_i 0 250, jl_i 0 4, jl_i 0 16, jl_i 0 250, jl_i 0 4, jl_i 0 16, jl_i 0 250, jl_i 0 4, jl_i 0 16, jl_i 0 250, jl_i 0 4, jl_i 0 16, jl_i 0 250, jl_i 0 4, jl_i 0 16, jl_i 0 250, jl_r 21 (jl_u), jl_z 1]
noncomputable def gi_1821 : GI := jl_n [jl_z 2, jl_i 0 4, jl_z 45, jl_i 0 16, jl_i 0 3, jl_i 0 10, jl_i 1 5, jl_i 0 8, jl_i 0 5, jl_i 0 7, jl_i 0 30, jl_i 1 2147483647, jl_z 14, jl_r 3 (jl_m 0 60), jl_i 40 42, jl_i 0 4, jl_i 0 16, jl_i 0 250, jl_i 0 4, jl_i 0 16, jl_i 0 250, jl_i 0 4, jl_i 0 16, jl_i 0 250, jl_i 0 4, jl_i 0 16, jl_i 0 250, jl_i 0 4, jl_i 0 16, jl_i 0 250, jl_i 0 4, jl_i 0 16, jl_i 0 250, jl_i 0 4, jl_i 0 16, jl_i 0 250, jl_i 0 4, jl_i 0 16, jl_i 0 250, jl_i 0 4, jl_i 0 16, jl_i 0 250, jl_i 0 4, jl_i 0 16, jl_i 0 250, jl_i 0 4, jl_i 0 16, jl_i 0 250, jl_i 0 4, jl_i 0 16, jl_i 0 250, jl_i 0 4, jl_i 0 16, jl_i 0 250, jl_i 0 4, jl_i 0 16, jl_i 0 250, jl_r 18 (jl_u), jl_z 1]
noncomputable def gi_1822 : GI := jl_n [jl_z 2, jl_i 0 4, jl_z 45, jl_i 0 16, jl_i 0 3, jl_i 0 10, jl_i 1 5, jl_i 0 8, jl_i 0 5, jl_i 0 7, jl_i 0 30, jl_i 1 2147483647, jl_z 14, jl_r 3 (jl_m 0 60), jl_i 43 45, jl_i 0 4, jl_i 0 16, jl_i 0 250, jl_i 0 4, jl_i 0 16, jl_i 0 250, jl_i 0 4, jl_i 0 16, jl_i 0 250, jl_i 0 4, jl_i 0 16, jl_i 0 250, jl_i 0 4, jl_i 0 16, jl_i 0 250, jl_i 0 4, jl_i 0 16, jl_i 0 250, jl_i 0 4, jl_i 0 16, jl_i 0 250, jl_i 0 4, jl_i 0 16, jl_i 0 250, jl_i 0 4, jl_i 0 16, jl_i 0 250, jl_i 0 4, jl_i 0 16, jl_i 0 250, jl_i 0 4, jl_i 0 16, jl_i 0 250, jl_i 0 4, jl_i 0 16, jl_i 0 250, jl_i 0 4, jl_i 0 16, jl_i 0 250, jl_i 0 4, jl_i 0 16, jl_i 0 250, jl_i 0 4, jl_i 0 16, jl_i 0 250, jl_r 15 (jl_u), jl_z 1]
noncomputable def gi_1823 : GI := jl_n [jl_z 2, jl_i 0 4, jl_z 45, jl_i 0 16, jl_i 0 3, jl_i 0 10, jl_i 1 5, jl_i 0 8, jl_i 0 5, jl_i 0 7, jl_i 0 30, jl_i 1 2147483647, jl_z 14, jl_r 3 (jl_m 0 60), jl_i 46 48, jl_i 0 4, jl_i 0 16, jl_i 0 250, jl_i 0 4, jl_i 0 16, jl_i 0 250, jl_i 0 4, jl_i 0 16, jl_i 0 250, jl_i 0 4, jl_i 0 16, jl_i 0 250, jl_i 0 4, jl_i 0 16, jl_i 0 250, jl_i 0 4, jl_i 0 16, jl_i 0 250, jl_i 0 4, jl_i 0 16, jl_i 0 250, jl_i 0 4, jl_i 0 16, jl_i 0 250, jl_i 0 4, jl_i 0 16, jl_i 0 250, jl_i 0 4, jl_i 0 16, jl_i 0 250, jl_i 0 4, jl_i 0 16, jl_i 0 250, jl_i 0 4, jl_i 0 16, jl_i 0 250, jl_i 0 4, jl_i 0 16, jl_i 0 250, jl_i 0 4, jl_i 0 16, jl_i 0 250, jl_i 0 4, jl_i 0 16, jl_i 0 250, jl_i 0 4, jl_i 0 16, jl_i 0 250, jl_r 12 (jl_u), jl_z 1]
noncomputable def gi_1824 : GI := jl_n [jl_z 2, jl_i 0 4, jl_z 45, jl_i 0 16, jl_i 0 3, jl_i 0 10, jl_i 1 5, jl_i 0 8, jl_i 0 5, jl_i 0 7, jl_i 0 30, jl_i 1 2147483647, jl_z 14, jl_r 3 (jl_m 0 60), jl_i 49 51, jl_i 0 4, jl_i 0 16, jl_i 0 250, jl_i 0 4, jl_i 0 16, jl_i 0 250, jl_i 0 4, jl_i 0 16, jl_i 0 250, jl_i 0 4, jl_i 0 16, jl_i 0 250, jl_i 0 4, jl_i 0 16, jl_i 0 250, jl_i 0 4, jl_i 0 16, jl_i 0 250, jl_i 0 4, jl_i 0 16, jl_i 0 250, jl_i 0 4, jl_i 0 16, jl_i 0 250, jl_i 0 4, jl_i 0 16, jl_i 0 250, jl_i 0 4, jl_i 0 16, jl_i 0 250, jl_i 0 4, jl_i 0 16, jl_i 0 250, jl_i 0 4, jl_i 0 16, jl_i 0 250, jl_i 0 4, jl_i 0 16, jl_i 0 250, jl_i 0 4, jl_i 0 16, jl_i 0 250, jl_i 0 4, jl_i 0 16, jl_i 0 250, jl_i 0 4, jl_i 0 16, jl_i 0 250, jl_i 0 4, jl_i 0 16, jl_i 0 250, jl_r 9 (jl_u), jl_z 1]
noncomputable def gi_1825 : GI := jl_n [jl_z 2, jl_i 0 4, jl_z 45, jl_i 0 16, jl_i 0 3, jl_i 0 10, jl_i 1 5, jl_i 0 8, jl_i 0 5, jl_i 0 7, jl_i 0 30, jl_i 1 2147483647, jl_z 14, jl_r 3 (jl_m 0 60), jl_i 52 54, jl_i 0 4, jl_i 0 16, jl_i 0 250, jl_i 0 4, jl_i 0 16, jl_i 0 250, jl_i 0 4, jl_i 0 16, jl_i 0 250, jl_i 0 4, jl_i 0 16, jl_i 0 250, jl_i 0 4, jl_i 0 16, jl_i 0 250, jl_i 0 4, jl_i 0 16, jl_i 0 250, jl_i 0 4, jl_i 0 16, jl_i 0 250, jl_i 0 4, jl_i 0 16, jl_i 0 250, jl_i 0 4, jl_i 0 16, jl_i 0 250, jl_i 0 4, jl_i 0 16, jl_i 0 250, jl_i 0 4, jl_i 0 16, jl_i 0 250, jl_i 0 4, jl_i 0 16, jl_i 0 250, jl_i 0 4, jl_i 0 16, jl_i 0 250, jl_i 0 4, jl_i 0 16, jl_i 0 250, jl_i 0 4, jl_i 0 16, jl_i 0 250, jl_i 0 4, jl_i 0 16, jl_i 0 250, jl_i 0 4, jl_i 0 16, jl_i 0 250, jl_i 0 4, jl_i 0 16, jl_i 0 250, jl_r 6 (jl_u), jl_z 1]
noncomputable def gi_1826 : GI := jl_n [jl_z 2, jl_i 0 4, jl_z 45, jl_i 0 16, jl_i 0 3, jl_i 0 10, jl_i 1 5, jl_i 0 8, jl_i 0 5, jl_i 0 7, jl_i 0 30, jl_i 1 2147483647, jl_z 14, jl_r 3 (jl_m 0 60), jl_i 55 57, jl_i 0 4, jl_i 0 16, jl_i 0 250, jl_i 0 4, jl_i 0 16, jl_i 0 250, jl_i 0 4, jl_i 0 16, jl_i 0 250, jl_i 0 4, jl_i 0 16, jl_i 0 250, jl_i 0 4, jl_i 0 16, jl_i 0 250, jl_i 0 4, jl_i 0 16, jl_i 0 250, jl_i 0 4, jl_i 0 16, jl_i 0 250, jl_i 0 4, jl_i 0 16, jl_i 0 250, jl_i 0 4, jl_i 0 16, jl_i 0 250, jl_i 0 4, jl_i 0 16, jl_i 0 250, jl_i 0 4, jl_i 0 16, jl_i 0 250, jl_i 0 4, jl_i 0 16, jl_i 0 250, jl_i 0 4, jl_i 0 16, jl_i 0 250, jl_i 0 4, jl_i 0 16, jl_i 0 250, jl_i 0 4, jl_i 0 16, jl_i 0 250, jl_i 0 4, jl_i 0 16, jl_i 0 250, jl_i 0 4, jl_i 0 16, jl_i 0 250, jl_i 0 4, jl_i 0 16, jl_i 0 250, jl_i 0 4, jl_i 0 16, jl_i 0 250, jl_r 3 (jl_u), jl_z 1]
noncomputable def gi_1827 : GI := jl_n [jl_z 2, jl_i 0 4, jl_z 45, jl_i 0 16, jl_i 0 3, jl_i 0 10, jl_i 1 5, jl_i 0 8, jl_i 0 5, jl_i 0 7, jl_i 0 30, jl_i 1 2147483647, jl_z 14, jl_r 3 (jl_m 0 60), jl_i 4 6, jl_i 0 4, jl_i 0 16, jl_i 0 250, jl_i 0 4, jl_i 0 16, jl_i 0 250, jl_r 54 (jl_u), jl_z 1]
noncomputable def gi_1828 : GI := jl_n [jl_z 2, jl_i 0 4, jl_z 45, jl_i 0 16, jl_i 0 3, jl_i 0 10, jl_i 1 5, jl_i 0 8, jl_i 0 5, jl_i 0 7, jl_i 0 30, jl_i 1 2147483647, jl_z 14, jl_r 3 (jl_m 0 60), jl_i 58 60, jl_i 0 4, jl_i 0 16, jl_i 0 250, jl_i 0 4, jl_i 0 16, jl_i 0 250, jl_i 0 4, jl_i 0 16, jl_i 0 250, jl_i 0 4, jl_i 0 16, jl_i 0 250, jl_i 0 4, jl_i 0 16, jl_i 0 250, jl_i 0 4, jl_i 0 16, jl_i 0 250, jl_i 0 4, jl_i 0 16, jl_i 0 250, jl_i 0 4, jl_i 0 16, jl_i 0 250, jl_i 0 4, jl_i 0 16, jl_i 0 250, jl_i 0 4, jl_i 0 16, jl_i 0 250, jl_i 0 4, jl_i 0 16, jl_i 0 250, jl_i 0 4, jl_i 0 16, jl_i 0 250, jl_i 0 4, jl_i 0 16, jl_i 0 250, jl_i 0 4, jl_i 0 16, jl_i 0 250, jl_i 0 4, jl_i 0 16, jl_i 0 250, jl_i 0 4, jl_i 0 16, jl_i 0 250, jl_i 0 4, jl_i 0 16, jl_i 0 250, jl_i 0 4, jl_i 0 16, jl_i 0 250, jl_i 0 4, jl_i 0 16, jl_i 0 250, jl_i 0 4, jl_i 0 16, jl_i 0 250, jl_z 1]
noncomputable def gi_1829 : GI := jl_n [jl_z 2, jl_i 0 4, jl_z 45, jl_i 0 16, jl_i 0 3, jl_i 0 10, jl_i 1 5, jl_i 0 8, jl_i 0 5, jl_i 0 7, jl_i 0 30, jl_i 1 2147483647, jl_z 14, jl_r 3 (jl_m 0 60), jl_i 7 9, jl_i 0 4, jl_i 0 16, jl_i 0 250, jl_i 0 4, jl_i 0 16, jl_i 0 250, jl_i 0 4, jl_i 0 16, jl_i 0 250, jl_r 51 (jl_u), jl_z 1]
noncomputable def con_1994 : Con2 := ((yX12_askSeen, cX12_askSeen, 4, (some .int)), (2, 47), ([(6, 0, 0), (0, 3, 0), (1, 2, 0)], gi_1806, [ac_1097, ac_440, ac_1098, ac_1161], []), [((0, (-2), 0), gi_1807, hq_914, [], [1]), ((0, (-6), 0), gi_1808, hq_914, [], [1]), ((0, 0, 0), gi_1809, hq_914, [], [1]), ((0, 0, 0), gi_1810, hq_914, [], [1]), ((0, 0, 0), gi_1811, hq_914, [], [1]), ((0, 0, 0), gi_1812, hq_914, [], [1]), ((0, 0, 0), gi_1813, hq_914, [], [1]), ((0, 0, 0), gi_1814, hq_914, [], [1]), ((0, 0, 0), gi_1815, hq_914, [], [1]), ((0, 0, 0), gi_1816, hq_914, [], [1]), ((0, 0, 0), gi_1817, hq_914, [], [1]), ((0, 0, 0), gi_1818, hq_914, [], [1]), ((0, 0, 0), gi_1819, hq_914, [], [1]), ((0, 0, 0), gi_1820, hq_914, [], [1]), ((0, 0, 0), gi_1821, hq_914, [], [1]), ((0, 0, 0), gi_1822, hq_914, [], [1]), ((0, 0, 0), gi_1823, hq_914, [], [1]), ((0, 0, 0), gi_1824, hq_914, [], [1]), ((0, 0, 0), gi_1825, hq_914, [], [1]), ((0, 0, 0), gi_1826, hq_914, [], [1]), ((0, 0, 0), gi_1827, hq_914, [], [1]), ((0, 0, 0), gi_1828, hq_914, [], [1]), ((0, 0, 0), gi_1829, hq_914, [], [1])])
theorem hd_1994 : con_1994.1 = (yX12_askSeen, cX12_askSeen, 4, (some .int)) := rfl
theorem ck_RX12_91_1936 : COK2 RX12 vwCl gTbl 91 1 con_1936 := ⟨wd_1544, wd_137, mh_X12_in, .inl ⟨rfl, wd_1542, wd_1543, pd_X12_in⟩⟩
theorem ck_RX12_417_1935 : COK2 RX12 vwCl gTbl 417 0 con_1935 := ⟨wd_2061, wd_137, mh_X12_numberAt, .inr (.inr ⟨rfl, wd_2058, wd_2060, wd_114, ⟨_, rfl, pd_X12_numberAt⟩, 12, _, TX12, 45, rfl, rfl⟩)⟩
theorem ck_RX12_417_1939 : COK2 RX12 vwCl gTbl 417 0 con_1939 := ⟨wd_2061, wd_137, mh_X12_numberAt, .inr (.inr ⟨rfl, wd_2058, wd_2060, wd_114, ⟨_, rfl, pd_X12_numberAt⟩, 12, _, TX12, 45, rfl, rfl⟩)⟩
theorem ck_RX12_417_1942 : COK2 RX12 vwCl gTbl 417 0 con_1942 := ⟨wd_2061, wd_137, mh_X12_numberAt, .inr (.inr ⟨rfl, wd_2058, wd_2060, wd_114, ⟨_, rfl, pd_X12_numberAt⟩, 12, _, TX12, 45, rfl, rfl⟩)⟩
theorem ck_RX12_417_1945 : COK2 RX12 vwCl gTbl 417 0 con_1945 := ⟨wd_2061, wd_137, mh_X12_numberAt, .inr (.inr ⟨rfl, wd_2058, wd_2060, wd_114, ⟨_, rfl, pd_X12_numberAt⟩, 12, _, TX12, 45, rfl, rfl⟩)⟩
theorem ck_RX12_417_1948 : COK2 RX12 vwCl gTbl 417 0 con_1948 := ⟨wd_2061, wd_137, mh_X12_numberAt, .inr (.inr ⟨rfl, wd_2058, wd_2060, wd_114, ⟨_, rfl, pd_X12_numberAt⟩, 12, _, TX12, 45, rfl, rfl⟩)⟩
theorem ck_RX12_417_1951 : COK2 RX12 vwCl gTbl 417 0 con_1951 := ⟨wd_2061, wd_137, mh_X12_numberAt, .inr (.inr ⟨rfl, wd_2058, wd_2060, wd_114, ⟨_, rfl, pd_X12_numberAt⟩, 12, _, TX12, 45, rfl, rfl⟩)⟩
theorem ck_RX12_417_1954 : COK2 RX12 vwCl gTbl 417 0 con_1954 := ⟨wd_2061, wd_137, mh_X12_numberAt, .inr (.inr ⟨rfl, wd_2058, wd_2060, wd_114, ⟨_, rfl, pd_X12_numberAt⟩, 12, _, TX12, 45, rfl, rfl⟩)⟩
theorem ck_RX12_417_1957 : COK2 RX12 vwCl gTbl 417 0 con_1957 := ⟨wd_2061, wd_137, mh_X12_numberAt, .inr (.inr ⟨rfl, wd_2058, wd_2060, wd_114, ⟨_, rfl, pd_X12_numberAt⟩, 12, _, TX12, 45, rfl, rfl⟩)⟩
theorem ck_RX12_417_1960 : COK2 RX12 vwCl gTbl 417 0 con_1960 := ⟨wd_2061, wd_137, mh_X12_numberAt, .inr (.inr ⟨rfl, wd_2058, wd_2060, wd_114, ⟨_, rfl, pd_X12_numberAt⟩, 12, _, TX12, 45, rfl, rfl⟩)⟩
theorem ck_RX12_417_1963 : COK2 RX12 vwCl gTbl 417 0 con_1963 := ⟨wd_2061, wd_137, mh_X12_numberAt, .inr (.inr ⟨rfl, wd_2058, wd_2060, wd_114, ⟨_, rfl, pd_X12_numberAt⟩, 12, _, TX12, 45, rfl, rfl⟩)⟩
theorem ck_RX12_417_1966 : COK2 RX12 vwCl gTbl 417 0 con_1966 := ⟨wd_2061, wd_137, mh_X12_numberAt, .inr (.inr ⟨rfl, wd_2058, wd_2060, wd_114, ⟨_, rfl, pd_X12_numberAt⟩, 12, _, TX12, 45, rfl, rfl⟩)⟩
theorem ck_RX12_417_1969 : COK2 RX12 vwCl gTbl 417 0 con_1969 := ⟨wd_2061, wd_137, mh_X12_numberAt, .inr (.inr ⟨rfl, wd_2058, wd_2060, wd_114, ⟨_, rfl, pd_X12_numberAt⟩, 12, _, TX12, 45, rfl, rfl⟩)⟩
theorem ck_RX12_417_1972 : COK2 RX12 vwCl gTbl 417 0 con_1972 := ⟨wd_2061, wd_137, mh_X12_numberAt, .inr (.inr ⟨rfl, wd_2058, wd_2060, wd_114, ⟨_, rfl, pd_X12_numberAt⟩, 12, _, TX12, 45, rfl, rfl⟩)⟩
theorem ck_RX12_417_1975 : COK2 RX12 vwCl gTbl 417 0 con_1975 := ⟨wd_2061, wd_137, mh_X12_numberAt, .inr (.inr ⟨rfl, wd_2058, wd_2060, wd_114, ⟨_, rfl, pd_X12_numberAt⟩, 12, _, TX12, 45, rfl, rfl⟩)⟩
theorem ck_RX12_417_1978 : COK2 RX12 vwCl gTbl 417 0 con_1978 := ⟨wd_2061, wd_137, mh_X12_numberAt, .inr (.inr ⟨rfl, wd_2058, wd_2060, wd_114, ⟨_, rfl, pd_X12_numberAt⟩, 12, _, TX12, 45, rfl, rfl⟩)⟩
theorem ck_RX12_417_1981 : COK2 RX12 vwCl gTbl 417 0 con_1981 := ⟨wd_2061, wd_137, mh_X12_numberAt, .inr (.inr ⟨rfl, wd_2058, wd_2060, wd_114, ⟨_, rfl, pd_X12_numberAt⟩, 12, _, TX12, 45, rfl, rfl⟩)⟩
theorem ck_RX12_417_1984 : COK2 RX12 vwCl gTbl 417 0 con_1984 := ⟨wd_2061, wd_137, mh_X12_numberAt, .inr (.inr ⟨rfl, wd_2058, wd_2060, wd_114, ⟨_, rfl, pd_X12_numberAt⟩, 12, _, TX12, 45, rfl, rfl⟩)⟩
theorem ck_RX12_417_1987 : COK2 RX12 vwCl gTbl 417 0 con_1987 := ⟨wd_2061, wd_137, mh_X12_numberAt, .inr (.inr ⟨rfl, wd_2058, wd_2060, wd_114, ⟨_, rfl, pd_X12_numberAt⟩, 12, _, TX12, 45, rfl, rfl⟩)⟩
theorem ck_RX12_417_1990 : COK2 RX12 vwCl gTbl 417 0 con_1990 := ⟨wd_2061, wd_137, mh_X12_numberAt, .inr (.inr ⟨rfl, wd_2058, wd_2060, wd_114, ⟨_, rfl, pd_X12_numberAt⟩, 12, _, TX12, 45, rfl, rfl⟩)⟩
theorem ck_RX12_417_1993 : COK2 RX12 vwCl gTbl 417 0 con_1993 := ⟨wd_2061, wd_137, mh_X12_numberAt, .inr (.inr ⟨rfl, wd_2058, wd_2060, wd_114, ⟨_, rfl, pd_X12_numberAt⟩, 12, _, TX12, 45, rfl, rfl⟩)⟩
theorem ck_RX12_369_1934 : COK2 RX12 vwCl gTbl 369 0 con_1934 := ⟨wd_1902, wd_137, mh_X12_isDay, .inr (.inr ⟨rfl, wd_1899, wd_1901, wd_101, ⟨_, rfl, pd_X12_isDay⟩, 12, _, TX12, 45, rfl, rfl⟩)⟩
theorem ck_RX12_417_1933 : COK2 RX12 vwCl gTbl 417 0 con_1933 := ⟨wd_2061, wd_137, mh_X12_numberAt, .inr (.inr ⟨rfl, wd_2058, wd_2060, wd_114, ⟨_, rfl, pd_X12_numberAt⟩, 12, _, TX12, 45, rfl, rfl⟩)⟩
theorem ck_RX12_417_1938 : COK2 RX12 vwCl gTbl 417 0 con_1938 := ⟨wd_2061, wd_137, mh_X12_numberAt, .inr (.inr ⟨rfl, wd_2058, wd_2060, wd_114, ⟨_, rfl, pd_X12_numberAt⟩, 12, _, TX12, 45, rfl, rfl⟩)⟩
theorem ck_RX12_417_1941 : COK2 RX12 vwCl gTbl 417 0 con_1941 := ⟨wd_2061, wd_137, mh_X12_numberAt, .inr (.inr ⟨rfl, wd_2058, wd_2060, wd_114, ⟨_, rfl, pd_X12_numberAt⟩, 12, _, TX12, 45, rfl, rfl⟩)⟩
theorem ck_RX12_417_1944 : COK2 RX12 vwCl gTbl 417 0 con_1944 := ⟨wd_2061, wd_137, mh_X12_numberAt, .inr (.inr ⟨rfl, wd_2058, wd_2060, wd_114, ⟨_, rfl, pd_X12_numberAt⟩, 12, _, TX12, 45, rfl, rfl⟩)⟩
theorem ck_RX12_417_1947 : COK2 RX12 vwCl gTbl 417 0 con_1947 := ⟨wd_2061, wd_137, mh_X12_numberAt, .inr (.inr ⟨rfl, wd_2058, wd_2060, wd_114, ⟨_, rfl, pd_X12_numberAt⟩, 12, _, TX12, 45, rfl, rfl⟩)⟩
theorem ck_RX12_417_1950 : COK2 RX12 vwCl gTbl 417 0 con_1950 := ⟨wd_2061, wd_137, mh_X12_numberAt, .inr (.inr ⟨rfl, wd_2058, wd_2060, wd_114, ⟨_, rfl, pd_X12_numberAt⟩, 12, _, TX12, 45, rfl, rfl⟩)⟩
theorem ck_RX12_417_1953 : COK2 RX12 vwCl gTbl 417 0 con_1953 := ⟨wd_2061, wd_137, mh_X12_numberAt, .inr (.inr ⟨rfl, wd_2058, wd_2060, wd_114, ⟨_, rfl, pd_X12_numberAt⟩, 12, _, TX12, 45, rfl, rfl⟩)⟩
theorem ck_RX12_417_1956 : COK2 RX12 vwCl gTbl 417 0 con_1956 := ⟨wd_2061, wd_137, mh_X12_numberAt, .inr (.inr ⟨rfl, wd_2058, wd_2060, wd_114, ⟨_, rfl, pd_X12_numberAt⟩, 12, _, TX12, 45, rfl, rfl⟩)⟩
theorem ck_RX12_417_1959 : COK2 RX12 vwCl gTbl 417 0 con_1959 := ⟨wd_2061, wd_137, mh_X12_numberAt, .inr (.inr ⟨rfl, wd_2058, wd_2060, wd_114, ⟨_, rfl, pd_X12_numberAt⟩, 12, _, TX12, 45, rfl, rfl⟩)⟩
theorem ck_RX12_417_1962 : COK2 RX12 vwCl gTbl 417 0 con_1962 := ⟨wd_2061, wd_137, mh_X12_numberAt, .inr (.inr ⟨rfl, wd_2058, wd_2060, wd_114, ⟨_, rfl, pd_X12_numberAt⟩, 12, _, TX12, 45, rfl, rfl⟩)⟩
theorem ck_RX12_417_1965 : COK2 RX12 vwCl gTbl 417 0 con_1965 := ⟨wd_2061, wd_137, mh_X12_numberAt, .inr (.inr ⟨rfl, wd_2058, wd_2060, wd_114, ⟨_, rfl, pd_X12_numberAt⟩, 12, _, TX12, 45, rfl, rfl⟩)⟩
theorem ck_RX12_417_1968 : COK2 RX12 vwCl gTbl 417 0 con_1968 := ⟨wd_2061, wd_137, mh_X12_numberAt, .inr (.inr ⟨rfl, wd_2058, wd_2060, wd_114, ⟨_, rfl, pd_X12_numberAt⟩, 12, _, TX12, 45, rfl, rfl⟩)⟩
theorem ck_RX12_417_1971 : COK2 RX12 vwCl gTbl 417 0 con_1971 := ⟨wd_2061, wd_137, mh_X12_numberAt, .inr (.inr ⟨rfl, wd_2058, wd_2060, wd_114, ⟨_, rfl, pd_X12_numberAt⟩, 12, _, TX12, 45, rfl, rfl⟩)⟩
theorem ck_RX12_417_1974 : COK2 RX12 vwCl gTbl 417 0 con_1974 := ⟨wd_2061, wd_137, mh_X12_numberAt, .inr (.inr ⟨rfl, wd_2058, wd_2060, wd_114, ⟨_, rfl, pd_X12_numberAt⟩, 12, _, TX12, 45, rfl, rfl⟩)⟩
theorem ck_RX12_417_1977 : COK2 RX12 vwCl gTbl 417 0 con_1977 := ⟨wd_2061, wd_137, mh_X12_numberAt, .inr (.inr ⟨rfl, wd_2058, wd_2060, wd_114, ⟨_, rfl, pd_X12_numberAt⟩, 12, _, TX12, 45, rfl, rfl⟩)⟩
theorem ck_RX12_417_1980 : COK2 RX12 vwCl gTbl 417 0 con_1980 := ⟨wd_2061, wd_137, mh_X12_numberAt, .inr (.inr ⟨rfl, wd_2058, wd_2060, wd_114, ⟨_, rfl, pd_X12_numberAt⟩, 12, _, TX12, 45, rfl, rfl⟩)⟩
theorem ck_RX12_417_1983 : COK2 RX12 vwCl gTbl 417 0 con_1983 := ⟨wd_2061, wd_137, mh_X12_numberAt, .inr (.inr ⟨rfl, wd_2058, wd_2060, wd_114, ⟨_, rfl, pd_X12_numberAt⟩, 12, _, TX12, 45, rfl, rfl⟩)⟩
theorem ck_RX12_417_1986 : COK2 RX12 vwCl gTbl 417 0 con_1986 := ⟨wd_2061, wd_137, mh_X12_numberAt, .inr (.inr ⟨rfl, wd_2058, wd_2060, wd_114, ⟨_, rfl, pd_X12_numberAt⟩, 12, _, TX12, 45, rfl, rfl⟩)⟩
theorem ck_RX12_417_1989 : COK2 RX12 vwCl gTbl 417 0 con_1989 := ⟨wd_2061, wd_137, mh_X12_numberAt, .inr (.inr ⟨rfl, wd_2058, wd_2060, wd_114, ⟨_, rfl, pd_X12_numberAt⟩, 12, _, TX12, 45, rfl, rfl⟩)⟩
theorem ck_RX12_417_1992 : COK2 RX12 vwCl gTbl 417 0 con_1992 := ⟨wd_2061, wd_137, mh_X12_numberAt, .inr (.inr ⟨rfl, wd_2058, wd_2060, wd_114, ⟨_, rfl, pd_X12_numberAt⟩, 12, _, TX12, 45, rfl, rfl⟩)⟩
theorem ck_RX12_109_1932 : COK2 RX12 vwCl gTbl 109 0 con_1932 := ⟨wd_1656, wd_137, mh_X12_isField, .inr (.inr ⟨rfl, wd_1653, wd_1655, wd_66, ⟨_, rfl, pd_X12_isField⟩, 12, _, TX12, 45, rfl, rfl⟩)⟩
theorem ck_RX12_417_1931 : COK2 RX12 vwCl gTbl 417 0 con_1931 := ⟨wd_2061, wd_137, mh_X12_numberAt, .inr (.inr ⟨rfl, wd_2058, wd_2060, wd_114, ⟨_, rfl, pd_X12_numberAt⟩, 12, _, TX12, 45, rfl, rfl⟩)⟩
theorem ck_RX12_417_1937 : COK2 RX12 vwCl gTbl 417 0 con_1937 := ⟨wd_2061, wd_137, mh_X12_numberAt, .inr (.inr ⟨rfl, wd_2058, wd_2060, wd_114, ⟨_, rfl, pd_X12_numberAt⟩, 12, _, TX12, 45, rfl, rfl⟩)⟩
theorem ck_RX12_417_1940 : COK2 RX12 vwCl gTbl 417 0 con_1940 := ⟨wd_2061, wd_137, mh_X12_numberAt, .inr (.inr ⟨rfl, wd_2058, wd_2060, wd_114, ⟨_, rfl, pd_X12_numberAt⟩, 12, _, TX12, 45, rfl, rfl⟩)⟩
theorem ck_RX12_417_1943 : COK2 RX12 vwCl gTbl 417 0 con_1943 := ⟨wd_2061, wd_137, mh_X12_numberAt, .inr (.inr ⟨rfl, wd_2058, wd_2060, wd_114, ⟨_, rfl, pd_X12_numberAt⟩, 12, _, TX12, 45, rfl, rfl⟩)⟩
theorem ck_RX12_417_1946 : COK2 RX12 vwCl gTbl 417 0 con_1946 := ⟨wd_2061, wd_137, mh_X12_numberAt, .inr (.inr ⟨rfl, wd_2058, wd_2060, wd_114, ⟨_, rfl, pd_X12_numberAt⟩, 12, _, TX12, 45, rfl, rfl⟩)⟩
theorem ck_RX12_417_1949 : COK2 RX12 vwCl gTbl 417 0 con_1949 := ⟨wd_2061, wd_137, mh_X12_numberAt, .inr (.inr ⟨rfl, wd_2058, wd_2060, wd_114, ⟨_, rfl, pd_X12_numberAt⟩, 12, _, TX12, 45, rfl, rfl⟩)⟩
theorem ck_RX12_417_1952 : COK2 RX12 vwCl gTbl 417 0 con_1952 := ⟨wd_2061, wd_137, mh_X12_numberAt, .inr (.inr ⟨rfl, wd_2058, wd_2060, wd_114, ⟨_, rfl, pd_X12_numberAt⟩, 12, _, TX12, 45, rfl, rfl⟩)⟩
theorem ck_RX12_417_1955 : COK2 RX12 vwCl gTbl 417 0 con_1955 := ⟨wd_2061, wd_137, mh_X12_numberAt, .inr (.inr ⟨rfl, wd_2058, wd_2060, wd_114, ⟨_, rfl, pd_X12_numberAt⟩, 12, _, TX12, 45, rfl, rfl⟩)⟩
theorem ck_RX12_417_1958 : COK2 RX12 vwCl gTbl 417 0 con_1958 := ⟨wd_2061, wd_137, mh_X12_numberAt, .inr (.inr ⟨rfl, wd_2058, wd_2060, wd_114, ⟨_, rfl, pd_X12_numberAt⟩, 12, _, TX12, 45, rfl, rfl⟩)⟩
theorem ck_RX12_417_1961 : COK2 RX12 vwCl gTbl 417 0 con_1961 := ⟨wd_2061, wd_137, mh_X12_numberAt, .inr (.inr ⟨rfl, wd_2058, wd_2060, wd_114, ⟨_, rfl, pd_X12_numberAt⟩, 12, _, TX12, 45, rfl, rfl⟩)⟩
theorem ck_RX12_417_1964 : COK2 RX12 vwCl gTbl 417 0 con_1964 := ⟨wd_2061, wd_137, mh_X12_numberAt, .inr (.inr ⟨rfl, wd_2058, wd_2060, wd_114, ⟨_, rfl, pd_X12_numberAt⟩, 12, _, TX12, 45, rfl, rfl⟩)⟩
theorem ck_RX12_417_1967 : COK2 RX12 vwCl gTbl 417 0 con_1967 := ⟨wd_2061, wd_137, mh_X12_numberAt, .inr (.inr ⟨rfl, wd_2058, wd_2060, wd_114, ⟨_, rfl, pd_X12_numberAt⟩, 12, _, TX12, 45, rfl, rfl⟩)⟩
theorem ck_RX12_417_1970 : COK2 RX12 vwCl gTbl 417 0 con_1970 := ⟨wd_2061, wd_137, mh_X12_numberAt, .inr (.inr ⟨rfl, wd_2058, wd_2060, wd_114, ⟨_, rfl, pd_X12_numberAt⟩, 12, _, TX12, 45, rfl, rfl⟩)⟩
theorem ck_RX12_417_1973 : COK2 RX12 vwCl gTbl 417 0 con_1973 := ⟨wd_2061, wd_137, mh_X12_numberAt, .inr (.inr ⟨rfl, wd_2058, wd_2060, wd_114, ⟨_, rfl, pd_X12_numberAt⟩, 12, _, TX12, 45, rfl, rfl⟩)⟩
theorem ck_RX12_417_1976 : COK2 RX12 vwCl gTbl 417 0 con_1976 := ⟨wd_2061, wd_137, mh_X12_numberAt, .inr (.inr ⟨rfl, wd_2058, wd_2060, wd_114, ⟨_, rfl, pd_X12_numberAt⟩, 12, _, TX12, 45, rfl, rfl⟩)⟩
theorem ck_RX12_417_1979 : COK2 RX12 vwCl gTbl 417 0 con_1979 := ⟨wd_2061, wd_137, mh_X12_numberAt, .inr (.inr ⟨rfl, wd_2058, wd_2060, wd_114, ⟨_, rfl, pd_X12_numberAt⟩, 12, _, TX12, 45, rfl, rfl⟩)⟩
theorem ck_RX12_417_1982 : COK2 RX12 vwCl gTbl 417 0 con_1982 := ⟨wd_2061, wd_137, mh_X12_numberAt, .inr (.inr ⟨rfl, wd_2058, wd_2060, wd_114, ⟨_, rfl, pd_X12_numberAt⟩, 12, _, TX12, 45, rfl, rfl⟩)⟩
theorem ck_RX12_417_1985 : COK2 RX12 vwCl gTbl 417 0 con_1985 := ⟨wd_2061, wd_137, mh_X12_numberAt, .inr (.inr ⟨rfl, wd_2058, wd_2060, wd_114, ⟨_, rfl, pd_X12_numberAt⟩, 12, _, TX12, 45, rfl, rfl⟩)⟩
theorem ck_RX12_417_1988 : COK2 RX12 vwCl gTbl 417 0 con_1988 := ⟨wd_2061, wd_137, mh_X12_numberAt, .inr (.inr ⟨rfl, wd_2058, wd_2060, wd_114, ⟨_, rfl, pd_X12_numberAt⟩, 12, _, TX12, 45, rfl, rfl⟩)⟩
theorem ck_RX12_417_1991 : COK2 RX12 vwCl gTbl 417 0 con_1991 := ⟨wd_2061, wd_137, mh_X12_numberAt, .inr (.inr ⟨rfl, wd_2058, wd_2060, wd_114, ⟨_, rfl, pd_X12_numberAt⟩, 12, _, TX12, 45, rfl, rfl⟩)⟩
theorem ck_RX12_414_1930 : COK2 RX12 vwCl gTbl 414 1 con_1930 := ⟨wd_2057, wd_137, mh_X12_isSlot, .inl ⟨rfl, wd_2055, wd_2056, pd_X12_isSlot⟩⟩
noncomputable def ct_1994 : CTB2 := [(1, 414, 1, con_1930, []), (10, 109, 0, con_647, [0, 1]), (62, 417, 0, con_1991, [0, 3]), (62, 417, 0, con_1988, [0, 3]), (62, 417, 0, con_1985, [0, 3]), (62, 417, 0, con_1982, [0, 3]), (62, 417, 0, con_1979, [0, 3]), (62, 417, 0, con_1976, [0, 3]), (62, 417, 0, con_1973, [0, 3]), (62, 417, 0, con_1970, [0, 3]), (62, 417, 0, con_1967, [0, 3]), (62, 417, 0, con_1964, [0, 3]), (62, 417, 0, con_1961, [0, 3]), (62, 417, 0, con_1958, [0, 3]), (62, 417, 0, con_1955, [0, 3]), (62, 417, 0, con_1952, [0, 3]), (62, 417, 0, con_1949, [0, 3]), (62, 417, 0, con_1946, [0, 3]), (62, 417, 0, con_1943, [0, 3]), (62, 417, 0, con_1940, [0, 3]), (62, 417, 0, con_1937, [0, 3]), (62, 417, 0, con_1931, [0, 3]), (65, 109, 0, con_1932, [0, 1]), (77, 417, 0, con_1992, [0, 3]), (77, 417, 0, con_1989, [0, 3]), (77, 417, 0, con_1986, [0, 3]), (77, 417, 0, con_1983, [0, 3]), (77, 417, 0, con_1980, [0, 3]), (77, 417, 0, con_1977, [0, 3]), (77, 417, 0, con_1974, [0, 3]), (77, 417, 0, con_1971, [0, 3]), (77, 417, 0, con_1968, [0, 3]), (77, 417, 0, con_1965, [0, 3]), (77, 417, 0, con_1962, [0, 3]), (77, 417, 0, con_1959, [0, 3]), (77, 417, 0, con_1956, [0, 3]), (77, 417, 0, con_1953, [0, 3]), (77, 417, 0, con_1950, [0, 3]), (77, 417, 0, con_1947, [0, 3]), (77, 417, 0, con_1944, [0, 3]), (77, 417, 0, con_1941, [0, 3]), (77, 417, 0, con_1938, [0, 3]), (77, 417, 0, con_1933, [0, 3]), (80, 369, 0, con_1934, [0, 1]), (91, 417, 0, con_1993, [0, 3]), (91, 417, 0, con_1990, [0, 3]), (91, 417, 0, con_1987, [0, 3]), (91, 417, 0, con_1984, [0, 3]), (91, 417, 0, con_1981, [0, 3]), (91, 417, 0, con_1978, [0, 3]), (91, 417, 0, con_1975, [0, 3]), (91, 417, 0, con_1972, [0, 3]), (91, 417, 0, con_1969, [0, 3]), (91, 417, 0, con_1966, [0, 3]), (91, 417, 0, con_1963, [0, 3]), (91, 417, 0, con_1960, [0, 3]), (91, 417, 0, con_1957, [0, 3]), (91, 417, 0, con_1954, [0, 3]), (91, 417, 0, con_1951, [0, 3]), (91, 417, 0, con_1948, [0, 3]), (91, 417, 0, con_1945, [0, 3]), (91, 417, 0, con_1942, [0, 3]), (91, 417, 0, con_1939, [0, 3]), (91, 417, 0, con_1935, [0, 3]), (98, 91, 1, con_1936, [])]
noncomputable def gi_1830 : GI := jl_n [jl_z 2, jl_i 0 4, jl_z 45, jl_i 0 16, jl_i 0 3, jl_i 0 10, jl_i 1 5, jl_i 0 8, jl_i 0 5, jl_i 0 7, jl_i 0 30, jl_i 0 2147483647, jl_z 14, jl_r 3 (jl_m 0 60), jl_i 0 60, jl_r 60 (jl_u), jl_z 4]
noncomputable def gi_1831 : GI := jl_n [jl_z 2, jl_i 0 4, jl_z 45, jl_i 0 16, jl_i 0 3, jl_i 0 10, jl_i 1 5, jl_i 0 8, jl_i 0 5, jl_i 0 7, jl_i 0 30, jl_i 1 2147483647, jl_z 14, jl_r 3 (jl_m 0 60), jl_i 1 60, jl_i 0 4, jl_i 0 16, jl_i 0 250, jl_r 57 (jl_u), jl_z 4]
noncomputable def gi_1832 : GI := jl_n [jl_z 2, jl_i 0 4, jl_z 45, jl_i 0 16, jl_i 0 3, jl_i 0 10, jl_i 1 5, jl_i 0 8, jl_i 0 5, jl_i 0 7, jl_i 0 30, jl_i 1 2147483647, jl_z 14, jl_r 3 (jl_m 0 60), jl_i 4 60, jl_i 0 4, jl_i 0 16, jl_i 0 250, jl_i 0 4, jl_i 0 16, jl_i 0 250, jl_r 54 (jl_u), jl_z 4]
noncomputable def gi_1833 : GI := jl_n [jl_z 2, jl_i 0 4, jl_z 45, jl_i 0 16, jl_i 0 3, jl_i 0 10, jl_i 1 5, jl_i 0 8, jl_i 0 5, jl_i 0 7, jl_i 0 30, jl_i 1 2147483647, jl_z 14, jl_r 3 (jl_m 0 60), jl_i 7 60, jl_i 0 4, jl_i 0 16, jl_i 0 250, jl_i 0 4, jl_i 0 16, jl_i 0 250, jl_i 0 4, jl_i 0 16, jl_i 0 250, jl_r 51 (jl_u), jl_z 4]
noncomputable def gi_1834 : GI := jl_n [jl_z 2, jl_i 0 4, jl_z 45, jl_i 0 16, jl_i 0 3, jl_i 0 10, jl_i 1 5, jl_i 0 8, jl_i 0 5, jl_i 0 7, jl_i 0 30, jl_i 1 2147483647, jl_z 14, jl_r 3 (jl_m 0 60), jl_i 10 60, jl_i 0 4, jl_i 0 16, jl_i 0 250, jl_i 0 4, jl_i 0 16, jl_i 0 250, jl_i 0 4, jl_i 0 16, jl_i 0 250, jl_i 0 4, jl_i 0 16, jl_i 0 250, jl_r 48 (jl_u), jl_z 4]
noncomputable def gi_1835 : GI := jl_n [jl_z 2, jl_i 0 4, jl_z 45, jl_i 0 16, jl_i 0 3, jl_i 0 10, jl_i 1 5, jl_i 0 8, jl_i 0 5, jl_i 0 7, jl_i 0 30, jl_i 1 2147483647, jl_z 14, jl_r 3 (jl_m 0 60), jl_i 13 60, jl_i 0 4, jl_i 0 16, jl_i 0 250, jl_i 0 4, jl_i 0 16, jl_i 0 250, jl_i 0 4, jl_i 0 16, jl_i 0 250, jl_i 0 4, jl_i 0 16, jl_i 0 250, jl_i 0 4, jl_i 0 16, jl_i 0 250, jl_r 45 (jl_u), jl_z 4]
noncomputable def gi_1836 : GI := jl_n [jl_z 2, jl_i 0 4, jl_z 45, jl_i 0 16, jl_i 0 3, jl_i 0 10, jl_i 1 5, jl_i 0 8, jl_i 0 5, jl_i 0 7, jl_i 0 30, jl_i 1 2147483647, jl_z 14, jl_r 3 (jl_m 0 60), jl_i 16 60, jl_i 0 4, jl_i 0 16, jl_i 0 250, jl_i 0 4, jl_i 0 16, jl_i 0 250, jl_i 0 4, jl_i 0 16, jl_i 0 250, jl_i 0 4, jl_i 0 16, jl_i 0 250, jl_i 0 4, jl_i 0 16, jl_i 0 250, jl_i 0 4, jl_i 0 16, jl_i 0 250, jl_r 42 (jl_u), jl_z 4]
noncomputable def gi_1837 : GI := jl_n [jl_z 2, jl_i 0 4, jl_z 45, jl_i 0 16, jl_i 0 3, jl_i 0 10, jl_i 1 5, jl_i 0 8, jl_i 0 5, jl_i 0 7, jl_i 0 30, jl_i 1 2147483647, jl_z 14, jl_r 3 (jl_m 0 60), jl_i 19 60, jl_i 0 4, jl_i 0 16, jl_i 0 250, jl_i 0 4, jl_i 0 16, jl_i 0 250, jl_i 0 4, jl_i 0 16, jl_i 0 250, jl_i 0 4, jl_i 0 16, jl_i 0 250, jl_i 0 4, jl_i 0 16, jl_i 0 250, jl_i 0 4, jl_i 0 16, jl_i 0 250, jl_i 0 4, jl_i 0 16, jl_i 0 250, jl_r 39 (jl_u), jl_z 4]
noncomputable def gi_1838 : GI := jl_n [jl_z 2, jl_i 0 4, jl_z 45, jl_i 0 16, jl_i 0 3, jl_i 0 10, jl_i 1 5, jl_i 0 8, jl_i 0 5, jl_i 0 7, jl_i 0 30, jl_i 1 2147483647, jl_z 14, jl_r 3 (jl_m 0 60), jl_i 22 60, jl_i 0 4, jl_i 0 16, jl_i 0 250, jl_i 0 4, jl_i 0 16, jl_i 0 250, jl_i 0 4, jl_i 0 16, jl_i 0 250, jl_i 0 4, jl_i 0 16, jl_i 0 250, jl_i 0 4, jl_i 0 16, jl_i 0 250, jl_i 0 4, jl_i 0 16, jl_i 0 250, jl_i 0 4, jl_i 0 16, jl_i 0 250, jl_i 0 4, jl_i 0 16, jl_i 0 250, jl_r 36 (jl_u), jl_z 4]
noncomputable def gi_1839 : GI := jl_n [jl_z 2, jl_i 0 4, jl_z 45, jl_i 0 16, jl_i 0 3, jl_i 0 10, jl_i 1 5, jl_i 0 8, jl_i 0 5, jl_i 0 7, jl_i 0 30, jl_i 1 2147483647, jl_z 14, jl_r 3 (jl_m 0 60), jl_i 25 60, jl_i 0 4, jl_i 0 16, jl_i 0 250, jl_i 0 4, jl_i 0 16, jl_i 0 250, jl_i 0 4, jl_i 0 16, jl_i 0 250, jl_i 0 4, jl_i 0 16, jl_i 0 250, jl_i 0 4, jl_i 0 16, jl_i 0 250, jl_i 0 4, jl_i 0 16, jl_i 0 250, jl_i 0 4, jl_i 0 16, jl_i 0 250, jl_i 0 4, jl_i 0 16, jl_i 0 250, jl_i 0 4, jl_i 0 16, jl_i 0 250, jl_r 33 (jl_u), jl_z 4]
noncomputable def gi_1840 : GI := jl_n [jl_z 2, jl_i 0 4, jl_z 45, jl_i 0 16, jl_i 0 3, jl_i 0 10, jl_i 1 5, jl_i 0 8, jl_i 0 5, jl_i 0 7, jl_i 0 30, jl_i 1 2147483647, jl_z 14, jl_r 3 (jl_m 0 60), jl_i 28 60, jl_i 0 4, jl_i 0 16, jl_i 0 250, jl_i 0 4, jl_i 0 16, jl_i 0 250, jl_i 0 4, jl_i 0 16, jl_i 0 250, jl_i 0 4, jl_i 0 16, jl_i 0 250, jl_i 0 4, jl_i 0 16, jl_i 0 250, jl_i 0 4, jl_i 0 16, jl_i 0 250, jl_i 0 4, jl_i 0 16, jl_i 0 250, jl_i 0 4, jl_i 0 16, jl_i 0 250, jl_i 0 4, jl_i 0 16, jl_i 0 250, jl_i 0 4, jl_i 0 16, jl_i 0 250, jl_r 30 (jl_u), jl_z 4]
noncomputable def gi_1841 : GI := jl_n [jl_z 2, jl_i 0 4, jl_z 45, jl_i 0 16, jl_i 0 3, jl_i 0 10, jl_i 1 5, jl_i 0 8, jl_i 0 5, jl_i 0 7, jl_i 0 30, jl_i 1 2147483647, jl_z 14, jl_r 3 (jl_m 0 60), jl_i 31 60, jl_i 0 4, jl_i 0 16, jl_i 0 250, jl_i 0 4, jl_i 0 16, jl_i 0 250, jl_i 0 4, jl_i 0 16, jl_i 0 250, jl_i 0 4, jl_i 0 16, jl_i 0 250, jl_i 0 4, jl_i 0 16, jl_i 0 250, jl_i 0 4, jl_i 0 16, jl_i 0 250, jl_i 0 4, jl_i 0 16, jl_i 0 250, jl_i 0 4, jl_i 0 16, jl_i 0 250, jl_i 0 4, jl_i 0 16, jl_i 0 250, jl_i 0 4, jl_i 0 16, jl_i 0 250, jl_i 0 4, jl_i 0 16, jl_i 0 250, jl_r 27 (jl_u), jl_z 4]
noncomputable def gi_1842 : GI := jl_n [jl_z 2, jl_i 0 4, jl_z 45, jl_i 0 16, jl_i 0 3, jl_i 0 10, jl_i 1 5, jl_i 0 8, jl_i 0 5, jl_i 0 7, jl_i 0 30, jl_i 1 2147483647, jl_z 14, jl_r 3 (jl_m 0 60), jl_i 34 60, jl_i 0 4, jl_i 0 16, jl_i 0 250, jl_i 0 4, jl_i 0 16, jl_i 0 250, jl_i 0 4, jl_i 0 16, jl_i 0 250, jl_i 0 4, jl_i 0 16, jl_i 0 250, jl_i 0 4, jl_i 0 16, jl_i 0 250, jl_i 0 4, jl_i 0 16, jl_i 0 250, jl_i 0 4, jl_i 0 16, jl_i 0 250, jl_i 0 4, jl_i 0 16, jl_i 0 250, jl_i 0 4, jl_i 0 16, jl_i 0 250, jl_i 0 4, jl_i 0 16, jl_i 0 250, jl_i 0 4, jl_i 0 16, jl_i 0 250, jl_i 0 4, jl_i 0 16, jl_i 0 250, jl_r 24 (jl_u), jl_z 4]
noncomputable def gi_1843 : GI := jl_n [jl_z 2, jl_i 0 4, jl_z 45, jl_i 0 16, jl_i 0 3, jl_i 0 10, jl_i 1 5, jl_i 0 8, jl_i 0 5, jl_i 0 7, jl_i 0 30, jl_i 1 2147483647, jl_z 14, jl_r 3 (jl_m 0 60), jl_i 37 60, jl_i 0 4, jl_i 0 16, jl_i 0 250, jl_i 0 4, jl_i 0 16, jl_i 0 250, jl_i 0 4, jl_i 0 16, jl_i 0 250, jl_i 0 4, jl_i 0 16, jl_i 0 250, jl_i 0 4, jl_i 0 16, jl_i 0 250, jl_i 0 4, jl_i 0 16, jl_i 0 250, jl_i 0 4, jl_i 0 16, jl_i 0 250, jl_i 0 4, jl_i 0 16, jl_i 0 250, jl_i 0 4, jl_i 0 16, jl_i 0 250, jl_i 0 4, jl_i 0 16, jl_i 0 250, jl_i 0 4, jl_i 0 16, jl_i 0 250, jl_i 0 4, jl_i 0 16, jl_i 0 250, jl_i 0 4, jl_i 0 16, jl_i 0 250, jl_r 21 (jl_u), jl_z 4]
noncomputable def gi_1844 : GI := jl_n [jl_z 2, jl_i 0 4, jl_z 45, jl_i 0 16, jl_i 0 3, jl_i 0 10, jl_i 1 5, jl_i 0 8, jl_i 0 5, jl_i 0 7, jl_i 0 30, jl_i 1 2147483647, jl_z 14, jl_r 3 (jl_m 0 60), jl_i 40 60, jl_i 0 4, jl_i 0 16, jl_i 0 250, jl_i 0 4, jl_i 0 16, jl_i 0 250, jl_i 0 4, jl_i 0 16, jl_i 0 250, jl_i 0 4, jl_i 0 16, jl_i 0 250, jl_i 0 4, jl_i 0 16, jl_i 0 250, jl_i 0 4, jl_i 0 16, jl_i 0 250, jl_i 0 4, jl_i 0 16, jl_i 0 250, jl_i 0 4, jl_i 0 16, jl_i 0 250, jl_i 0 4, jl_i 0 16, jl_i 0 250, jl_i 0 4, jl_i 0 16, jl_i 0 250, jl_i 0 4, jl_i 0 16, jl_i 0 250, jl_i 0 4, jl_i 0 16, jl_i 0 250, jl_i 0 4, jl_i 0 16, jl_i 0 250, jl_i 0 4, jl_i 0 16, jl_i 0 250, jl_r 18 (jl_u), jl_z 4]
noncomputable def gi_1845 : GI := jl_n [jl_z 2, jl_i 0 4, jl_z 45, jl_i 0 16, jl_i 0 3, jl_i 0 10, jl_i 1 5, jl_i 0 8, jl_i 0 5, jl_i 0 7, jl_i 0 30, jl_i 1 2147483647, jl_z 14, jl_r 3 (jl_m 0 60), jl_i 43 60, jl_i 0 4, jl_i 0 16, jl_i 0 250, jl_i 0 4, jl_i 0 16, jl_i 0 250, jl_i 0 4, jl_i 0 16, jl_i 0 250, jl_i 0 4, jl_i 0 16, jl_i 0 250, jl_i 0 4, jl_i 0 16, jl_i 0 250, jl_i 0 4, jl_i 0 16, jl_i 0 250, jl_i 0 4, jl_i 0 16, jl_i 0 250, jl_i 0 4, jl_i 0 16, jl_i 0 250, jl_i 0 4, jl_i 0 16, jl_i 0 250, jl_i 0 4, jl_i 0 16, jl_i 0 250, jl_i 0 4, jl_i 0 16, jl_i 0 250, jl_i 0 4, jl_i 0 16, jl_i 0 250, jl_i 0 4, jl_i 0 16, jl_i 0 250, jl_i 0 4, jl_i 0 16, jl_i 0 250, jl_i 0 4, jl_i 0 16, jl_i 0 250, jl_r 15 (jl_u), jl_z 4]
noncomputable def gi_1846 : GI := jl_n [jl_z 2, jl_i 0 4, jl_z 45, jl_i 0 16, jl_i 0 3, jl_i 0 10, jl_i 1 5, jl_i 0 8, jl_i 0 5, jl_i 0 7, jl_i 0 30, jl_i 1 2147483647, jl_z 14, jl_r 3 (jl_m 0 60), jl_i 46 60, jl_i 0 4, jl_i 0 16, jl_i 0 250, jl_i 0 4, jl_i 0 16, jl_i 0 250, jl_i 0 4, jl_i 0 16, jl_i 0 250, jl_i 0 4, jl_i 0 16, jl_i 0 250, jl_i 0 4, jl_i 0 16, jl_i 0 250, jl_i 0 4, jl_i 0 16, jl_i 0 250, jl_i 0 4, jl_i 0 16, jl_i 0 250, jl_i 0 4, jl_i 0 16, jl_i 0 250, jl_i 0 4, jl_i 0 16, jl_i 0 250, jl_i 0 4, jl_i 0 16, jl_i 0 250, jl_i 0 4, jl_i 0 16, jl_i 0 250, jl_i 0 4, jl_i 0 16, jl_i 0 250, jl_i 0 4, jl_i 0 16, jl_i 0 250, jl_i 0 4, jl_i 0 16, jl_i 0 250, jl_i 0 4, jl_i 0 16, jl_i 0 250, jl_i 0 4, jl_i 0 16, jl_i 0 250, jl_r 12 (jl_u), jl_z 4]
noncomputable def gi_1847 : GI := jl_n [jl_z 2, jl_i 0 4, jl_z 45, jl_i 0 16, jl_i 0 3, jl_i 0 10, jl_i 1 5, jl_i 0 8, jl_i 0 5, jl_i 0 7, jl_i 0 30, jl_i 1 2147483647, jl_z 14, jl_r 3 (jl_m 0 60), jl_i 49 60, jl_i 0 4, jl_i 0 16, jl_i 0 250, jl_i 0 4, jl_i 0 16, jl_i 0 250, jl_i 0 4, jl_i 0 16, jl_i 0 250, jl_i 0 4, jl_i 0 16, jl_i 0 250, jl_i 0 4, jl_i 0 16, jl_i 0 250, jl_i 0 4, jl_i 0 16, jl_i 0 250, jl_i 0 4, jl_i 0 16, jl_i 0 250, jl_i 0 4, jl_i 0 16, jl_i 0 250, jl_i 0 4, jl_i 0 16, jl_i 0 250, jl_i 0 4, jl_i 0 16, jl_i 0 250, jl_i 0 4, jl_i 0 16, jl_i 0 250, jl_i 0 4, jl_i 0 16, jl_i 0 250, jl_i 0 4, jl_i 0 16, jl_i 0 250, jl_i 0 4, jl_i 0 16, jl_i 0 250, jl_i 0 4, jl_i 0 16, jl_i 0 250, jl_i 0 4, jl_i 0 16, jl_i 0 250, jl_i 0 4, jl_i 0 16, jl_i 0 250, jl_r 9 (jl_u), jl_z 4]
noncomputable def gi_1848 : GI := jl_n [jl_z 2, jl_i 0 4, jl_z 45, jl_i 0 16, jl_i 0 3, jl_i 0 10, jl_i 1 5, jl_i 0 8, jl_i 0 5, jl_i 0 7, jl_i 0 30, jl_i 1 2147483647, jl_z 14, jl_r 3 (jl_m 0 60), jl_i 52 60, jl_i 0 4, jl_i 0 16, jl_i 0 250, jl_i 0 4, jl_i 0 16, jl_i 0 250, jl_i 0 4, jl_i 0 16, jl_i 0 250, jl_i 0 4, jl_i 0 16, jl_i 0 250, jl_i 0 4, jl_i 0 16, jl_i 0 250, jl_i 0 4, jl_i 0 16, jl_i 0 250, jl_i 0 4, jl_i 0 16, jl_i 0 250, jl_i 0 4, jl_i 0 16, jl_i 0 250, jl_i 0 4, jl_i 0 16, jl_i 0 250, jl_i 0 4, jl_i 0 16, jl_i 0 250, jl_i 0 4, jl_i 0 16, jl_i 0 250, jl_i 0 4, jl_i 0 16, jl_i 0 250, jl_i 0 4, jl_i 0 16, jl_i 0 250, jl_i 0 4, jl_i 0 16, jl_i 0 250, jl_i 0 4, jl_i 0 16, jl_i 0 250, jl_i 0 4, jl_i 0 16, jl_i 0 250, jl_i 0 4, jl_i 0 16, jl_i 0 250, jl_i 0 4, jl_i 0 16, jl_i 0 250, jl_r 6 (jl_u), jl_z 4]
noncomputable def gi_1849 : GI := jl_n [jl_z 2, jl_i 0 4, jl_z 45, jl_i 0 16, jl_i 0 3, jl_i 0 10, jl_i 1 5, jl_i 0 8, jl_i 0 5, jl_i 0 7, jl_i 0 30, jl_i 1 2147483647, jl_z 14, jl_r 3 (jl_m 0 60), jl_i 55 60, jl_i 0 4, jl_i 0 16, jl_i 0 250, jl_i 0 4, jl_i 0 16, jl_i 0 250, jl_i 0 4, jl_i 0 16, jl_i 0 250, jl_i 0 4, jl_i 0 16, jl_i 0 250, jl_i 0 4, jl_i 0 16, jl_i 0 250, jl_i 0 4, jl_i 0 16, jl_i 0 250, jl_i 0 4, jl_i 0 16, jl_i 0 250, jl_i 0 4, jl_i 0 16, jl_i 0 250, jl_i 0 4, jl_i 0 16, jl_i 0 250, jl_i 0 4, jl_i 0 16, jl_i 0 250, jl_i 0 4, jl_i 0 16, jl_i 0 250, jl_i 0 4, jl_i 0 16, jl_i 0 250, jl_i 0 4, jl_i 0 16, jl_i 0 250, jl_i 0 4, jl_i 0 16, jl_i 0 250, jl_i 0 4, jl_i 0 16, jl_i 0 250, jl_i 0 4, jl_i 0 16, jl_i 0 250, jl_i 0 4, jl_i 0 16, jl_i 0 250, jl_i 0 4, jl_i 0 16, jl_i 0 250, jl_i 0 4, jl_i 0 16, jl_i 0 250, jl_r 3 (jl_u), jl_z 4]
noncomputable def gi_1850 : GI := jl_n [jl_z 2, jl_i 0 4, jl_z 45, jl_i 0 16, jl_i 0 3, jl_i 0 10, jl_i 1 5, jl_i 0 8, jl_i 0 5, jl_i 0 7, jl_i 0 30, jl_i 1 2147483647, jl_z 14, jl_r 3 (jl_m 0 60), jl_i 58 60, jl_i 0 4, jl_i 0 16, jl_i 0 250, jl_i 0 4, jl_i 0 16, jl_i 0 250, jl_i 0 4, jl_i 0 16, jl_i 0 250, jl_i 0 4, jl_i 0 16, jl_i 0 250, jl_i 0 4, jl_i 0 16, jl_i 0 250, jl_i 0 4, jl_i 0 16, jl_i 0 250, jl_i 0 4, jl_i 0 16, jl_i 0 250, jl_i 0 4, jl_i 0 16, jl_i 0 250, jl_i 0 4, jl_i 0 16, jl_i 0 250, jl_i 0 4, jl_i 0 16, jl_i 0 250, jl_i 0 4, jl_i 0 16, jl_i 0 250, jl_i 0 4, jl_i 0 16, jl_i 0 250, jl_i 0 4, jl_i 0 16, jl_i 0 250, jl_i 0 4, jl_i 0 16, jl_i 0 250, jl_i 0 4, jl_i 0 16, jl_i 0 250, jl_i 0 4, jl_i 0 16, jl_i 0 250, jl_i 0 4, jl_i 0 16, jl_i 0 250, jl_i 0 4, jl_i 0 16, jl_i 0 250, jl_i 0 4, jl_i 0 16, jl_i 0 250, jl_i 0 4, jl_i 0 16, jl_i 0 250, jl_z 4]
noncomputable def cu_1994_0 : List CUT2 := [((48, [(0, (6, 0, 0)), (1, (0, 3, 0)), (2, (1, 2, 0)), (3, (0, 0, 0))], [], gi_1830, hq_914), [], ([], 60)), ((48, [(0, (6, 0, 0)), (1, (0, 3, 0)), (2, (1, 2, 0)), (3, (0, 3, 0))], [], gi_1831, hq_914), [], ([], 57)), ((48, [(0, (6, 0, 0)), (1, (0, 3, 0)), (2, (1, 2, 0)), (3, (0, 6, 0))], [], gi_1832, hq_914), [], ([], 54)), ((48, [(0, (6, 0, 0)), (1, (0, 3, 0)), (2, (1, 2, 0)), (3, (0, 9, 0))], [], gi_1833, hq_914), [], ([], 51)), ((48, [(0, (6, 0, 0)), (1, (0, 3, 0)), (2, (1, 2, 0)), (3, (0, 12, 0))], [], gi_1834, hq_914), [], ([], 48)), ((48, [(0, (6, 0, 0)), (1, (0, 3, 0)), (2, (1, 2, 0)), (3, (0, 15, 0))], [], gi_1835, hq_914), [], ([], 45)), ((48, [(0, (6, 0, 0)), (1, (0, 3, 0)), (2, (1, 2, 0)), (3, (0, 18, 0))], [], gi_1836, hq_914), [], ([], 42)), ((48, [(0, (6, 0, 0)), (1, (0, 3, 0)), (2, (1, 2, 0)), (3, (0, 21, 0))], [], gi_1837, hq_914), [], ([], 39)), ((48, [(0, (6, 0, 0)), (1, (0, 3, 0)), (2, (1, 2, 0)), (3, (0, 24, 0))], [], gi_1838, hq_914), [], ([], 36)), ((48, [(0, (6, 0, 0)), (1, (0, 3, 0)), (2, (1, 2, 0)), (3, (0, 27, 0))], [], gi_1839, hq_914), [], ([], 33)), ((48, [(0, (6, 0, 0)), (1, (0, 3, 0)), (2, (1, 2, 0)), (3, (0, 30, 0))], [], gi_1840, hq_914), [], ([], 30)), ((48, [(0, (6, 0, 0)), (1, (0, 3, 0)), (2, (1, 2, 0)), (3, (0, 33, 0))], [], gi_1841, hq_914), [], ([], 27)), ((48, [(0, (6, 0, 0)), (1, (0, 3, 0)), (2, (1, 2, 0)), (3, (0, 36, 0))], [], gi_1842, hq_914), [], ([], 24))]
noncomputable def cu_1994_1 : List CUT2 := [((48, [(0, (6, 0, 0)), (1, (0, 3, 0)), (2, (1, 2, 0)), (3, (0, 39, 0))], [], gi_1843, hq_914), [], ([], 21)), ((48, [(0, (6, 0, 0)), (1, (0, 3, 0)), (2, (1, 2, 0)), (3, (0, 42, 0))], [], gi_1844, hq_914), [], ([], 18)), ((48, [(0, (6, 0, 0)), (1, (0, 3, 0)), (2, (1, 2, 0)), (3, (0, 45, 0))], [], gi_1845, hq_914), [], ([], 15)), ((48, [(0, (6, 0, 0)), (1, (0, 3, 0)), (2, (1, 2, 0)), (3, (0, 48, 0))], [], gi_1846, hq_914), [], ([], 12)), ((48, [(0, (6, 0, 0)), (1, (0, 3, 0)), (2, (1, 2, 0)), (3, (0, 51, 0))], [], gi_1847, hq_914), [], ([], 9)), ((48, [(0, (6, 0, 0)), (1, (0, 3, 0)), (2, (1, 2, 0)), (3, (0, 54, 0))], [], gi_1848, hq_914), [], ([], 6)), ((48, [(0, (6, 0, 0)), (1, (0, 3, 0)), (2, (1, 2, 0)), (3, (0, 57, 0))], [], gi_1849, hq_914), [], ([], 3)), ((48, [(0, (6, 0, 0)), (1, (0, 3, 0)), (2, (1, 2, 0)), (3, (0, 60, 0))], [], gi_1850, hq_914), [], ([], 0))]
noncomputable def cu_1994 : List CUT2 := cu_1994_0 ++ (cu_1994_1)
theorem ch_1994 : staG tb_X12_askSeen 1 bt_RX12 [] ct_1994 [] [] cu_1994 37 con_1994 = true := by decide +kernel
theorem cc_1994_0 : cu_1994_0.all (cutG tb_X12_askSeen 1 bt_RX12 [] ct_1994 [] [] cu_1994 37 con_1994) = true := by decide +kernel
theorem cc_1994_1 : cu_1994_1.all (cutG tb_X12_askSeen 1 bt_RX12 [] ct_1994 [] [] cu_1994 37 con_1994) = true := by decide +kernel
theorem cto_1994 (l : Launch) : CTOK2 l RX12 vwCl gTbl ct_1994 := ct2_cons (vl_1930 l) ck_RX12_414_1930 (ct2_cons (vl_647 l) ck_RX12_109_647 (ct2_cons (vl_1991 l) ck_RX12_417_1991 (ct2_cons (vl_1988 l) ck_RX12_417_1988 (ct2_cons (vl_1985 l) ck_RX12_417_1985 (ct2_cons (vl_1982 l) ck_RX12_417_1982 (ct2_cons (vl_1979 l) ck_RX12_417_1979 (ct2_cons (vl_1976 l) ck_RX12_417_1976 (ct2_cons (vl_1973 l) ck_RX12_417_1973 (ct2_cons (vl_1970 l) ck_RX12_417_1970 (ct2_cons (vl_1967 l) ck_RX12_417_1967 (ct2_cons (vl_1964 l) ck_RX12_417_1964 (ct2_cons (vl_1961 l) ck_RX12_417_1961 (ct2_cons (vl_1958 l) ck_RX12_417_1958 (ct2_cons (vl_1955 l) ck_RX12_417_1955 (ct2_cons (vl_1952 l) ck_RX12_417_1952 (ct2_cons (vl_1949 l) ck_RX12_417_1949 (ct2_cons (vl_1946 l) ck_RX12_417_1946 (ct2_cons (vl_1943 l) ck_RX12_417_1943 (ct2_cons (vl_1940 l) ck_RX12_417_1940 (ct2_cons (vl_1937 l) ck_RX12_417_1937 (ct2_cons (vl_1931 l) ck_RX12_417_1931 (ct2_cons (vl_1932 l) ck_RX12_109_1932 (ct2_cons (vl_1992 l) ck_RX12_417_1992 (ct2_cons (vl_1989 l) ck_RX12_417_1989 (ct2_cons (vl_1986 l) ck_RX12_417_1986 (ct2_cons (vl_1983 l) ck_RX12_417_1983 (ct2_cons (vl_1980 l) ck_RX12_417_1980 (ct2_cons (vl_1977 l) ck_RX12_417_1977 (ct2_cons (vl_1974 l) ck_RX12_417_1974 (ct2_cons (vl_1971 l) ck_RX12_417_1971 (ct2_cons (vl_1968 l) ck_RX12_417_1968 (ct2_cons (vl_1965 l) ck_RX12_417_1965 (ct2_cons (vl_1962 l) ck_RX12_417_1962 (ct2_cons (vl_1959 l) ck_RX12_417_1959 (ct2_cons (vl_1956 l) ck_RX12_417_1956 (ct2_cons (vl_1953 l) ck_RX12_417_1953 (ct2_cons (vl_1950 l) ck_RX12_417_1950 (ct2_cons (vl_1947 l) ck_RX12_417_1947 (ct2_cons (vl_1944 l) ck_RX12_417_1944 (ct2_cons (vl_1941 l) ck_RX12_417_1941 (ct2_cons (vl_1938 l) ck_RX12_417_1938 (ct2_cons (vl_1933 l) ck_RX12_417_1933 (ct2_cons (vl_1934 l) ck_RX12_369_1934 (ct2_cons (vl_1993 l) ck_RX12_417_1993 (ct2_cons (vl_1990 l) ck_RX12_417_1990 (ct2_cons (vl_1987 l) ck_RX12_417_1987 (ct2_cons (vl_1984 l) ck_RX12_417_1984 (ct2_cons (vl_1981 l) ck_RX12_417_1981 (ct2_cons (vl_1978 l) ck_RX12_417_1978 (ct2_cons (vl_1975 l) ck_RX12_417_1975 (ct2_cons (vl_1972 l) ck_RX12_417_1972 (ct2_cons (vl_1969 l) ck_RX12_417_1969 (ct2_cons (vl_1966 l) ck_RX12_417_1966 (ct2_cons (vl_1963 l) ck_RX12_417_1963 (ct2_cons (vl_1960 l) ck_RX12_417_1960 (ct2_cons (vl_1957 l) ck_RX12_417_1957 (ct2_cons (vl_1954 l) ck_RX12_417_1954 (ct2_cons (vl_1951 l) ck_RX12_417_1951 (ct2_cons (vl_1948 l) ck_RX12_417_1948 (ct2_cons (vl_1945 l) ck_RX12_417_1945 (ct2_cons (vl_1942 l) ck_RX12_417_1942 (ct2_cons (vl_1939 l) ck_RX12_417_1939 (ct2_cons (vl_1935 l) ck_RX12_417_1935 (ct2_cons (vl_1936 l) ck_RX12_91_1936 (ct2_nil)))))))))))))))))))))))))))))))))))))))))))))))))))))))))))))))))
theorem vl_1994 (l : Launch) : Vld2 l vwCl gTbl con_1994 := conR_ok3 gT_all (hd_1994) rfl pn_RX12 tk_X12_askSeen bo_RX12 xo_RX12 (cto_1994 l) ch_1994 (cut_app (cut_all cc_1994_0) (cut_all cc_1994_1))
/-- RookHustingModel numberAt -/
noncomputable def gi_1851 : GI := jl_n [jl_z 48, jl_i 0 16]
noncomputable def gi_1852 : GI := jl_n [jl_z 48, jl_i 0 16, jl_z 1]
noncomputable def con_1996 : Con2 := ((yX12_numberAt, cX12_numberAt, 3, (some .long)), (0, 0), ([(6, 0, 0), (0, 3, 0), (0, 1, 0)], gi_1851, [ac_1100, ac_1102], []), [((4, 48, 0), gi_1852, [(false, ac_1100), (false, ac_1102)], [], [1])])
theorem hd_1996 : con_1996.1 = (yX12_numberAt, cX12_numberAt, 3, (some .long)) := rfl
noncomputable def ct_1996 : CTB2 := []
noncomputable def cu_1996 : List CUT2 := []
theorem ch_1996 : staG tb_X12_numberAt 1 bt_RX12 [] ct_1996 [] [] cu_1996 11 con_1996 = true := by decide +kernel
theorem cto_1996 (l : Launch) : CTOK2 l RX12 vwCl gTbl ct_1996 := ct2_nil
theorem vl_1996 (l : Launch) : Vld2 l vwCl gTbl con_1996 := conR_ok3 gT_all (hd_1996) rfl pn_RX12 tk_X12_numberAt bo_RX12 xo_RX12 (cto_1996 l) ch_1996 cut_nil
/-- RookHustingModel numberAt -/
noncomputable def gi_1853 : GI := jl_n [jl_z 48, jl_i 0 4]
noncomputable def gi_1854 : GI := jl_n [jl_z 48, jl_i 0 4, jl_z 1]
noncomputable def con_1997 : Con2 := ((yX12_numberAt, cX12_numberAt, 3, (some .long)), (0, 0), ([(6, 0, 0), (0, 3, 0), (0, 0, 0)], gi_1853, [ac_1100, ac_1101], []), [((4, 48, 0), gi_1854, [(false, ac_1100), (false, ac_1101)], [], [1])])
theorem hd_1997 : con_1997.1 = (yX12_numberAt, cX12_numberAt, 3, (some .long)) := rfl
noncomputable def ct_1997 : CTB2 := []
noncomputable def cu_1997 : List CUT2 := []
theorem ch_1997 : staG tb_X12_numberAt 1 bt_RX12 [] ct_1997 [] [] cu_1997 11 con_1997 = true := by decide +kernel
theorem cto_1997 (l : Launch) : CTOK2 l RX12 vwCl gTbl ct_1997 := ct2_nil
theorem vl_1997 (l : Launch) : Vld2 l vwCl gTbl con_1997 := conR_ok3 gT_all (hd_1997) rfl pn_RX12 tk_X12_numberAt bo_RX12 xo_RX12 (cto_1997 l) ch_1997 cut_nil
/-- RookHustingModel numberAt -/
noncomputable def gi_1855 : GI := jl_n [jl_z 48, jl_i 0 250]
noncomputable def gi_1856 : GI := jl_n [jl_z 48, jl_i 0 250, jl_z 1]
noncomputable def con_1998 : Con2 := ((yX12_numberAt, cX12_numberAt, 3, (some .long)), (0, 0), ([(6, 0, 0), (0, 3, 0), (0, 2, 0)], gi_1855, [ac_1100, ac_1103], []), [((4, 48, 0), gi_1856, [(false, ac_1100), (false, ac_1103)], [], [1])])
theorem hd_1998 : con_1998.1 = (yX12_numberAt, cX12_numberAt, 3, (some .long)) := rfl
noncomputable def ct_1998 : CTB2 := []
noncomputable def cu_1998 : List CUT2 := []
theorem ch_1998 : staG tb_X12_numberAt 1 bt_RX12 [] ct_1998 [] [] cu_1998 11 con_1998 = true := by decide +kernel
theorem cto_1998 (l : Launch) : CTOK2 l RX12 vwCl gTbl ct_1998 := ct2_nil
theorem vl_1998 (l : Launch) : Vld2 l vwCl gTbl con_1998 := conR_ok3 gT_all (hd_1998) rfl pn_RX12 tk_X12_numberAt bo_RX12 xo_RX12 (cto_1998 l) ch_1998 cut_nil
/-- RookHustingModel numberAt -/
noncomputable def con_1999 : Con2 := ((yX12_numberAt, cX12_numberAt, 3, (some .long)), (0, 0), ([(6, 0, 0), (0, 3, 0), (0, 4, 0)], gi_1851, [ac_1100, ac_1105], []), [((4, 48, 0), gi_1852, [(false, ac_1100), (false, ac_1105)], [], [1])])
theorem hd_1999 : con_1999.1 = (yX12_numberAt, cX12_numberAt, 3, (some .long)) := rfl
noncomputable def ct_1999 : CTB2 := []
noncomputable def cu_1999 : List CUT2 := []
theorem ch_1999 : staG tb_X12_numberAt 1 bt_RX12 [] ct_1999 [] [] cu_1999 11 con_1999 = true := by decide +kernel
theorem cto_1999 (l : Launch) : CTOK2 l RX12 vwCl gTbl ct_1999 := ct2_nil
theorem vl_1999 (l : Launch) : Vld2 l vwCl gTbl con_1999 := conR_ok3 gT_all (hd_1999) rfl pn_RX12 tk_X12_numberAt bo_RX12 xo_RX12 (cto_1999 l) ch_1999 cut_nil
/-- RookHustingModel numberAt -/
noncomputable def con_2000 : Con2 := ((yX12_numberAt, cX12_numberAt, 3, (some .long)), (0, 0), ([(6, 0, 0), (0, 3, 0), (0, 3, 0)], gi_1853, [ac_1100, ac_1104], []), [((4, 48, 0), gi_1854, [(false, ac_1100), (false, ac_1104)], [], [1])])
theorem hd_2000 : con_2000.1 = (yX12_numberAt, cX12_numberAt, 3, (some .long)) := rfl
noncomputable def ct_2000 : CTB2 := []
noncomputable def cu_2000 : List CUT2 := []
theorem ch_2000 : staG tb_X12_numberAt 1 bt_RX12 [] ct_2000 [] [] cu_2000 11 con_2000 = true := by decide +kernel
theorem cto_2000 (l : Launch) : CTOK2 l RX12 vwCl gTbl ct_2000 := ct2_nil
theorem vl_2000 (l : Launch) : Vld2 l vwCl gTbl con_2000 := conR_ok3 gT_all (hd_2000) rfl pn_RX12 tk_X12_numberAt bo_RX12 xo_RX12 (cto_2000 l) ch_2000 cut_nil
/-- RookHustingModel numberAt -/
noncomputable def con_2001 : Con2 := ((yX12_numberAt, cX12_numberAt, 3, (some .long)), (0, 0), ([(6, 0, 0), (0, 3, 0), (0, 5, 0)], gi_1855, [ac_1100, ac_1106], []), [((4, 48, 0), gi_1856, [(false, ac_1100), (false, ac_1106)], [], [1])])
theorem hd_2001 : con_2001.1 = (yX12_numberAt, cX12_numberAt, 3, (some .long)) := rfl
noncomputable def ct_2001 : CTB2 := []
noncomputable def cu_2001 : List CUT2 := []
theorem ch_2001 : staG tb_X12_numberAt 1 bt_RX12 [] ct_2001 [] [] cu_2001 11 con_2001 = true := by decide +kernel
theorem cto_2001 (l : Launch) : CTOK2 l RX12 vwCl gTbl ct_2001 := ct2_nil
theorem vl_2001 (l : Launch) : Vld2 l vwCl gTbl con_2001 := conR_ok3 gT_all (hd_2001) rfl pn_RX12 tk_X12_numberAt bo_RX12 xo_RX12 (cto_2001 l) ch_2001 cut_nil
/-- RookHustingModel numberAt -/
noncomputable def con_2002 : Con2 := ((yX12_numberAt, cX12_numberAt, 3, (some .long)), (0, 0), ([(6, 0, 0), (0, 3, 0), (0, 7, 0)], gi_1851, [ac_1100, ac_1108], []), [((4, 48, 0), gi_1852, [(false, ac_1100), (false, ac_1108)], [], [1])])
theorem hd_2002 : con_2002.1 = (yX12_numberAt, cX12_numberAt, 3, (some .long)) := rfl
noncomputable def ct_2002 : CTB2 := []
noncomputable def cu_2002 : List CUT2 := []
theorem ch_2002 : staG tb_X12_numberAt 1 bt_RX12 [] ct_2002 [] [] cu_2002 11 con_2002 = true := by decide +kernel
theorem cto_2002 (l : Launch) : CTOK2 l RX12 vwCl gTbl ct_2002 := ct2_nil
theorem vl_2002 (l : Launch) : Vld2 l vwCl gTbl con_2002 := conR_ok3 gT_all (hd_2002) rfl pn_RX12 tk_X12_numberAt bo_RX12 xo_RX12 (cto_2002 l) ch_2002 cut_nil
/-- RookHustingModel numberAt -/
noncomputable def con_2003 : Con2 := ((yX12_numberAt, cX12_numberAt, 3, (some .long)), (0, 0), ([(6, 0, 0), (0, 3, 0), (0, 6, 0)], gi_1853, [ac_1100, ac_1107], []), [((4, 48, 0), gi_1854, [(false, ac_1100), (false, ac_1107)], [], [1])])
theorem hd_2003 : con_2003.1 = (yX12_numberAt, cX12_numberAt, 3, (some .long)) := rfl
noncomputable def ct_2003 : CTB2 := []
noncomputable def cu_2003 : List CUT2 := []
theorem ch_2003 : staG tb_X12_numberAt 1 bt_RX12 [] ct_2003 [] [] cu_2003 11 con_2003 = true := by decide +kernel
theorem cto_2003 (l : Launch) : CTOK2 l RX12 vwCl gTbl ct_2003 := ct2_nil
theorem vl_2003 (l : Launch) : Vld2 l vwCl gTbl con_2003 := conR_ok3 gT_all (hd_2003) rfl pn_RX12 tk_X12_numberAt bo_RX12 xo_RX12 (cto_2003 l) ch_2003 cut_nil
/-- RookHustingModel numberAt -/
noncomputable def con_2004 : Con2 := ((yX12_numberAt, cX12_numberAt, 3, (some .long)), (0, 0), ([(6, 0, 0), (0, 3, 0), (0, 8, 0)], gi_1855, [ac_1100, ac_1109], []), [((4, 48, 0), gi_1856, [(false, ac_1100), (false, ac_1109)], [], [1])])
theorem hd_2004 : con_2004.1 = (yX12_numberAt, cX12_numberAt, 3, (some .long)) := rfl
noncomputable def ct_2004 : CTB2 := []
noncomputable def cu_2004 : List CUT2 := []
theorem ch_2004 : staG tb_X12_numberAt 1 bt_RX12 [] ct_2004 [] [] cu_2004 11 con_2004 = true := by decide +kernel
theorem cto_2004 (l : Launch) : CTOK2 l RX12 vwCl gTbl ct_2004 := ct2_nil
theorem vl_2004 (l : Launch) : Vld2 l vwCl gTbl con_2004 := conR_ok3 gT_all (hd_2004) rfl pn_RX12 tk_X12_numberAt bo_RX12 xo_RX12 (cto_2004 l) ch_2004 cut_nil
/-- RookHustingModel isSeen -/
noncomputable def gi_1857 : GI := jl_n [jl_z 47, jl_r 3 (jl_m 0 60), jl_i 7 9, jl_i 0 4, jl_i 0 16, jl_i 0 250, jl_i 0 4, jl_i 0 16, jl_i 0 250, jl_i 0 4, jl_i 0 16, jl_i 0 250, jl_r 51 (jl_u)]
noncomputable def ac_1162 : AC := .inl (12, jl_n [jl_8 28 26, jl_6 4 1, jl_8 43 14, jl_6 2 1, jl_8 45 1, jl_6 3 1, jl_8 47 1])
noncomputable def ac_1163 : AC := .inr (1, jl_n [js_1 51 4])
noncomputable def ac_1164 : AC := .inr (2, jl_n [js_5 180 9223372036854775807 9223372036854775807, js_4 111 60])
noncomputable def hc_215 : List AC := [ac_1162, ac_1163, ac_1164, .inr (1, [(85, (2, (-2147483648), 2147483647))])]
noncomputable def gi_1858 : GI := jl_n [jl_z 47, jl_r 3 (jl_m 0 60), jl_i 7 9, jl_i 0 4, jl_i 0 16, jl_i 0 250, jl_i 0 4, jl_i 0 16, jl_i 0 250, jl_i 0 4, jl_i 0 16, jl_i 0 250, jl_r 51 (jl_u), jl_z 1]
noncomputable def hq_915 : HP := [(false, ac_1162), (false, ac_1163), (false, ac_1164), (false, .inr (1, [(85, (2, (-2147483648), 2147483647))]))]
noncomputable def con_2005 : Con2 := ((yX12_isSeen, cX12_isSeen, 3, (some .boolean)), (1, 22), ([(6, 0, 0), (0, 3, 0)], gi_1857, hc_215, []), [((0, 0, 0), gi_1858, hq_915, [], [1]), ((0, 1, 0), gi_1858, hq_915, [], [1])])
theorem hd_2005 : con_2005.1 = (yX12_isSeen, cX12_isSeen, 3, (some .boolean)) := rfl
theorem ck_RX12_417_1998 : COK2 RX12 vwCl gTbl 417 0 con_1998 := ⟨wd_2061, wd_137, mh_X12_numberAt, .inr (.inr ⟨rfl, wd_2058, wd_2060, wd_114, ⟨_, rfl, pd_X12_numberAt⟩, 12, _, TX12, 45, rfl, rfl⟩)⟩
theorem ck_RX12_417_2001 : COK2 RX12 vwCl gTbl 417 0 con_2001 := ⟨wd_2061, wd_137, mh_X12_numberAt, .inr (.inr ⟨rfl, wd_2058, wd_2060, wd_114, ⟨_, rfl, pd_X12_numberAt⟩, 12, _, TX12, 45, rfl, rfl⟩)⟩
theorem ck_RX12_417_2004 : COK2 RX12 vwCl gTbl 417 0 con_2004 := ⟨wd_2061, wd_137, mh_X12_numberAt, .inr (.inr ⟨rfl, wd_2058, wd_2060, wd_114, ⟨_, rfl, pd_X12_numberAt⟩, 12, _, TX12, 45, rfl, rfl⟩)⟩
theorem ck_RX12_417_1997 : COK2 RX12 vwCl gTbl 417 0 con_1997 := ⟨wd_2061, wd_137, mh_X12_numberAt, .inr (.inr ⟨rfl, wd_2058, wd_2060, wd_114, ⟨_, rfl, pd_X12_numberAt⟩, 12, _, TX12, 45, rfl, rfl⟩)⟩
theorem ck_RX12_417_2000 : COK2 RX12 vwCl gTbl 417 0 con_2000 := ⟨wd_2061, wd_137, mh_X12_numberAt, .inr (.inr ⟨rfl, wd_2058, wd_2060, wd_114, ⟨_, rfl, pd_X12_numberAt⟩, 12, _, TX12, 45, rfl, rfl⟩)⟩
theorem ck_RX12_417_2003 : COK2 RX12 vwCl gTbl 417 0 con_2003 := ⟨wd_2061, wd_137, mh_X12_numberAt, .inr (.inr ⟨rfl, wd_2058, wd_2060, wd_114, ⟨_, rfl, pd_X12_numberAt⟩, 12, _, TX12, 45, rfl, rfl⟩)⟩
theorem ck_RX12_417_1996 : COK2 RX12 vwCl gTbl 417 0 con_1996 := ⟨wd_2061, wd_137, mh_X12_numberAt, .inr (.inr ⟨rfl, wd_2058, wd_2060, wd_114, ⟨_, rfl, pd_X12_numberAt⟩, 12, _, TX12, 45, rfl, rfl⟩)⟩
theorem ck_RX12_417_1999 : COK2 RX12 vwCl gTbl 417 0 con_1999 := ⟨wd_2061, wd_137, mh_X12_numberAt, .inr (.inr ⟨rfl, wd_2058, wd_2060, wd_114, ⟨_, rfl, pd_X12_numberAt⟩, 12, _, TX12, 45, rfl, rfl⟩)⟩
theorem ck_RX12_417_2002 : COK2 RX12 vwCl gTbl 417 0 con_2002 := ⟨wd_2061, wd_137, mh_X12_numberAt, .inr (.inr ⟨rfl, wd_2058, wd_2060, wd_114, ⟨_, rfl, pd_X12_numberAt⟩, 12, _, TX12, 45, rfl, rfl⟩)⟩
noncomputable def ct_2005 : CTB2 := [(22, 417, 0, con_2002, [0, 2]), (22, 417, 0, con_1999, [0, 2]), (22, 417, 0, con_1996, [0, 2]), (30, 417, 0, con_2003, [0, 2]), (30, 417, 0, con_2000, [0, 2]), (30, 417, 0, con_1997, [0, 2]), (42, 417, 0, con_2004, [0, 2]), (42, 417, 0, con_2001, [0, 2]), (42, 417, 0, con_1998, [0, 2])]
noncomputable def gi_1859 : GI := jl_n [jl_z 47, jl_r 3 (jl_m 0 60), jl_i 7 9, jl_i 0 4, jl_i 0 16, jl_i 0 250, jl_i 0 4, jl_i 0 16, jl_i 0 250, jl_i 0 4, jl_i 0 16, jl_i 0 250, jl_r 51 (jl_u), jl_z 3]
noncomputable def cu_2005 : List CUT2 := [((2, [(0, (6, 0, 0)), (1, (0, 3, 0)), (2, (0, 0, 0))], [], gi_1859, hq_915), [], ([], 9)), ((2, [(0, (6, 0, 0)), (1, (0, 3, 0)), (2, (0, 3, 0))], [], gi_1859, hq_915), [], ([], 6)), ((2, [(0, (6, 0, 0)), (1, (0, 3, 0)), (2, (0, 6, 0))], [], gi_1859, hq_915), [], ([], 3)), ((2, [(0, (6, 0, 0)), (1, (0, 3, 0)), (2, (0, 9, 0))], [], gi_1859, hq_915), [], ([], 0))]
theorem ch_2005 : staG tb_X12_isSeen 1 bt_RX12 [] ct_2005 [] [] cu_2005 37 con_2005 = true := by decide +kernel
theorem cc_2005 : cu_2005.all (cutG tb_X12_isSeen 1 bt_RX12 [] ct_2005 [] [] cu_2005 37 con_2005) = true := by decide +kernel
theorem cto_2005 (l : Launch) : CTOK2 l RX12 vwCl gTbl ct_2005 := ct2_cons (vl_2002 l) ck_RX12_417_2002 (ct2_cons (vl_1999 l) ck_RX12_417_1999 (ct2_cons (vl_1996 l) ck_RX12_417_1996 (ct2_cons (vl_2003 l) ck_RX12_417_2003 (ct2_cons (vl_2000 l) ck_RX12_417_2000 (ct2_cons (vl_1997 l) ck_RX12_417_1997 (ct2_cons (vl_2004 l) ck_RX12_417_2004 (ct2_cons (vl_2001 l) ck_RX12_417_2001 (ct2_cons (vl_1998 l) ck_RX12_417_1998 (ct2_nil)))))))))
theorem vl_2005 (l : Launch) : Vld2 l vwCl gTbl con_2005 := conR_ok3 gT_all (hd_2005) rfl pn_RX12 tk_X12_isSeen bo_RX12 xo_RX12 (cto_2005 l) ch_2005 (cut_all cc_2005)
/-- RookHustingModel numberAt -/
noncomputable def con_2006 : Con2 := ((yX12_numberAt, cX12_numberAt, 3, (some .long)), (0, 0), ([(6, 0, 0), (0, 3, 0), (0, 10, 0)], gi_1851, [ac_1100, ac_1111], []), [((4, 48, 0), gi_1852, [(false, ac_1100), (false, ac_1111)], [], [1])])
theorem hd_2006 : con_2006.1 = (yX12_numberAt, cX12_numberAt, 3, (some .long)) := rfl
noncomputable def ct_2006 : CTB2 := []
noncomputable def cu_2006 : List CUT2 := []
theorem ch_2006 : staG tb_X12_numberAt 1 bt_RX12 [] ct_2006 [] [] cu_2006 11 con_2006 = true := by decide +kernel
theorem cto_2006 (l : Launch) : CTOK2 l RX12 vwCl gTbl ct_2006 := ct2_nil
theorem vl_2006 (l : Launch) : Vld2 l vwCl gTbl con_2006 := conR_ok3 gT_all (hd_2006) rfl pn_RX12 tk_X12_numberAt bo_RX12 xo_RX12 (cto_2006 l) ch_2006 cut_nil
/-- RookHustingModel numberAt -/
noncomputable def con_2007 : Con2 := ((yX12_numberAt, cX12_numberAt, 3, (some .long)), (0, 0), ([(6, 0, 0), (0, 3, 0), (0, 9, 0)], gi_1853, [ac_1100, ac_1110], []), [((4, 48, 0), gi_1854, [(false, ac_1100), (false, ac_1110)], [], [1])])
theorem hd_2007 : con_2007.1 = (yX12_numberAt, cX12_numberAt, 3, (some .long)) := rfl
noncomputable def ct_2007 : CTB2 := []
noncomputable def cu_2007 : List CUT2 := []
theorem ch_2007 : staG tb_X12_numberAt 1 bt_RX12 [] ct_2007 [] [] cu_2007 11 con_2007 = true := by decide +kernel
theorem cto_2007 (l : Launch) : CTOK2 l RX12 vwCl gTbl ct_2007 := ct2_nil
theorem vl_2007 (l : Launch) : Vld2 l vwCl gTbl con_2007 := conR_ok3 gT_all (hd_2007) rfl pn_RX12 tk_X12_numberAt bo_RX12 xo_RX12 (cto_2007 l) ch_2007 cut_nil
/-- RookHustingModel numberAt -/
noncomputable def con_2008 : Con2 := ((yX12_numberAt, cX12_numberAt, 3, (some .long)), (0, 0), ([(6, 0, 0), (0, 3, 0), (0, 11, 0)], gi_1855, [ac_1100, ac_1112], []), [((4, 48, 0), gi_1856, [(false, ac_1100), (false, ac_1112)], [], [1])])
theorem hd_2008 : con_2008.1 = (yX12_numberAt, cX12_numberAt, 3, (some .long)) := rfl
noncomputable def ct_2008 : CTB2 := []
noncomputable def cu_2008 : List CUT2 := []
theorem ch_2008 : staG tb_X12_numberAt 1 bt_RX12 [] ct_2008 [] [] cu_2008 11 con_2008 = true := by decide +kernel
theorem cto_2008 (l : Launch) : CTOK2 l RX12 vwCl gTbl ct_2008 := ct2_nil
theorem vl_2008 (l : Launch) : Vld2 l vwCl gTbl con_2008 := conR_ok3 gT_all (hd_2008) rfl pn_RX12 tk_X12_numberAt bo_RX12 xo_RX12 (cto_2008 l) ch_2008 cut_nil
/-- RookHustingModel numberAt -/
noncomputable def con_2009 : Con2 := ((yX12_numberAt, cX12_numberAt, 3, (some .long)), (0, 0), ([(6, 0, 0), (0, 3, 0), (0, 13, 0)], gi_1851, [ac_1100, ac_1114], []), [((4, 48, 0), gi_1852, [(false, ac_1100), (false, ac_1114)], [], [1])])
theorem hd_2009 : con_2009.1 = (yX12_numberAt, cX12_numberAt, 3, (some .long)) := rfl
noncomputable def ct_2009 : CTB2 := []
noncomputable def cu_2009 : List CUT2 := []
theorem ch_2009 : staG tb_X12_numberAt 1 bt_RX12 [] ct_2009 [] [] cu_2009 11 con_2009 = true := by decide +kernel
theorem cto_2009 (l : Launch) : CTOK2 l RX12 vwCl gTbl ct_2009 := ct2_nil
theorem vl_2009 (l : Launch) : Vld2 l vwCl gTbl con_2009 := conR_ok3 gT_all (hd_2009) rfl pn_RX12 tk_X12_numberAt bo_RX12 xo_RX12 (cto_2009 l) ch_2009 cut_nil
/-- RookHustingModel numberAt -/
noncomputable def con_2010 : Con2 := ((yX12_numberAt, cX12_numberAt, 3, (some .long)), (0, 0), ([(6, 0, 0), (0, 3, 0), (0, 12, 0)], gi_1853, [ac_1100, ac_1113], []), [((4, 48, 0), gi_1854, [(false, ac_1100), (false, ac_1113)], [], [1])])
theorem hd_2010 : con_2010.1 = (yX12_numberAt, cX12_numberAt, 3, (some .long)) := rfl
noncomputable def ct_2010 : CTB2 := []
noncomputable def cu_2010 : List CUT2 := []
theorem ch_2010 : staG tb_X12_numberAt 1 bt_RX12 [] ct_2010 [] [] cu_2010 11 con_2010 = true := by decide +kernel
theorem cto_2010 (l : Launch) : CTOK2 l RX12 vwCl gTbl ct_2010 := ct2_nil
theorem vl_2010 (l : Launch) : Vld2 l vwCl gTbl con_2010 := conR_ok3 gT_all (hd_2010) rfl pn_RX12 tk_X12_numberAt bo_RX12 xo_RX12 (cto_2010 l) ch_2010 cut_nil
/-- RookHustingModel numberAt -/
noncomputable def con_2011 : Con2 := ((yX12_numberAt, cX12_numberAt, 3, (some .long)), (0, 0), ([(6, 0, 0), (0, 3, 0), (0, 14, 0)], gi_1855, [ac_1100, ac_1115], []), [((4, 48, 0), gi_1856, [(false, ac_1100), (false, ac_1115)], [], [1])])
theorem hd_2011 : con_2011.1 = (yX12_numberAt, cX12_numberAt, 3, (some .long)) := rfl
noncomputable def ct_2011 : CTB2 := []
noncomputable def cu_2011 : List CUT2 := []
theorem ch_2011 : staG tb_X12_numberAt 1 bt_RX12 [] ct_2011 [] [] cu_2011 11 con_2011 = true := by decide +kernel
theorem cto_2011 (l : Launch) : CTOK2 l RX12 vwCl gTbl ct_2011 := ct2_nil
theorem vl_2011 (l : Launch) : Vld2 l vwCl gTbl con_2011 := conR_ok3 gT_all (hd_2011) rfl pn_RX12 tk_X12_numberAt bo_RX12 xo_RX12 (cto_2011 l) ch_2011 cut_nil
/-- RookHustingModel numberAt -/
noncomputable def con_2012 : Con2 := ((yX12_numberAt, cX12_numberAt, 3, (some .long)), (0, 0), ([(6, 0, 0), (0, 3, 0), (0, 16, 0)], gi_1851, [ac_1100, ac_1117], []), [((4, 48, 0), gi_1852, [(false, ac_1100), (false, ac_1117)], [], [1])])
theorem hd_2012 : con_2012.1 = (yX12_numberAt, cX12_numberAt, 3, (some .long)) := rfl
noncomputable def ct_2012 : CTB2 := []
noncomputable def cu_2012 : List CUT2 := []
theorem ch_2012 : staG tb_X12_numberAt 1 bt_RX12 [] ct_2012 [] [] cu_2012 11 con_2012 = true := by decide +kernel
theorem cto_2012 (l : Launch) : CTOK2 l RX12 vwCl gTbl ct_2012 := ct2_nil
theorem vl_2012 (l : Launch) : Vld2 l vwCl gTbl con_2012 := conR_ok3 gT_all (hd_2012) rfl pn_RX12 tk_X12_numberAt bo_RX12 xo_RX12 (cto_2012 l) ch_2012 cut_nil
/-- RookHustingModel numberAt -/
noncomputable def con_2013 : Con2 := ((yX12_numberAt, cX12_numberAt, 3, (some .long)), (0, 0), ([(6, 0, 0), (0, 3, 0), (0, 15, 0)], gi_1853, [ac_1100, ac_1116], []), [((4, 48, 0), gi_1854, [(false, ac_1100), (false, ac_1116)], [], [1])])
theorem hd_2013 : con_2013.1 = (yX12_numberAt, cX12_numberAt, 3, (some .long)) := rfl
noncomputable def ct_2013 : CTB2 := []
noncomputable def cu_2013 : List CUT2 := []
theorem ch_2013 : staG tb_X12_numberAt 1 bt_RX12 [] ct_2013 [] [] cu_2013 11 con_2013 = true := by decide +kernel
theorem cto_2013 (l : Launch) : CTOK2 l RX12 vwCl gTbl ct_2013 := ct2_nil
theorem vl_2013 (l : Launch) : Vld2 l vwCl gTbl con_2013 := conR_ok3 gT_all (hd_2013) rfl pn_RX12 tk_X12_numberAt bo_RX12 xo_RX12 (cto_2013 l) ch_2013 cut_nil
/-- RookHustingModel numberAt -/
noncomputable def con_2014 : Con2 := ((yX12_numberAt, cX12_numberAt, 3, (some .long)), (0, 0), ([(6, 0, 0), (0, 3, 0), (0, 17, 0)], gi_1855, [ac_1100, ac_1118], []), [((4, 48, 0), gi_1856, [(false, ac_1100), (false, ac_1118)], [], [1])])
theorem hd_2014 : con_2014.1 = (yX12_numberAt, cX12_numberAt, 3, (some .long)) := rfl
noncomputable def ct_2014 : CTB2 := []
noncomputable def cu_2014 : List CUT2 := []
theorem ch_2014 : staG tb_X12_numberAt 1 bt_RX12 [] ct_2014 [] [] cu_2014 11 con_2014 = true := by decide +kernel
theorem cto_2014 (l : Launch) : CTOK2 l RX12 vwCl gTbl ct_2014 := ct2_nil
theorem vl_2014 (l : Launch) : Vld2 l vwCl gTbl con_2014 := conR_ok3 gT_all (hd_2014) rfl pn_RX12 tk_X12_numberAt bo_RX12 xo_RX12 (cto_2014 l) ch_2014 cut_nil
/-- RookHustingModel numberAt -/
noncomputable def con_2015 : Con2 := ((yX12_numberAt, cX12_numberAt, 3, (some .long)), (0, 0), ([(6, 0, 0), (0, 3, 0), (0, 19, 0)], gi_1851, [ac_1100, ac_1120], []), [((4, 48, 0), gi_1852, [(false, ac_1100), (false, ac_1120)], [], [1])])
theorem hd_2015 : con_2015.1 = (yX12_numberAt, cX12_numberAt, 3, (some .long)) := rfl
noncomputable def ct_2015 : CTB2 := []
noncomputable def cu_2015 : List CUT2 := []
theorem ch_2015 : staG tb_X12_numberAt 1 bt_RX12 [] ct_2015 [] [] cu_2015 11 con_2015 = true := by decide +kernel
theorem cto_2015 (l : Launch) : CTOK2 l RX12 vwCl gTbl ct_2015 := ct2_nil
theorem vl_2015 (l : Launch) : Vld2 l vwCl gTbl con_2015 := conR_ok3 gT_all (hd_2015) rfl pn_RX12 tk_X12_numberAt bo_RX12 xo_RX12 (cto_2015 l) ch_2015 cut_nil
/-- RookHustingModel numberAt -/
noncomputable def con_2016 : Con2 := ((yX12_numberAt, cX12_numberAt, 3, (some .long)), (0, 0), ([(6, 0, 0), (0, 3, 0), (0, 18, 0)], gi_1853, [ac_1100, ac_1119], []), [((4, 48, 0), gi_1854, [(false, ac_1100), (false, ac_1119)], [], [1])])
theorem hd_2016 : con_2016.1 = (yX12_numberAt, cX12_numberAt, 3, (some .long)) := rfl
noncomputable def ct_2016 : CTB2 := []
noncomputable def cu_2016 : List CUT2 := []
theorem ch_2016 : staG tb_X12_numberAt 1 bt_RX12 [] ct_2016 [] [] cu_2016 11 con_2016 = true := by decide +kernel
theorem cto_2016 (l : Launch) : CTOK2 l RX12 vwCl gTbl ct_2016 := ct2_nil
theorem vl_2016 (l : Launch) : Vld2 l vwCl gTbl con_2016 := conR_ok3 gT_all (hd_2016) rfl pn_RX12 tk_X12_numberAt bo_RX12 xo_RX12 (cto_2016 l) ch_2016 cut_nil
/-- RookHustingModel numberAt -/
noncomputable def con_2017 : Con2 := ((yX12_numberAt, cX12_numberAt, 3, (some .long)), (0, 0), ([(6, 0, 0), (0, 3, 0), (0, 20, 0)], gi_1855, [ac_1100, ac_1121], []), [((4, 48, 0), gi_1856, [(false, ac_1100), (false, ac_1121)], [], [1])])
theorem hd_2017 : con_2017.1 = (yX12_numberAt, cX12_numberAt, 3, (some .long)) := rfl
noncomputable def ct_2017 : CTB2 := []
noncomputable def cu_2017 : List CUT2 := []
theorem ch_2017 : staG tb_X12_numberAt 1 bt_RX12 [] ct_2017 [] [] cu_2017 11 con_2017 = true := by decide +kernel
theorem cto_2017 (l : Launch) : CTOK2 l RX12 vwCl gTbl ct_2017 := ct2_nil
theorem vl_2017 (l : Launch) : Vld2 l vwCl gTbl con_2017 := conR_ok3 gT_all (hd_2017) rfl pn_RX12 tk_X12_numberAt bo_RX12 xo_RX12 (cto_2017 l) ch_2017 cut_nil
/-- RookHustingModel numberAt -/
noncomputable def con_2018 : Con2 := ((yX12_numberAt, cX12_numberAt, 3, (some .long)), (0, 0), ([(6, 0, 0), (0, 3, 0), (0, 22, 0)], gi_1851, [ac_1100, ac_1123], []), [((4, 48, 0), gi_1852, [(false, ac_1100), (false, ac_1123)], [], [1])])
theorem hd_2018 : con_2018.1 = (yX12_numberAt, cX12_numberAt, 3, (some .long)) := rfl
noncomputable def ct_2018 : CTB2 := []
noncomputable def cu_2018 : List CUT2 := []
theorem ch_2018 : staG tb_X12_numberAt 1 bt_RX12 [] ct_2018 [] [] cu_2018 11 con_2018 = true := by decide +kernel
theorem cto_2018 (l : Launch) : CTOK2 l RX12 vwCl gTbl ct_2018 := ct2_nil
theorem vl_2018 (l : Launch) : Vld2 l vwCl gTbl con_2018 := conR_ok3 gT_all (hd_2018) rfl pn_RX12 tk_X12_numberAt bo_RX12 xo_RX12 (cto_2018 l) ch_2018 cut_nil
/-- RookHustingModel numberAt -/
noncomputable def con_2019 : Con2 := ((yX12_numberAt, cX12_numberAt, 3, (some .long)), (0, 0), ([(6, 0, 0), (0, 3, 0), (0, 21, 0)], gi_1853, [ac_1100, ac_1122], []), [((4, 48, 0), gi_1854, [(false, ac_1100), (false, ac_1122)], [], [1])])
theorem hd_2019 : con_2019.1 = (yX12_numberAt, cX12_numberAt, 3, (some .long)) := rfl
noncomputable def ct_2019 : CTB2 := []
noncomputable def cu_2019 : List CUT2 := []
theorem ch_2019 : staG tb_X12_numberAt 1 bt_RX12 [] ct_2019 [] [] cu_2019 11 con_2019 = true := by decide +kernel
theorem cto_2019 (l : Launch) : CTOK2 l RX12 vwCl gTbl ct_2019 := ct2_nil
theorem vl_2019 (l : Launch) : Vld2 l vwCl gTbl con_2019 := conR_ok3 gT_all (hd_2019) rfl pn_RX12 tk_X12_numberAt bo_RX12 xo_RX12 (cto_2019 l) ch_2019 cut_nil
/-- RookHustingModel numberAt -/
noncomputable def con_2020 : Con2 := ((yX12_numberAt, cX12_numberAt, 3, (some .long)), (0, 0), ([(6, 0, 0), (0, 3, 0), (0, 23, 0)], gi_1855, [ac_1100, ac_1124], []), [((4, 48, 0), gi_1856, [(false, ac_1100), (false, ac_1124)], [], [1])])
theorem hd_2020 : con_2020.1 = (yX12_numberAt, cX12_numberAt, 3, (some .long)) := rfl
noncomputable def ct_2020 : CTB2 := []
noncomputable def cu_2020 : List CUT2 := []
theorem ch_2020 : staG tb_X12_numberAt 1 bt_RX12 [] ct_2020 [] [] cu_2020 11 con_2020 = true := by decide +kernel
theorem cto_2020 (l : Launch) : CTOK2 l RX12 vwCl gTbl ct_2020 := ct2_nil
theorem vl_2020 (l : Launch) : Vld2 l vwCl gTbl con_2020 := conR_ok3 gT_all (hd_2020) rfl pn_RX12 tk_X12_numberAt bo_RX12 xo_RX12 (cto_2020 l) ch_2020 cut_nil
/-- RookHustingModel numberAt -/
noncomputable def con_2021 : Con2 := ((yX12_numberAt, cX12_numberAt, 3, (some .long)), (0, 0), ([(6, 0, 0), (0, 3, 0), (0, 25, 0)], gi_1851, [ac_1100, ac_1126], []), [((4, 48, 0), gi_1852, [(false, ac_1100), (false, ac_1126)], [], [1])])
theorem hd_2021 : con_2021.1 = (yX12_numberAt, cX12_numberAt, 3, (some .long)) := rfl
noncomputable def ct_2021 : CTB2 := []
noncomputable def cu_2021 : List CUT2 := []
theorem ch_2021 : staG tb_X12_numberAt 1 bt_RX12 [] ct_2021 [] [] cu_2021 11 con_2021 = true := by decide +kernel
theorem cto_2021 (l : Launch) : CTOK2 l RX12 vwCl gTbl ct_2021 := ct2_nil
theorem vl_2021 (l : Launch) : Vld2 l vwCl gTbl con_2021 := conR_ok3 gT_all (hd_2021) rfl pn_RX12 tk_X12_numberAt bo_RX12 xo_RX12 (cto_2021 l) ch_2021 cut_nil
/-- RookHustingModel numberAt -/
noncomputable def con_2022 : Con2 := ((yX12_numberAt, cX12_numberAt, 3, (some .long)), (0, 0), ([(6, 0, 0), (0, 3, 0), (0, 24, 0)], gi_1853, [ac_1100, ac_1125], []), [((4, 48, 0), gi_1854, [(false, ac_1100), (false, ac_1125)], [], [1])])
theorem hd_2022 : con_2022.1 = (yX12_numberAt, cX12_numberAt, 3, (some .long)) := rfl
noncomputable def ct_2022 : CTB2 := []
noncomputable def cu_2022 : List CUT2 := []
theorem ch_2022 : staG tb_X12_numberAt 1 bt_RX12 [] ct_2022 [] [] cu_2022 11 con_2022 = true := by decide +kernel
theorem cto_2022 (l : Launch) : CTOK2 l RX12 vwCl gTbl ct_2022 := ct2_nil
theorem vl_2022 (l : Launch) : Vld2 l vwCl gTbl con_2022 := conR_ok3 gT_all (hd_2022) rfl pn_RX12 tk_X12_numberAt bo_RX12 xo_RX12 (cto_2022 l) ch_2022 cut_nil
/-- RookHustingModel numberAt -/
noncomputable def con_2023 : Con2 := ((yX12_numberAt, cX12_numberAt, 3, (some .long)), (0, 0), ([(6, 0, 0), (0, 3, 0), (0, 26, 0)], gi_1855, [ac_1100, ac_1127], []), [((4, 48, 0), gi_1856, [(false, ac_1100), (false, ac_1127)], [], [1])])
theorem hd_2023 : con_2023.1 = (yX12_numberAt, cX12_numberAt, 3, (some .long)) := rfl
noncomputable def ct_2023 : CTB2 := []
noncomputable def cu_2023 : List CUT2 := []
theorem ch_2023 : staG tb_X12_numberAt 1 bt_RX12 [] ct_2023 [] [] cu_2023 11 con_2023 = true := by decide +kernel
theorem cto_2023 (l : Launch) : CTOK2 l RX12 vwCl gTbl ct_2023 := ct2_nil
theorem vl_2023 (l : Launch) : Vld2 l vwCl gTbl con_2023 := conR_ok3 gT_all (hd_2023) rfl pn_RX12 tk_X12_numberAt bo_RX12 xo_RX12 (cto_2023 l) ch_2023 cut_nil
/-- RookHustingModel numberAt -/
noncomputable def con_2024 : Con2 := ((yX12_numberAt, cX12_numberAt, 3, (some .long)), (0, 0), ([(6, 0, 0), (0, 3, 0), (0, 28, 0)], gi_1851, [ac_1100, ac_1129], []), [((4, 48, 0), gi_1852, [(false, ac_1100), (false, ac_1129)], [], [1])])
theorem hd_2024 : con_2024.1 = (yX12_numberAt, cX12_numberAt, 3, (some .long)) := rfl
noncomputable def ct_2024 : CTB2 := []
noncomputable def cu_2024 : List CUT2 := []
theorem ch_2024 : staG tb_X12_numberAt 1 bt_RX12 [] ct_2024 [] [] cu_2024 11 con_2024 = true := by decide +kernel
theorem cto_2024 (l : Launch) : CTOK2 l RX12 vwCl gTbl ct_2024 := ct2_nil
theorem vl_2024 (l : Launch) : Vld2 l vwCl gTbl con_2024 := conR_ok3 gT_all (hd_2024) rfl pn_RX12 tk_X12_numberAt bo_RX12 xo_RX12 (cto_2024 l) ch_2024 cut_nil
/-- RookHustingModel numberAt -/
noncomputable def con_2025 : Con2 := ((yX12_numberAt, cX12_numberAt, 3, (some .long)), (0, 0), ([(6, 0, 0), (0, 3, 0), (0, 27, 0)], gi_1853, [ac_1100, ac_1128], []), [((4, 48, 0), gi_1854, [(false, ac_1100), (false, ac_1128)], [], [1])])
theorem hd_2025 : con_2025.1 = (yX12_numberAt, cX12_numberAt, 3, (some .long)) := rfl
noncomputable def ct_2025 : CTB2 := []
noncomputable def cu_2025 : List CUT2 := []
theorem ch_2025 : staG tb_X12_numberAt 1 bt_RX12 [] ct_2025 [] [] cu_2025 11 con_2025 = true := by decide +kernel
theorem cto_2025 (l : Launch) : CTOK2 l RX12 vwCl gTbl ct_2025 := ct2_nil
theorem vl_2025 (l : Launch) : Vld2 l vwCl gTbl con_2025 := conR_ok3 gT_all (hd_2025) rfl pn_RX12 tk_X12_numberAt bo_RX12 xo_RX12 (cto_2025 l) ch_2025 cut_nil
/-- RookHustingModel numberAt -/
noncomputable def con_2026 : Con2 := ((yX12_numberAt, cX12_numberAt, 3, (some .long)), (0, 0), ([(6, 0, 0), (0, 3, 0), (0, 29, 0)], gi_1855, [ac_1100, ac_1130], []), [((4, 48, 0), gi_1856, [(false, ac_1100), (false, ac_1130)], [], [1])])
theorem hd_2026 : con_2026.1 = (yX12_numberAt, cX12_numberAt, 3, (some .long)) := rfl
noncomputable def ct_2026 : CTB2 := []
noncomputable def cu_2026 : List CUT2 := []
theorem ch_2026 : staG tb_X12_numberAt 1 bt_RX12 [] ct_2026 [] [] cu_2026 11 con_2026 = true := by decide +kernel
theorem cto_2026 (l : Launch) : CTOK2 l RX12 vwCl gTbl ct_2026 := ct2_nil
theorem vl_2026 (l : Launch) : Vld2 l vwCl gTbl con_2026 := conR_ok3 gT_all (hd_2026) rfl pn_RX12 tk_X12_numberAt bo_RX12 xo_RX12 (cto_2026 l) ch_2026 cut_nil
/-- RookHustingModel numberAt -/
noncomputable def con_2027 : Con2 := ((yX12_numberAt, cX12_numberAt, 3, (some .long)), (0, 0), ([(6, 0, 0), (0, 3, 0), (0, 31, 0)], gi_1851, [ac_1100, ac_1132], []), [((4, 48, 0), gi_1852, [(false, ac_1100), (false, ac_1132)], [], [1])])
theorem hd_2027 : con_2027.1 = (yX12_numberAt, cX12_numberAt, 3, (some .long)) := rfl
noncomputable def ct_2027 : CTB2 := []
noncomputable def cu_2027 : List CUT2 := []
theorem ch_2027 : staG tb_X12_numberAt 1 bt_RX12 [] ct_2027 [] [] cu_2027 11 con_2027 = true := by decide +kernel
theorem cto_2027 (l : Launch) : CTOK2 l RX12 vwCl gTbl ct_2027 := ct2_nil
theorem vl_2027 (l : Launch) : Vld2 l vwCl gTbl con_2027 := conR_ok3 gT_all (hd_2027) rfl pn_RX12 tk_X12_numberAt bo_RX12 xo_RX12 (cto_2027 l) ch_2027 cut_nil
/-- RookHustingModel numberAt -/
noncomputable def con_2028 : Con2 := ((yX12_numberAt, cX12_numberAt, 3, (some .long)), (0, 0), ([(6, 0, 0), (0, 3, 0), (0, 30, 0)], gi_1853, [ac_1100, ac_1131], []), [((4, 48, 0), gi_1854, [(false, ac_1100), (false, ac_1131)], [], [1])])
theorem hd_2028 : con_2028.1 = (yX12_numberAt, cX12_numberAt, 3, (some .long)) := rfl
noncomputable def ct_2028 : CTB2 := []
noncomputable def cu_2028 : List CUT2 := []
theorem ch_2028 : staG tb_X12_numberAt 1 bt_RX12 [] ct_2028 [] [] cu_2028 11 con_2028 = true := by decide +kernel
theorem cto_2028 (l : Launch) : CTOK2 l RX12 vwCl gTbl ct_2028 := ct2_nil
theorem vl_2028 (l : Launch) : Vld2 l vwCl gTbl con_2028 := conR_ok3 gT_all (hd_2028) rfl pn_RX12 tk_X12_numberAt bo_RX12 xo_RX12 (cto_2028 l) ch_2028 cut_nil
/-- RookHustingModel numberAt -/
noncomputable def con_2029 : Con2 := ((yX12_numberAt, cX12_numberAt, 3, (some .long)), (0, 0), ([(6, 0, 0), (0, 3, 0), (0, 32, 0)], gi_1855, [ac_1100, ac_1133], []), [((4, 48, 0), gi_1856, [(false, ac_1100), (false, ac_1133)], [], [1])])
theorem hd_2029 : con_2029.1 = (yX12_numberAt, cX12_numberAt, 3, (some .long)) := rfl
noncomputable def ct_2029 : CTB2 := []
noncomputable def cu_2029 : List CUT2 := []
theorem ch_2029 : staG tb_X12_numberAt 1 bt_RX12 [] ct_2029 [] [] cu_2029 11 con_2029 = true := by decide +kernel
theorem cto_2029 (l : Launch) : CTOK2 l RX12 vwCl gTbl ct_2029 := ct2_nil
theorem vl_2029 (l : Launch) : Vld2 l vwCl gTbl con_2029 := conR_ok3 gT_all (hd_2029) rfl pn_RX12 tk_X12_numberAt bo_RX12 xo_RX12 (cto_2029 l) ch_2029 cut_nil
/-- RookHustingModel numberAt -/
noncomputable def con_2030 : Con2 := ((yX12_numberAt, cX12_numberAt, 3, (some .long)), (0, 0), ([(6, 0, 0), (0, 3, 0), (0, 34, 0)], gi_1851, [ac_1100, ac_1135], []), [((4, 48, 0), gi_1852, [(false, ac_1100), (false, ac_1135)], [], [1])])
theorem hd_2030 : con_2030.1 = (yX12_numberAt, cX12_numberAt, 3, (some .long)) := rfl
noncomputable def ct_2030 : CTB2 := []
noncomputable def cu_2030 : List CUT2 := []
theorem ch_2030 : staG tb_X12_numberAt 1 bt_RX12 [] ct_2030 [] [] cu_2030 11 con_2030 = true := by decide +kernel
theorem cto_2030 (l : Launch) : CTOK2 l RX12 vwCl gTbl ct_2030 := ct2_nil
theorem vl_2030 (l : Launch) : Vld2 l vwCl gTbl con_2030 := conR_ok3 gT_all (hd_2030) rfl pn_RX12 tk_X12_numberAt bo_RX12 xo_RX12 (cto_2030 l) ch_2030 cut_nil
/-- RookHustingModel numberAt -/
noncomputable def con_2031 : Con2 := ((yX12_numberAt, cX12_numberAt, 3, (some .long)), (0, 0), ([(6, 0, 0), (0, 3, 0), (0, 33, 0)], gi_1853, [ac_1100, ac_1134], []), [((4, 48, 0), gi_1854, [(false, ac_1100), (false, ac_1134)], [], [1])])
theorem hd_2031 : con_2031.1 = (yX12_numberAt, cX12_numberAt, 3, (some .long)) := rfl
noncomputable def ct_2031 : CTB2 := []
noncomputable def cu_2031 : List CUT2 := []
theorem ch_2031 : staG tb_X12_numberAt 1 bt_RX12 [] ct_2031 [] [] cu_2031 11 con_2031 = true := by decide +kernel
theorem cto_2031 (l : Launch) : CTOK2 l RX12 vwCl gTbl ct_2031 := ct2_nil
theorem vl_2031 (l : Launch) : Vld2 l vwCl gTbl con_2031 := conR_ok3 gT_all (hd_2031) rfl pn_RX12 tk_X12_numberAt bo_RX12 xo_RX12 (cto_2031 l) ch_2031 cut_nil
/-- RookHustingModel numberAt -/
noncomputable def con_2032 : Con2 := ((yX12_numberAt, cX12_numberAt, 3, (some .long)), (0, 0), ([(6, 0, 0), (0, 3, 0), (0, 35, 0)], gi_1855, [ac_1100, ac_1136], []), [((4, 48, 0), gi_1856, [(false, ac_1100), (false, ac_1136)], [], [1])])
theorem hd_2032 : con_2032.1 = (yX12_numberAt, cX12_numberAt, 3, (some .long)) := rfl
noncomputable def ct_2032 : CTB2 := []
noncomputable def cu_2032 : List CUT2 := []
theorem ch_2032 : staG tb_X12_numberAt 1 bt_RX12 [] ct_2032 [] [] cu_2032 11 con_2032 = true := by decide +kernel
theorem cto_2032 (l : Launch) : CTOK2 l RX12 vwCl gTbl ct_2032 := ct2_nil
theorem vl_2032 (l : Launch) : Vld2 l vwCl gTbl con_2032 := conR_ok3 gT_all (hd_2032) rfl pn_RX12 tk_X12_numberAt bo_RX12 xo_RX12 (cto_2032 l) ch_2032 cut_nil
/-- RookHustingModel numberAt -/
noncomputable def con_2033 : Con2 := ((yX12_numberAt, cX12_numberAt, 3, (some .long)), (0, 0), ([(6, 0, 0), (0, 3, 0), (0, 37, 0)], gi_1851, [ac_1100, ac_1138], []), [((4, 48, 0), gi_1852, [(false, ac_1100), (false, ac_1138)], [], [1])])
theorem hd_2033 : con_2033.1 = (yX12_numberAt, cX12_numberAt, 3, (some .long)) := rfl
noncomputable def ct_2033 : CTB2 := []
noncomputable def cu_2033 : List CUT2 := []
theorem ch_2033 : staG tb_X12_numberAt 1 bt_RX12 [] ct_2033 [] [] cu_2033 11 con_2033 = true := by decide +kernel
theorem cto_2033 (l : Launch) : CTOK2 l RX12 vwCl gTbl ct_2033 := ct2_nil
theorem vl_2033 (l : Launch) : Vld2 l vwCl gTbl con_2033 := conR_ok3 gT_all (hd_2033) rfl pn_RX12 tk_X12_numberAt bo_RX12 xo_RX12 (cto_2033 l) ch_2033 cut_nil
/-- RookHustingModel numberAt -/
noncomputable def con_2034 : Con2 := ((yX12_numberAt, cX12_numberAt, 3, (some .long)), (0, 0), ([(6, 0, 0), (0, 3, 0), (0, 36, 0)], gi_1853, [ac_1100, ac_1137], []), [((4, 48, 0), gi_1854, [(false, ac_1100), (false, ac_1137)], [], [1])])
theorem hd_2034 : con_2034.1 = (yX12_numberAt, cX12_numberAt, 3, (some .long)) := rfl
noncomputable def ct_2034 : CTB2 := []
noncomputable def cu_2034 : List CUT2 := []
theorem ch_2034 : staG tb_X12_numberAt 1 bt_RX12 [] ct_2034 [] [] cu_2034 11 con_2034 = true := by decide +kernel
theorem cto_2034 (l : Launch) : CTOK2 l RX12 vwCl gTbl ct_2034 := ct2_nil
theorem vl_2034 (l : Launch) : Vld2 l vwCl gTbl con_2034 := conR_ok3 gT_all (hd_2034) rfl pn_RX12 tk_X12_numberAt bo_RX12 xo_RX12 (cto_2034 l) ch_2034 cut_nil
/-- RookHustingModel numberAt -/
noncomputable def con_2035 : Con2 := ((yX12_numberAt, cX12_numberAt, 3, (some .long)), (0, 0), ([(6, 0, 0), (0, 3, 0), (0, 38, 0)], gi_1855, [ac_1100, ac_1139], []), [((4, 48, 0), gi_1856, [(false, ac_1100), (false, ac_1139)], [], [1])])
theorem hd_2035 : con_2035.1 = (yX12_numberAt, cX12_numberAt, 3, (some .long)) := rfl
noncomputable def ct_2035 : CTB2 := []
noncomputable def cu_2035 : List CUT2 := []
theorem ch_2035 : staG tb_X12_numberAt 1 bt_RX12 [] ct_2035 [] [] cu_2035 11 con_2035 = true := by decide +kernel
theorem cto_2035 (l : Launch) : CTOK2 l RX12 vwCl gTbl ct_2035 := ct2_nil
theorem vl_2035 (l : Launch) : Vld2 l vwCl gTbl con_2035 := conR_ok3 gT_all (hd_2035) rfl pn_RX12 tk_X12_numberAt bo_RX12 xo_RX12 (cto_2035 l) ch_2035 cut_nil
/-- RookHustingModel numberAt -/
noncomputable def con_2036 : Con2 := ((yX12_numberAt, cX12_numberAt, 3, (some .long)), (0, 0), ([(6, 0, 0), (0, 3, 0), (0, 40, 0)], gi_1851, [ac_1100, ac_1141], []), [((4, 48, 0), gi_1852, [(false, ac_1100), (false, ac_1141)], [], [1])])
theorem hd_2036 : con_2036.1 = (yX12_numberAt, cX12_numberAt, 3, (some .long)) := rfl
noncomputable def ct_2036 : CTB2 := []
noncomputable def cu_2036 : List CUT2 := []
theorem ch_2036 : staG tb_X12_numberAt 1 bt_RX12 [] ct_2036 [] [] cu_2036 11 con_2036 = true := by decide +kernel
theorem cto_2036 (l : Launch) : CTOK2 l RX12 vwCl gTbl ct_2036 := ct2_nil
theorem vl_2036 (l : Launch) : Vld2 l vwCl gTbl con_2036 := conR_ok3 gT_all (hd_2036) rfl pn_RX12 tk_X12_numberAt bo_RX12 xo_RX12 (cto_2036 l) ch_2036 cut_nil
/-- RookHustingModel numberAt -/
noncomputable def con_2037 : Con2 := ((yX12_numberAt, cX12_numberAt, 3, (some .long)), (0, 0), ([(6, 0, 0), (0, 3, 0), (0, 39, 0)], gi_1853, [ac_1100, ac_1140], []), [((4, 48, 0), gi_1854, [(false, ac_1100), (false, ac_1140)], [], [1])])
theorem hd_2037 : con_2037.1 = (yX12_numberAt, cX12_numberAt, 3, (some .long)) := rfl
noncomputable def ct_2037 : CTB2 := []
noncomputable def cu_2037 : List CUT2 := []
theorem ch_2037 : staG tb_X12_numberAt 1 bt_RX12 [] ct_2037 [] [] cu_2037 11 con_2037 = true := by decide +kernel
theorem cto_2037 (l : Launch) : CTOK2 l RX12 vwCl gTbl ct_2037 := ct2_nil
theorem vl_2037 (l : Launch) : Vld2 l vwCl gTbl con_2037 := conR_ok3 gT_all (hd_2037) rfl pn_RX12 tk_X12_numberAt bo_RX12 xo_RX12 (cto_2037 l) ch_2037 cut_nil
/-- RookHustingModel numberAt -/
noncomputable def con_2038 : Con2 := ((yX12_numberAt, cX12_numberAt, 3, (some .long)), (0, 0), ([(6, 0, 0), (0, 3, 0), (0, 41, 0)], gi_1855, [ac_1100, ac_1142], []), [((4, 48, 0), gi_1856, [(false, ac_1100), (false, ac_1142)], [], [1])])
theorem hd_2038 : con_2038.1 = (yX12_numberAt, cX12_numberAt, 3, (some .long)) := rfl
noncomputable def ct_2038 : CTB2 := []
noncomputable def cu_2038 : List CUT2 := []
theorem ch_2038 : staG tb_X12_numberAt 1 bt_RX12 [] ct_2038 [] [] cu_2038 11 con_2038 = true := by decide +kernel
theorem cto_2038 (l : Launch) : CTOK2 l RX12 vwCl gTbl ct_2038 := ct2_nil
theorem vl_2038 (l : Launch) : Vld2 l vwCl gTbl con_2038 := conR_ok3 gT_all (hd_2038) rfl pn_RX12 tk_X12_numberAt bo_RX12 xo_RX12 (cto_2038 l) ch_2038 cut_nil
/-- RookHustingModel numberAt -/
noncomputable def con_2039 : Con2 := ((yX12_numberAt, cX12_numberAt, 3, (some .long)), (0, 0), ([(6, 0, 0), (0, 3, 0), (0, 43, 0)], gi_1851, [ac_1100, ac_1144], []), [((4, 48, 0), gi_1852, [(false, ac_1100), (false, ac_1144)], [], [1])])
theorem hd_2039 : con_2039.1 = (yX12_numberAt, cX12_numberAt, 3, (some .long)) := rfl
noncomputable def ct_2039 : CTB2 := []
noncomputable def cu_2039 : List CUT2 := []
theorem ch_2039 : staG tb_X12_numberAt 1 bt_RX12 [] ct_2039 [] [] cu_2039 11 con_2039 = true := by decide +kernel
theorem cto_2039 (l : Launch) : CTOK2 l RX12 vwCl gTbl ct_2039 := ct2_nil
theorem vl_2039 (l : Launch) : Vld2 l vwCl gTbl con_2039 := conR_ok3 gT_all (hd_2039) rfl pn_RX12 tk_X12_numberAt bo_RX12 xo_RX12 (cto_2039 l) ch_2039 cut_nil
/-- RookHustingModel numberAt -/
noncomputable def con_2040 : Con2 := ((yX12_numberAt, cX12_numberAt, 3, (some .long)), (0, 0), ([(6, 0, 0), (0, 3, 0), (0, 42, 0)], gi_1853, [ac_1100, ac_1143], []), [((4, 48, 0), gi_1854, [(false, ac_1100), (false, ac_1143)], [], [1])])
theorem hd_2040 : con_2040.1 = (yX12_numberAt, cX12_numberAt, 3, (some .long)) := rfl
noncomputable def ct_2040 : CTB2 := []
noncomputable def cu_2040 : List CUT2 := []
theorem ch_2040 : staG tb_X12_numberAt 1 bt_RX12 [] ct_2040 [] [] cu_2040 11 con_2040 = true := by decide +kernel
theorem cto_2040 (l : Launch) : CTOK2 l RX12 vwCl gTbl ct_2040 := ct2_nil
theorem vl_2040 (l : Launch) : Vld2 l vwCl gTbl con_2040 := conR_ok3 gT_all (hd_2040) rfl pn_RX12 tk_X12_numberAt bo_RX12 xo_RX12 (cto_2040 l) ch_2040 cut_nil
/-- RookHustingModel numberAt -/
noncomputable def con_2041 : Con2 := ((yX12_numberAt, cX12_numberAt, 3, (some .long)), (0, 0), ([(6, 0, 0), (0, 3, 0), (0, 44, 0)], gi_1855, [ac_1100, ac_1145], []), [((4, 48, 0), gi_1856, [(false, ac_1100), (false, ac_1145)], [], [1])])
theorem hd_2041 : con_2041.1 = (yX12_numberAt, cX12_numberAt, 3, (some .long)) := rfl
noncomputable def ct_2041 : CTB2 := []
noncomputable def cu_2041 : List CUT2 := []
theorem ch_2041 : staG tb_X12_numberAt 1 bt_RX12 [] ct_2041 [] [] cu_2041 11 con_2041 = true := by decide +kernel
theorem cto_2041 (l : Launch) : CTOK2 l RX12 vwCl gTbl ct_2041 := ct2_nil
theorem vl_2041 (l : Launch) : Vld2 l vwCl gTbl con_2041 := conR_ok3 gT_all (hd_2041) rfl pn_RX12 tk_X12_numberAt bo_RX12 xo_RX12 (cto_2041 l) ch_2041 cut_nil
/-- RookHustingModel numberAt -/
noncomputable def con_2042 : Con2 := ((yX12_numberAt, cX12_numberAt, 3, (some .long)), (0, 0), ([(6, 0, 0), (0, 3, 0), (0, 46, 0)], gi_1851, [ac_1100, ac_1147], []), [((4, 48, 0), gi_1852, [(false, ac_1100), (false, ac_1147)], [], [1])])
theorem hd_2042 : con_2042.1 = (yX12_numberAt, cX12_numberAt, 3, (some .long)) := rfl
noncomputable def ct_2042 : CTB2 := []
noncomputable def cu_2042 : List CUT2 := []
theorem ch_2042 : staG tb_X12_numberAt 1 bt_RX12 [] ct_2042 [] [] cu_2042 11 con_2042 = true := by decide +kernel
theorem cto_2042 (l : Launch) : CTOK2 l RX12 vwCl gTbl ct_2042 := ct2_nil
theorem vl_2042 (l : Launch) : Vld2 l vwCl gTbl con_2042 := conR_ok3 gT_all (hd_2042) rfl pn_RX12 tk_X12_numberAt bo_RX12 xo_RX12 (cto_2042 l) ch_2042 cut_nil
/-- RookHustingModel numberAt -/
noncomputable def con_2043 : Con2 := ((yX12_numberAt, cX12_numberAt, 3, (some .long)), (0, 0), ([(6, 0, 0), (0, 3, 0), (0, 45, 0)], gi_1853, [ac_1100, ac_1146], []), [((4, 48, 0), gi_1854, [(false, ac_1100), (false, ac_1146)], [], [1])])
theorem hd_2043 : con_2043.1 = (yX12_numberAt, cX12_numberAt, 3, (some .long)) := rfl
noncomputable def ct_2043 : CTB2 := []
noncomputable def cu_2043 : List CUT2 := []
theorem ch_2043 : staG tb_X12_numberAt 1 bt_RX12 [] ct_2043 [] [] cu_2043 11 con_2043 = true := by decide +kernel
theorem cto_2043 (l : Launch) : CTOK2 l RX12 vwCl gTbl ct_2043 := ct2_nil
theorem vl_2043 (l : Launch) : Vld2 l vwCl gTbl con_2043 := conR_ok3 gT_all (hd_2043) rfl pn_RX12 tk_X12_numberAt bo_RX12 xo_RX12 (cto_2043 l) ch_2043 cut_nil
/-- RookHustingModel numberAt -/
noncomputable def con_2044 : Con2 := ((yX12_numberAt, cX12_numberAt, 3, (some .long)), (0, 0), ([(6, 0, 0), (0, 3, 0), (0, 47, 0)], gi_1855, [ac_1100, ac_1148], []), [((4, 48, 0), gi_1856, [(false, ac_1100), (false, ac_1148)], [], [1])])
theorem hd_2044 : con_2044.1 = (yX12_numberAt, cX12_numberAt, 3, (some .long)) := rfl
noncomputable def ct_2044 : CTB2 := []
noncomputable def cu_2044 : List CUT2 := []
theorem ch_2044 : staG tb_X12_numberAt 1 bt_RX12 [] ct_2044 [] [] cu_2044 11 con_2044 = true := by decide +kernel
theorem cto_2044 (l : Launch) : CTOK2 l RX12 vwCl gTbl ct_2044 := ct2_nil
theorem vl_2044 (l : Launch) : Vld2 l vwCl gTbl con_2044 := conR_ok3 gT_all (hd_2044) rfl pn_RX12 tk_X12_numberAt bo_RX12 xo_RX12 (cto_2044 l) ch_2044 cut_nil
/-- RookHustingModel numberAt -/
noncomputable def con_2045 : Con2 := ((yX12_numberAt, cX12_numberAt, 3, (some .long)), (0, 0), ([(6, 0, 0), (0, 3, 0), (0, 49, 0)], gi_1851, [ac_1100, ac_1150], []), [((4, 48, 0), gi_1852, [(false, ac_1100), (false, ac_1150)], [], [1])])
theorem hd_2045 : con_2045.1 = (yX12_numberAt, cX12_numberAt, 3, (some .long)) := rfl
noncomputable def ct_2045 : CTB2 := []
noncomputable def cu_2045 : List CUT2 := []
theorem ch_2045 : staG tb_X12_numberAt 1 bt_RX12 [] ct_2045 [] [] cu_2045 11 con_2045 = true := by decide +kernel
theorem cto_2045 (l : Launch) : CTOK2 l RX12 vwCl gTbl ct_2045 := ct2_nil
theorem vl_2045 (l : Launch) : Vld2 l vwCl gTbl con_2045 := conR_ok3 gT_all (hd_2045) rfl pn_RX12 tk_X12_numberAt bo_RX12 xo_RX12 (cto_2045 l) ch_2045 cut_nil
/-- RookHustingModel numberAt -/
noncomputable def con_2046 : Con2 := ((yX12_numberAt, cX12_numberAt, 3, (some .long)), (0, 0), ([(6, 0, 0), (0, 3, 0), (0, 48, 0)], gi_1853, [ac_1100, ac_1149], []), [((4, 48, 0), gi_1854, [(false, ac_1100), (false, ac_1149)], [], [1])])
theorem hd_2046 : con_2046.1 = (yX12_numberAt, cX12_numberAt, 3, (some .long)) := rfl
noncomputable def ct_2046 : CTB2 := []
noncomputable def cu_2046 : List CUT2 := []
theorem ch_2046 : staG tb_X12_numberAt 1 bt_RX12 [] ct_2046 [] [] cu_2046 11 con_2046 = true := by decide +kernel
theorem cto_2046 (l : Launch) : CTOK2 l RX12 vwCl gTbl ct_2046 := ct2_nil
theorem vl_2046 (l : Launch) : Vld2 l vwCl gTbl con_2046 := conR_ok3 gT_all (hd_2046) rfl pn_RX12 tk_X12_numberAt bo_RX12 xo_RX12 (cto_2046 l) ch_2046 cut_nil
/-- RookHustingModel numberAt -/
noncomputable def con_2047 : Con2 := ((yX12_numberAt, cX12_numberAt, 3, (some .long)), (0, 0), ([(6, 0, 0), (0, 3, 0), (0, 50, 0)], gi_1855, [ac_1100, ac_1151], []), [((4, 48, 0), gi_1856, [(false, ac_1100), (false, ac_1151)], [], [1])])
theorem hd_2047 : con_2047.1 = (yX12_numberAt, cX12_numberAt, 3, (some .long)) := rfl
noncomputable def ct_2047 : CTB2 := []
noncomputable def cu_2047 : List CUT2 := []
theorem ch_2047 : staG tb_X12_numberAt 1 bt_RX12 [] ct_2047 [] [] cu_2047 11 con_2047 = true := by decide +kernel
theorem cto_2047 (l : Launch) : CTOK2 l RX12 vwCl gTbl ct_2047 := ct2_nil
theorem vl_2047 (l : Launch) : Vld2 l vwCl gTbl con_2047 := conR_ok3 gT_all (hd_2047) rfl pn_RX12 tk_X12_numberAt bo_RX12 xo_RX12 (cto_2047 l) ch_2047 cut_nil
/-- RookHustingModel numberAt -/
noncomputable def con_2048 : Con2 := ((yX12_numberAt, cX12_numberAt, 3, (some .long)), (0, 0), ([(6, 0, 0), (0, 3, 0), (0, 52, 0)], gi_1851, [ac_1100, ac_1153], []), [((4, 48, 0), gi_1852, [(false, ac_1100), (false, ac_1153)], [], [1])])
theorem hd_2048 : con_2048.1 = (yX12_numberAt, cX12_numberAt, 3, (some .long)) := rfl
noncomputable def ct_2048 : CTB2 := []
noncomputable def cu_2048 : List CUT2 := []
theorem ch_2048 : staG tb_X12_numberAt 1 bt_RX12 [] ct_2048 [] [] cu_2048 11 con_2048 = true := by decide +kernel
theorem cto_2048 (l : Launch) : CTOK2 l RX12 vwCl gTbl ct_2048 := ct2_nil
theorem vl_2048 (l : Launch) : Vld2 l vwCl gTbl con_2048 := conR_ok3 gT_all (hd_2048) rfl pn_RX12 tk_X12_numberAt bo_RX12 xo_RX12 (cto_2048 l) ch_2048 cut_nil
/-- RookHustingModel numberAt -/
noncomputable def con_2049 : Con2 := ((yX12_numberAt, cX12_numberAt, 3, (some .long)), (0, 0), ([(6, 0, 0), (0, 3, 0), (0, 51, 0)], gi_1853, [ac_1100, ac_1152], []), [((4, 48, 0), gi_1854, [(false, ac_1100), (false, ac_1152)], [], [1])])
theorem hd_2049 : con_2049.1 = (yX12_numberAt, cX12_numberAt, 3, (some .long)) := rfl
noncomputable def ct_2049 : CTB2 := []
noncomputable def cu_2049 : List CUT2 := []
theorem ch_2049 : staG tb_X12_numberAt 1 bt_RX12 [] ct_2049 [] [] cu_2049 11 con_2049 = true := by decide +kernel
theorem cto_2049 (l : Launch) : CTOK2 l RX12 vwCl gTbl ct_2049 := ct2_nil
theorem vl_2049 (l : Launch) : Vld2 l vwCl gTbl con_2049 := conR_ok3 gT_all (hd_2049) rfl pn_RX12 tk_X12_numberAt bo_RX12 xo_RX12 (cto_2049 l) ch_2049 cut_nil
/-- RookHustingModel numberAt -/
noncomputable def con_2050 : Con2 := ((yX12_numberAt, cX12_numberAt, 3, (some .long)), (0, 0), ([(6, 0, 0), (0, 3, 0), (0, 53, 0)], gi_1855, [ac_1100, ac_1154], []), [((4, 48, 0), gi_1856, [(false, ac_1100), (false, ac_1154)], [], [1])])
theorem hd_2050 : con_2050.1 = (yX12_numberAt, cX12_numberAt, 3, (some .long)) := rfl
noncomputable def ct_2050 : CTB2 := []
noncomputable def cu_2050 : List CUT2 := []
theorem ch_2050 : staG tb_X12_numberAt 1 bt_RX12 [] ct_2050 [] [] cu_2050 11 con_2050 = true := by decide +kernel
theorem cto_2050 (l : Launch) : CTOK2 l RX12 vwCl gTbl ct_2050 := ct2_nil
theorem vl_2050 (l : Launch) : Vld2 l vwCl gTbl con_2050 := conR_ok3 gT_all (hd_2050) rfl pn_RX12 tk_X12_numberAt bo_RX12 xo_RX12 (cto_2050 l) ch_2050 cut_nil
/-- RookHustingModel numberAt -/
noncomputable def con_2051 : Con2 := ((yX12_numberAt, cX12_numberAt, 3, (some .long)), (0, 0), ([(6, 0, 0), (0, 3, 0), (0, 55, 0)], gi_1851, [ac_1100, ac_1156], []), [((4, 48, 0), gi_1852, [(false, ac_1100), (false, ac_1156)], [], [1])])
theorem hd_2051 : con_2051.1 = (yX12_numberAt, cX12_numberAt, 3, (some .long)) := rfl
noncomputable def ct_2051 : CTB2 := []
noncomputable def cu_2051 : List CUT2 := []
theorem ch_2051 : staG tb_X12_numberAt 1 bt_RX12 [] ct_2051 [] [] cu_2051 11 con_2051 = true := by decide +kernel
theorem cto_2051 (l : Launch) : CTOK2 l RX12 vwCl gTbl ct_2051 := ct2_nil
theorem vl_2051 (l : Launch) : Vld2 l vwCl gTbl con_2051 := conR_ok3 gT_all (hd_2051) rfl pn_RX12 tk_X12_numberAt bo_RX12 xo_RX12 (cto_2051 l) ch_2051 cut_nil
/-- RookHustingModel numberAt -/
noncomputable def con_2052 : Con2 := ((yX12_numberAt, cX12_numberAt, 3, (some .long)), (0, 0), ([(6, 0, 0), (0, 3, 0), (0, 54, 0)], gi_1853, [ac_1100, ac_1155], []), [((4, 48, 0), gi_1854, [(false, ac_1100), (false, ac_1155)], [], [1])])
theorem hd_2052 : con_2052.1 = (yX12_numberAt, cX12_numberAt, 3, (some .long)) := rfl
noncomputable def ct_2052 : CTB2 := []
noncomputable def cu_2052 : List CUT2 := []
theorem ch_2052 : staG tb_X12_numberAt 1 bt_RX12 [] ct_2052 [] [] cu_2052 11 con_2052 = true := by decide +kernel
theorem cto_2052 (l : Launch) : CTOK2 l RX12 vwCl gTbl ct_2052 := ct2_nil
theorem vl_2052 (l : Launch) : Vld2 l vwCl gTbl con_2052 := conR_ok3 gT_all (hd_2052) rfl pn_RX12 tk_X12_numberAt bo_RX12 xo_RX12 (cto_2052 l) ch_2052 cut_nil
/-- RookHustingModel numberAt -/
noncomputable def con_2053 : Con2 := ((yX12_numberAt, cX12_numberAt, 3, (some .long)), (0, 0), ([(6, 0, 0), (0, 3, 0), (0, 56, 0)], gi_1855, [ac_1100, ac_1157], []), [((4, 48, 0), gi_1856, [(false, ac_1100), (false, ac_1157)], [], [1])])
theorem hd_2053 : con_2053.1 = (yX12_numberAt, cX12_numberAt, 3, (some .long)) := rfl
noncomputable def ct_2053 : CTB2 := []
noncomputable def cu_2053 : List CUT2 := []
theorem ch_2053 : staG tb_X12_numberAt 1 bt_RX12 [] ct_2053 [] [] cu_2053 11 con_2053 = true := by decide +kernel
theorem cto_2053 (l : Launch) : CTOK2 l RX12 vwCl gTbl ct_2053 := ct2_nil
theorem vl_2053 (l : Launch) : Vld2 l vwCl gTbl con_2053 := conR_ok3 gT_all (hd_2053) rfl pn_RX12 tk_X12_numberAt bo_RX12 xo_RX12 (cto_2053 l) ch_2053 cut_nil
/-- RookHustingModel numberAt -/
noncomputable def gi_1860 : GI := jl_n [jl_z 48, jl_i 0 16, jl_z 2]
noncomputable def con_2054 : Con2 := ((yX12_numberAt, cX12_numberAt, 3, (some .long)), (0, 0), ([(6, 0, 0), (0, 3, 0), (0, 58, 0)], gi_1852, [ac_1100, ac_1159], []), [((4, 48, 0), gi_1860, [(false, ac_1100), (false, ac_1159)], [], [1])])
theorem hd_2054 : con_2054.1 = (yX12_numberAt, cX12_numberAt, 3, (some .long)) := rfl
noncomputable def ct_2054 : CTB2 := []
noncomputable def cu_2054 : List CUT2 := []
theorem ch_2054 : staG tb_X12_numberAt 1 bt_RX12 [] ct_2054 [] [] cu_2054 11 con_2054 = true := by decide +kernel
theorem cto_2054 (l : Launch) : CTOK2 l RX12 vwCl gTbl ct_2054 := ct2_nil
theorem vl_2054 (l : Launch) : Vld2 l vwCl gTbl con_2054 := conR_ok3 gT_all (hd_2054) rfl pn_RX12 tk_X12_numberAt bo_RX12 xo_RX12 (cto_2054 l) ch_2054 cut_nil
/-- RookHustingModel numberAt -/
noncomputable def con_2055 : Con2 := ((yX12_numberAt, cX12_numberAt, 3, (some .long)), (0, 0), ([(6, 0, 0), (0, 3, 0), (0, 57, 0)], gi_1853, [ac_1100, ac_1158], []), [((4, 48, 0), gi_1854, [(false, ac_1100), (false, ac_1158)], [], [1])])
theorem hd_2055 : con_2055.1 = (yX12_numberAt, cX12_numberAt, 3, (some .long)) := rfl
noncomputable def ct_2055 : CTB2 := []
noncomputable def cu_2055 : List CUT2 := []
theorem ch_2055 : staG tb_X12_numberAt 1 bt_RX12 [] ct_2055 [] [] cu_2055 11 con_2055 = true := by decide +kernel
theorem cto_2055 (l : Launch) : CTOK2 l RX12 vwCl gTbl ct_2055 := ct2_nil
theorem vl_2055 (l : Launch) : Vld2 l vwCl gTbl con_2055 := conR_ok3 gT_all (hd_2055) rfl pn_RX12 tk_X12_numberAt bo_RX12 xo_RX12 (cto_2055 l) ch_2055 cut_nil
/-- RookHustingModel numberAt -/
noncomputable def con_2056 : Con2 := ((yX12_numberAt, cX12_numberAt, 3, (some .long)), (0, 0), ([(6, 0, 0), (0, 3, 0), (0, 59, 0)], gi_1855, [ac_1100, ac_1160], []), [((4, 48, 0), gi_1856, [(false, ac_1100), (false, ac_1160)], [], [1])])
theorem hd_2056 : con_2056.1 = (yX12_numberAt, cX12_numberAt, 3, (some .long)) := rfl
noncomputable def ct_2056 : CTB2 := []
noncomputable def cu_2056 : List CUT2 := []
theorem ch_2056 : staG tb_X12_numberAt 1 bt_RX12 [] ct_2056 [] [] cu_2056 11 con_2056 = true := by decide +kernel
theorem cto_2056 (l : Launch) : CTOK2 l RX12 vwCl gTbl ct_2056 := ct2_nil
theorem vl_2056 (l : Launch) : Vld2 l vwCl gTbl con_2056 := conR_ok3 gT_all (hd_2056) rfl pn_RX12 tk_X12_numberAt bo_RX12 xo_RX12 (cto_2056 l) ch_2056 cut_nil
/-- RookHustingModel isSeen -/
noncomputable def gi_1861 : GI := jl_n [jl_z 47, jl_r 3 (jl_m 0 60), jl_i 58 60, jl_i 0 4, jl_i 0 16, jl_i 0 250, jl_i 0 4, jl_i 0 16, jl_i 0 250, jl_i 0 4, jl_i 0 16, jl_i 0 250, jl_i 0 4, jl_i 0 16, jl_i 0 250, jl_i 0 4, jl_i 0 16, jl_i 0 250, jl_i 0 4, jl_i 0 16, jl_i 0 250, jl_i 0 4, jl_i 0 16, jl_i 0 250, jl_i 0 4, jl_i 0 16, jl_i 0 250, jl_i 0 4, jl_i 0 16, jl_i 0 250, jl_i 0 4, jl_i 0 16, jl_i 0 250, jl_i 0 4, jl_i 0 16, jl_i 0 250, jl_i 0 4, jl_i 0 16, jl_i 0 250, jl_i 0 4, jl_i 0 16, jl_i 0 250, jl_i 0 4, jl_i 0 16, jl_i 0 250, jl_i 0 4, jl_i 0 16, jl_i 0 250, jl_i 0 4, jl_i 0 16, jl_i 0 250, jl_i 0 4, jl_i 0 16, jl_i 0 250, jl_i 0 4, jl_i 0 16, jl_i 0 250, jl_i 0 4, jl_i 0 16, jl_i 0 250, jl_i 0 4, jl_i 0 16, jl_i 0 250]
noncomputable def gi_1862 : GI := jl_n [jl_z 47, jl_r 3 (jl_m 0 60), jl_i 58 60, jl_i 0 4, jl_i 0 16, jl_i 0 250, jl_i 0 4, jl_i 0 16, jl_i 0 250, jl_i 0 4, jl_i 0 16, jl_i 0 250, jl_i 0 4, jl_i 0 16, jl_i 0 250, jl_i 0 4, jl_i 0 16, jl_i 0 250, jl_i 0 4, jl_i 0 16, jl_i 0 250, jl_i 0 4, jl_i 0 16, jl_i 0 250, jl_i 0 4, jl_i 0 16, jl_i 0 250, jl_i 0 4, jl_i 0 16, jl_i 0 250, jl_i 0 4, jl_i 0 16, jl_i 0 250, jl_i 0 4, jl_i 0 16, jl_i 0 250, jl_i 0 4, jl_i 0 16, jl_i 0 250, jl_i 0 4, jl_i 0 16, jl_i 0 250, jl_i 0 4, jl_i 0 16, jl_i 0 250, jl_i 0 4, jl_i 0 16, jl_i 0 250, jl_i 0 4, jl_i 0 16, jl_i 0 250, jl_i 0 4, jl_i 0 16, jl_i 0 250, jl_i 0 4, jl_i 0 16, jl_i 0 250, jl_i 0 4, jl_i 0 16, jl_i 0 250, jl_i 0 4, jl_i 0 16, jl_i 0 250, jl_z 1]
noncomputable def con_2057 : Con2 := ((yX12_isSeen, cX12_isSeen, 3, (some .boolean)), (1, 22), ([(6, 0, 0), (0, 3, 0)], gi_1861, hc_215, []), [((0, 0, 0), gi_1862, hq_915, [], [1]), ((0, 1, 0), gi_1862, hq_915, [], [1])])
theorem hd_2057 : con_2057.1 = (yX12_isSeen, cX12_isSeen, 3, (some .boolean)) := rfl
theorem ck_RX12_417_2008 : COK2 RX12 vwCl gTbl 417 0 con_2008 := ⟨wd_2061, wd_137, mh_X12_numberAt, .inr (.inr ⟨rfl, wd_2058, wd_2060, wd_114, ⟨_, rfl, pd_X12_numberAt⟩, 12, _, TX12, 45, rfl, rfl⟩)⟩
theorem ck_RX12_417_2011 : COK2 RX12 vwCl gTbl 417 0 con_2011 := ⟨wd_2061, wd_137, mh_X12_numberAt, .inr (.inr ⟨rfl, wd_2058, wd_2060, wd_114, ⟨_, rfl, pd_X12_numberAt⟩, 12, _, TX12, 45, rfl, rfl⟩)⟩
theorem ck_RX12_417_2014 : COK2 RX12 vwCl gTbl 417 0 con_2014 := ⟨wd_2061, wd_137, mh_X12_numberAt, .inr (.inr ⟨rfl, wd_2058, wd_2060, wd_114, ⟨_, rfl, pd_X12_numberAt⟩, 12, _, TX12, 45, rfl, rfl⟩)⟩
theorem ck_RX12_417_2017 : COK2 RX12 vwCl gTbl 417 0 con_2017 := ⟨wd_2061, wd_137, mh_X12_numberAt, .inr (.inr ⟨rfl, wd_2058, wd_2060, wd_114, ⟨_, rfl, pd_X12_numberAt⟩, 12, _, TX12, 45, rfl, rfl⟩)⟩
theorem ck_RX12_417_2020 : COK2 RX12 vwCl gTbl 417 0 con_2020 := ⟨wd_2061, wd_137, mh_X12_numberAt, .inr (.inr ⟨rfl, wd_2058, wd_2060, wd_114, ⟨_, rfl, pd_X12_numberAt⟩, 12, _, TX12, 45, rfl, rfl⟩)⟩
theorem ck_RX12_417_2023 : COK2 RX12 vwCl gTbl 417 0 con_2023 := ⟨wd_2061, wd_137, mh_X12_numberAt, .inr (.inr ⟨rfl, wd_2058, wd_2060, wd_114, ⟨_, rfl, pd_X12_numberAt⟩, 12, _, TX12, 45, rfl, rfl⟩)⟩
theorem ck_RX12_417_2026 : COK2 RX12 vwCl gTbl 417 0 con_2026 := ⟨wd_2061, wd_137, mh_X12_numberAt, .inr (.inr ⟨rfl, wd_2058, wd_2060, wd_114, ⟨_, rfl, pd_X12_numberAt⟩, 12, _, TX12, 45, rfl, rfl⟩)⟩
theorem ck_RX12_417_2029 : COK2 RX12 vwCl gTbl 417 0 con_2029 := ⟨wd_2061, wd_137, mh_X12_numberAt, .inr (.inr ⟨rfl, wd_2058, wd_2060, wd_114, ⟨_, rfl, pd_X12_numberAt⟩, 12, _, TX12, 45, rfl, rfl⟩)⟩
theorem ck_RX12_417_2032 : COK2 RX12 vwCl gTbl 417 0 con_2032 := ⟨wd_2061, wd_137, mh_X12_numberAt, .inr (.inr ⟨rfl, wd_2058, wd_2060, wd_114, ⟨_, rfl, pd_X12_numberAt⟩, 12, _, TX12, 45, rfl, rfl⟩)⟩
theorem ck_RX12_417_2035 : COK2 RX12 vwCl gTbl 417 0 con_2035 := ⟨wd_2061, wd_137, mh_X12_numberAt, .inr (.inr ⟨rfl, wd_2058, wd_2060, wd_114, ⟨_, rfl, pd_X12_numberAt⟩, 12, _, TX12, 45, rfl, rfl⟩)⟩
theorem ck_RX12_417_2038 : COK2 RX12 vwCl gTbl 417 0 con_2038 := ⟨wd_2061, wd_137, mh_X12_numberAt, .inr (.inr ⟨rfl, wd_2058, wd_2060, wd_114, ⟨_, rfl, pd_X12_numberAt⟩, 12, _, TX12, 45, rfl, rfl⟩)⟩
theorem ck_RX12_417_2041 : COK2 RX12 vwCl gTbl 417 0 con_2041 := ⟨wd_2061, wd_137, mh_X12_numberAt, .inr (.inr ⟨rfl, wd_2058, wd_2060, wd_114, ⟨_, rfl, pd_X12_numberAt⟩, 12, _, TX12, 45, rfl, rfl⟩)⟩
theorem ck_RX12_417_2044 : COK2 RX12 vwCl gTbl 417 0 con_2044 := ⟨wd_2061, wd_137, mh_X12_numberAt, .inr (.inr ⟨rfl, wd_2058, wd_2060, wd_114, ⟨_, rfl, pd_X12_numberAt⟩, 12, _, TX12, 45, rfl, rfl⟩)⟩
theorem ck_RX12_417_2047 : COK2 RX12 vwCl gTbl 417 0 con_2047 := ⟨wd_2061, wd_137, mh_X12_numberAt, .inr (.inr ⟨rfl, wd_2058, wd_2060, wd_114, ⟨_, rfl, pd_X12_numberAt⟩, 12, _, TX12, 45, rfl, rfl⟩)⟩
theorem ck_RX12_417_2050 : COK2 RX12 vwCl gTbl 417 0 con_2050 := ⟨wd_2061, wd_137, mh_X12_numberAt, .inr (.inr ⟨rfl, wd_2058, wd_2060, wd_114, ⟨_, rfl, pd_X12_numberAt⟩, 12, _, TX12, 45, rfl, rfl⟩)⟩
theorem ck_RX12_417_2053 : COK2 RX12 vwCl gTbl 417 0 con_2053 := ⟨wd_2061, wd_137, mh_X12_numberAt, .inr (.inr ⟨rfl, wd_2058, wd_2060, wd_114, ⟨_, rfl, pd_X12_numberAt⟩, 12, _, TX12, 45, rfl, rfl⟩)⟩
theorem ck_RX12_417_2056 : COK2 RX12 vwCl gTbl 417 0 con_2056 := ⟨wd_2061, wd_137, mh_X12_numberAt, .inr (.inr ⟨rfl, wd_2058, wd_2060, wd_114, ⟨_, rfl, pd_X12_numberAt⟩, 12, _, TX12, 45, rfl, rfl⟩)⟩
theorem ck_RX12_417_2007 : COK2 RX12 vwCl gTbl 417 0 con_2007 := ⟨wd_2061, wd_137, mh_X12_numberAt, .inr (.inr ⟨rfl, wd_2058, wd_2060, wd_114, ⟨_, rfl, pd_X12_numberAt⟩, 12, _, TX12, 45, rfl, rfl⟩)⟩
theorem ck_RX12_417_2010 : COK2 RX12 vwCl gTbl 417 0 con_2010 := ⟨wd_2061, wd_137, mh_X12_numberAt, .inr (.inr ⟨rfl, wd_2058, wd_2060, wd_114, ⟨_, rfl, pd_X12_numberAt⟩, 12, _, TX12, 45, rfl, rfl⟩)⟩
theorem ck_RX12_417_2013 : COK2 RX12 vwCl gTbl 417 0 con_2013 := ⟨wd_2061, wd_137, mh_X12_numberAt, .inr (.inr ⟨rfl, wd_2058, wd_2060, wd_114, ⟨_, rfl, pd_X12_numberAt⟩, 12, _, TX12, 45, rfl, rfl⟩)⟩
theorem ck_RX12_417_2016 : COK2 RX12 vwCl gTbl 417 0 con_2016 := ⟨wd_2061, wd_137, mh_X12_numberAt, .inr (.inr ⟨rfl, wd_2058, wd_2060, wd_114, ⟨_, rfl, pd_X12_numberAt⟩, 12, _, TX12, 45, rfl, rfl⟩)⟩
theorem ck_RX12_417_2019 : COK2 RX12 vwCl gTbl 417 0 con_2019 := ⟨wd_2061, wd_137, mh_X12_numberAt, .inr (.inr ⟨rfl, wd_2058, wd_2060, wd_114, ⟨_, rfl, pd_X12_numberAt⟩, 12, _, TX12, 45, rfl, rfl⟩)⟩
theorem ck_RX12_417_2022 : COK2 RX12 vwCl gTbl 417 0 con_2022 := ⟨wd_2061, wd_137, mh_X12_numberAt, .inr (.inr ⟨rfl, wd_2058, wd_2060, wd_114, ⟨_, rfl, pd_X12_numberAt⟩, 12, _, TX12, 45, rfl, rfl⟩)⟩
theorem ck_RX12_417_2025 : COK2 RX12 vwCl gTbl 417 0 con_2025 := ⟨wd_2061, wd_137, mh_X12_numberAt, .inr (.inr ⟨rfl, wd_2058, wd_2060, wd_114, ⟨_, rfl, pd_X12_numberAt⟩, 12, _, TX12, 45, rfl, rfl⟩)⟩
theorem ck_RX12_417_2028 : COK2 RX12 vwCl gTbl 417 0 con_2028 := ⟨wd_2061, wd_137, mh_X12_numberAt, .inr (.inr ⟨rfl, wd_2058, wd_2060, wd_114, ⟨_, rfl, pd_X12_numberAt⟩, 12, _, TX12, 45, rfl, rfl⟩)⟩
theorem ck_RX12_417_2031 : COK2 RX12 vwCl gTbl 417 0 con_2031 := ⟨wd_2061, wd_137, mh_X12_numberAt, .inr (.inr ⟨rfl, wd_2058, wd_2060, wd_114, ⟨_, rfl, pd_X12_numberAt⟩, 12, _, TX12, 45, rfl, rfl⟩)⟩
theorem ck_RX12_417_2034 : COK2 RX12 vwCl gTbl 417 0 con_2034 := ⟨wd_2061, wd_137, mh_X12_numberAt, .inr (.inr ⟨rfl, wd_2058, wd_2060, wd_114, ⟨_, rfl, pd_X12_numberAt⟩, 12, _, TX12, 45, rfl, rfl⟩)⟩
theorem ck_RX12_417_2037 : COK2 RX12 vwCl gTbl 417 0 con_2037 := ⟨wd_2061, wd_137, mh_X12_numberAt, .inr (.inr ⟨rfl, wd_2058, wd_2060, wd_114, ⟨_, rfl, pd_X12_numberAt⟩, 12, _, TX12, 45, rfl, rfl⟩)⟩
theorem ck_RX12_417_2040 : COK2 RX12 vwCl gTbl 417 0 con_2040 := ⟨wd_2061, wd_137, mh_X12_numberAt, .inr (.inr ⟨rfl, wd_2058, wd_2060, wd_114, ⟨_, rfl, pd_X12_numberAt⟩, 12, _, TX12, 45, rfl, rfl⟩)⟩
theorem ck_RX12_417_2043 : COK2 RX12 vwCl gTbl 417 0 con_2043 := ⟨wd_2061, wd_137, mh_X12_numberAt, .inr (.inr ⟨rfl, wd_2058, wd_2060, wd_114, ⟨_, rfl, pd_X12_numberAt⟩, 12, _, TX12, 45, rfl, rfl⟩)⟩
theorem ck_RX12_417_2046 : COK2 RX12 vwCl gTbl 417 0 con_2046 := ⟨wd_2061, wd_137, mh_X12_numberAt, .inr (.inr ⟨rfl, wd_2058, wd_2060, wd_114, ⟨_, rfl, pd_X12_numberAt⟩, 12, _, TX12, 45, rfl, rfl⟩)⟩
theorem ck_RX12_417_2049 : COK2 RX12 vwCl gTbl 417 0 con_2049 := ⟨wd_2061, wd_137, mh_X12_numberAt, .inr (.inr ⟨rfl, wd_2058, wd_2060, wd_114, ⟨_, rfl, pd_X12_numberAt⟩, 12, _, TX12, 45, rfl, rfl⟩)⟩
theorem ck_RX12_417_2052 : COK2 RX12 vwCl gTbl 417 0 con_2052 := ⟨wd_2061, wd_137, mh_X12_numberAt, .inr (.inr ⟨rfl, wd_2058, wd_2060, wd_114, ⟨_, rfl, pd_X12_numberAt⟩, 12, _, TX12, 45, rfl, rfl⟩)⟩
theorem ck_RX12_417_2055 : COK2 RX12 vwCl gTbl 417 0 con_2055 := ⟨wd_2061, wd_137, mh_X12_numberAt, .inr (.inr ⟨rfl, wd_2058, wd_2060, wd_114, ⟨_, rfl, pd_X12_numberAt⟩, 12, _, TX12, 45, rfl, rfl⟩)⟩
theorem ck_RX12_417_2006 : COK2 RX12 vwCl gTbl 417 0 con_2006 := ⟨wd_2061, wd_137, mh_X12_numberAt, .inr (.inr ⟨rfl, wd_2058, wd_2060, wd_114, ⟨_, rfl, pd_X12_numberAt⟩, 12, _, TX12, 45, rfl, rfl⟩)⟩
theorem ck_RX12_417_2009 : COK2 RX12 vwCl gTbl 417 0 con_2009 := ⟨wd_2061, wd_137, mh_X12_numberAt, .inr (.inr ⟨rfl, wd_2058, wd_2060, wd_114, ⟨_, rfl, pd_X12_numberAt⟩, 12, _, TX12, 45, rfl, rfl⟩)⟩
theorem ck_RX12_417_2012 : COK2 RX12 vwCl gTbl 417 0 con_2012 := ⟨wd_2061, wd_137, mh_X12_numberAt, .inr (.inr ⟨rfl, wd_2058, wd_2060, wd_114, ⟨_, rfl, pd_X12_numberAt⟩, 12, _, TX12, 45, rfl, rfl⟩)⟩
theorem ck_RX12_417_2015 : COK2 RX12 vwCl gTbl 417 0 con_2015 := ⟨wd_2061, wd_137, mh_X12_numberAt, .inr (.inr ⟨rfl, wd_2058, wd_2060, wd_114, ⟨_, rfl, pd_X12_numberAt⟩, 12, _, TX12, 45, rfl, rfl⟩)⟩
theorem ck_RX12_417_2018 : COK2 RX12 vwCl gTbl 417 0 con_2018 := ⟨wd_2061, wd_137, mh_X12_numberAt, .inr (.inr ⟨rfl, wd_2058, wd_2060, wd_114, ⟨_, rfl, pd_X12_numberAt⟩, 12, _, TX12, 45, rfl, rfl⟩)⟩
theorem ck_RX12_417_2021 : COK2 RX12 vwCl gTbl 417 0 con_2021 := ⟨wd_2061, wd_137, mh_X12_numberAt, .inr (.inr ⟨rfl, wd_2058, wd_2060, wd_114, ⟨_, rfl, pd_X12_numberAt⟩, 12, _, TX12, 45, rfl, rfl⟩)⟩
theorem ck_RX12_417_2024 : COK2 RX12 vwCl gTbl 417 0 con_2024 := ⟨wd_2061, wd_137, mh_X12_numberAt, .inr (.inr ⟨rfl, wd_2058, wd_2060, wd_114, ⟨_, rfl, pd_X12_numberAt⟩, 12, _, TX12, 45, rfl, rfl⟩)⟩
theorem ck_RX12_417_2027 : COK2 RX12 vwCl gTbl 417 0 con_2027 := ⟨wd_2061, wd_137, mh_X12_numberAt, .inr (.inr ⟨rfl, wd_2058, wd_2060, wd_114, ⟨_, rfl, pd_X12_numberAt⟩, 12, _, TX12, 45, rfl, rfl⟩)⟩
theorem ck_RX12_417_2030 : COK2 RX12 vwCl gTbl 417 0 con_2030 := ⟨wd_2061, wd_137, mh_X12_numberAt, .inr (.inr ⟨rfl, wd_2058, wd_2060, wd_114, ⟨_, rfl, pd_X12_numberAt⟩, 12, _, TX12, 45, rfl, rfl⟩)⟩
theorem ck_RX12_417_2033 : COK2 RX12 vwCl gTbl 417 0 con_2033 := ⟨wd_2061, wd_137, mh_X12_numberAt, .inr (.inr ⟨rfl, wd_2058, wd_2060, wd_114, ⟨_, rfl, pd_X12_numberAt⟩, 12, _, TX12, 45, rfl, rfl⟩)⟩
theorem ck_RX12_417_2036 : COK2 RX12 vwCl gTbl 417 0 con_2036 := ⟨wd_2061, wd_137, mh_X12_numberAt, .inr (.inr ⟨rfl, wd_2058, wd_2060, wd_114, ⟨_, rfl, pd_X12_numberAt⟩, 12, _, TX12, 45, rfl, rfl⟩)⟩
theorem ck_RX12_417_2039 : COK2 RX12 vwCl gTbl 417 0 con_2039 := ⟨wd_2061, wd_137, mh_X12_numberAt, .inr (.inr ⟨rfl, wd_2058, wd_2060, wd_114, ⟨_, rfl, pd_X12_numberAt⟩, 12, _, TX12, 45, rfl, rfl⟩)⟩
theorem ck_RX12_417_2042 : COK2 RX12 vwCl gTbl 417 0 con_2042 := ⟨wd_2061, wd_137, mh_X12_numberAt, .inr (.inr ⟨rfl, wd_2058, wd_2060, wd_114, ⟨_, rfl, pd_X12_numberAt⟩, 12, _, TX12, 45, rfl, rfl⟩)⟩
theorem ck_RX12_417_2045 : COK2 RX12 vwCl gTbl 417 0 con_2045 := ⟨wd_2061, wd_137, mh_X12_numberAt, .inr (.inr ⟨rfl, wd_2058, wd_2060, wd_114, ⟨_, rfl, pd_X12_numberAt⟩, 12, _, TX12, 45, rfl, rfl⟩)⟩
theorem ck_RX12_417_2048 : COK2 RX12 vwCl gTbl 417 0 con_2048 := ⟨wd_2061, wd_137, mh_X12_numberAt, .inr (.inr ⟨rfl, wd_2058, wd_2060, wd_114, ⟨_, rfl, pd_X12_numberAt⟩, 12, _, TX12, 45, rfl, rfl⟩)⟩
theorem ck_RX12_417_2051 : COK2 RX12 vwCl gTbl 417 0 con_2051 := ⟨wd_2061, wd_137, mh_X12_numberAt, .inr (.inr ⟨rfl, wd_2058, wd_2060, wd_114, ⟨_, rfl, pd_X12_numberAt⟩, 12, _, TX12, 45, rfl, rfl⟩)⟩
theorem ck_RX12_417_2054 : COK2 RX12 vwCl gTbl 417 0 con_2054 := ⟨wd_2061, wd_137, mh_X12_numberAt, .inr (.inr ⟨rfl, wd_2058, wd_2060, wd_114, ⟨_, rfl, pd_X12_numberAt⟩, 12, _, TX12, 45, rfl, rfl⟩)⟩
noncomputable def ct_2057 : CTB2 := [(22, 417, 0, con_2054, [0, 2]), (22, 417, 0, con_2051, [0, 2]), (22, 417, 0, con_2048, [0, 2]), (22, 417, 0, con_2045, [0, 2]), (22, 417, 0, con_2042, [0, 2]), (22, 417, 0, con_2039, [0, 2]), (22, 417, 0, con_2036, [0, 2]), (22, 417, 0, con_2033, [0, 2]), (22, 417, 0, con_2030, [0, 2]), (22, 417, 0, con_2027, [0, 2]), (22, 417, 0, con_2024, [0, 2]), (22, 417, 0, con_2021, [0, 2]), (22, 417, 0, con_2018, [0, 2]), (22, 417, 0, con_2015, [0, 2]), (22, 417, 0, con_2012, [0, 2]), (22, 417, 0, con_2009, [0, 2]), (22, 417, 0, con_2006, [0, 2]), (22, 417, 0, con_2002, [0, 2]), (22, 417, 0, con_1999, [0, 2]), (22, 417, 0, con_1996, [0, 2]), (30, 417, 0, con_2055, [0, 2]), (30, 417, 0, con_2052, [0, 2]), (30, 417, 0, con_2049, [0, 2]), (30, 417, 0, con_2046, [0, 2]), (30, 417, 0, con_2043, [0, 2]), (30, 417, 0, con_2040, [0, 2]), (30, 417, 0, con_2037, [0, 2]), (30, 417, 0, con_2034, [0, 2]), (30, 417, 0, con_2031, [0, 2]), (30, 417, 0, con_2028, [0, 2]), (30, 417, 0, con_2025, [0, 2]), (30, 417, 0, con_2022, [0, 2]), (30, 417, 0, con_2019, [0, 2]), (30, 417, 0, con_2016, [0, 2]), (30, 417, 0, con_2013, [0, 2]), (30, 417, 0, con_2010, [0, 2]), (30, 417, 0, con_2007, [0, 2]), (30, 417, 0, con_2003, [0, 2]), (30, 417, 0, con_2000, [0, 2]), (30, 417, 0, con_1997, [0, 2]), (42, 417, 0, con_2056, [0, 2]), (42, 417, 0, con_2053, [0, 2]), (42, 417, 0, con_2050, [0, 2]), (42, 417, 0, con_2047, [0, 2]), (42, 417, 0, con_2044, [0, 2]), (42, 417, 0, con_2041, [0, 2]), (42, 417, 0, con_2038, [0, 2]), (42, 417, 0, con_2035, [0, 2]), (42, 417, 0, con_2032, [0, 2]), (42, 417, 0, con_2029, [0, 2]), (42, 417, 0, con_2026, [0, 2]), (42, 417, 0, con_2023, [0, 2]), (42, 417, 0, con_2020, [0, 2]), (42, 417, 0, con_2017, [0, 2]), (42, 417, 0, con_2014, [0, 2]), (42, 417, 0, con_2011, [0, 2]), (42, 417, 0, con_2008, [0, 2]), (42, 417, 0, con_2004, [0, 2]), (42, 417, 0, con_2001, [0, 2]), (42, 417, 0, con_1998, [0, 2])]
noncomputable def gi_1863 : GI := jl_n [jl_z 47, jl_r 3 (jl_m 0 60), jl_i 58 60, jl_i 0 4, jl_i 0 16, jl_i 0 250, jl_i 0 4, jl_i 0 16, jl_i 0 250, jl_i 0 4, jl_i 0 16, jl_i 0 250, jl_i 0 4, jl_i 0 16, jl_i 0 250, jl_i 0 4, jl_i 0 16, jl_i 0 250, jl_i 0 4, jl_i 0 16, jl_i 0 250, jl_i 0 4, jl_i 0 16, jl_i 0 250, jl_i 0 4, jl_i 0 16, jl_i 0 250, jl_i 0 4, jl_i 0 16, jl_i 0 250, jl_i 0 4, jl_i 0 16, jl_i 0 250, jl_i 0 4, jl_i 0 16, jl_i 0 250, jl_i 0 4, jl_i 0 16, jl_i 0 250, jl_i 0 4, jl_i 0 16, jl_i 0 250, jl_i 0 4, jl_i 0 16, jl_i 0 250, jl_i 0 4, jl_i 0 16, jl_i 0 250, jl_i 0 4, jl_i 0 16, jl_i 0 250, jl_i 0 4, jl_i 0 16, jl_i 0 250, jl_i 0 4, jl_i 0 16, jl_i 0 250, jl_i 0 4, jl_i 0 16, jl_i 0 250, jl_i 0 4, jl_i 0 16, jl_i 0 250, jl_z 3]
noncomputable def cu_2057_0 : List CUT2 := [((2, [(0, (6, 0, 0)), (1, (0, 3, 0)), (2, (0, 0, 0))], [], gi_1863, hq_915), [], ([], 60)), ((2, [(0, (6, 0, 0)), (1, (0, 3, 0)), (2, (0, 3, 0))], [], gi_1863, hq_915), [], ([], 57)), ((2, [(0, (6, 0, 0)), (1, (0, 3, 0)), (2, (0, 6, 0))], [], gi_1863, hq_915), [], ([], 54)), ((2, [(0, (6, 0, 0)), (1, (0, 3, 0)), (2, (0, 9, 0))], [], gi_1863, hq_915), [], ([], 51)), ((2, [(0, (6, 0, 0)), (1, (0, 3, 0)), (2, (0, 12, 0))], [], gi_1863, hq_915), [], ([], 48)), ((2, [(0, (6, 0, 0)), (1, (0, 3, 0)), (2, (0, 15, 0))], [], gi_1863, hq_915), [], ([], 45)), ((2, [(0, (6, 0, 0)), (1, (0, 3, 0)), (2, (0, 18, 0))], [], gi_1863, hq_915), [], ([], 42)), ((2, [(0, (6, 0, 0)), (1, (0, 3, 0)), (2, (0, 21, 0))], [], gi_1863, hq_915), [], ([], 39)), ((2, [(0, (6, 0, 0)), (1, (0, 3, 0)), (2, (0, 24, 0))], [], gi_1863, hq_915), [], ([], 36)), ((2, [(0, (6, 0, 0)), (1, (0, 3, 0)), (2, (0, 27, 0))], [], gi_1863, hq_915), [], ([], 33)), ((2, [(0, (6, 0, 0)), (1, (0, 3, 0)), (2, (0, 30, 0))], [], gi_1863, hq_915), [], ([], 30)), ((2, [(0, (6, 0, 0)), (1, (0, 3, 0)), (2, (0, 33, 0))], [], gi_1863, hq_915), [], ([], 27)), ((2, [(0, (6, 0, 0)), (1, (0, 3, 0)), (2, (0, 36, 0))], [], gi_1863, hq_915), [], ([], 24)), ((2, [(0, (6, 0, 0)), (1, (0, 3, 0)), (2, (0, 39, 0))], [], gi_1863, hq_915), [], ([], 21)), ((2, [(0, (6, 0, 0)), (1, (0, 3, 0)), (2, (0, 42, 0))], [], gi_1863, hq_915), [], ([], 18)), ((2, [(0, (6, 0, 0)), (1, (0, 3, 0)), (2, (0, 45, 0))], [], gi_1863, hq_915), [], ([], 15)), ((2, [(0, (6, 0, 0)), (1, (0, 3, 0)), (2, (0, 48, 0))], [], gi_1863, hq_915), [], ([], 12)), ((2, [(0, (6, 0, 0)), (1, (0, 3, 0)), (2, (0, 51, 0))], [], gi_1863, hq_915), [], ([], 9))]
noncomputable def cu_2057_1 : List CUT2 := [((2, [(0, (6, 0, 0)), (1, (0, 3, 0)), (2, (0, 54, 0))], [], gi_1863, hq_915), [], ([], 6)), ((2, [(0, (6, 0, 0)), (1, (0, 3, 0)), (2, (0, 57, 0))], [], gi_1863, hq_915), [], ([], 3)), ((2, [(0, (6, 0, 0)), (1, (0, 3, 0)), (2, (0, 60, 0))], [], gi_1863, hq_915), [], ([], 0))]
noncomputable def cu_2057 : List CUT2 := cu_2057_0 ++ (cu_2057_1)
theorem ch_2057 : staG tb_X12_isSeen 1 bt_RX12 [] ct_2057 [] [] cu_2057 37 con_2057 = true := by decide +kernel
theorem cc_2057_0 : cu_2057_0.all (cutG tb_X12_isSeen 1 bt_RX12 [] ct_2057 [] [] cu_2057 37 con_2057) = true := by decide +kernel
theorem cc_2057_1 : cu_2057_1.all (cutG tb_X12_isSeen 1 bt_RX12 [] ct_2057 [] [] cu_2057 37 con_2057) = true := by decide +kernel
theorem cto_2057 (l : Launch) : CTOK2 l RX12 vwCl gTbl ct_2057 := ct2_cons (vl_2054 l) ck_RX12_417_2054 (ct2_cons (vl_2051 l) ck_RX12_417_2051 (ct2_cons (vl_2048 l) ck_RX12_417_2048 (ct2_cons (vl_2045 l) ck_RX12_417_2045 (ct2_cons (vl_2042 l) ck_RX12_417_2042 (ct2_cons (vl_2039 l) ck_RX12_417_2039 (ct2_cons (vl_2036 l) ck_RX12_417_2036 (ct2_cons (vl_2033 l) ck_RX12_417_2033 (ct2_cons (vl_2030 l) ck_RX12_417_2030 (ct2_cons (vl_2027 l) ck_RX12_417_2027 (ct2_cons (vl_2024 l) ck_RX12_417_2024 (ct2_cons (vl_2021 l) ck_RX12_417_2021 (ct2_cons (vl_2018 l) ck_RX12_417_2018 (ct2_cons (vl_2015 l) ck_RX12_417_2015 (ct2_cons (vl_2012 l) ck_RX12_417_2012 (ct2_cons (vl_2009 l) ck_RX12_417_2009 (ct2_cons (vl_2006 l) ck_RX12_417_2006 (ct2_cons (vl_2002 l) ck_RX12_417_2002 (ct2_cons (vl_1999 l) ck_RX12_417_1999 (ct2_cons (vl_1996 l) ck_RX12_417_1996 (ct2_cons (vl_2055 l) ck_RX12_417_2055 (ct2_cons (vl_2052 l) ck_RX12_417_2052 (ct2_cons (vl_2049 l) ck_RX12_417_2049 (ct2_cons (vl_2046 l) ck_RX12_417_2046 (ct2_cons (vl_2043 l) ck_RX12_417_2043 (ct2_cons (vl_2040 l) ck_RX12_417_2040 (ct2_cons (vl_2037 l) ck_RX12_417_2037 (ct2_cons (vl_2034 l) ck_RX12_417_2034 (ct2_cons (vl_2031 l) ck_RX12_417_2031 (ct2_cons (vl_2028 l) ck_RX12_417_2028 (ct2_cons (vl_2025 l) ck_RX12_417_2025 (ct2_cons (vl_2022 l) ck_RX12_417_2022 (ct2_cons (vl_2019 l) ck_RX12_417_2019 (ct2_cons (vl_2016 l) ck_RX12_417_2016 (ct2_cons (vl_2013 l) ck_RX12_417_2013 (ct2_cons (vl_2010 l) ck_RX12_417_2010 (ct2_cons (vl_2007 l) ck_RX12_417_2007 (ct2_cons (vl_2003 l) ck_RX12_417_2003 (ct2_cons (vl_2000 l) ck_RX12_417_2000 (ct2_cons (vl_1997 l) ck_RX12_417_1997 (ct2_cons (vl_2056 l) ck_RX12_417_2056 (ct2_cons (vl_2053 l) ck_RX12_417_2053 (ct2_cons (vl_2050 l) ck_RX12_417_2050 (ct2_cons (vl_2047 l) ck_RX12_417_2047 (ct2_cons (vl_2044 l) ck_RX12_417_2044 (ct2_cons (vl_2041 l) ck_RX12_417_2041 (ct2_cons (vl_2038 l) ck_RX12_417_2038 (ct2_cons (vl_2035 l) ck_RX12_417_2035 (ct2_cons (vl_2032 l) ck_RX12_417_2032 (ct2_cons (vl_2029 l) ck_RX12_417_2029 (ct2_cons (vl_2026 l) ck_RX12_417_2026 (ct2_cons (vl_2023 l) ck_RX12_417_2023 (ct2_cons (vl_2020 l) ck_RX12_417_2020 (ct2_cons (vl_2017 l) ck_RX12_417_2017 (ct2_cons (vl_2014 l) ck_RX12_417_2014 (ct2_cons (vl_2011 l) ck_RX12_417_2011 (ct2_cons (vl_2008 l) ck_RX12_417_2008 (ct2_cons (vl_2004 l) ck_RX12_417_2004 (ct2_cons (vl_2001 l) ck_RX12_417_2001 (ct2_cons (vl_1998 l) ck_RX12_417_1998 (ct2_nil))))))))))))))))))))))))))))))))))))))))))))))))))))))))))))
theorem vl_2057 (l : Launch) : Vld2 l vwCl gTbl con_2057 := conR_ok3 gT_all (hd_2057) rfl pn_RX12 tk_X12_isSeen bo_RX12 xo_RX12 (cto_2057 l) ch_2057 (cut_app (cut_all cc_2057_0) (cut_all cc_2057_1))
/-- RookHustingModel isSeen -/
noncomputable def gi_1864 : GI := jl_n [jl_z 47, jl_r 3 (jl_m 0 60), jl_i 4 6, jl_i 0 4, jl_i 0 16, jl_i 0 250, jl_i 0 4, jl_i 0 16, jl_i 0 250, jl_r 54 (jl_u)]
noncomputable def gi_1865 : GI := jl_n [jl_z 47, jl_r 3 (jl_m 0 60), jl_i 4 6, jl_i 0 4, jl_i 0 16, jl_i 0 250, jl_i 0 4, jl_i 0 16, jl_i 0 250, jl_r 54 (jl_u), jl_z 1]
noncomputable def con_2058 : Con2 := ((yX12_isSeen, cX12_isSeen, 3, (some .boolean)), (1, 22), ([(6, 0, 0), (0, 3, 0)], gi_1864, hc_215, []), [((0, 0, 0), gi_1865, hq_915, [], [1]), ((0, 1, 0), gi_1865, hq_915, [], [1])])
theorem hd_2058 : con_2058.1 = (yX12_isSeen, cX12_isSeen, 3, (some .boolean)) := rfl
noncomputable def ct_2058 : CTB2 := [(22, 417, 0, con_1999, [0, 2]), (22, 417, 0, con_1996, [0, 2]), (30, 417, 0, con_2000, [0, 2]), (30, 417, 0, con_1997, [0, 2]), (42, 417, 0, con_2001, [0, 2]), (42, 417, 0, con_1998, [0, 2])]
noncomputable def gi_1866 : GI := jl_n [jl_z 47, jl_r 3 (jl_m 0 60), jl_i 4 6, jl_i 0 4, jl_i 0 16, jl_i 0 250, jl_i 0 4, jl_i 0 16, jl_i 0 250, jl_r 54 (jl_u), jl_z 3]
noncomputable def cu_2058 : List CUT2 := [((2, [(0, (6, 0, 0)), (1, (0, 3, 0)), (2, (0, 0, 0))], [], gi_1866, hq_915), [], ([], 6)), ((2, [(0, (6, 0, 0)), (1, (0, 3, 0)), (2, (0, 3, 0))], [], gi_1866, hq_915), [], ([], 3)), ((2, [(0, (6, 0, 0)), (1, (0, 3, 0)), (2, (0, 6, 0))], [], gi_1866, hq_915), [], ([], 0))]
theorem ch_2058 : staG tb_X12_isSeen 1 bt_RX12 [] ct_2058 [] [] cu_2058 37 con_2058 = true := by decide +kernel
theorem cc_2058 : cu_2058.all (cutG tb_X12_isSeen 1 bt_RX12 [] ct_2058 [] [] cu_2058 37 con_2058) = true := by decide +kernel
theorem cto_2058 (l : Launch) : CTOK2 l RX12 vwCl gTbl ct_2058 := ct2_cons (vl_1999 l) ck_RX12_417_1999 (ct2_cons (vl_1996 l) ck_RX12_417_1996 (ct2_cons (vl_2000 l) ck_RX12_417_2000 (ct2_cons (vl_1997 l) ck_RX12_417_1997 (ct2_cons (vl_2001 l) ck_RX12_417_2001 (ct2_cons (vl_1998 l) ck_RX12_417_1998 (ct2_nil))))))
theorem vl_2058 (l : Launch) : Vld2 l vwCl gTbl con_2058 := conR_ok3 gT_all (hd_2058) rfl pn_RX12 tk_X12_isSeen bo_RX12 xo_RX12 (cto_2058 l) ch_2058 (cut_all cc_2058)
/-- RookHustingModel isSeen -/
noncomputable def gi_1867 : GI := jl_n [jl_z 47, jl_r 3 (jl_m 0 60), jl_i 55 57, jl_i 0 4, jl_i 0 16, jl_i 0 250, jl_i 0 4, jl_i 0 16, jl_i 0 250, jl_i 0 4, jl_i 0 16, jl_i 0 250, jl_i 0 4, jl_i 0 16, jl_i 0 250, jl_i 0 4, jl_i 0 16, jl_i 0 250, jl_i 0 4, jl_i 0 16, jl_i 0 250, jl_i 0 4, jl_i 0 16, jl_i 0 250, jl_i 0 4, jl_i 0 16, jl_i 0 250, jl_i 0 4, jl_i 0 16, jl_i 0 250, jl_i 0 4, jl_i 0 16, jl_i 0 250, jl_i 0 4, jl_i 0 16, jl_i 0 250, jl_i 0 4, jl_i 0 16, jl_i 0 250, jl_i 0 4, jl_i 0 16, jl_i 0 250, jl_i 0 4, jl_i 0 16, jl_i 0 250, jl_i 0 4, jl_i 0 16, jl_i 0 250, jl_i 0 4, jl_i 0 16, jl_i 0 250, jl_i 0 4, jl_i 0 16, jl_i 0 250, jl_i 0 4, jl_i 0 16, jl_i 0 250, jl_i 0 4, jl_i 0 16, jl_i 0 250, jl_r 3 (jl_u)]
noncomputable def gi_1868 : GI := jl_n [jl_z 47, jl_r 3 (jl_m 0 60), jl_i 55 57, jl_i 0 4, jl_i 0 16, jl_i 0 250, jl_i 0 4, jl_i 0 16, jl_i 0 250, jl_i 0 4, jl_i 0 16, jl_i 0 250, jl_i 0 4, jl_i 0 16, jl_i 0 250, jl_i 0 4, jl_i 0 16, jl_i 0 250, jl_i 0 4, jl_i 0 16, jl_i 0 250, jl_i 0 4, jl_i 0 16, jl_i 0 250, jl_i 0 4, jl_i 0 16, jl_i 0 250, jl_i 0 4, jl_i 0 16, jl_i 0 250, jl_i 0 4, jl_i 0 16, jl_i 0 250, jl_i 0 4, jl_i 0 16, jl_i 0 250, jl_i 0 4, jl_i 0 16, jl_i 0 250, jl_i 0 4, jl_i 0 16, jl_i 0 250, jl_i 0 4, jl_i 0 16, jl_i 0 250, jl_i 0 4, jl_i 0 16, jl_i 0 250, jl_i 0 4, jl_i 0 16, jl_i 0 250, jl_i 0 4, jl_i 0 16, jl_i 0 250, jl_i 0 4, jl_i 0 16, jl_i 0 250, jl_i 0 4, jl_i 0 16, jl_i 0 250, jl_r 3 (jl_u), jl_z 1]
noncomputable def con_2059 : Con2 := ((yX12_isSeen, cX12_isSeen, 3, (some .boolean)), (1, 22), ([(6, 0, 0), (0, 3, 0)], gi_1867, hc_215, []), [((0, 0, 0), gi_1868, hq_915, [], [1]), ((0, 1, 0), gi_1868, hq_915, [], [1])])
theorem hd_2059 : con_2059.1 = (yX12_isSeen, cX12_isSeen, 3, (some .boolean)) := rfl
noncomputable def ct_2059 : CTB2 := [(22, 417, 0, con_2051, [0, 2]), (22, 417, 0, con_2048, [0, 2]), (22, 417, 0, con_2045, [0, 2]), (22, 417, 0, con_2042, [0, 2]), (22, 417, 0, con_2039, [0, 2]), (22, 417, 0, con_2036, [0, 2]), (22, 417, 0, con_2033, [0, 2]), (22, 417, 0, con_2030, [0, 2]), (22, 417, 0, con_2027, [0, 2]), (22, 417, 0, con_2024, [0, 2]), (22, 417, 0, con_2021, [0, 2]), (22, 417, 0, con_2018, [0, 2]), (22, 417, 0, con_2015, [0, 2]), (22, 417, 0, con_2012, [0, 2]), (22, 417, 0, con_2009, [0, 2]), (22, 417, 0, con_2006, [0, 2]), (22, 417, 0, con_2002, [0, 2]), (22, 417, 0, con_1999, [0, 2]), (22, 417, 0, con_1996, [0, 2]), (30, 417, 0, con_2052, [0, 2]), (30, 417, 0, con_2049, [0, 2]), (30, 417, 0, con_2046, [0, 2]), (30, 417, 0, con_2043, [0, 2]), (30, 417, 0, con_2040, [0, 2]), (30, 417, 0, con_2037, [0, 2]), (30, 417, 0, con_2034, [0, 2]), (30, 417, 0, con_2031, [0, 2]), (30, 417, 0, con_2028, [0, 2]), (30, 417, 0, con_2025, [0, 2]), (30, 417, 0, con_2022, [0, 2]), (30, 417, 0, con_2019, [0, 2]), (30, 417, 0, con_2016, [0, 2]), (30, 417, 0, con_2013, [0, 2]), (30, 417, 0, con_2010, [0, 2]), (30, 417, 0, con_2007, [0, 2]), (30, 417, 0, con_2003, [0, 2]), (30, 417, 0, con_2000, [0, 2]), (30, 417, 0, con_1997, [0, 2]), (42, 417, 0, con_2053, [0, 2]), (42, 417, 0, con_2050, [0, 2]), (42, 417, 0, con_2047, [0, 2]), (42, 417, 0, con_2044, [0, 2]), (42, 417, 0, con_2041, [0, 2]), (42, 417, 0, con_2038, [0, 2]), (42, 417, 0, con_2035, [0, 2]), (42, 417, 0, con_2032, [0, 2]), (42, 417, 0, con_2029, [0, 2]), (42, 417, 0, con_2026, [0, 2]), (42, 417, 0, con_2023, [0, 2]), (42, 417, 0, con_2020, [0, 2]), (42, 417, 0, con_2017, [0, 2]), (42, 417, 0, con_2014, [0, 2]), (42, 417, 0, con_2011, [0, 2]), (42, 417, 0, con_2008, [0, 2]), (42, 417, 0, con_2004, [0, 2]), (42, 417, 0, con_2001, [0, 2]), (42, 417, 0, con_1998, [0, 2])]
noncomputable def gi_1869 : GI := jl_n [jl_z 47, jl_r 3 (jl_m 0 60), jl_i 55 57, jl_i 0 4, jl_i 0 16, jl_i 0 250, jl_i 0 4, jl_i 0 16, jl_i 0 250, jl_i 0 4, jl_i 0 16, jl_i 0 250, jl_i 0 4, jl_i 0 16, jl_i 0 250, jl_i 0 4, jl_i 0 16, jl_i 0 250, jl_i 0 4, jl_i 0 16, jl_i 0 250, jl_i 0 4, jl_i 0 16, jl_i 0 250, jl_i 0 4, jl_i 0 16, jl_i 0 250, jl_i 0 4, jl_i 0 16, jl_i 0 250, jl_i 0 4, jl_i 0 16, jl_i 0 250, jl_i 0 4, jl_i 0 16, jl_i 0 250, jl_i 0 4, jl_i 0 16, jl_i 0 250, jl_i 0 4, jl_i 0 16, jl_i 0 250, jl_i 0 4, jl_i 0 16, jl_i 0 250, jl_i 0 4, jl_i 0 16, jl_i 0 250, jl_i 0 4, jl_i 0 16, jl_i 0 250, jl_i 0 4, jl_i 0 16, jl_i 0 250, jl_i 0 4, jl_i 0 16, jl_i 0 250, jl_i 0 4, jl_i 0 16, jl_i 0 250, jl_r 3 (jl_u), jl_z 3]
noncomputable def cu_2059_0 : List CUT2 := [((2, [(0, (6, 0, 0)), (1, (0, 3, 0)), (2, (0, 0, 0))], [], gi_1869, hq_915), [], ([], 57)), ((2, [(0, (6, 0, 0)), (1, (0, 3, 0)), (2, (0, 3, 0))], [], gi_1869, hq_915), [], ([], 54)), ((2, [(0, (6, 0, 0)), (1, (0, 3, 0)), (2, (0, 6, 0))], [], gi_1869, hq_915), [], ([], 51)), ((2, [(0, (6, 0, 0)), (1, (0, 3, 0)), (2, (0, 9, 0))], [], gi_1869, hq_915), [], ([], 48)), ((2, [(0, (6, 0, 0)), (1, (0, 3, 0)), (2, (0, 12, 0))], [], gi_1869, hq_915), [], ([], 45)), ((2, [(0, (6, 0, 0)), (1, (0, 3, 0)), (2, (0, 15, 0))], [], gi_1869, hq_915), [], ([], 42)), ((2, [(0, (6, 0, 0)), (1, (0, 3, 0)), (2, (0, 18, 0))], [], gi_1869, hq_915), [], ([], 39)), ((2, [(0, (6, 0, 0)), (1, (0, 3, 0)), (2, (0, 21, 0))], [], gi_1869, hq_915), [], ([], 36)), ((2, [(0, (6, 0, 0)), (1, (0, 3, 0)), (2, (0, 24, 0))], [], gi_1869, hq_915), [], ([], 33)), ((2, [(0, (6, 0, 0)), (1, (0, 3, 0)), (2, (0, 27, 0))], [], gi_1869, hq_915), [], ([], 30)), ((2, [(0, (6, 0, 0)), (1, (0, 3, 0)), (2, (0, 30, 0))], [], gi_1869, hq_915), [], ([], 27)), ((2, [(0, (6, 0, 0)), (1, (0, 3, 0)), (2, (0, 33, 0))], [], gi_1869, hq_915), [], ([], 24)), ((2, [(0, (6, 0, 0)), (1, (0, 3, 0)), (2, (0, 36, 0))], [], gi_1869, hq_915), [], ([], 21)), ((2, [(0, (6, 0, 0)), (1, (0, 3, 0)), (2, (0, 39, 0))], [], gi_1869, hq_915), [], ([], 18)), ((2, [(0, (6, 0, 0)), (1, (0, 3, 0)), (2, (0, 42, 0))], [], gi_1869, hq_915), [], ([], 15)), ((2, [(0, (6, 0, 0)), (1, (0, 3, 0)), (2, (0, 45, 0))], [], gi_1869, hq_915), [], ([], 12)), ((2, [(0, (6, 0, 0)), (1, (0, 3, 0)), (2, (0, 48, 0))], [], gi_1869, hq_915), [], ([], 9)), ((2, [(0, (6, 0, 0)), (1, (0, 3, 0)), (2, (0, 51, 0))], [], gi_1869, hq_915), [], ([], 6))]
noncomputable def cu_2059_1 : List CUT2 := [((2, [(0, (6, 0, 0)), (1, (0, 3, 0)), (2, (0, 54, 0))], [], gi_1869, hq_915), [], ([], 3)), ((2, [(0, (6, 0, 0)), (1, (0, 3, 0)), (2, (0, 57, 0))], [], gi_1869, hq_915), [], ([], 0))]
noncomputable def cu_2059 : List CUT2 := cu_2059_0 ++ (cu_2059_1)
theorem ch_2059 : staG tb_X12_isSeen 1 bt_RX12 [] ct_2059 [] [] cu_2059 37 con_2059 = true := by decide +kernel
theorem cc_2059_0 : cu_2059_0.all (cutG tb_X12_isSeen 1 bt_RX12 [] ct_2059 [] [] cu_2059 37 con_2059) = true := by decide +kernel
theorem cc_2059_1 : cu_2059_1.all (cutG tb_X12_isSeen 1 bt_RX12 [] ct_2059 [] [] cu_2059 37 con_2059) = true := by decide +kernel
theorem cto_2059 (l : Launch) : CTOK2 l RX12 vwCl gTbl ct_2059 := ct2_cons (vl_2051 l) ck_RX12_417_2051 (ct2_cons (vl_2048 l) ck_RX12_417_2048 (ct2_cons (vl_2045 l) ck_RX12_417_2045 (ct2_cons (vl_2042 l) ck_RX12_417_2042 (ct2_cons (vl_2039 l) ck_RX12_417_2039 (ct2_cons (vl_2036 l) ck_RX12_417_2036 (ct2_cons (vl_2033 l) ck_RX12_417_2033 (ct2_cons (vl_2030 l) ck_RX12_417_2030 (ct2_cons (vl_2027 l) ck_RX12_417_2027 (ct2_cons (vl_2024 l) ck_RX12_417_2024 (ct2_cons (vl_2021 l) ck_RX12_417_2021 (ct2_cons (vl_2018 l) ck_RX12_417_2018 (ct2_cons (vl_2015 l) ck_RX12_417_2015 (ct2_cons (vl_2012 l) ck_RX12_417_2012 (ct2_cons (vl_2009 l) ck_RX12_417_2009 (ct2_cons (vl_2006 l) ck_RX12_417_2006 (ct2_cons (vl_2002 l) ck_RX12_417_2002 (ct2_cons (vl_1999 l) ck_RX12_417_1999 (ct2_cons (vl_1996 l) ck_RX12_417_1996 (ct2_cons (vl_2052 l) ck_RX12_417_2052 (ct2_cons (vl_2049 l) ck_RX12_417_2049 (ct2_cons (vl_2046 l) ck_RX12_417_2046 (ct2_cons (vl_2043 l) ck_RX12_417_2043 (ct2_cons (vl_2040 l) ck_RX12_417_2040 (ct2_cons (vl_2037 l) ck_RX12_417_2037 (ct2_cons (vl_2034 l) ck_RX12_417_2034 (ct2_cons (vl_2031 l) ck_RX12_417_2031 (ct2_cons (vl_2028 l) ck_RX12_417_2028 (ct2_cons (vl_2025 l) ck_RX12_417_2025 (ct2_cons (vl_2022 l) ck_RX12_417_2022 (ct2_cons (vl_2019 l) ck_RX12_417_2019 (ct2_cons (vl_2016 l) ck_RX12_417_2016 (ct2_cons (vl_2013 l) ck_RX12_417_2013 (ct2_cons (vl_2010 l) ck_RX12_417_2010 (ct2_cons (vl_2007 l) ck_RX12_417_2007 (ct2_cons (vl_2003 l) ck_RX12_417_2003 (ct2_cons (vl_2000 l) ck_RX12_417_2000 (ct2_cons (vl_1997 l) ck_RX12_417_1997 (ct2_cons (vl_2053 l) ck_RX12_417_2053 (ct2_cons (vl_2050 l) ck_RX12_417_2050 (ct2_cons (vl_2047 l) ck_RX12_417_2047 (ct2_cons (vl_2044 l) ck_RX12_417_2044 (ct2_cons (vl_2041 l) ck_RX12_417_2041 (ct2_cons (vl_2038 l) ck_RX12_417_2038 (ct2_cons (vl_2035 l) ck_RX12_417_2035 (ct2_cons (vl_2032 l) ck_RX12_417_2032 (ct2_cons (vl_2029 l) ck_RX12_417_2029 (ct2_cons (vl_2026 l) ck_RX12_417_2026 (ct2_cons (vl_2023 l) ck_RX12_417_2023 (ct2_cons (vl_2020 l) ck_RX12_417_2020 (ct2_cons (vl_2017 l) ck_RX12_417_2017 (ct2_cons (vl_2014 l) ck_RX12_417_2014 (ct2_cons (vl_2011 l) ck_RX12_417_2011 (ct2_cons (vl_2008 l) ck_RX12_417_2008 (ct2_cons (vl_2004 l) ck_RX12_417_2004 (ct2_cons (vl_2001 l) ck_RX12_417_2001 (ct2_cons (vl_1998 l) ck_RX12_417_1998 (ct2_nil)))))))))))))))))))))))))))))))))))))))))))))))))))))))))
theorem vl_2059 (l : Launch) : Vld2 l vwCl gTbl con_2059 := conR_ok3 gT_all (hd_2059) rfl pn_RX12 tk_X12_isSeen bo_RX12 xo_RX12 (cto_2059 l) ch_2059 (cut_app (cut_all cc_2059_0) (cut_all cc_2059_1))
