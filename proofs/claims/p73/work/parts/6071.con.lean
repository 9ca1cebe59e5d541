/-! ===== contracts, 71 ===== -/
/-- RookHustingModel paste -/
noncomputable def gi_3512 : GI := jl_n [gp_983, jl_i 0 60, jl_k 0 0, gp_1017]
noncomputable def rq_117 : RLs := [([(55, 1), (56, (-1))], 0), ([(55, (-1)), (56, 1)], 0), ([(2, 1), (5, 1), (51, (-1))], (-1))]
noncomputable def rq_118 : RLs := [([(55, 1), (56, (-1))], 0), ([(55, (-1)), (56, 1)], 0), ([(4, 1), (5, 1), (52, (-1))], (-1))]
noncomputable def rq_119 : RLs := [([(55, 1), (56, (-1))], 0), ([(55, (-1)), (56, 1)], 0), ([(2, (-1)), (5, (-1)), (51, 1)], 0), ([(4, (-1)), (5, (-1)), (52, 1)], 0)]
noncomputable def con_2929 : Con2 := ((yX12_paste, cX12_paste, 7, (some .int)), (2, 45), ([(6, 0, 0), (0, 0, 0), (1, 2, 0), (0, 1, 0), (1, 4, 0), (1, 5, 0)], gi_3294, [ac_1585, ac_1586, ac_1587, ac_807, ac_1588], []), [((0, (-6), 0), gi_3504, hq_1040, [], [1]), ((0, (-6), 0), gi_3512, hq_1040, [], [1]), ((0, (-7), 0), gi_3491, hq_1040, rq_117, [1]), ((0, (-7), 0), gi_3491, hq_1040, rq_118, [1]), ((0, (-8), 0), gi_3493, hq_1040, [([(55, 1), (56, (-1))], (-1))], [1]), ((0, (-8), 0), gi_3492, hq_1040, [([(55, (-1)), (56, 1)], (-1))], [1]), ((0, 0, 0), gi_3491, hq_1043, rq_119, [1])])
theorem hd_2929 : con_2929.1 = (yX12_paste, cX12_paste, 7, (some .int)) := rfl
noncomputable def ct_2929 : CTB2 := [(1, 414, 1, con_2370, []), (8, 414, 1, con_2226, [])]
noncomputable def rf_2929 : List (Nat × List POP) := [(17, [(1, (1, 1, 0), 0, 0), (1, (1, 3, 0), 0, 0)]), (52, [(1, (0, 1, 0), 0, 0)]), (110, [(0, (1, 2, 0), 0, 60), (0, (1, 4, 0), 0, 60), (0, (1, 5, 0), 0, 60)]), (139, [(0, (0, 0, 0), 0, 239)]), (178, [(0, (0, 1, 0), 0, 239)])]
noncomputable def rq_120 : RLs := [([(2, (-1)), (5, (-1))], 60), ([(4, (-1)), (5, (-1))], 60), ([(2, (-1)), (5, (-1)), (51, 1)], 0), ([(4, (-1)), (5, (-1)), (52, 1)], 0), ([(55, 1), (56, (-1))], 0), ([(55, (-1)), (56, 1)], 0)]
noncomputable def cu_2929 : List CUT2 := [((113, [lq 0 6 0, lq 1 0 0, lq 2 1 2, lq 3 0 1, lq 4 1 4, lq 5 1 5, lq 6 1 65], [], gi_3494, hq_1044), rq_120, ([(65, (-1))], 121)), ((150, [lq 0 6 0, lq 1 0 0, lq 2 1 2, lq 3 0 1, lq 4 1 4, lq 5 1 5, lq 6 1 65], [], gi_3494, hq_1043), rq_120, ([(65, (-1))], 60))]
theorem ch_2929 : staG tb_X12_paste 3 bt_RX12 [] ct_2929 rf_2929 [77, 85, 95, 103, 117, 138, 154, 170] cu_2929 60 con_2929 = true := by decide +kernel
theorem cc_2929 : cu_2929.all (cutG tb_X12_paste 3 bt_RX12 [] ct_2929 rf_2929 [77, 85, 95, 103, 117, 138, 154, 170] cu_2929 60 con_2929) = true := by decide +kernel
theorem cto_2929 (l : Launch) : CTOK2 l RX12 vwCl gTbl ct_2929 := ct2_cons (vl_2370 l) ck_RX12_414_2370 (ct2_cons (vl_2226 l) ck_RX12_414_2226 (ct2_nil))
theorem vl_2929 (l : Launch) : Vld2 l vwCl gTbl con_2929 := conR_ok3 gT_all (hd_2929) rfl pn_RX12 tk_X12_paste bo_RX12 xo_RX12 (cto_2929 l) ch_2929 (cut_all cc_2929)
/-- RookHustingModel paste -/
noncomputable def gi_3513 : GI := jl_n [gp_993, jl_i 0 60, jl_k 0 0, gp_1017]
noncomputable def con_2930 : Con2 := ((yX12_paste, cX12_paste, 7, (some .int)), (2, 45), ([(6, 0, 0), (0, 0, 0), (1, 2, 0), (0, 1, 0), (1, 4, 0), (1, 5, 0)], gi_3313, [ac_1585, ac_1586, ac_1587, ac_807, ac_1588], []), [((0, (-6), 0), gi_3506, hq_1040, [], [1]), ((0, (-6), 0), gi_3513, hq_1040, [], [1]), ((0, (-7), 0), gi_3496, hq_1040, rq_117, [1]), ((0, (-7), 0), gi_3496, hq_1040, rq_118, [1]), ((0, (-7), 0), gi_3497, hq_1040, [([(55, 1), (56, (-1))], 0), ([(55, (-1)), (56, 1)], 0)], [1]), ((0, (-7), 0), gi_3498, hq_1040, [([(55, 1), (56, (-1))], 0), ([(55, (-1)), (56, 1)], 0)], [1]), ((0, (-7), 0), gi_3499, hq_1040, [([(55, 1), (56, (-1))], 0), ([(55, (-1)), (56, 1)], 0)], [1]), ((0, (-8), 0), gi_3501, hq_1040, [([(55, 1), (56, (-1))], (-1))], [1]), ((0, (-8), 0), gi_3500, hq_1040, [([(55, (-1)), (56, 1)], (-1))], [1]), ((0, 0, 0), gi_3491, hq_1043, rq_119, [1])])
theorem hd_2930 : con_2930.1 = (yX12_paste, cX12_paste, 7, (some .int)) := rfl
noncomputable def rf_2930 : List (Nat × List POP) := [(17, [(1, (1, 1, 0), 0, 0), (1, (1, 3, 0), 0, 0)]), (52, [(1, (0, 1, 0), 0, 0)]), (110, [(0, (1, 2, 0), 0, 60), (0, (1, 4, 0), 0, 60), (0, (1, 5, 0), 0, 60)]), (139, [(0, (0, 0, 0), 0, 239)]), (178, [(0, (0, 1, 0), 0, 239)])]
noncomputable def cu_2930 : List CUT2 := [((113, [lq 0 6 0, lq 1 0 0, lq 2 1 2, lq 3 0 1, lq 4 1 4, lq 5 1 5, lq 6 1 65], [], gi_3494, hq_1044), rq_120, ([(65, (-1))], 121)), ((150, [lq 0 6 0, lq 1 0 0, lq 2 1 2, lq 3 0 1, lq 4 1 4, lq 5 1 5, lq 6 1 65], [], gi_3494, hq_1043), rq_120, ([(65, (-1))], 60))]
theorem ch_2930 : staG tb_X12_paste 3 bt_RX12 [] ct_2929 rf_2930 [77, 85, 95, 103, 117, 138, 154, 170] cu_2930 60 con_2930 = true := by decide +kernel
theorem cc_2930 : cu_2930.all (cutG tb_X12_paste 3 bt_RX12 [] ct_2929 rf_2930 [77, 85, 95, 103, 117, 138, 154, 170] cu_2930 60 con_2930) = true := by decide +kernel
theorem vl_2930 (l : Launch) : Vld2 l vwCl gTbl con_2930 := conR_ok3 gT_all (hd_2930) rfl pn_RX12 tk_X12_paste bo_RX12 xo_RX12 (cto_2929 l) ch_2930 (cut_all cc_2930)
/-- RookHusting paste -/
noncomputable def gi_3514 : GI := jl_n [gp_968, gp_1026]
noncomputable def gi_3515 : GI := jl_n [gp_973, gp_1026]
noncomputable def gi_3516 : GI := jl_n [gp_975, gp_1026]
noncomputable def gi_3517 : GI := jl_n [gp_977, gp_1026]
noncomputable def gi_3518 : GI := jl_n [gp_979, gp_1026]
noncomputable def gi_3519 : GI := jl_n [gp_982, gp_1026]
noncomputable def rq_121 : RLs := [([(2, (-1)), (5, (-1)), (25, 1)], 0), ([(4, (-1)), (5, (-1)), (25, 1)], 0)]
noncomputable def con_2931 : Con2 := ((yX11_paste, cX11_paste, 6, (some .int)), (1, 23), ([(6, 0, 0), (0, 0, 0), (1, 2, 0), (0, 0, 0), (1, 4, 0), (1, 5, 0)], gi_3286, hc_264, []), [((0, (-6), 0), gi_3502, hq_1039, [], [1]), ((0, (-7), 0), gi_3514, hq_1039, [([(2, 1), (5, 1), (25, (-1))], (-1))], [1]), ((0, (-7), 0), gi_3515, hq_1039, [([(4, 1), (5, 1), (25, (-1))], (-1))], [1]), ((0, (-7), 0), gi_3516, hq_1039, [], [1]), ((0, (-7), 0), gi_3517, hq_1039, [], [1]), ((0, (-7), 0), gi_3518, hq_1039, [], [1]), ((0, 0, 0), gi_3519, hq_1042, rq_121, [1])])
theorem hd_2931 : con_2931.1 = (yX11_paste, cX11_paste, 6, (some .int)) := rfl
noncomputable def ct_2931 : CTB2 := [(1, 414, 1, con_1447, []), (8, 414, 1, con_1447, []), (22, 420, 0, con_1448, [1, 2]), (33, 420, 0, con_1448, [1, 2]), (74, 433, 0, con_2921, [1, 2]), (89, 433, 0, con_2869, [1, 2])]
noncomputable def rf_2931 : List (Nat × List POP) := [(60, [(1, (0, 1, 0), 0, 0)]), (98, [(0, (1, 2, 0), 0, 60), (0, (1, 4, 0), 0, 60), (0, (1, 5, 0), 0, 60)])]
noncomputable def cu_2931 : List CUT2 := []
theorem ch_2931 : staG tb_X11_paste 2 bt_RX11 [] ct_2931 rf_2931 [110, 124] cu_2931 63 con_2931 = true := by decide +kernel
theorem cto_2931 (l : Launch) : CTOK2 l RX11 vwCl gTbl ct_2931 := ct2_cons (vl_1447 l) ck_RX11_414_1447 (ct2_cons (vl_1447 l) ck_RX11_414_1447 (ct2_cons (vl_1448 l) ck_RX11_420_1448 (ct2_cons (vl_1448 l) ck_RX11_420_1448 (ct2_cons (vl_2921 l) ck_RX11_433_2921 (ct2_cons (vl_2869 l) ck_RX11_433_2869 (ct2_nil))))))
theorem vl_2931 (l : Launch) : Vld2 l vwCl gTbl con_2931 := conR_ok3 gT_all (hd_2931) rfl pn_RX11 tk_X11_paste bo_RX11 xo_RX11 (cto_2931 l) ch_2931 cut_nil
/-- RookHustingModel paste -/
noncomputable def gi_3520 : GI := jl_n [gp_983, gp_1026]
noncomputable def rq_122 : RLs := [([(2, (-1)), (5, (-1)), (51, 1)], 0), ([(4, (-1)), (5, (-1)), (51, 1)], 0)]
noncomputable def con_2932 : Con2 := ((yX12_paste, cX12_paste, 7, (some .int)), (2, 45), ([(6, 0, 0), (0, 0, 0), (1, 2, 0), (0, 0, 0), (1, 4, 0), (1, 5, 0)], gi_3294, [ac_1585, ac_1586, ac_1587, ac_807, ac_1588], []), [((0, (-6), 0), gi_3504, hq_1040, [], [1]), ((0, (-7), 0), gi_3520, hq_1040, [([(2, 1), (5, 1), (51, (-1))], (-1))], [1]), ((0, (-7), 0), gi_3520, hq_1040, [([(4, 1), (5, 1), (51, (-1))], (-1))], [1]), ((0, 0, 0), gi_3520, hq_1043, rq_122, [1])])
theorem hd_2932 : con_2932.1 = (yX12_paste, cX12_paste, 7, (some .int)) := rfl
noncomputable def ct_2932 : CTB2 := [(1, 414, 1, con_2370, []), (8, 414, 1, con_2370, [])]
noncomputable def rf_2932 : List (Nat × List POP) := [(17, [(1, (1, 1, 0), 0, 0), (1, (1, 3, 0), 0, 0)]), (52, [(1, (0, 1, 0), 0, 0)]), (110, [(0, (1, 2, 0), 0, 60), (0, (1, 4, 0), 0, 60), (0, (1, 5, 0), 0, 60)]), (139, [(0, (0, 0, 0), 0, 239)]), (178, [(0, (0, 1, 0), 0, 239)])]
noncomputable def gi_3521 : GI := jl_n [gp_983, jl_i 0 60, jl_r 3 (jl_m 0 60), gp_984]
noncomputable def rq_123 : RLs := [([(2, (-1)), (5, (-1))], 60), ([(4, (-1)), (5, (-1))], 60), ([(2, (-1)), (5, (-1)), (51, 1)], 0), ([(4, (-1)), (5, (-1)), (51, 1)], 0)]
noncomputable def cu_2932 : List CUT2 := [((113, [lq 0 6 0, lq 1 0 0, lq 2 1 2, lq 3 0 0, lq 4 1 4, lq 5 1 5, lq 6 1 65], [], gi_3521, hq_1044), rq_123, ([(65, (-1))], 121)), ((150, [lq 0 6 0, lq 1 0 0, lq 2 1 2, lq 3 0 0, lq 4 1 4, lq 5 1 5, lq 6 1 65], [], gi_3521, hq_1043), rq_123, ([(65, (-1))], 60))]
theorem ch_2932 : staG tb_X12_paste 3 bt_RX12 [] ct_2932 rf_2932 [77, 85, 95, 103, 117, 138, 154, 170] cu_2932 60 con_2932 = true := by decide +kernel
theorem cc_2932 : cu_2932.all (cutG tb_X12_paste 3 bt_RX12 [] ct_2932 rf_2932 [77, 85, 95, 103, 117, 138, 154, 170] cu_2932 60 con_2932) = true := by decide +kernel
theorem cto_2932 (l : Launch) : CTOK2 l RX12 vwCl gTbl ct_2932 := ct2_cons (vl_2370 l) ck_RX12_414_2370 (ct2_cons (vl_2370 l) ck_RX12_414_2370 (ct2_nil))
theorem vl_2932 (l : Launch) : Vld2 l vwCl gTbl con_2932 := conR_ok3 gT_all (hd_2932) rfl pn_RX12 tk_X12_paste bo_RX12 xo_RX12 (cto_2932 l) ch_2932 (cut_all cc_2932)
/-- RookHustingModel paste -/
noncomputable def gi_3522 : GI := jl_n [gp_985, gp_1025]
noncomputable def gi_3523 : GI := jl_n [gp_986, gp_1026]
noncomputable def gi_3524 : GI := jl_n [gp_987, gp_1026]
noncomputable def con_2933 : Con2 := ((yX12_paste, cX12_paste, 7, (some .int)), (2, 45), ([(6, 0, 0), (0, 0, 0), (1, 2, 0), (0, 0, 0), (1, 4, 0), (1, 5, 0)], gi_3298, [ac_1585, ac_1586, ac_1587, ac_807, ac_1588], []), [((0, (-6), 0), gi_3522, hq_1040, [], [1]), ((0, (-7), 0), gi_3523, hq_1040, [], [1]), ((0, (-7), 0), gi_3524, hq_1040, [], [1])])
theorem hd_2933 : con_2933.1 = (yX12_paste, cX12_paste, 7, (some .int)) := rfl
noncomputable def rf_2933 : List (Nat × List POP) := [(17, [(1, (1, 1, 0), 0, 0), (1, (1, 3, 0), 0, 0)]), (52, [(1, (0, 1, 0), 0, 0)]), (110, [(0, (1, 2, 0), 0, 60), (0, (1, 4, 0), 0, 60), (0, (1, 5, 0), 0, 60)]), (139, [(0, (0, 0, 0), 0, 239)]), (178, [(0, (0, 1, 0), 0, 239)])]
noncomputable def cu_2933 : List CUT2 := []
theorem ch_2933 : staG tb_X12_paste 3 bt_RX12 [] ct_2932 rf_2933 [77, 85, 95, 103, 117, 138, 154, 170] cu_2933 37 con_2933 = true := by decide +kernel
theorem vl_2933 (l : Launch) : Vld2 l vwCl gTbl con_2933 := conR_ok3 gT_all (hd_2933) rfl pn_RX12 tk_X12_paste bo_RX12 xo_RX12 (cto_2932 l) ch_2933 cut_nil
/-- RookHustingModel paste -/
noncomputable def gi_3525 : GI := jl_n [gp_989, gp_1025]
noncomputable def gi_3526 : GI := jl_n [gp_989, gp_1026]
noncomputable def con_2934 : Con2 := ((yX12_paste, cX12_paste, 7, (some .int)), (2, 45), ([(6, 0, 0), (0, 0, 0), (1, 2, 0), (0, 0, 0), (1, 4, 0), (1, 5, 0)], gi_3302, [ac_1585, ac_1586, ac_1587, ac_807, ac_1588], []), [((0, (-6), 0), gi_3525, hq_1040, [], [1]), ((0, (-7), 0), gi_3526, hq_1040, [], [1])])
theorem hd_2934 : con_2934.1 = (yX12_paste, cX12_paste, 7, (some .int)) := rfl
noncomputable def rf_2934 : List (Nat × List POP) := [(17, [(1, (1, 1, 0), 0, 0), (1, (1, 3, 0), 0, 0)]), (52, [(1, (0, 1, 0), 0, 0)]), (110, [(0, (1, 2, 0), 0, 60), (0, (1, 4, 0), 0, 60), (0, (1, 5, 0), 0, 60)]), (139, [(0, (0, 0, 0), 0, 239)]), (178, [(0, (0, 1, 0), 0, 239)])]
noncomputable def cu_2934 : List CUT2 := []
theorem ch_2934 : staG tb_X12_paste 3 bt_RX12 [] ct_2932 rf_2934 [77, 85, 95, 103, 117, 138, 154, 170] cu_2934 35 con_2934 = true := by decide +kernel
theorem vl_2934 (l : Launch) : Vld2 l vwCl gTbl con_2934 := conR_ok3 gT_all (hd_2934) rfl pn_RX12 tk_X12_paste bo_RX12 xo_RX12 (cto_2932 l) ch_2934 cut_nil
/-- RookHustingModel paste -/
noncomputable def gi_3527 : GI := jl_n [gp_990, gp_1025]
noncomputable def gi_3528 : GI := jl_n [gp_990, gp_1026]
noncomputable def con_2935 : Con2 := ((yX12_paste, cX12_paste, 7, (some .int)), (2, 45), ([(6, 0, 0), (0, 0, 0), (1, 2, 0), (0, 0, 0), (1, 4, 0), (1, 5, 0)], gi_3305, [ac_1585, ac_1586, ac_1587, ac_807, ac_1588], []), [((0, (-6), 0), gi_3527, hq_1040, [], [1]), ((0, (-7), 0), gi_3528, hq_1040, [], [1])])
theorem hd_2935 : con_2935.1 = (yX12_paste, cX12_paste, 7, (some .int)) := rfl
noncomputable def rf_2935 : List (Nat × List POP) := [(17, [(1, (1, 1, 0), 0, 0), (1, (1, 3, 0), 0, 0)]), (52, [(1, (0, 1, 0), 0, 0)]), (110, [(0, (1, 2, 0), 0, 60), (0, (1, 4, 0), 0, 60), (0, (1, 5, 0), 0, 60)]), (139, [(0, (0, 0, 0), 0, 239)]), (178, [(0, (0, 1, 0), 0, 239)])]
noncomputable def cu_2935 : List CUT2 := []
theorem ch_2935 : staG tb_X12_paste 3 bt_RX12 [] ct_2932 rf_2935 [77, 85, 95, 103, 117, 138, 154, 170] cu_2935 33 con_2935 = true := by decide +kernel
theorem vl_2935 (l : Launch) : Vld2 l vwCl gTbl con_2935 := conR_ok3 gT_all (hd_2935) rfl pn_RX12 tk_X12_paste bo_RX12 xo_RX12 (cto_2932 l) ch_2935 cut_nil
/-- RookHustingModel paste -/
noncomputable def gi_3529 : GI := jl_n [gp_991, gp_1025]
noncomputable def gi_3530 : GI := jl_n [gp_991, gp_1026]
noncomputable def con_2936 : Con2 := ((yX12_paste, cX12_paste, 7, (some .int)), (2, 45), ([(6, 0, 0), (0, 0, 0), (1, 2, 0), (0, 0, 0), (1, 4, 0), (1, 5, 0)], gi_3308, [ac_1585, ac_1586, ac_1587, ac_807, ac_1588], []), [((0, (-6), 0), gi_3529, hq_1040, [], [1]), ((0, (-7), 0), gi_3530, hq_1040, [([(2, 1), (5, 1), (51, (-1))], (-1))], [1]), ((0, (-7), 0), gi_3530, hq_1040, [([(4, 1), (5, 1), (51, (-1))], (-1))], [1]), ((0, 0, 0), gi_3520, hq_1043, rq_122, [1])])
theorem hd_2936 : con_2936.1 = (yX12_paste, cX12_paste, 7, (some .int)) := rfl
noncomputable def rf_2936 : List (Nat × List POP) := [(17, [(1, (1, 1, 0), 0, 0), (1, (1, 3, 0), 0, 0)]), (52, [(1, (0, 1, 0), 0, 0)]), (110, [(0, (1, 2, 0), 0, 60), (0, (1, 4, 0), 0, 60), (0, (1, 5, 0), 0, 60)]), (139, [(0, (0, 0, 0), 0, 239)]), (178, [(0, (0, 1, 0), 0, 239)])]
noncomputable def cu_2936 : List CUT2 := [((113, [lq 0 6 0, lq 1 0 0, lq 2 1 2, lq 3 0 0, lq 4 1 4, lq 5 1 5, lq 6 1 65], [], gi_3521, hq_1044), rq_123, ([(65, (-1))], 121)), ((150, [lq 0 6 0, lq 1 0 0, lq 2 1 2, lq 3 0 0, lq 4 1 4, lq 5 1 5, lq 6 1 65], [], gi_3521, hq_1043), rq_123, ([(65, (-1))], 60))]
theorem ch_2936 : staG tb_X12_paste 3 bt_RX12 [] ct_2932 rf_2936 [77, 85, 95, 103, 117, 138, 154, 170] cu_2936 60 con_2936 = true := by decide +kernel
theorem cc_2936 : cu_2936.all (cutG tb_X12_paste 3 bt_RX12 [] ct_2932 rf_2936 [77, 85, 95, 103, 117, 138, 154, 170] cu_2936 60 con_2936) = true := by decide +kernel
theorem vl_2936 (l : Launch) : Vld2 l vwCl gTbl con_2936 := conR_ok3 gT_all (hd_2936) rfl pn_RX12 tk_X12_paste bo_RX12 xo_RX12 (cto_2932 l) ch_2936 (cut_all cc_2936)
/-- RookHustingModel paste -/
noncomputable def gi_3531 : GI := jl_n [gp_992, gp_1025]
noncomputable def con_2937 : Con2 := ((yX12_paste, cX12_paste, 7, (some .int)), (2, 45), ([(6, 0, 0), (0, 0, 0), (1, 2, 0), (0, 0, 0), (1, 4, 0), (1, 5, 0)], gi_3311, [ac_1585, ac_1586, ac_1587, ac_807, ac_1588], []), [((0, (-6), 0), gi_3531, hq_1040, [], [1]), ((0, (-7), 0), gi_3530, hq_1040, [([(2, 1), (5, 1), (51, (-1))], (-1))], [1]), ((0, (-7), 0), gi_3530, hq_1040, [([(4, 1), (5, 1), (51, (-1))], (-1))], [1]), ((0, (-7), 0), gi_3526, hq_1040, [], [1]), ((0, 0, 0), gi_3520, hq_1043, rq_122, [1])])
theorem hd_2937 : con_2937.1 = (yX12_paste, cX12_paste, 7, (some .int)) := rfl
noncomputable def rf_2937 : List (Nat × List POP) := [(17, [(1, (1, 1, 0), 0, 0), (1, (1, 3, 0), 0, 0)]), (52, [(1, (0, 1, 0), 0, 0)]), (110, [(0, (1, 2, 0), 0, 60), (0, (1, 4, 0), 0, 60), (0, (1, 5, 0), 0, 60)]), (139, [(0, (0, 0, 0), 0, 239)]), (178, [(0, (0, 1, 0), 0, 239)])]
noncomputable def cu_2937 : List CUT2 := [((113, [lq 0 6 0, lq 1 0 0, lq 2 1 2, lq 3 0 0, lq 4 1 4, lq 5 1 5, lq 6 1 65], [], gi_3521, hq_1044), rq_123, ([(65, (-1))], 121)), ((150, [lq 0 6 0, lq 1 0 0, lq 2 1 2, lq 3 0 0, lq 4 1 4, lq 5 1 5, lq 6 1 65], [], gi_3521, hq_1043), rq_123, ([(65, (-1))], 60))]
theorem ch_2937 : staG tb_X12_paste 3 bt_RX12 [] ct_2932 rf_2937 [77, 85, 95, 103, 117, 138, 154, 170] cu_2937 60 con_2937 = true := by decide +kernel
theorem cc_2937 : cu_2937.all (cutG tb_X12_paste 3 bt_RX12 [] ct_2932 rf_2937 [77, 85, 95, 103, 117, 138, 154, 170] cu_2937 60 con_2937) = true := by decide +kernel
theorem vl_2937 (l : Launch) : Vld2 l vwCl gTbl con_2937 := conR_ok3 gT_all (hd_2937) rfl pn_RX12 tk_X12_paste bo_RX12 xo_RX12 (cto_2932 l) ch_2937 (cut_all cc_2937)
/-- RookHustingModel paste -/
noncomputable def gi_3532 : GI := jl_n [gp_994, gp_1026]
noncomputable def con_2938 : Con2 := ((yX12_paste, cX12_paste, 7, (some .int)), (2, 45), ([(6, 0, 0), (0, 0, 0), (1, 2, 0), (0, 0, 0), (1, 4, 0), (1, 5, 0)], gi_3313, [ac_1585, ac_1586, ac_1587, ac_807, ac_1588], []), [((0, (-6), 0), gi_3506, hq_1040, [], [1]), ((0, (-7), 0), gi_3530, hq_1040, [([(2, 1), (5, 1), (51, (-1))], (-1))], [1]), ((0, (-7), 0), gi_3530, hq_1040, [([(4, 1), (5, 1), (51, (-1))], (-1))], [1]), ((0, (-7), 0), gi_3528, hq_1040, [], [1]), ((0, (-7), 0), gi_3532, hq_1040, [], [1]), ((0, (-7), 0), gi_3524, hq_1040, [], [1]), ((0, 0, 0), gi_3520, hq_1043, rq_122, [1])])
theorem hd_2938 : con_2938.1 = (yX12_paste, cX12_paste, 7, (some .int)) := rfl
noncomputable def rf_2938 : List (Nat × List POP) := [(17, [(1, (1, 1, 0), 0, 0), (1, (1, 3, 0), 0, 0)]), (52, [(1, (0, 1, 0), 0, 0)]), (110, [(0, (1, 2, 0), 0, 60), (0, (1, 4, 0), 0, 60), (0, (1, 5, 0), 0, 60)]), (139, [(0, (0, 0, 0), 0, 239)]), (178, [(0, (0, 1, 0), 0, 239)])]
noncomputable def cu_2938 : List CUT2 := [((113, [lq 0 6 0, lq 1 0 0, lq 2 1 2, lq 3 0 0, lq 4 1 4, lq 5 1 5, lq 6 1 65], [], gi_3521, hq_1044), rq_123, ([(65, (-1))], 121)), ((150, [lq 0 6 0, lq 1 0 0, lq 2 1 2, lq 3 0 0, lq 4 1 4, lq 5 1 5, lq 6 1 65], [], gi_3521, hq_1043), rq_123, ([(65, (-1))], 60))]
theorem ch_2938 : staG tb_X12_paste 3 bt_RX12 [] ct_2932 rf_2938 [77, 85, 95, 103, 117, 138, 154, 170] cu_2938 60 con_2938 = true := by decide +kernel
theorem cc_2938 : cu_2938.all (cutG tb_X12_paste 3 bt_RX12 [] ct_2932 rf_2938 [77, 85, 95, 103, 117, 138, 154, 170] cu_2938 60 con_2938) = true := by decide +kernel
theorem vl_2938 (l : Launch) : Vld2 l vwCl gTbl con_2938 := conR_ok3 gT_all (hd_2938) rfl pn_RX12 tk_X12_paste bo_RX12 xo_RX12 (cto_2932 l) ch_2938 (cut_all cc_2938)
/-- RookHusting paste -/
noncomputable def con_2939 : Con2 := ((yX11_paste, cX11_paste, 6, (some .int)), (1, 20), ([(6, 0, 0), (0, 0, 0), (1, 2, 0), (1, 3, 0), (1, 4, 0), (1, 5, 0)], gi_3382, hc_264, []), [((0, (-2), 0), gi_3383, hq_1039, [], [1])])
theorem hd_2939 : con_2939.1 = (yX11_paste, cX11_paste, 6, (some .int)) := rfl
noncomputable def ct_2939 : CTB2 := [(1, 414, 1, con_1447, []), (8, 414, 1, con_1510, [])]
noncomputable def rf_2939 : List (Nat × List POP) := [(60, [(1, (0, 1, 0), 0, 0)]), (98, [(0, (1, 2, 0), 0, 60), (0, (1, 4, 0), 0, 60), (0, (1, 5, 0), 0, 60)])]
noncomputable def cu_2939 : List CUT2 := []
theorem ch_2939 : staG tb_X11_paste 2 bt_RX11 [] ct_2939 rf_2939 [110, 124] cu_2939 10 con_2939 = true := by decide +kernel
theorem cto_2939 (l : Launch) : CTOK2 l RX11 vwCl gTbl ct_2939 := ct2_cons (vl_1447 l) ck_RX11_414_1447 (ct2_cons (vl_1510 l) ck_RX11_414_1510 (ct2_nil))
theorem vl_2939 (l : Launch) : Vld2 l vwCl gTbl con_2939 := conR_ok3 gT_all (hd_2939) rfl pn_RX11 tk_X11_paste bo_RX11 xo_RX11 (cto_2939 l) ch_2939 cut_nil
/-- RookHustingModel paste -/
noncomputable def con_2940 : Con2 := ((yX12_paste, cX12_paste, 7, (some .int)), (2, 45), ([(6, 0, 0), (0, 0, 0), (1, 2, 0), (1, 3, 0), (1, 4, 0), (1, 5, 0)], gi_3384, [ac_1585, ac_1586, ac_1587, ac_807, ac_1588], []), [((0, (-2), 0), gi_3385, hq_1040, [], [1])])
theorem hd_2940 : con_2940.1 = (yX12_paste, cX12_paste, 7, (some .int)) := rfl
noncomputable def ct_2940 : CTB2 := [(1, 414, 1, con_2370, []), (8, 414, 1, con_2514, [])]
noncomputable def rf_2940 : List (Nat × List POP) := [(17, [(1, (1, 1, 0), 0, 0), (1, (1, 3, 0), 0, 0)]), (52, [(1, (0, 1, 0), 0, 0)]), (110, [(0, (1, 2, 0), 0, 60), (0, (1, 4, 0), 0, 60), (0, (1, 5, 0), 0, 60)]), (139, [(0, (0, 0, 0), 0, 239)]), (178, [(0, (0, 1, 0), 0, 239)])]
noncomputable def cu_2940 : List CUT2 := []
theorem ch_2940 : staG tb_X12_paste 3 bt_RX12 [] ct_2940 rf_2940 [77, 85, 95, 103, 117, 138, 154, 170] cu_2940 10 con_2940 = true := by decide +kernel
theorem cto_2940 (l : Launch) : CTOK2 l RX12 vwCl gTbl ct_2940 := ct2_cons (vl_2370 l) ck_RX12_414_2370 (ct2_cons (vl_2514 l) ck_RX12_414_2514 (ct2_nil))
theorem vl_2940 (l : Launch) : Vld2 l vwCl gTbl con_2940 := conR_ok3 gT_all (hd_2940) rfl pn_RX12 tk_X12_paste bo_RX12 xo_RX12 (cto_2940 l) ch_2940 cut_nil
/-- RookHusting paste -/
noncomputable def gi_3533 : GI := jl_n [gp_625, gp_954, jl_r 4 (jl_i 0 3)]
noncomputable def gi_3534 : GI := jl_n [gp_625, gp_954, gp_944]
noncomputable def con_2941 : Con2 := ((yX11_paste, cX11_paste, 6, (some .int)), (1, 20), ([(6, 0, 0), (1, 1, 0), (1, 2, 0), (1, 3, 0), (1, 4, 0), (1, 5, 0)], gi_3533, hc_264, []), [((0, (-2), 0), gi_3534, hq_1039, [], [1])])
theorem hd_2941 : con_2941.1 = (yX11_paste, cX11_paste, 6, (some .int)) := rfl
noncomputable def rf_2941 : List (Nat × List POP) := [(60, [(1, (0, 1, 0), 0, 0)]), (98, [(0, (1, 2, 0), 0, 60), (0, (1, 4, 0), 0, 60), (0, (1, 5, 0), 0, 60)])]
noncomputable def cu_2941 : List CUT2 := []
theorem ch_2941 : staG tb_X11_paste 2 bt_RX11 [] ct_1511 rf_2941 [110, 124] cu_2941 7 con_2941 = true := by decide +kernel
theorem vl_2941 (l : Launch) : Vld2 l vwCl gTbl con_2941 := conR_ok3 gT_all (hd_2941) rfl pn_RX11 tk_X11_paste bo_RX11 xo_RX11 (cto_1511 l) ch_2941 cut_nil
/-- RookHustingModel paste -/
noncomputable def gi_3535 : GI := jl_n [gp_625, jl_i 4 2147483647, gp_955]
noncomputable def gi_3536 : GI := jl_n [gp_625, jl_i 4 2147483647, gp_956]
noncomputable def con_2942 : Con2 := ((yX12_paste, cX12_paste, 7, (some .int)), (2, 45), ([(6, 0, 0), (1, 1, 0), (1, 2, 0), (1, 3, 0), (1, 4, 0), (1, 5, 0)], gi_3535, [ac_1585, ac_1586, ac_1587, ac_807, ac_1588], []), [((0, (-2), 0), gi_3536, hq_1040, [], [1])])
theorem hd_2942 : con_2942.1 = (yX12_paste, cX12_paste, 7, (some .int)) := rfl
noncomputable def rf_2942 : List (Nat × List POP) := [(17, [(1, (1, 1, 0), 0, 0), (1, (1, 3, 0), 0, 0)]), (52, [(1, (0, 1, 0), 0, 0)]), (110, [(0, (1, 2, 0), 0, 60), (0, (1, 4, 0), 0, 60), (0, (1, 5, 0), 0, 60)]), (139, [(0, (0, 0, 0), 0, 239)]), (178, [(0, (0, 1, 0), 0, 239)])]
noncomputable def cu_2942 : List CUT2 := []
theorem ch_2942 : staG tb_X12_paste 3 bt_RX12 [] ct_2515 rf_2942 [77, 85, 95, 103, 117, 138, 154, 170] cu_2942 7 con_2942 = true := by decide +kernel
theorem vl_2942 (l : Launch) : Vld2 l vwCl gTbl con_2942 := conR_ok3 gT_all (hd_2942) rfl pn_RX12 tk_X12_paste bo_RX12 xo_RX12 (cto_2515 l) ch_2942 cut_nil
/-- RookHusting paste -/
noncomputable def gi_3537 : GI := jl_n [gp_1027, gp_952]
noncomputable def gi_3538 : GI := jl_n [gp_1027, gp_910, gp_944]
noncomputable def con_2943 : Con2 := ((yX11_paste, cX11_paste, 6, (some .int)), (1, 20), ([(6, 0, 0), (1, 1, 0), (1, 2, 0), (0, 3, 0), (1, 4, 0), (1, 5, 0)], gi_3537, hc_264, []), [((0, (-2), 0), gi_3538, hq_1039, [], [1])])
theorem hd_2943 : con_2943.1 = (yX11_paste, cX11_paste, 6, (some .int)) := rfl
noncomputable def rf_2943 : List (Nat × List POP) := [(60, [(1, (0, 1, 0), 0, 0)]), (98, [(0, (1, 2, 0), 0, 60), (0, (1, 4, 0), 0, 60), (0, (1, 5, 0), 0, 60)])]
noncomputable def cu_2943 : List CUT2 := []
theorem ch_2943 : staG tb_X11_paste 2 bt_RX11 [] ct_1511 rf_2943 [110, 124] cu_2943 7 con_2943 = true := by decide +kernel
theorem vl_2943 (l : Launch) : Vld2 l vwCl gTbl con_2943 := conR_ok3 gT_all (hd_2943) rfl pn_RX11 tk_X11_paste bo_RX11 xo_RX11 (cto_1511 l) ch_2943 cut_nil
/-- RookHustingModel paste -/
noncomputable def gi_3539 : GI := jl_n [gp_1027, gp_942]
noncomputable def gi_3540 : GI := jl_n [gp_1027, gp_945]
noncomputable def con_2944 : Con2 := ((yX12_paste, cX12_paste, 7, (some .int)), (2, 45), ([(6, 0, 0), (1, 1, 0), (1, 2, 0), (0, 3, 0), (1, 4, 0), (1, 5, 0)], gi_3539, [ac_1585, ac_1586, ac_1587, ac_807, ac_1588], []), [((0, (-2), 0), gi_3540, hq_1040, [], [1])])
theorem hd_2944 : con_2944.1 = (yX12_paste, cX12_paste, 7, (some .int)) := rfl
noncomputable def rf_2944 : List (Nat × List POP) := [(17, [(1, (1, 1, 0), 0, 0), (1, (1, 3, 0), 0, 0)]), (52, [(1, (0, 1, 0), 0, 0)]), (110, [(0, (1, 2, 0), 0, 60), (0, (1, 4, 0), 0, 60), (0, (1, 5, 0), 0, 60)]), (139, [(0, (0, 0, 0), 0, 239)]), (178, [(0, (0, 1, 0), 0, 239)])]
noncomputable def cu_2944 : List CUT2 := []
theorem ch_2944 : staG tb_X12_paste 3 bt_RX12 [] ct_2515 rf_2944 [77, 85, 95, 103, 117, 138, 154, 170] cu_2944 7 con_2944 = true := by decide +kernel
theorem vl_2944 (l : Launch) : Vld2 l vwCl gTbl con_2944 := conR_ok3 gT_all (hd_2944) rfl pn_RX12 tk_X12_paste bo_RX12 xo_RX12 (cto_2515 l) ch_2944 cut_nil
/-- RookHusting paste -/
noncomputable def con_2945 : Con2 := ((yX11_paste, cX11_paste, 6, (some .int)), (1, 20), ([(6, 0, 0), (1, 1, 0), (1, 2, 0), (0, 2, 0), (1, 4, 0), (1, 5, 0)], gi_3537, hc_264, []), [((0, (-2), 0), gi_3538, hq_1039, [], [1])])
theorem hd_2945 : con_2945.1 = (yX11_paste, cX11_paste, 6, (some .int)) := rfl
noncomputable def rf_2945 : List (Nat × List POP) := [(60, [(1, (0, 1, 0), 0, 0)]), (98, [(0, (1, 2, 0), 0, 60), (0, (1, 4, 0), 0, 60), (0, (1, 5, 0), 0, 60)])]
noncomputable def cu_2945 : List CUT2 := []
theorem ch_2945 : staG tb_X11_paste 2 bt_RX11 [] ct_1511 rf_2945 [110, 124] cu_2945 7 con_2945 = true := by decide +kernel
theorem vl_2945 (l : Launch) : Vld2 l vwCl gTbl con_2945 := conR_ok3 gT_all (hd_2945) rfl pn_RX11 tk_X11_paste bo_RX11 xo_RX11 (cto_1511 l) ch_2945 cut_nil
/-- RookHustingModel paste -/
noncomputable def con_2946 : Con2 := ((yX12_paste, cX12_paste, 7, (some .int)), (2, 45), ([(6, 0, 0), (1, 1, 0), (1, 2, 0), (0, 2, 0), (1, 4, 0), (1, 5, 0)], gi_3539, [ac_1585, ac_1586, ac_1587, ac_807, ac_1588], []), [((0, (-2), 0), gi_3540, hq_1040, [], [1])])
theorem hd_2946 : con_2946.1 = (yX12_paste, cX12_paste, 7, (some .int)) := rfl
noncomputable def rf_2946 : List (Nat × List POP) := [(17, [(1, (1, 1, 0), 0, 0), (1, (1, 3, 0), 0, 0)]), (52, [(1, (0, 1, 0), 0, 0)]), (110, [(0, (1, 2, 0), 0, 60), (0, (1, 4, 0), 0, 60), (0, (1, 5, 0), 0, 60)]), (139, [(0, (0, 0, 0), 0, 239)]), (178, [(0, (0, 1, 0), 0, 239)])]
noncomputable def cu_2946 : List CUT2 := []
theorem ch_2946 : staG tb_X12_paste 3 bt_RX12 [] ct_2515 rf_2946 [77, 85, 95, 103, 117, 138, 154, 170] cu_2946 7 con_2946 = true := by decide +kernel
theorem vl_2946 (l : Launch) : Vld2 l vwCl gTbl con_2946 := conR_ok3 gT_all (hd_2946) rfl pn_RX12 tk_X12_paste bo_RX12 xo_RX12 (cto_2515 l) ch_2946 cut_nil
/-- RookHusting paste -/
noncomputable def con_2947 : Con2 := ((yX11_paste, cX11_paste, 6, (some .int)), (1, 20), ([(6, 0, 0), (1, 1, 0), (1, 2, 0), (0, 1, 0), (1, 4, 0), (1, 5, 0)], gi_3537, hc_264, []), [((0, (-2), 0), gi_3538, hq_1039, [], [1])])
theorem hd_2947 : con_2947.1 = (yX11_paste, cX11_paste, 6, (some .int)) := rfl
noncomputable def rf_2947 : List (Nat × List POP) := [(60, [(1, (0, 1, 0), 0, 0)]), (98, [(0, (1, 2, 0), 0, 60), (0, (1, 4, 0), 0, 60), (0, (1, 5, 0), 0, 60)])]
noncomputable def cu_2947 : List CUT2 := []
theorem ch_2947 : staG tb_X11_paste 2 bt_RX11 [] ct_1511 rf_2947 [110, 124] cu_2947 7 con_2947 = true := by decide +kernel
theorem vl_2947 (l : Launch) : Vld2 l vwCl gTbl con_2947 := conR_ok3 gT_all (hd_2947) rfl pn_RX11 tk_X11_paste bo_RX11 xo_RX11 (cto_1511 l) ch_2947 cut_nil
/-- RookHustingModel paste -/
noncomputable def con_2948 : Con2 := ((yX12_paste, cX12_paste, 7, (some .int)), (2, 45), ([(6, 0, 0), (1, 1, 0), (1, 2, 0), (0, 1, 0), (1, 4, 0), (1, 5, 0)], gi_3539, [ac_1585, ac_1586, ac_1587, ac_807, ac_1588], []), [((0, (-2), 0), gi_3540, hq_1040, [], [1])])
theorem hd_2948 : con_2948.1 = (yX12_paste, cX12_paste, 7, (some .int)) := rfl
noncomputable def rf_2948 : List (Nat × List POP) := [(17, [(1, (1, 1, 0), 0, 0), (1, (1, 3, 0), 0, 0)]), (52, [(1, (0, 1, 0), 0, 0)]), (110, [(0, (1, 2, 0), 0, 60), (0, (1, 4, 0), 0, 60), (0, (1, 5, 0), 0, 60)]), (139, [(0, (0, 0, 0), 0, 239)]), (178, [(0, (0, 1, 0), 0, 239)])]
noncomputable def cu_2948 : List CUT2 := []
theorem ch_2948 : staG tb_X12_paste 3 bt_RX12 [] ct_2515 rf_2948 [77, 85, 95, 103, 117, 138, 154, 170] cu_2948 7 con_2948 = true := by decide +kernel
theorem vl_2948 (l : Launch) : Vld2 l vwCl gTbl con_2948 := conR_ok3 gT_all (hd_2948) rfl pn_RX12 tk_X12_paste bo_RX12 xo_RX12 (cto_2515 l) ch_2948 cut_nil
/-- RookHusting paste -/
noncomputable def con_2949 : Con2 := ((yX11_paste, cX11_paste, 6, (some .int)), (1, 20), ([(6, 0, 0), (1, 1, 0), (1, 2, 0), (0, 0, 0), (1, 4, 0), (1, 5, 0)], gi_3537, hc_264, []), [((0, (-2), 0), gi_3538, hq_1039, [], [1])])
theorem hd_2949 : con_2949.1 = (yX11_paste, cX11_paste, 6, (some .int)) := rfl
noncomputable def rf_2949 : List (Nat × List POP) := [(60, [(1, (0, 1, 0), 0, 0)]), (98, [(0, (1, 2, 0), 0, 60), (0, (1, 4, 0), 0, 60), (0, (1, 5, 0), 0, 60)])]
noncomputable def cu_2949 : List CUT2 := []
theorem ch_2949 : staG tb_X11_paste 2 bt_RX11 [] ct_1511 rf_2949 [110, 124] cu_2949 7 con_2949 = true := by decide +kernel
theorem vl_2949 (l : Launch) : Vld2 l vwCl gTbl con_2949 := conR_ok3 gT_all (hd_2949) rfl pn_RX11 tk_X11_paste bo_RX11 xo_RX11 (cto_1511 l) ch_2949 cut_nil
/-- RookHustingModel paste -/
noncomputable def con_2950 : Con2 := ((yX12_paste, cX12_paste, 7, (some .int)), (2, 45), ([(6, 0, 0), (1, 1, 0), (1, 2, 0), (0, 0, 0), (1, 4, 0), (1, 5, 0)], gi_3539, [ac_1585, ac_1586, ac_1587, ac_807, ac_1588], []), [((0, (-2), 0), gi_3540, hq_1040, [], [1])])
theorem hd_2950 : con_2950.1 = (yX12_paste, cX12_paste, 7, (some .int)) := rfl
noncomputable def rf_2950 : List (Nat × List POP) := [(17, [(1, (1, 1, 0), 0, 0), (1, (1, 3, 0), 0, 0)]), (52, [(1, (0, 1, 0), 0, 0)]), (110, [(0, (1, 2, 0), 0, 60), (0, (1, 4, 0), 0, 60), (0, (1, 5, 0), 0, 60)]), (139, [(0, (0, 0, 0), 0, 239)]), (178, [(0, (0, 1, 0), 0, 239)])]
noncomputable def cu_2950 : List CUT2 := []
theorem ch_2950 : staG tb_X12_paste 3 bt_RX12 [] ct_2515 rf_2950 [77, 85, 95, 103, 117, 138, 154, 170] cu_2950 7 con_2950 = true := by decide +kernel
theorem vl_2950 (l : Launch) : Vld2 l vwCl gTbl con_2950 := conR_ok3 gT_all (hd_2950) rfl pn_RX12 tk_X12_paste bo_RX12 xo_RX12 (cto_2515 l) ch_2950 cut_nil
/-- RookHusting paste -/
noncomputable def gi_3541 : GI := jl_n [gp_625, gp_959, jl_r 4 (jl_i 0 3)]
noncomputable def gi_3542 : GI := jl_n [gp_625, gp_959, gp_944]
noncomputable def con_2951 : Con2 := ((yX11_paste, cX11_paste, 6, (some .int)), (1, 20), ([(6, 0, 0), (1, 1, 0), (1, 2, 0), (1, 3, 0), (1, 4, 0), (1, 5, 0)], gi_3541, hc_264, []), [((0, (-2), 0), gi_3542, hq_1039, [], [1])])
theorem hd_2951 : con_2951.1 = (yX11_paste, cX11_paste, 6, (some .int)) := rfl
noncomputable def rf_2951 : List (Nat × List POP) := [(60, [(1, (0, 1, 0), 0, 0)]), (98, [(0, (1, 2, 0), 0, 60), (0, (1, 4, 0), 0, 60), (0, (1, 5, 0), 0, 60)])]
noncomputable def cu_2951 : List CUT2 := []
theorem ch_2951 : staG tb_X11_paste 2 bt_RX11 [] ct_1511 rf_2951 [110, 124] cu_2951 7 con_2951 = true := by decide +kernel
theorem vl_2951 (l : Launch) : Vld2 l vwCl gTbl con_2951 := conR_ok3 gT_all (hd_2951) rfl pn_RX11 tk_X11_paste bo_RX11 xo_RX11 (cto_1511 l) ch_2951 cut_nil
/-- RookHustingModel paste -/
noncomputable def gi_3543 : GI := jl_n [gp_625, jl_k 2147483647 0, gp_955]
noncomputable def gi_3544 : GI := jl_n [gp_625, jl_k 2147483647 0, gp_956]
noncomputable def con_2952 : Con2 := ((yX12_paste, cX12_paste, 7, (some .int)), (2, 45), ([(6, 0, 0), (1, 1, 0), (1, 2, 0), (1, 3, 0), (1, 4, 0), (1, 5, 0)], gi_3543, [ac_1585, ac_1586, ac_1587, ac_807, ac_1588], []), [((0, (-2), 0), gi_3544, hq_1040, [], [1])])
theorem hd_2952 : con_2952.1 = (yX12_paste, cX12_paste, 7, (some .int)) := rfl
noncomputable def rf_2952 : List (Nat × List POP) := [(17, [(1, (1, 1, 0), 0, 0), (1, (1, 3, 0), 0, 0)]), (52, [(1, (0, 1, 0), 0, 0)]), (110, [(0, (1, 2, 0), 0, 60), (0, (1, 4, 0), 0, 60), (0, (1, 5, 0), 0, 60)]), (139, [(0, (0, 0, 0), 0, 239)]), (178, [(0, (0, 1, 0), 0, 239)])]
noncomputable def cu_2952 : List CUT2 := []
theorem ch_2952 : staG tb_X12_paste 3 bt_RX12 [] ct_2515 rf_2952 [77, 85, 95, 103, 117, 138, 154, 170] cu_2952 7 con_2952 = true := by decide +kernel
theorem vl_2952 (l : Launch) : Vld2 l vwCl gTbl con_2952 := conR_ok3 gT_all (hd_2952) rfl pn_RX12 tk_X12_paste bo_RX12 xo_RX12 (cto_2515 l) ch_2952 cut_nil
