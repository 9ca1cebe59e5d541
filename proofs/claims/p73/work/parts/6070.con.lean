/-! ===== contracts, 70 ===== -/
/-- RookHustingModel paste -/
noncomputable def gi_3405 : GI := jl_n [gp_990, gp_1009]
noncomputable def gi_3406 : GI := jl_n [gp_990, gp_1011]
noncomputable def con_2885 : Con2 := ((yX12_paste, cX12_paste, 7, (some .int)), (2, 45), ([(6, 0, 0), (0, 2, 0), (1, 2, 0), (0, 2, 0), (1, 4, 0), (1, 5, 0)], gi_3305, [ac_1585, ac_1586, ac_1587, ac_807, ac_1588], []), [((0, (-6), 0), gi_3405, hq_1040, [], [1]), ((0, (-7), 0), gi_3406, hq_1040, [], [1])])
theorem hd_2885 : con_2885.1 = (yX12_paste, cX12_paste, 7, (some .int)) := rfl
noncomputable def rf_2885 : List (Nat × List POP) := [(17, [(1, (1, 1, 0), 0, 0), (1, (1, 3, 0), 0, 0)]), (52, [(1, (0, 1, 0), 0, 0)]), (110, [(0, (1, 2, 0), 0, 60), (0, (1, 4, 0), 0, 60), (0, (1, 5, 0), 0, 60)]), (139, [(0, (0, 0, 0), 0, 239)]), (178, [(0, (0, 1, 0), 0, 239)])]
noncomputable def cu_2885 : List CUT2 := []
theorem ch_2885 : staG tb_X12_paste 3 bt_RX12 [] ct_2882 rf_2885 [77, 85, 95, 103, 117, 138, 154, 170] cu_2885 33 con_2885 = true := by decide +kernel
theorem vl_2885 (l : Launch) : Vld2 l vwCl gTbl con_2885 := conR_ok3 gT_all (hd_2885) rfl pn_RX12 tk_X12_paste bo_RX12 xo_RX12 (cto_2882 l) ch_2885 cut_nil
/-- RookHustingModel paste -/
noncomputable def gi_3407 : GI := jl_n [gp_991, gp_1009]
noncomputable def gi_3408 : GI := jl_n [gp_991, gp_1011]
noncomputable def con_2886 : Con2 := ((yX12_paste, cX12_paste, 7, (some .int)), (2, 45), ([(6, 0, 0), (0, 2, 0), (1, 2, 0), (0, 2, 0), (1, 4, 0), (1, 5, 0)], gi_3308, [ac_1585, ac_1586, ac_1587, ac_807, ac_1588], []), [((0, (-6), 0), gi_3407, hq_1040, [], [1]), ((0, (-7), 0), gi_3408, hq_1040, [([(2, 1), (5, 1), (53, (-1))], (-1))], [1]), ((0, (-7), 0), gi_3408, hq_1040, [([(4, 1), (5, 1), (53, (-1))], (-1))], [1]), ((0, 0, 0), gi_3398, hq_1043, rq_60, [1])])
theorem hd_2886 : con_2886.1 = (yX12_paste, cX12_paste, 7, (some .int)) := rfl
noncomputable def rf_2886 : List (Nat × List POP) := [(17, [(1, (1, 1, 0), 0, 0), (1, (1, 3, 0), 0, 0)]), (52, [(1, (0, 1, 0), 0, 0)]), (110, [(0, (1, 2, 0), 0, 60), (0, (1, 4, 0), 0, 60), (0, (1, 5, 0), 0, 60)]), (139, [(0, (0, 0, 0), 0, 239)]), (178, [(0, (0, 1, 0), 0, 239)])]
noncomputable def cu_2886 : List CUT2 := [((113, [lq 0 6 0, lq 1 0 2, lq 2 1 2, lq 3 0 2, lq 4 1 4, lq 5 1 5, lq 6 1 65], [], gi_3399, hq_1044), rq_61, ([(65, (-1))], 121)), ((150, [lq 0 6 0, lq 1 0 2, lq 2 1 2, lq 3 0 2, lq 4 1 4, lq 5 1 5, lq 6 1 65], [], gi_3399, hq_1043), rq_61, ([(65, (-1))], 60))]
theorem ch_2886 : staG tb_X12_paste 3 bt_RX12 [] ct_2882 rf_2886 [77, 85, 95, 103, 117, 138, 154, 170] cu_2886 60 con_2886 = true := by decide +kernel
theorem cc_2886 : cu_2886.all (cutG tb_X12_paste 3 bt_RX12 [] ct_2882 rf_2886 [77, 85, 95, 103, 117, 138, 154, 170] cu_2886 60 con_2886) = true := by decide +kernel
theorem vl_2886 (l : Launch) : Vld2 l vwCl gTbl con_2886 := conR_ok3 gT_all (hd_2886) rfl pn_RX12 tk_X12_paste bo_RX12 xo_RX12 (cto_2882 l) ch_2886 (cut_all cc_2886)
/-- RookHustingModel paste -/
noncomputable def gi_3409 : GI := jl_n [gp_992, gp_1009]
noncomputable def con_2887 : Con2 := ((yX12_paste, cX12_paste, 7, (some .int)), (2, 45), ([(6, 0, 0), (0, 2, 0), (1, 2, 0), (0, 2, 0), (1, 4, 0), (1, 5, 0)], gi_3311, [ac_1585, ac_1586, ac_1587, ac_807, ac_1588], []), [((0, (-6), 0), gi_3409, hq_1040, [], [1]), ((0, (-7), 0), gi_3408, hq_1040, [([(2, 1), (5, 1), (53, (-1))], (-1))], [1]), ((0, (-7), 0), gi_3408, hq_1040, [([(4, 1), (5, 1), (53, (-1))], (-1))], [1]), ((0, (-7), 0), gi_3404, hq_1040, [], [1]), ((0, 0, 0), gi_3398, hq_1043, rq_60, [1])])
theorem hd_2887 : con_2887.1 = (yX12_paste, cX12_paste, 7, (some .int)) := rfl
noncomputable def rf_2887 : List (Nat × List POP) := [(17, [(1, (1, 1, 0), 0, 0), (1, (1, 3, 0), 0, 0)]), (52, [(1, (0, 1, 0), 0, 0)]), (110, [(0, (1, 2, 0), 0, 60), (0, (1, 4, 0), 0, 60), (0, (1, 5, 0), 0, 60)]), (139, [(0, (0, 0, 0), 0, 239)]), (178, [(0, (0, 1, 0), 0, 239)])]
noncomputable def cu_2887 : List CUT2 := [((113, [lq 0 6 0, lq 1 0 2, lq 2 1 2, lq 3 0 2, lq 4 1 4, lq 5 1 5, lq 6 1 65], [], gi_3399, hq_1044), rq_61, ([(65, (-1))], 121)), ((150, [lq 0 6 0, lq 1 0 2, lq 2 1 2, lq 3 0 2, lq 4 1 4, lq 5 1 5, lq 6 1 65], [], gi_3399, hq_1043), rq_61, ([(65, (-1))], 60))]
theorem ch_2887 : staG tb_X12_paste 3 bt_RX12 [] ct_2882 rf_2887 [77, 85, 95, 103, 117, 138, 154, 170] cu_2887 60 con_2887 = true := by decide +kernel
theorem cc_2887 : cu_2887.all (cutG tb_X12_paste 3 bt_RX12 [] ct_2882 rf_2887 [77, 85, 95, 103, 117, 138, 154, 170] cu_2887 60 con_2887) = true := by decide +kernel
theorem vl_2887 (l : Launch) : Vld2 l vwCl gTbl con_2887 := conR_ok3 gT_all (hd_2887) rfl pn_RX12 tk_X12_paste bo_RX12 xo_RX12 (cto_2882 l) ch_2887 (cut_all cc_2887)
/-- RookHustingModel paste -/
noncomputable def gi_3410 : GI := jl_n [gp_994, gp_1011]
noncomputable def con_2888 : Con2 := ((yX12_paste, cX12_paste, 7, (some .int)), (2, 45), ([(6, 0, 0), (0, 2, 0), (1, 2, 0), (0, 2, 0), (1, 4, 0), (1, 5, 0)], gi_3313, [ac_1585, ac_1586, ac_1587, ac_807, ac_1588], []), [((0, (-6), 0), gi_3390, hq_1040, [], [1]), ((0, (-7), 0), gi_3408, hq_1040, [([(2, 1), (5, 1), (53, (-1))], (-1))], [1]), ((0, (-7), 0), gi_3408, hq_1040, [([(4, 1), (5, 1), (53, (-1))], (-1))], [1]), ((0, (-7), 0), gi_3406, hq_1040, [], [1]), ((0, (-7), 0), gi_3410, hq_1040, [], [1]), ((0, (-7), 0), gi_3402, hq_1040, [], [1]), ((0, 0, 0), gi_3398, hq_1043, rq_60, [1])])
theorem hd_2888 : con_2888.1 = (yX12_paste, cX12_paste, 7, (some .int)) := rfl
noncomputable def rf_2888 : List (Nat × List POP) := [(17, [(1, (1, 1, 0), 0, 0), (1, (1, 3, 0), 0, 0)]), (52, [(1, (0, 1, 0), 0, 0)]), (110, [(0, (1, 2, 0), 0, 60), (0, (1, 4, 0), 0, 60), (0, (1, 5, 0), 0, 60)]), (139, [(0, (0, 0, 0), 0, 239)]), (178, [(0, (0, 1, 0), 0, 239)])]
noncomputable def cu_2888 : List CUT2 := [((113, [lq 0 6 0, lq 1 0 2, lq 2 1 2, lq 3 0 2, lq 4 1 4, lq 5 1 5, lq 6 1 65], [], gi_3399, hq_1044), rq_61, ([(65, (-1))], 121)), ((150, [lq 0 6 0, lq 1 0 2, lq 2 1 2, lq 3 0 2, lq 4 1 4, lq 5 1 5, lq 6 1 65], [], gi_3399, hq_1043), rq_61, ([(65, (-1))], 60))]
theorem ch_2888 : staG tb_X12_paste 3 bt_RX12 [] ct_2882 rf_2888 [77, 85, 95, 103, 117, 138, 154, 170] cu_2888 60 con_2888 = true := by decide +kernel
theorem cc_2888 : cu_2888.all (cutG tb_X12_paste 3 bt_RX12 [] ct_2882 rf_2888 [77, 85, 95, 103, 117, 138, 154, 170] cu_2888 60 con_2888) = true := by decide +kernel
theorem vl_2888 (l : Launch) : Vld2 l vwCl gTbl con_2888 := conR_ok3 gT_all (hd_2888) rfl pn_RX12 tk_X12_paste bo_RX12 xo_RX12 (cto_2882 l) ch_2888 (cut_all cc_2888)
/-- RookHusting paste -/
noncomputable def gi_3411 : GI := jl_n [gp_963, gp_537, gp_1010]
noncomputable def gi_3412 : GI := jl_n [gp_968, gp_1013]
noncomputable def rq_62 : RLs := [([(30, (-1)), (31, 1)], 0), ([(30, 1), (31, (-1))], 0), ([(2, 1), (5, 1), (27, (-1))], (-1))]
noncomputable def gi_3413 : GI := jl_n [gp_973, gp_1013]
noncomputable def rq_63 : RLs := [([(30, (-1)), (31, 1)], 0), ([(30, 1), (31, (-1))], 0), ([(4, 1), (5, 1), (26, (-1))], (-1))]
noncomputable def gi_3414 : GI := jl_n [gp_975, gp_1013]
noncomputable def gi_3415 : GI := jl_n [gp_977, gp_1013]
noncomputable def gi_3416 : GI := jl_n [gp_979, gp_1013]
noncomputable def gi_3417 : GI := jl_n [gp_963, gp_1014, gp_1003, jl_i 1 3, gp_106]
noncomputable def gi_3418 : GI := jl_n [gp_963, gp_1014, gp_1004, jl_i 0 2, gp_106]
noncomputable def gi_3419 : GI := jl_n [gp_982, gp_1013]
noncomputable def rq_64 : RLs := [([(30, (-1)), (31, 1)], 0), ([(30, 1), (31, (-1))], 0), ([(2, (-1)), (5, (-1)), (27, 1)], 0), ([(4, (-1)), (5, (-1)), (26, 1)], 0)]
noncomputable def con_2889 : Con2 := ((yX11_paste, cX11_paste, 6, (some .int)), (1, 23), ([(6, 0, 0), (0, 2, 0), (1, 2, 0), (0, 1, 0), (1, 4, 0), (1, 5, 0)], gi_3286, hc_264, []), [((0, (-6), 0), gi_3386, hq_1039, [], [1]), ((0, (-6), 0), gi_3411, hq_1039, [], [1]), ((0, (-7), 0), gi_3412, hq_1039, rq_62, [1]), ((0, (-7), 0), gi_3413, hq_1039, rq_63, [1]), ((0, (-7), 0), gi_3414, hq_1039, [([(30, (-1)), (31, 1)], 0), ([(30, 1), (31, (-1))], 0)], [1]), ((0, (-7), 0), gi_3415, hq_1039, [([(30, (-1)), (31, 1)], 0), ([(30, 1), (31, (-1))], 0)], [1]), ((0, (-7), 0), gi_3416, hq_1039, [([(30, (-1)), (31, 1)], 0), ([(30, 1), (31, (-1))], 0)], [1]), ((0, (-8), 0), gi_3417, hq_1039, [([(30, (-1)), (31, 1)], (-1))], [1]), ((0, (-8), 0), gi_3418, hq_1039, [([(30, 1), (31, (-1))], (-1))], [1]), ((0, 0, 0), gi_3419, hq_1042, rq_64, [1])])
theorem hd_2889 : con_2889.1 = (yX11_paste, cX11_paste, 6, (some .int)) := rfl
noncomputable def ct_2889 : CTB2 := [(1, 414, 1, con_1321, []), (8, 414, 1, con_1384, []), (22, 420, 0, con_1322, [1, 2]), (33, 420, 0, con_1385, [1, 2]), (74, 433, 0, con_2877, [1, 2]), (89, 433, 0, con_2865, [1, 2])]
noncomputable def rf_2889 : List (Nat × List POP) := [(60, [(1, (0, 1, 0), 0, 0)]), (98, [(0, (1, 2, 0), 0, 60), (0, (1, 4, 0), 0, 60), (0, (1, 5, 0), 0, 60)])]
noncomputable def cu_2889 : List CUT2 := []
theorem ch_2889 : staG tb_X11_paste 2 bt_RX11 [] ct_2889 rf_2889 [110, 124] cu_2889 63 con_2889 = true := by decide +kernel
theorem cto_2889 (l : Launch) : CTOK2 l RX11 vwCl gTbl ct_2889 := ct2_cons (vl_1321 l) ck_RX11_414_1321 (ct2_cons (vl_1384 l) ck_RX11_414_1384 (ct2_cons (vl_1322 l) ck_RX11_420_1322 (ct2_cons (vl_1385 l) ck_RX11_420_1385 (ct2_cons (vl_2877 l) ck_RX11_433_2877 (ct2_cons (vl_2865 l) ck_RX11_433_2865 (ct2_nil))))))
theorem vl_2889 (l : Launch) : Vld2 l vwCl gTbl con_2889 := conR_ok3 gT_all (hd_2889) rfl pn_RX11 tk_X11_paste bo_RX11 xo_RX11 (cto_2889 l) ch_2889 cut_nil
/-- RookHustingModel paste -/
noncomputable def gi_3420 : GI := jl_n [gp_983, gp_537, gp_1010]
noncomputable def gi_3421 : GI := jl_n [gp_983, gp_1013]
noncomputable def rq_65 : RLs := [([(56, (-1)), (57, 1)], 0), ([(56, 1), (57, (-1))], 0), ([(2, 1), (5, 1), (53, (-1))], (-1))]
noncomputable def rq_66 : RLs := [([(56, (-1)), (57, 1)], 0), ([(56, 1), (57, (-1))], 0), ([(4, 1), (5, 1), (52, (-1))], (-1))]
noncomputable def gi_3422 : GI := jl_n [gp_983, gp_1014, gp_1003, jl_i 1 3, gp_106]
noncomputable def gi_3423 : GI := jl_n [gp_983, gp_1014, gp_1004, jl_i 0 2, gp_106]
noncomputable def rq_67 : RLs := [([(56, (-1)), (57, 1)], 0), ([(56, 1), (57, (-1))], 0), ([(2, (-1)), (5, (-1)), (53, 1)], 0), ([(4, (-1)), (5, (-1)), (52, 1)], 0)]
noncomputable def con_2890 : Con2 := ((yX12_paste, cX12_paste, 7, (some .int)), (2, 45), ([(6, 0, 0), (0, 2, 0), (1, 2, 0), (0, 1, 0), (1, 4, 0), (1, 5, 0)], gi_3294, [ac_1585, ac_1586, ac_1587, ac_807, ac_1588], []), [((0, (-6), 0), gi_3388, hq_1040, [], [1]), ((0, (-6), 0), gi_3420, hq_1040, [], [1]), ((0, (-7), 0), gi_3421, hq_1040, rq_65, [1]), ((0, (-7), 0), gi_3421, hq_1040, rq_66, [1]), ((0, (-8), 0), gi_3422, hq_1040, [([(56, (-1)), (57, 1)], (-1))], [1]), ((0, (-8), 0), gi_3423, hq_1040, [([(56, 1), (57, (-1))], (-1))], [1]), ((0, 0, 0), gi_3421, hq_1043, rq_67, [1])])
theorem hd_2890 : con_2890.1 = (yX12_paste, cX12_paste, 7, (some .int)) := rfl
noncomputable def ct_2890 : CTB2 := [(1, 414, 1, con_2082, []), (8, 414, 1, con_2226, [])]
noncomputable def rf_2890 : List (Nat × List POP) := [(17, [(1, (1, 1, 0), 0, 0), (1, (1, 3, 0), 0, 0)]), (52, [(1, (0, 1, 0), 0, 0)]), (110, [(0, (1, 2, 0), 0, 60), (0, (1, 4, 0), 0, 60), (0, (1, 5, 0), 0, 60)]), (139, [(0, (0, 0, 0), 0, 239)]), (178, [(0, (0, 1, 0), 0, 239)])]
noncomputable def gi_3424 : GI := jl_n [gp_983, gp_1014, gp_984]
noncomputable def rq_68 : RLs := [([(2, (-1)), (5, (-1))], 60), ([(4, (-1)), (5, (-1))], 60), ([(2, (-1)), (5, (-1)), (53, 1)], 0), ([(4, (-1)), (5, (-1)), (52, 1)], 0), ([(56, (-1)), (57, 1)], 0), ([(56, 1), (57, (-1))], 0)]
noncomputable def cu_2890 : List CUT2 := [((113, [lq 0 6 0, lq 1 0 2, lq 2 1 2, lq 3 0 1, lq 4 1 4, lq 5 1 5, lq 6 1 65], [], gi_3424, hq_1044), rq_68, ([(65, (-1))], 121)), ((150, [lq 0 6 0, lq 1 0 2, lq 2 1 2, lq 3 0 1, lq 4 1 4, lq 5 1 5, lq 6 1 65], [], gi_3424, hq_1043), rq_68, ([(65, (-1))], 60))]
theorem ch_2890 : staG tb_X12_paste 3 bt_RX12 [] ct_2890 rf_2890 [77, 85, 95, 103, 117, 138, 154, 170] cu_2890 60 con_2890 = true := by decide +kernel
theorem cc_2890 : cu_2890.all (cutG tb_X12_paste 3 bt_RX12 [] ct_2890 rf_2890 [77, 85, 95, 103, 117, 138, 154, 170] cu_2890 60 con_2890) = true := by decide +kernel
theorem cto_2890 (l : Launch) : CTOK2 l RX12 vwCl gTbl ct_2890 := ct2_cons (vl_2082 l) ck_RX12_414_2082 (ct2_cons (vl_2226 l) ck_RX12_414_2226 (ct2_nil))
theorem vl_2890 (l : Launch) : Vld2 l vwCl gTbl con_2890 := conR_ok3 gT_all (hd_2890) rfl pn_RX12 tk_X12_paste bo_RX12 xo_RX12 (cto_2890 l) ch_2890 (cut_all cc_2890)
/-- RookHustingModel paste -/
noncomputable def gi_3425 : GI := jl_n [gp_993, gp_537, gp_1010]
noncomputable def gi_3426 : GI := jl_n [gp_991, gp_1013]
noncomputable def gi_3427 : GI := jl_n [gp_990, gp_1013]
noncomputable def gi_3428 : GI := jl_n [gp_994, gp_1013]
noncomputable def gi_3429 : GI := jl_n [gp_987, gp_1013]
noncomputable def gi_3430 : GI := jl_n [gp_993, gp_1014, gp_1003, jl_i 1 3, gp_106]
noncomputable def gi_3431 : GI := jl_n [gp_993, gp_1014, gp_1004, jl_i 0 2, gp_106]
noncomputable def con_2891 : Con2 := ((yX12_paste, cX12_paste, 7, (some .int)), (2, 45), ([(6, 0, 0), (0, 2, 0), (1, 2, 0), (0, 1, 0), (1, 4, 0), (1, 5, 0)], gi_3313, [ac_1585, ac_1586, ac_1587, ac_807, ac_1588], []), [((0, (-6), 0), gi_3390, hq_1040, [], [1]), ((0, (-6), 0), gi_3425, hq_1040, [], [1]), ((0, (-7), 0), gi_3426, hq_1040, rq_65, [1]), ((0, (-7), 0), gi_3426, hq_1040, rq_66, [1]), ((0, (-7), 0), gi_3427, hq_1040, [([(56, (-1)), (57, 1)], 0), ([(56, 1), (57, (-1))], 0)], [1]), ((0, (-7), 0), gi_3428, hq_1040, [([(56, (-1)), (57, 1)], 0), ([(56, 1), (57, (-1))], 0)], [1]), ((0, (-7), 0), gi_3429, hq_1040, [([(56, (-1)), (57, 1)], 0), ([(56, 1), (57, (-1))], 0)], [1]), ((0, (-8), 0), gi_3430, hq_1040, [([(56, (-1)), (57, 1)], (-1))], [1]), ((0, (-8), 0), gi_3431, hq_1040, [([(56, 1), (57, (-1))], (-1))], [1]), ((0, 0, 0), gi_3421, hq_1043, rq_67, [1])])
theorem hd_2891 : con_2891.1 = (yX12_paste, cX12_paste, 7, (some .int)) := rfl
noncomputable def rf_2891 : List (Nat × List POP) := [(17, [(1, (1, 1, 0), 0, 0), (1, (1, 3, 0), 0, 0)]), (52, [(1, (0, 1, 0), 0, 0)]), (110, [(0, (1, 2, 0), 0, 60), (0, (1, 4, 0), 0, 60), (0, (1, 5, 0), 0, 60)]), (139, [(0, (0, 0, 0), 0, 239)]), (178, [(0, (0, 1, 0), 0, 239)])]
noncomputable def cu_2891 : List CUT2 := [((113, [lq 0 6 0, lq 1 0 2, lq 2 1 2, lq 3 0 1, lq 4 1 4, lq 5 1 5, lq 6 1 65], [], gi_3424, hq_1044), rq_68, ([(65, (-1))], 121)), ((150, [lq 0 6 0, lq 1 0 2, lq 2 1 2, lq 3 0 1, lq 4 1 4, lq 5 1 5, lq 6 1 65], [], gi_3424, hq_1043), rq_68, ([(65, (-1))], 60))]
theorem ch_2891 : staG tb_X12_paste 3 bt_RX12 [] ct_2890 rf_2891 [77, 85, 95, 103, 117, 138, 154, 170] cu_2891 60 con_2891 = true := by decide +kernel
theorem cc_2891 : cu_2891.all (cutG tb_X12_paste 3 bt_RX12 [] ct_2890 rf_2891 [77, 85, 95, 103, 117, 138, 154, 170] cu_2891 60 con_2891) = true := by decide +kernel
theorem vl_2891 (l : Launch) : Vld2 l vwCl gTbl con_2891 := conR_ok3 gT_all (hd_2891) rfl pn_RX12 tk_X12_paste bo_RX12 xo_RX12 (cto_2890 l) ch_2891 (cut_all cc_2891)
/-- RookHusting paste -/
noncomputable def gi_3432 : GI := jl_n [gp_963, jl_k 0 0, jl_m 0 60, gp_1010]
noncomputable def gi_3433 : GI := jl_n [gp_968, gp_1015]
noncomputable def rq_69 : RLs := [([(29, (-1)), (31, 1)], 0), ([(29, 1), (31, (-1))], 0), ([(2, 1), (5, 1), (27, (-1))], (-1))]
noncomputable def gi_3434 : GI := jl_n [gp_973, gp_1015]
noncomputable def rq_70 : RLs := [([(29, (-1)), (31, 1)], 0), ([(29, 1), (31, (-1))], 0), ([(4, 1), (5, 1), (25, (-1))], (-1))]
noncomputable def gi_3435 : GI := jl_n [gp_975, gp_1015]
noncomputable def gi_3436 : GI := jl_n [gp_977, gp_1015]
noncomputable def gi_3437 : GI := jl_n [gp_979, gp_1015]
noncomputable def gi_3438 : GI := jl_n [gp_963, gp_1016, jl_i 0 2, gp_1004, gp_106]
noncomputable def gi_3439 : GI := jl_n [gp_963, gp_1016, jl_i 1 3, gp_1003, gp_106]
noncomputable def gi_3440 : GI := jl_n [gp_982, gp_1015]
noncomputable def rq_71 : RLs := [([(29, (-1)), (31, 1)], 0), ([(29, 1), (31, (-1))], 0), ([(2, (-1)), (5, (-1)), (27, 1)], 0), ([(4, (-1)), (5, (-1)), (25, 1)], 0)]
noncomputable def con_2892 : Con2 := ((yX11_paste, cX11_paste, 6, (some .int)), (1, 23), ([(6, 0, 0), (0, 2, 0), (1, 2, 0), (0, 0, 0), (1, 4, 0), (1, 5, 0)], gi_3286, hc_264, []), [((0, (-6), 0), gi_3386, hq_1039, [], [1]), ((0, (-6), 0), gi_3432, hq_1039, [], [1]), ((0, (-7), 0), gi_3433, hq_1039, rq_69, [1]), ((0, (-7), 0), gi_3434, hq_1039, rq_70, [1]), ((0, (-7), 0), gi_3435, hq_1039, [([(29, (-1)), (31, 1)], 0), ([(29, 1), (31, (-1))], 0)], [1]), ((0, (-7), 0), gi_3436, hq_1039, [([(29, (-1)), (31, 1)], 0), ([(29, 1), (31, (-1))], 0)], [1]), ((0, (-7), 0), gi_3437, hq_1039, [([(29, (-1)), (31, 1)], 0), ([(29, 1), (31, (-1))], 0)], [1]), ((0, (-8), 0), gi_3438, hq_1039, [([(29, (-1)), (31, 1)], (-1))], [1]), ((0, (-8), 0), gi_3439, hq_1039, [([(29, 1), (31, (-1))], (-1))], [1]), ((0, 0, 0), gi_3440, hq_1042, rq_71, [1])])
theorem hd_2892 : con_2892.1 = (yX11_paste, cX11_paste, 6, (some .int)) := rfl
noncomputable def ct_2892 : CTB2 := [(1, 414, 1, con_1321, []), (8, 414, 1, con_1447, []), (22, 420, 0, con_1322, [1, 2]), (33, 420, 0, con_1448, [1, 2]), (74, 433, 0, con_2877, [1, 2]), (89, 433, 0, con_2869, [1, 2])]
noncomputable def rf_2892 : List (Nat × List POP) := [(60, [(1, (0, 1, 0), 0, 0)]), (98, [(0, (1, 2, 0), 0, 60), (0, (1, 4, 0), 0, 60), (0, (1, 5, 0), 0, 60)])]
noncomputable def cu_2892 : List CUT2 := []
theorem ch_2892 : staG tb_X11_paste 2 bt_RX11 [] ct_2892 rf_2892 [110, 124] cu_2892 63 con_2892 = true := by decide +kernel
theorem cto_2892 (l : Launch) : CTOK2 l RX11 vwCl gTbl ct_2892 := ct2_cons (vl_1321 l) ck_RX11_414_1321 (ct2_cons (vl_1447 l) ck_RX11_414_1447 (ct2_cons (vl_1322 l) ck_RX11_420_1322 (ct2_cons (vl_1448 l) ck_RX11_420_1448 (ct2_cons (vl_2877 l) ck_RX11_433_2877 (ct2_cons (vl_2869 l) ck_RX11_433_2869 (ct2_nil))))))
theorem vl_2892 (l : Launch) : Vld2 l vwCl gTbl con_2892 := conR_ok3 gT_all (hd_2892) rfl pn_RX11 tk_X11_paste bo_RX11 xo_RX11 (cto_2892 l) ch_2892 cut_nil
/-- RookHustingModel paste -/
noncomputable def gi_3441 : GI := jl_n [gp_983, jl_k 0 0, jl_m 0 60, gp_1010]
noncomputable def gi_3442 : GI := jl_n [gp_983, gp_1015]
noncomputable def rq_72 : RLs := [([(55, (-1)), (57, 1)], 0), ([(55, 1), (57, (-1))], 0), ([(2, 1), (5, 1), (53, (-1))], (-1))]
noncomputable def rq_73 : RLs := [([(55, (-1)), (57, 1)], 0), ([(55, 1), (57, (-1))], 0), ([(4, 1), (5, 1), (51, (-1))], (-1))]
noncomputable def gi_3443 : GI := jl_n [gp_983, gp_1016, jl_i 0 2, gp_1004, gp_106]
noncomputable def gi_3444 : GI := jl_n [gp_983, gp_1016, jl_i 1 3, gp_1003, gp_106]
noncomputable def rq_74 : RLs := [([(55, (-1)), (57, 1)], 0), ([(55, 1), (57, (-1))], 0), ([(2, (-1)), (5, (-1)), (53, 1)], 0), ([(4, (-1)), (5, (-1)), (51, 1)], 0)]
noncomputable def con_2893 : Con2 := ((yX12_paste, cX12_paste, 7, (some .int)), (2, 45), ([(6, 0, 0), (0, 2, 0), (1, 2, 0), (0, 0, 0), (1, 4, 0), (1, 5, 0)], gi_3294, [ac_1585, ac_1586, ac_1587, ac_807, ac_1588], []), [((0, (-6), 0), gi_3388, hq_1040, [], [1]), ((0, (-6), 0), gi_3441, hq_1040, [], [1]), ((0, (-7), 0), gi_3442, hq_1040, rq_72, [1]), ((0, (-7), 0), gi_3442, hq_1040, rq_73, [1]), ((0, (-8), 0), gi_3443, hq_1040, [([(55, (-1)), (57, 1)], (-1))], [1]), ((0, (-8), 0), gi_3444, hq_1040, [([(55, 1), (57, (-1))], (-1))], [1]), ((0, 0, 0), gi_3442, hq_1043, rq_74, [1])])
theorem hd_2893 : con_2893.1 = (yX12_paste, cX12_paste, 7, (some .int)) := rfl
noncomputable def ct_2893 : CTB2 := [(1, 414, 1, con_2082, []), (8, 414, 1, con_2370, [])]
noncomputable def rf_2893 : List (Nat × List POP) := [(17, [(1, (1, 1, 0), 0, 0), (1, (1, 3, 0), 0, 0)]), (52, [(1, (0, 1, 0), 0, 0)]), (110, [(0, (1, 2, 0), 0, 60), (0, (1, 4, 0), 0, 60), (0, (1, 5, 0), 0, 60)]), (139, [(0, (0, 0, 0), 0, 239)]), (178, [(0, (0, 1, 0), 0, 239)])]
noncomputable def gi_3445 : GI := jl_n [gp_983, gp_1016, gp_984]
noncomputable def rq_75 : RLs := [([(2, (-1)), (5, (-1))], 60), ([(4, (-1)), (5, (-1))], 60), ([(2, (-1)), (5, (-1)), (53, 1)], 0), ([(4, (-1)), (5, (-1)), (51, 1)], 0), ([(55, (-1)), (57, 1)], 0), ([(55, 1), (57, (-1))], 0)]
noncomputable def cu_2893 : List CUT2 := [((113, [lq 0 6 0, lq 1 0 2, lq 2 1 2, lq 3 0 0, lq 4 1 4, lq 5 1 5, lq 6 1 65], [], gi_3445, hq_1044), rq_75, ([(65, (-1))], 121)), ((150, [lq 0 6 0, lq 1 0 2, lq 2 1 2, lq 3 0 0, lq 4 1 4, lq 5 1 5, lq 6 1 65], [], gi_3445, hq_1043), rq_75, ([(65, (-1))], 60))]
theorem ch_2893 : staG tb_X12_paste 3 bt_RX12 [] ct_2893 rf_2893 [77, 85, 95, 103, 117, 138, 154, 170] cu_2893 60 con_2893 = true := by decide +kernel
theorem cc_2893 : cu_2893.all (cutG tb_X12_paste 3 bt_RX12 [] ct_2893 rf_2893 [77, 85, 95, 103, 117, 138, 154, 170] cu_2893 60 con_2893) = true := by decide +kernel
theorem cto_2893 (l : Launch) : CTOK2 l RX12 vwCl gTbl ct_2893 := ct2_cons (vl_2082 l) ck_RX12_414_2082 (ct2_cons (vl_2370 l) ck_RX12_414_2370 (ct2_nil))
theorem vl_2893 (l : Launch) : Vld2 l vwCl gTbl con_2893 := conR_ok3 gT_all (hd_2893) rfl pn_RX12 tk_X12_paste bo_RX12 xo_RX12 (cto_2893 l) ch_2893 (cut_all cc_2893)
/-- RookHustingModel paste -/
noncomputable def gi_3446 : GI := jl_n [gp_993, jl_k 0 0, jl_m 0 60, gp_1010]
noncomputable def gi_3447 : GI := jl_n [gp_991, gp_1015]
noncomputable def gi_3448 : GI := jl_n [gp_990, gp_1015]
noncomputable def gi_3449 : GI := jl_n [gp_994, gp_1015]
noncomputable def gi_3450 : GI := jl_n [gp_987, gp_1015]
noncomputable def gi_3451 : GI := jl_n [gp_993, gp_1016, jl_i 0 2, gp_1004, gp_106]
noncomputable def gi_3452 : GI := jl_n [gp_993, gp_1016, jl_i 1 3, gp_1003, gp_106]
noncomputable def con_2894 : Con2 := ((yX12_paste, cX12_paste, 7, (some .int)), (2, 45), ([(6, 0, 0), (0, 2, 0), (1, 2, 0), (0, 0, 0), (1, 4, 0), (1, 5, 0)], gi_3313, [ac_1585, ac_1586, ac_1587, ac_807, ac_1588], []), [((0, (-6), 0), gi_3390, hq_1040, [], [1]), ((0, (-6), 0), gi_3446, hq_1040, [], [1]), ((0, (-7), 0), gi_3447, hq_1040, rq_72, [1]), ((0, (-7), 0), gi_3447, hq_1040, rq_73, [1]), ((0, (-7), 0), gi_3448, hq_1040, [([(55, (-1)), (57, 1)], 0), ([(55, 1), (57, (-1))], 0)], [1]), ((0, (-7), 0), gi_3449, hq_1040, [([(55, (-1)), (57, 1)], 0), ([(55, 1), (57, (-1))], 0)], [1]), ((0, (-7), 0), gi_3450, hq_1040, [([(55, (-1)), (57, 1)], 0), ([(55, 1), (57, (-1))], 0)], [1]), ((0, (-8), 0), gi_3451, hq_1040, [([(55, (-1)), (57, 1)], (-1))], [1]), ((0, (-8), 0), gi_3452, hq_1040, [([(55, 1), (57, (-1))], (-1))], [1]), ((0, 0, 0), gi_3442, hq_1043, rq_74, [1])])
theorem hd_2894 : con_2894.1 = (yX12_paste, cX12_paste, 7, (some .int)) := rfl
noncomputable def rf_2894 : List (Nat × List POP) := [(17, [(1, (1, 1, 0), 0, 0), (1, (1, 3, 0), 0, 0)]), (52, [(1, (0, 1, 0), 0, 0)]), (110, [(0, (1, 2, 0), 0, 60), (0, (1, 4, 0), 0, 60), (0, (1, 5, 0), 0, 60)]), (139, [(0, (0, 0, 0), 0, 239)]), (178, [(0, (0, 1, 0), 0, 239)])]
noncomputable def cu_2894 : List CUT2 := [((113, [lq 0 6 0, lq 1 0 2, lq 2 1 2, lq 3 0 0, lq 4 1 4, lq 5 1 5, lq 6 1 65], [], gi_3445, hq_1044), rq_75, ([(65, (-1))], 121)), ((150, [lq 0 6 0, lq 1 0 2, lq 2 1 2, lq 3 0 0, lq 4 1 4, lq 5 1 5, lq 6 1 65], [], gi_3445, hq_1043), rq_75, ([(65, (-1))], 60))]
theorem ch_2894 : staG tb_X12_paste 3 bt_RX12 [] ct_2893 rf_2894 [77, 85, 95, 103, 117, 138, 154, 170] cu_2894 60 con_2894 = true := by decide +kernel
theorem cc_2894 : cu_2894.all (cutG tb_X12_paste 3 bt_RX12 [] ct_2893 rf_2894 [77, 85, 95, 103, 117, 138, 154, 170] cu_2894 60 con_2894) = true := by decide +kernel
theorem vl_2894 (l : Launch) : Vld2 l vwCl gTbl con_2894 := conR_ok3 gT_all (hd_2894) rfl pn_RX12 tk_X12_paste bo_RX12 xo_RX12 (cto_2893 l) ch_2894 (cut_all cc_2894)
/-- RookHusting paste -/
noncomputable def con_2895 : Con2 := ((yX11_paste, cX11_paste, 6, (some .int)), (1, 20), ([(6, 0, 0), (0, 2, 0), (1, 2, 0), (1, 3, 0), (1, 4, 0), (1, 5, 0)], gi_3382, hc_264, []), [((0, (-2), 0), gi_3383, hq_1039, [], [1])])
theorem hd_2895 : con_2895.1 = (yX11_paste, cX11_paste, 6, (some .int)) := rfl
noncomputable def ct_2895 : CTB2 := [(1, 414, 1, con_1321, []), (8, 414, 1, con_1510, [])]
noncomputable def rf_2895 : List (Nat × List POP) := [(60, [(1, (0, 1, 0), 0, 0)]), (98, [(0, (1, 2, 0), 0, 60), (0, (1, 4, 0), 0, 60), (0, (1, 5, 0), 0, 60)])]
noncomputable def cu_2895 : List CUT2 := []
theorem ch_2895 : staG tb_X11_paste 2 bt_RX11 [] ct_2895 rf_2895 [110, 124] cu_2895 10 con_2895 = true := by decide +kernel
theorem cto_2895 (l : Launch) : CTOK2 l RX11 vwCl gTbl ct_2895 := ct2_cons (vl_1321 l) ck_RX11_414_1321 (ct2_cons (vl_1510 l) ck_RX11_414_1510 (ct2_nil))
theorem vl_2895 (l : Launch) : Vld2 l vwCl gTbl con_2895 := conR_ok3 gT_all (hd_2895) rfl pn_RX11 tk_X11_paste bo_RX11 xo_RX11 (cto_2895 l) ch_2895 cut_nil
/-- RookHustingModel paste -/
noncomputable def con_2896 : Con2 := ((yX12_paste, cX12_paste, 7, (some .int)), (2, 45), ([(6, 0, 0), (0, 2, 0), (1, 2, 0), (1, 3, 0), (1, 4, 0), (1, 5, 0)], gi_3384, [ac_1585, ac_1586, ac_1587, ac_807, ac_1588], []), [((0, (-2), 0), gi_3385, hq_1040, [], [1])])
theorem hd_2896 : con_2896.1 = (yX12_paste, cX12_paste, 7, (some .int)) := rfl
noncomputable def ct_2896 : CTB2 := [(1, 414, 1, con_2082, []), (8, 414, 1, con_2514, [])]
noncomputable def rf_2896 : List (Nat × List POP) := [(17, [(1, (1, 1, 0), 0, 0), (1, (1, 3, 0), 0, 0)]), (52, [(1, (0, 1, 0), 0, 0)]), (110, [(0, (1, 2, 0), 0, 60), (0, (1, 4, 0), 0, 60), (0, (1, 5, 0), 0, 60)]), (139, [(0, (0, 0, 0), 0, 239)]), (178, [(0, (0, 1, 0), 0, 239)])]
noncomputable def cu_2896 : List CUT2 := []
theorem ch_2896 : staG tb_X12_paste 3 bt_RX12 [] ct_2896 rf_2896 [77, 85, 95, 103, 117, 138, 154, 170] cu_2896 10 con_2896 = true := by decide +kernel
theorem cto_2896 (l : Launch) : CTOK2 l RX12 vwCl gTbl ct_2896 := ct2_cons (vl_2082 l) ck_RX12_414_2082 (ct2_cons (vl_2514 l) ck_RX12_414_2514 (ct2_nil))
theorem vl_2896 (l : Launch) : Vld2 l vwCl gTbl con_2896 := conR_ok3 gT_all (hd_2896) rfl pn_RX12 tk_X12_paste bo_RX12 xo_RX12 (cto_2896 l) ch_2896 cut_nil
/-- RookHusting paste -/
noncomputable def con_2897 : Con2 := ((yX11_paste, cX11_paste, 6, (some .int)), (1, 20), ([(6, 0, 0), (0, 1, 0), (1, 2, 0), (1, 3, 0), (1, 4, 0), (1, 5, 0)], gi_3275, hc_264, []), [((0, (-2), 0), gi_3276, hq_1039, [], [1])])
theorem hd_2897 : con_2897.1 = (yX11_paste, cX11_paste, 6, (some .int)) := rfl
noncomputable def ct_2897 : CTB2 := [(1, 414, 1, con_1384, []), (8, 414, 1, con_1253, [])]
noncomputable def rf_2897 : List (Nat × List POP) := [(60, [(1, (0, 1, 0), 0, 0)]), (98, [(0, (1, 2, 0), 0, 60), (0, (1, 4, 0), 0, 60), (0, (1, 5, 0), 0, 60)])]
noncomputable def cu_2897 : List CUT2 := []
theorem ch_2897 : staG tb_X11_paste 2 bt_RX11 [] ct_2897 rf_2897 [110, 124] cu_2897 10 con_2897 = true := by decide +kernel
theorem cto_2897 (l : Launch) : CTOK2 l RX11 vwCl gTbl ct_2897 := ct2_cons (vl_1384 l) ck_RX11_414_1384 (ct2_cons (vl_1253 l) ck_RX11_414_1253 (ct2_nil))
theorem vl_2897 (l : Launch) : Vld2 l vwCl gTbl con_2897 := conR_ok3 gT_all (hd_2897) rfl pn_RX11 tk_X11_paste bo_RX11 xo_RX11 (cto_2897 l) ch_2897 cut_nil
/-- RookHustingModel paste -/
noncomputable def con_2898 : Con2 := ((yX12_paste, cX12_paste, 7, (some .int)), (2, 45), ([(6, 0, 0), (0, 1, 0), (1, 2, 0), (1, 3, 0), (1, 4, 0), (1, 5, 0)], gi_3277, [ac_1585, ac_1586, ac_1587, ac_807, ac_1588], []), [((0, (-2), 0), gi_3278, hq_1040, [], [1])])
theorem hd_2898 : con_2898.1 = (yX12_paste, cX12_paste, 7, (some .int)) := rfl
noncomputable def ct_2898 : CTB2 := [(1, 414, 1, con_2226, []), (8, 414, 1, con_1927, [])]
noncomputable def rf_2898 : List (Nat × List POP) := [(17, [(1, (1, 1, 0), 0, 0), (1, (1, 3, 0), 0, 0)]), (52, [(1, (0, 1, 0), 0, 0)]), (110, [(0, (1, 2, 0), 0, 60), (0, (1, 4, 0), 0, 60), (0, (1, 5, 0), 0, 60)]), (139, [(0, (0, 0, 0), 0, 239)]), (178, [(0, (0, 1, 0), 0, 239)])]
noncomputable def cu_2898 : List CUT2 := []
theorem ch_2898 : staG tb_X12_paste 3 bt_RX12 [] ct_2898 rf_2898 [77, 85, 95, 103, 117, 138, 154, 170] cu_2898 10 con_2898 = true := by decide +kernel
theorem cto_2898 (l : Launch) : CTOK2 l RX12 vwCl gTbl ct_2898 := ct2_cons (vl_2226 l) ck_RX12_414_2226 (ct2_cons (vl_1927 l) ck_RX12_414_1927 (ct2_nil))
theorem vl_2898 (l : Launch) : Vld2 l vwCl gTbl con_2898 := conR_ok3 gT_all (hd_2898) rfl pn_RX12 tk_X12_paste bo_RX12 xo_RX12 (cto_2898 l) ch_2898 cut_nil
/-- RookHusting$Slots holds -/
noncomputable def con_2899 : Con2 := ((yX8_holds, cX8_holds, 4, (some .boolean)), (0, 0), ([(6, 0, 0), (0, 1, 0), (1, 2, 0), (1, 3, 0)], gi_3279, [.inl (8, [(8, 4, 0), (8, 5, 0), (6, 1, 0)]), ac_1553], []), [((0, 0, 0), gi_3280, hq_1041, [], [1]), ((0, 0, 0), gi_3281, hq_1041, [([(2, 1), (3, 1), (8, (-1))], (-1))], [1]), ((0, 0, 0), gi_3282, hq_1041, [], [1]), ((0, 1, 0), gi_3338, hq_1041, rq_36, [1])])
theorem hd_2899 : con_2899.1 = (yX8_holds, cX8_holds, 4, (some .boolean)) := rfl
noncomputable def cu_2899 : List CUT2 := []
theorem ch_2899 : staG tb_X8_holds 2 bt_RX8 [] ct_1253 [] [12, 20] cu_2899 20 con_2899 = true := by decide +kernel
theorem vl_2899 (l : Launch) : Vld2 l vwCl gTbl con_2899 := conR_ok3 gT_all (hd_2899) rfl pn_RX8 tk_X8_holds bo_RX8 xo_RX8 (cto_1253 l) ch_2899 cut_nil
/-- RookHusting paste -/
noncomputable def gi_3453 : GI := jl_n [gp_963, gp_1018]
noncomputable def gi_3454 : GI := jl_n [gp_963, gp_1000, gp_964]
noncomputable def rq_76 : RLs := [([(30, 1), (32, (-1))], 0), ([(30, (-1)), (32, 1)], 0), ([(2, 1), (5, 1), (26, (-1))], (-1))]
noncomputable def rq_77 : RLs := [([(30, 1), (32, (-1))], 0), ([(30, (-1)), (32, 1)], 0), ([(4, 1), (5, 1), (28, (-1))], (-1))]
noncomputable def rq_78 : RLs := [([(30, 1), (32, (-1))], 0), ([(30, (-1)), (32, 1)], 0), ([(2, (-1)), (5, (-1)), (26, 1)], 0), ([(4, (-1)), (5, (-1)), (28, 1)], 0)]
noncomputable def con_2900 : Con2 := ((yX11_paste, cX11_paste, 6, (some .int)), (1, 23), ([(6, 0, 0), (0, 1, 0), (1, 2, 0), (0, 3, 0), (1, 4, 0), (1, 5, 0)], gi_3286, hc_264, []), [((0, (-6), 0), gi_3453, hq_1039, [], [1]), ((0, (-6), 0), gi_3454, hq_1039, [], [1]), ((0, (-7), 0), gi_3340, hq_1039, rq_76, [1]), ((0, (-7), 0), gi_3341, hq_1039, rq_77, [1]), ((0, (-7), 0), gi_3342, hq_1039, [([(30, 1), (32, (-1))], 0), ([(30, (-1)), (32, 1)], 0)], [1]), ((0, (-7), 0), gi_3343, hq_1039, [([(30, 1), (32, (-1))], 0), ([(30, (-1)), (32, 1)], 0)], [1]), ((0, (-7), 0), gi_3344, hq_1039, [([(30, 1), (32, (-1))], 0), ([(30, (-1)), (32, 1)], 0)], [1]), ((0, (-8), 0), gi_3346, hq_1039, [([(30, 1), (32, (-1))], (-1))], [1]), ((0, (-8), 0), gi_3345, hq_1039, [([(30, (-1)), (32, 1)], (-1))], [1]), ((0, 0, 0), gi_3347, hq_1042, rq_78, [1])])
theorem hd_2900 : con_2900.1 = (yX11_paste, cX11_paste, 6, (some .int)) := rfl
theorem ck_RX11_433_2899 : COK2 RX11 vwCl gTbl 433 0 con_2899 := ⟨wd_1393, wd_131, mh_X8_holds, .inr (.inr ⟨rfl, wd_1390, wd_1391, wd_1392, ⟨_, rfl, pd_X8_holds⟩, 8, _, TX8, 3, rfl, rfl⟩)⟩
noncomputable def ct_2900 : CTB2 := [(1, 414, 1, con_1384, []), (8, 414, 1, con_1255, []), (22, 420, 0, con_1385, [1, 2]), (33, 420, 0, con_1256, [1, 2]), (74, 433, 0, con_2899, [1, 2]), (89, 433, 0, con_2852, [1, 2])]
noncomputable def rf_2900 : List (Nat × List POP) := [(60, [(1, (0, 1, 0), 0, 0)]), (98, [(0, (1, 2, 0), 0, 60), (0, (1, 4, 0), 0, 60), (0, (1, 5, 0), 0, 60)])]
noncomputable def cu_2900 : List CUT2 := []
theorem ch_2900 : staG tb_X11_paste 2 bt_RX11 [] ct_2900 rf_2900 [110, 124] cu_2900 63 con_2900 = true := by decide +kernel
theorem cto_2900 (l : Launch) : CTOK2 l RX11 vwCl gTbl ct_2900 := ct2_cons (vl_1384 l) ck_RX11_414_1384 (ct2_cons (vl_1255 l) ck_RX11_414_1255 (ct2_cons (vl_1385 l) ck_RX11_420_1385 (ct2_cons (vl_1256 l) ck_RX11_420_1256 (ct2_cons (vl_2899 l) ck_RX11_433_2899 (ct2_cons (vl_2852 l) ck_RX11_433_2852 (ct2_nil))))))
theorem vl_2900 (l : Launch) : Vld2 l vwCl gTbl con_2900 := conR_ok3 gT_all (hd_2900) rfl pn_RX11 tk_X11_paste bo_RX11 xo_RX11 (cto_2900 l) ch_2900 cut_nil
/-- RookHustingModel paste -/
noncomputable def gi_3455 : GI := jl_n [gp_983, gp_1018]
noncomputable def gi_3456 : GI := jl_n [gp_983, gp_1000, gp_964]
noncomputable def rq_79 : RLs := [([(56, 1), (58, (-1))], 0), ([(56, (-1)), (58, 1)], 0), ([(2, 1), (5, 1), (52, (-1))], (-1))]
noncomputable def rq_80 : RLs := [([(56, 1), (58, (-1))], 0), ([(56, (-1)), (58, 1)], 0), ([(4, 1), (5, 1), (54, (-1))], (-1))]
noncomputable def rq_81 : RLs := [([(56, 1), (58, (-1))], 0), ([(56, (-1)), (58, 1)], 0), ([(2, (-1)), (5, (-1)), (52, 1)], 0), ([(4, (-1)), (5, (-1)), (54, 1)], 0)]
noncomputable def con_2901 : Con2 := ((yX12_paste, cX12_paste, 7, (some .int)), (2, 45), ([(6, 0, 0), (0, 1, 0), (1, 2, 0), (0, 3, 0), (1, 4, 0), (1, 5, 0)], gi_3294, [ac_1585, ac_1586, ac_1587, ac_807, ac_1588], []), [((0, (-6), 0), gi_3455, hq_1040, [], [1]), ((0, (-6), 0), gi_3456, hq_1040, [], [1]), ((0, (-7), 0), gi_3349, hq_1040, rq_79, [1]), ((0, (-7), 0), gi_3349, hq_1040, rq_80, [1]), ((0, (-8), 0), gi_3351, hq_1040, [([(56, 1), (58, (-1))], (-1))], [1]), ((0, (-8), 0), gi_3350, hq_1040, [([(56, (-1)), (58, 1)], (-1))], [1]), ((0, 0, 0), gi_3349, hq_1043, rq_81, [1])])
theorem hd_2901 : con_2901.1 = (yX12_paste, cX12_paste, 7, (some .int)) := rfl
noncomputable def ct_2901 : CTB2 := [(1, 414, 1, con_2226, []), (8, 414, 1, con_1930, [])]
noncomputable def rf_2901 : List (Nat × List POP) := [(17, [(1, (1, 1, 0), 0, 0), (1, (1, 3, 0), 0, 0)]), (52, [(1, (0, 1, 0), 0, 0)]), (110, [(0, (1, 2, 0), 0, 60), (0, (1, 4, 0), 0, 60), (0, (1, 5, 0), 0, 60)]), (139, [(0, (0, 0, 0), 0, 239)]), (178, [(0, (0, 1, 0), 0, 239)])]
noncomputable def rq_82 : RLs := [([(2, (-1)), (5, (-1))], 60), ([(4, (-1)), (5, (-1))], 60), ([(2, (-1)), (5, (-1)), (52, 1)], 0), ([(4, (-1)), (5, (-1)), (54, 1)], 0), ([(56, 1), (58, (-1))], 0), ([(56, (-1)), (58, 1)], 0)]
noncomputable def cu_2901 : List CUT2 := [((113, [lq 0 6 0, lq 1 0 1, lq 2 1 2, lq 3 0 3, lq 4 1 4, lq 5 1 5, lq 6 1 65], [], gi_3352, hq_1044), rq_82, ([(65, (-1))], 121)), ((150, [lq 0 6 0, lq 1 0 1, lq 2 1 2, lq 3 0 3, lq 4 1 4, lq 5 1 5, lq 6 1 65], [], gi_3352, hq_1043), rq_82, ([(65, (-1))], 60))]
theorem ch_2901 : staG tb_X12_paste 3 bt_RX12 [] ct_2901 rf_2901 [77, 85, 95, 103, 117, 138, 154, 170] cu_2901 60 con_2901 = true := by decide +kernel
theorem cc_2901 : cu_2901.all (cutG tb_X12_paste 3 bt_RX12 [] ct_2901 rf_2901 [77, 85, 95, 103, 117, 138, 154, 170] cu_2901 60 con_2901) = true := by decide +kernel
theorem cto_2901 (l : Launch) : CTOK2 l RX12 vwCl gTbl ct_2901 := ct2_cons (vl_2226 l) ck_RX12_414_2226 (ct2_cons (vl_1930 l) ck_RX12_414_1930 (ct2_nil))
theorem vl_2901 (l : Launch) : Vld2 l vwCl gTbl con_2901 := conR_ok3 gT_all (hd_2901) rfl pn_RX12 tk_X12_paste bo_RX12 xo_RX12 (cto_2901 l) ch_2901 (cut_all cc_2901)
/-- RookHustingModel paste -/
noncomputable def gi_3457 : GI := jl_n [gp_993, gp_1018]
noncomputable def gi_3458 : GI := jl_n [gp_993, gp_1000, gp_964]
noncomputable def con_2902 : Con2 := ((yX12_paste, cX12_paste, 7, (some .int)), (2, 45), ([(6, 0, 0), (0, 1, 0), (1, 2, 0), (0, 3, 0), (1, 4, 0), (1, 5, 0)], gi_3313, [ac_1585, ac_1586, ac_1587, ac_807, ac_1588], []), [((0, (-6), 0), gi_3457, hq_1040, [], [1]), ((0, (-6), 0), gi_3458, hq_1040, [], [1]), ((0, (-7), 0), gi_3354, hq_1040, rq_79, [1]), ((0, (-7), 0), gi_3354, hq_1040, rq_80, [1]), ((0, (-7), 0), gi_3355, hq_1040, [([(56, 1), (58, (-1))], 0), ([(56, (-1)), (58, 1)], 0)], [1]), ((0, (-7), 0), gi_3356, hq_1040, [([(56, 1), (58, (-1))], 0), ([(56, (-1)), (58, 1)], 0)], [1]), ((0, (-7), 0), gi_3357, hq_1040, [([(56, 1), (58, (-1))], 0), ([(56, (-1)), (58, 1)], 0)], [1]), ((0, (-8), 0), gi_3359, hq_1040, [([(56, 1), (58, (-1))], (-1))], [1]), ((0, (-8), 0), gi_3358, hq_1040, [([(56, (-1)), (58, 1)], (-1))], [1]), ((0, 0, 0), gi_3349, hq_1043, rq_81, [1])])
theorem hd_2902 : con_2902.1 = (yX12_paste, cX12_paste, 7, (some .int)) := rfl
noncomputable def rf_2902 : List (Nat × List POP) := [(17, [(1, (1, 1, 0), 0, 0), (1, (1, 3, 0), 0, 0)]), (52, [(1, (0, 1, 0), 0, 0)]), (110, [(0, (1, 2, 0), 0, 60), (0, (1, 4, 0), 0, 60), (0, (1, 5, 0), 0, 60)]), (139, [(0, (0, 0, 0), 0, 239)]), (178, [(0, (0, 1, 0), 0, 239)])]
noncomputable def cu_2902 : List CUT2 := [((113, [lq 0 6 0, lq 1 0 1, lq 2 1 2, lq 3 0 3, lq 4 1 4, lq 5 1 5, lq 6 1 65], [], gi_3352, hq_1044), rq_82, ([(65, (-1))], 121)), ((150, [lq 0 6 0, lq 1 0 1, lq 2 1 2, lq 3 0 3, lq 4 1 4, lq 5 1 5, lq 6 1 65], [], gi_3352, hq_1043), rq_82, ([(65, (-1))], 60))]
theorem ch_2902 : staG tb_X12_paste 3 bt_RX12 [] ct_2901 rf_2902 [77, 85, 95, 103, 117, 138, 154, 170] cu_2902 60 con_2902 = true := by decide +kernel
theorem cc_2902 : cu_2902.all (cutG tb_X12_paste 3 bt_RX12 [] ct_2901 rf_2902 [77, 85, 95, 103, 117, 138, 154, 170] cu_2902 60 con_2902) = true := by decide +kernel
theorem vl_2902 (l : Launch) : Vld2 l vwCl gTbl con_2902 := conR_ok3 gT_all (hd_2902) rfl pn_RX12 tk_X12_paste bo_RX12 xo_RX12 (cto_2901 l) ch_2902 (cut_all cc_2902)
/-- RookHusting paste -/
noncomputable def gi_3459 : GI := jl_n [gp_963, gp_774, gp_1008]
noncomputable def rq_83 : RLs := [([(30, 1), (31, (-1))], 0), ([(30, (-1)), (31, 1)], 0), ([(2, 1), (5, 1), (26, (-1))], (-1))]
noncomputable def rq_84 : RLs := [([(30, 1), (31, (-1))], 0), ([(30, (-1)), (31, 1)], 0), ([(4, 1), (5, 1), (27, (-1))], (-1))]
noncomputable def rq_85 : RLs := [([(30, 1), (31, (-1))], 0), ([(30, (-1)), (31, 1)], 0), ([(2, (-1)), (5, (-1)), (26, 1)], 0), ([(4, (-1)), (5, (-1)), (27, 1)], 0)]
noncomputable def con_2903 : Con2 := ((yX11_paste, cX11_paste, 6, (some .int)), (1, 23), ([(6, 0, 0), (0, 1, 0), (1, 2, 0), (0, 2, 0), (1, 4, 0), (1, 5, 0)], gi_3286, hc_264, []), [((0, (-6), 0), gi_3453, hq_1039, [], [1]), ((0, (-6), 0), gi_3459, hq_1039, [], [1]), ((0, (-7), 0), gi_3412, hq_1039, rq_83, [1]), ((0, (-7), 0), gi_3413, hq_1039, rq_84, [1]), ((0, (-7), 0), gi_3414, hq_1039, [([(30, 1), (31, (-1))], 0), ([(30, (-1)), (31, 1)], 0)], [1]), ((0, (-7), 0), gi_3415, hq_1039, [([(30, 1), (31, (-1))], 0), ([(30, (-1)), (31, 1)], 0)], [1]), ((0, (-7), 0), gi_3416, hq_1039, [([(30, 1), (31, (-1))], 0), ([(30, (-1)), (31, 1)], 0)], [1]), ((0, (-8), 0), gi_3418, hq_1039, [([(30, 1), (31, (-1))], (-1))], [1]), ((0, (-8), 0), gi_3417, hq_1039, [([(30, (-1)), (31, 1)], (-1))], [1]), ((0, 0, 0), gi_3419, hq_1042, rq_85, [1])])
theorem hd_2903 : con_2903.1 = (yX11_paste, cX11_paste, 6, (some .int)) := rfl
noncomputable def ct_2903 : CTB2 := [(1, 414, 1, con_1384, []), (8, 414, 1, con_1321, []), (22, 420, 0, con_1385, [1, 2]), (33, 420, 0, con_1322, [1, 2]), (74, 433, 0, con_2899, [1, 2]), (89, 433, 0, con_2861, [1, 2])]
noncomputable def rf_2903 : List (Nat × List POP) := [(60, [(1, (0, 1, 0), 0, 0)]), (98, [(0, (1, 2, 0), 0, 60), (0, (1, 4, 0), 0, 60), (0, (1, 5, 0), 0, 60)])]
noncomputable def cu_2903 : List CUT2 := []
theorem ch_2903 : staG tb_X11_paste 2 bt_RX11 [] ct_2903 rf_2903 [110, 124] cu_2903 63 con_2903 = true := by decide +kernel
theorem cto_2903 (l : Launch) : CTOK2 l RX11 vwCl gTbl ct_2903 := ct2_cons (vl_1384 l) ck_RX11_414_1384 (ct2_cons (vl_1321 l) ck_RX11_414_1321 (ct2_cons (vl_1385 l) ck_RX11_420_1385 (ct2_cons (vl_1322 l) ck_RX11_420_1322 (ct2_cons (vl_2899 l) ck_RX11_433_2899 (ct2_cons (vl_2861 l) ck_RX11_433_2861 (ct2_nil))))))
theorem vl_2903 (l : Launch) : Vld2 l vwCl gTbl con_2903 := conR_ok3 gT_all (hd_2903) rfl pn_RX11 tk_X11_paste bo_RX11 xo_RX11 (cto_2903 l) ch_2903 cut_nil
/-- RookHustingModel paste -/
noncomputable def gi_3460 : GI := jl_n [gp_983, gp_774, gp_1008]
noncomputable def rq_86 : RLs := [([(56, 1), (57, (-1))], 0), ([(56, (-1)), (57, 1)], 0), ([(2, 1), (5, 1), (52, (-1))], (-1))]
noncomputable def rq_87 : RLs := [([(56, 1), (57, (-1))], 0), ([(56, (-1)), (57, 1)], 0), ([(4, 1), (5, 1), (53, (-1))], (-1))]
noncomputable def rq_88 : RLs := [([(56, 1), (57, (-1))], 0), ([(56, (-1)), (57, 1)], 0), ([(2, (-1)), (5, (-1)), (52, 1)], 0), ([(4, (-1)), (5, (-1)), (53, 1)], 0)]
noncomputable def con_2904 : Con2 := ((yX12_paste, cX12_paste, 7, (some .int)), (2, 45), ([(6, 0, 0), (0, 1, 0), (1, 2, 0), (0, 2, 0), (1, 4, 0), (1, 5, 0)], gi_3294, [ac_1585, ac_1586, ac_1587, ac_807, ac_1588], []), [((0, (-6), 0), gi_3455, hq_1040, [], [1]), ((0, (-6), 0), gi_3460, hq_1040, [], [1]), ((0, (-7), 0), gi_3421, hq_1040, rq_86, [1]), ((0, (-7), 0), gi_3421, hq_1040, rq_87, [1]), ((0, (-8), 0), gi_3423, hq_1040, [([(56, 1), (57, (-1))], (-1))], [1]), ((0, (-8), 0), gi_3422, hq_1040, [([(56, (-1)), (57, 1)], (-1))], [1]), ((0, 0, 0), gi_3421, hq_1043, rq_88, [1])])
theorem hd_2904 : con_2904.1 = (yX12_paste, cX12_paste, 7, (some .int)) := rfl
noncomputable def ct_2904 : CTB2 := [(1, 414, 1, con_2226, []), (8, 414, 1, con_2082, [])]
noncomputable def rf_2904 : List (Nat × List POP) := [(17, [(1, (1, 1, 0), 0, 0), (1, (1, 3, 0), 0, 0)]), (52, [(1, (0, 1, 0), 0, 0)]), (110, [(0, (1, 2, 0), 0, 60), (0, (1, 4, 0), 0, 60), (0, (1, 5, 0), 0, 60)]), (139, [(0, (0, 0, 0), 0, 239)]), (178, [(0, (0, 1, 0), 0, 239)])]
noncomputable def rq_89 : RLs := [([(2, (-1)), (5, (-1))], 60), ([(4, (-1)), (5, (-1))], 60), ([(2, (-1)), (5, (-1)), (52, 1)], 0), ([(4, (-1)), (5, (-1)), (53, 1)], 0), ([(56, 1), (57, (-1))], 0), ([(56, (-1)), (57, 1)], 0)]
noncomputable def cu_2904 : List CUT2 := [((113, [lq 0 6 0, lq 1 0 1, lq 2 1 2, lq 3 0 2, lq 4 1 4, lq 5 1 5, lq 6 1 65], [], gi_3424, hq_1044), rq_89, ([(65, (-1))], 121)), ((150, [lq 0 6 0, lq 1 0 1, lq 2 1 2, lq 3 0 2, lq 4 1 4, lq 5 1 5, lq 6 1 65], [], gi_3424, hq_1043), rq_89, ([(65, (-1))], 60))]
theorem ch_2904 : staG tb_X12_paste 3 bt_RX12 [] ct_2904 rf_2904 [77, 85, 95, 103, 117, 138, 154, 170] cu_2904 60 con_2904 = true := by decide +kernel
theorem cc_2904 : cu_2904.all (cutG tb_X12_paste 3 bt_RX12 [] ct_2904 rf_2904 [77, 85, 95, 103, 117, 138, 154, 170] cu_2904 60 con_2904) = true := by decide +kernel
theorem cto_2904 (l : Launch) : CTOK2 l RX12 vwCl gTbl ct_2904 := ct2_cons (vl_2226 l) ck_RX12_414_2226 (ct2_cons (vl_2082 l) ck_RX12_414_2082 (ct2_nil))
theorem vl_2904 (l : Launch) : Vld2 l vwCl gTbl con_2904 := conR_ok3 gT_all (hd_2904) rfl pn_RX12 tk_X12_paste bo_RX12 xo_RX12 (cto_2904 l) ch_2904 (cut_all cc_2904)
/-- RookHustingModel paste -/
noncomputable def gi_3461 : GI := jl_n [gp_993, gp_774, gp_1008]
noncomputable def con_2905 : Con2 := ((yX12_paste, cX12_paste, 7, (some .int)), (2, 45), ([(6, 0, 0), (0, 1, 0), (1, 2, 0), (0, 2, 0), (1, 4, 0), (1, 5, 0)], gi_3313, [ac_1585, ac_1586, ac_1587, ac_807, ac_1588], []), [((0, (-6), 0), gi_3457, hq_1040, [], [1]), ((0, (-6), 0), gi_3461, hq_1040, [], [1]), ((0, (-7), 0), gi_3426, hq_1040, rq_86, [1]), ((0, (-7), 0), gi_3426, hq_1040, rq_87, [1]), ((0, (-7), 0), gi_3427, hq_1040, [([(56, 1), (57, (-1))], 0), ([(56, (-1)), (57, 1)], 0)], [1]), ((0, (-7), 0), gi_3428, hq_1040, [([(56, 1), (57, (-1))], 0), ([(56, (-1)), (57, 1)], 0)], [1]), ((0, (-7), 0), gi_3429, hq_1040, [([(56, 1), (57, (-1))], 0), ([(56, (-1)), (57, 1)], 0)], [1]), ((0, (-8), 0), gi_3431, hq_1040, [([(56, 1), (57, (-1))], (-1))], [1]), ((0, (-8), 0), gi_3430, hq_1040, [([(56, (-1)), (57, 1)], (-1))], [1]), ((0, 0, 0), gi_3421, hq_1043, rq_88, [1])])
theorem hd_2905 : con_2905.1 = (yX12_paste, cX12_paste, 7, (some .int)) := rfl
noncomputable def rf_2905 : List (Nat × List POP) := [(17, [(1, (1, 1, 0), 0, 0), (1, (1, 3, 0), 0, 0)]), (52, [(1, (0, 1, 0), 0, 0)]), (110, [(0, (1, 2, 0), 0, 60), (0, (1, 4, 0), 0, 60), (0, (1, 5, 0), 0, 60)]), (139, [(0, (0, 0, 0), 0, 239)]), (178, [(0, (0, 1, 0), 0, 239)])]
noncomputable def cu_2905 : List CUT2 := [((113, [lq 0 6 0, lq 1 0 1, lq 2 1 2, lq 3 0 2, lq 4 1 4, lq 5 1 5, lq 6 1 65], [], gi_3424, hq_1044), rq_89, ([(65, (-1))], 121)), ((150, [lq 0 6 0, lq 1 0 1, lq 2 1 2, lq 3 0 2, lq 4 1 4, lq 5 1 5, lq 6 1 65], [], gi_3424, hq_1043), rq_89, ([(65, (-1))], 60))]
theorem ch_2905 : staG tb_X12_paste 3 bt_RX12 [] ct_2904 rf_2905 [77, 85, 95, 103, 117, 138, 154, 170] cu_2905 60 con_2905 = true := by decide +kernel
theorem cc_2905 : cu_2905.all (cutG tb_X12_paste 3 bt_RX12 [] ct_2904 rf_2905 [77, 85, 95, 103, 117, 138, 154, 170] cu_2905 60 con_2905) = true := by decide +kernel
theorem vl_2905 (l : Launch) : Vld2 l vwCl gTbl con_2905 := conR_ok3 gT_all (hd_2905) rfl pn_RX12 tk_X12_paste bo_RX12 xo_RX12 (cto_2904 l) ch_2905 (cut_all cc_2905)
/-- RookHusting paste -/
noncomputable def gi_3462 : GI := jl_n [gp_968, gp_1020]
noncomputable def gi_3463 : GI := jl_n [gp_973, gp_1020]
noncomputable def gi_3464 : GI := jl_n [gp_975, gp_1020]
noncomputable def gi_3465 : GI := jl_n [gp_977, gp_1020]
noncomputable def gi_3466 : GI := jl_n [gp_979, gp_1020]
noncomputable def gi_3467 : GI := jl_n [gp_982, gp_1020]
noncomputable def rq_90 : RLs := [([(2, (-1)), (5, (-1)), (26, 1)], 0), ([(4, (-1)), (5, (-1)), (26, 1)], 0)]
noncomputable def con_2906 : Con2 := ((yX11_paste, cX11_paste, 6, (some .int)), (1, 23), ([(6, 0, 0), (0, 1, 0), (1, 2, 0), (0, 1, 0), (1, 4, 0), (1, 5, 0)], gi_3286, hc_264, []), [((0, (-6), 0), gi_3453, hq_1039, [], [1]), ((0, (-7), 0), gi_3462, hq_1039, [([(2, 1), (5, 1), (26, (-1))], (-1))], [1]), ((0, (-7), 0), gi_3463, hq_1039, [([(4, 1), (5, 1), (26, (-1))], (-1))], [1]), ((0, (-7), 0), gi_3464, hq_1039, [], [1]), ((0, (-7), 0), gi_3465, hq_1039, [], [1]), ((0, (-7), 0), gi_3466, hq_1039, [], [1]), ((0, 0, 0), gi_3467, hq_1042, rq_90, [1])])
theorem hd_2906 : con_2906.1 = (yX11_paste, cX11_paste, 6, (some .int)) := rfl
noncomputable def ct_2906 : CTB2 := [(1, 414, 1, con_1384, []), (8, 414, 1, con_1384, []), (22, 420, 0, con_1385, [1, 2]), (33, 420, 0, con_1385, [1, 2]), (74, 433, 0, con_2899, [1, 2]), (89, 433, 0, con_2865, [1, 2])]
noncomputable def rf_2906 : List (Nat × List POP) := [(60, [(1, (0, 1, 0), 0, 0)]), (98, [(0, (1, 2, 0), 0, 60), (0, (1, 4, 0), 0, 60), (0, (1, 5, 0), 0, 60)])]
noncomputable def cu_2906 : List CUT2 := []
theorem ch_2906 : staG tb_X11_paste 2 bt_RX11 [] ct_2906 rf_2906 [110, 124] cu_2906 63 con_2906 = true := by decide +kernel
theorem cto_2906 (l : Launch) : CTOK2 l RX11 vwCl gTbl ct_2906 := ct2_cons (vl_1384 l) ck_RX11_414_1384 (ct2_cons (vl_1384 l) ck_RX11_414_1384 (ct2_cons (vl_1385 l) ck_RX11_420_1385 (ct2_cons (vl_1385 l) ck_RX11_420_1385 (ct2_cons (vl_2899 l) ck_RX11_433_2899 (ct2_cons (vl_2865 l) ck_RX11_433_2865 (ct2_nil))))))
theorem vl_2906 (l : Launch) : Vld2 l vwCl gTbl con_2906 := conR_ok3 gT_all (hd_2906) rfl pn_RX11 tk_X11_paste bo_RX11 xo_RX11 (cto_2906 l) ch_2906 cut_nil
/-- RookHustingModel paste -/
noncomputable def gi_3468 : GI := jl_n [gp_983, gp_1020]
noncomputable def rq_91 : RLs := [([(2, (-1)), (5, (-1)), (52, 1)], 0), ([(4, (-1)), (5, (-1)), (52, 1)], 0)]
noncomputable def con_2907 : Con2 := ((yX12_paste, cX12_paste, 7, (some .int)), (2, 45), ([(6, 0, 0), (0, 1, 0), (1, 2, 0), (0, 1, 0), (1, 4, 0), (1, 5, 0)], gi_3294, [ac_1585, ac_1586, ac_1587, ac_807, ac_1588], []), [((0, (-6), 0), gi_3455, hq_1040, [], [1]), ((0, (-7), 0), gi_3468, hq_1040, [([(2, 1), (5, 1), (52, (-1))], (-1))], [1]), ((0, (-7), 0), gi_3468, hq_1040, [([(4, 1), (5, 1), (52, (-1))], (-1))], [1]), ((0, 0, 0), gi_3468, hq_1043, rq_91, [1])])
theorem hd_2907 : con_2907.1 = (yX12_paste, cX12_paste, 7, (some .int)) := rfl
noncomputable def ct_2907 : CTB2 := [(1, 414, 1, con_2226, []), (8, 414, 1, con_2226, [])]
noncomputable def rf_2907 : List (Nat × List POP) := [(17, [(1, (1, 1, 0), 0, 0), (1, (1, 3, 0), 0, 0)]), (52, [(1, (0, 1, 0), 0, 0)]), (110, [(0, (1, 2, 0), 0, 60), (0, (1, 4, 0), 0, 60), (0, (1, 5, 0), 0, 60)]), (139, [(0, (0, 0, 0), 0, 239)]), (178, [(0, (0, 1, 0), 0, 239)])]
noncomputable def gi_3469 : GI := jl_n [gp_983, jl_m 0 60, gp_538, gp_984]
noncomputable def rq_92 : RLs := [([(2, (-1)), (5, (-1))], 60), ([(4, (-1)), (5, (-1))], 60), ([(2, (-1)), (5, (-1)), (52, 1)], 0), ([(4, (-1)), (5, (-1)), (52, 1)], 0)]
noncomputable def cu_2907 : List CUT2 := [((113, [lq 0 6 0, lq 1 0 1, lq 2 1 2, lq 3 0 1, lq 4 1 4, lq 5 1 5, lq 6 1 65], [], gi_3469, hq_1044), rq_92, ([(65, (-1))], 121)), ((150, [lq 0 6 0, lq 1 0 1, lq 2 1 2, lq 3 0 1, lq 4 1 4, lq 5 1 5, lq 6 1 65], [], gi_3469, hq_1043), rq_92, ([(65, (-1))], 60))]
theorem ch_2907 : staG tb_X12_paste 3 bt_RX12 [] ct_2907 rf_2907 [77, 85, 95, 103, 117, 138, 154, 170] cu_2907 60 con_2907 = true := by decide +kernel
theorem cc_2907 : cu_2907.all (cutG tb_X12_paste 3 bt_RX12 [] ct_2907 rf_2907 [77, 85, 95, 103, 117, 138, 154, 170] cu_2907 60 con_2907) = true := by decide +kernel
theorem cto_2907 (l : Launch) : CTOK2 l RX12 vwCl gTbl ct_2907 := ct2_cons (vl_2226 l) ck_RX12_414_2226 (ct2_cons (vl_2226 l) ck_RX12_414_2226 (ct2_nil))
theorem vl_2907 (l : Launch) : Vld2 l vwCl gTbl con_2907 := conR_ok3 gT_all (hd_2907) rfl pn_RX12 tk_X12_paste bo_RX12 xo_RX12 (cto_2907 l) ch_2907 (cut_all cc_2907)
/-- RookHustingModel paste -/
noncomputable def gi_3470 : GI := jl_n [gp_985, gp_1018]
noncomputable def gi_3471 : GI := jl_n [gp_986, gp_1020]
noncomputable def gi_3472 : GI := jl_n [gp_987, gp_1020]
noncomputable def con_2908 : Con2 := ((yX12_paste, cX12_paste, 7, (some .int)), (2, 45), ([(6, 0, 0), (0, 1, 0), (1, 2, 0), (0, 1, 0), (1, 4, 0), (1, 5, 0)], gi_3298, [ac_1585, ac_1586, ac_1587, ac_807, ac_1588], []), [((0, (-6), 0), gi_3470, hq_1040, [], [1]), ((0, (-7), 0), gi_3471, hq_1040, [], [1]), ((0, (-7), 0), gi_3472, hq_1040, [], [1])])
theorem hd_2908 : con_2908.1 = (yX12_paste, cX12_paste, 7, (some .int)) := rfl
noncomputable def rf_2908 : List (Nat × List POP) := [(17, [(1, (1, 1, 0), 0, 0), (1, (1, 3, 0), 0, 0)]), (52, [(1, (0, 1, 0), 0, 0)]), (110, [(0, (1, 2, 0), 0, 60), (0, (1, 4, 0), 0, 60), (0, (1, 5, 0), 0, 60)]), (139, [(0, (0, 0, 0), 0, 239)]), (178, [(0, (0, 1, 0), 0, 239)])]
noncomputable def cu_2908 : List CUT2 := []
theorem ch_2908 : staG tb_X12_paste 3 bt_RX12 [] ct_2907 rf_2908 [77, 85, 95, 103, 117, 138, 154, 170] cu_2908 37 con_2908 = true := by decide +kernel
theorem vl_2908 (l : Launch) : Vld2 l vwCl gTbl con_2908 := conR_ok3 gT_all (hd_2908) rfl pn_RX12 tk_X12_paste bo_RX12 xo_RX12 (cto_2907 l) ch_2908 cut_nil
/-- RookHustingModel paste -/
noncomputable def gi_3473 : GI := jl_n [gp_989, gp_1018]
noncomputable def gi_3474 : GI := jl_n [gp_989, gp_1020]
noncomputable def con_2909 : Con2 := ((yX12_paste, cX12_paste, 7, (some .int)), (2, 45), ([(6, 0, 0), (0, 1, 0), (1, 2, 0), (0, 1, 0), (1, 4, 0), (1, 5, 0)], gi_3302, [ac_1585, ac_1586, ac_1587, ac_807, ac_1588], []), [((0, (-6), 0), gi_3473, hq_1040, [], [1]), ((0, (-7), 0), gi_3474, hq_1040, [], [1])])
theorem hd_2909 : con_2909.1 = (yX12_paste, cX12_paste, 7, (some .int)) := rfl
noncomputable def rf_2909 : List (Nat × List POP) := [(17, [(1, (1, 1, 0), 0, 0), (1, (1, 3, 0), 0, 0)]), (52, [(1, (0, 1, 0), 0, 0)]), (110, [(0, (1, 2, 0), 0, 60), (0, (1, 4, 0), 0, 60), (0, (1, 5, 0), 0, 60)]), (139, [(0, (0, 0, 0), 0, 239)]), (178, [(0, (0, 1, 0), 0, 239)])]
noncomputable def cu_2909 : List CUT2 := []
theorem ch_2909 : staG tb_X12_paste 3 bt_RX12 [] ct_2907 rf_2909 [77, 85, 95, 103, 117, 138, 154, 170] cu_2909 35 con_2909 = true := by decide +kernel
theorem vl_2909 (l : Launch) : Vld2 l vwCl gTbl con_2909 := conR_ok3 gT_all (hd_2909) rfl pn_RX12 tk_X12_paste bo_RX12 xo_RX12 (cto_2907 l) ch_2909 cut_nil
/-- RookHustingModel paste -/
noncomputable def gi_3475 : GI := jl_n [gp_990, gp_1018]
noncomputable def gi_3476 : GI := jl_n [gp_990, gp_1020]
noncomputable def con_2910 : Con2 := ((yX12_paste, cX12_paste, 7, (some .int)), (2, 45), ([(6, 0, 0), (0, 1, 0), (1, 2, 0), (0, 1, 0), (1, 4, 0), (1, 5, 0)], gi_3305, [ac_1585, ac_1586, ac_1587, ac_807, ac_1588], []), [((0, (-6), 0), gi_3475, hq_1040, [], [1]), ((0, (-7), 0), gi_3476, hq_1040, [], [1])])
theorem hd_2910 : con_2910.1 = (yX12_paste, cX12_paste, 7, (some .int)) := rfl
noncomputable def rf_2910 : List (Nat × List POP) := [(17, [(1, (1, 1, 0), 0, 0), (1, (1, 3, 0), 0, 0)]), (52, [(1, (0, 1, 0), 0, 0)]), (110, [(0, (1, 2, 0), 0, 60), (0, (1, 4, 0), 0, 60), (0, (1, 5, 0), 0, 60)]), (139, [(0, (0, 0, 0), 0, 239)]), (178, [(0, (0, 1, 0), 0, 239)])]
noncomputable def cu_2910 : List CUT2 := []
theorem ch_2910 : staG tb_X12_paste 3 bt_RX12 [] ct_2907 rf_2910 [77, 85, 95, 103, 117, 138, 154, 170] cu_2910 33 con_2910 = true := by decide +kernel
theorem vl_2910 (l : Launch) : Vld2 l vwCl gTbl con_2910 := conR_ok3 gT_all (hd_2910) rfl pn_RX12 tk_X12_paste bo_RX12 xo_RX12 (cto_2907 l) ch_2910 cut_nil
/-- RookHustingModel paste -/
noncomputable def gi_3477 : GI := jl_n [gp_991, gp_1018]
noncomputable def gi_3478 : GI := jl_n [gp_991, gp_1020]
noncomputable def con_2911 : Con2 := ((yX12_paste, cX12_paste, 7, (some .int)), (2, 45), ([(6, 0, 0), (0, 1, 0), (1, 2, 0), (0, 1, 0), (1, 4, 0), (1, 5, 0)], gi_3308, [ac_1585, ac_1586, ac_1587, ac_807, ac_1588], []), [((0, (-6), 0), gi_3477, hq_1040, [], [1]), ((0, (-7), 0), gi_3478, hq_1040, [([(2, 1), (5, 1), (52, (-1))], (-1))], [1]), ((0, (-7), 0), gi_3478, hq_1040, [([(4, 1), (5, 1), (52, (-1))], (-1))], [1]), ((0, 0, 0), gi_3468, hq_1043, rq_91, [1])])
theorem hd_2911 : con_2911.1 = (yX12_paste, cX12_paste, 7, (some .int)) := rfl
noncomputable def rf_2911 : List (Nat × List POP) := [(17, [(1, (1, 1, 0), 0, 0), (1, (1, 3, 0), 0, 0)]), (52, [(1, (0, 1, 0), 0, 0)]), (110, [(0, (1, 2, 0), 0, 60), (0, (1, 4, 0), 0, 60), (0, (1, 5, 0), 0, 60)]), (139, [(0, (0, 0, 0), 0, 239)]), (178, [(0, (0, 1, 0), 0, 239)])]
noncomputable def cu_2911 : List CUT2 := [((113, [lq 0 6 0, lq 1 0 1, lq 2 1 2, lq 3 0 1, lq 4 1 4, lq 5 1 5, lq 6 1 65], [], gi_3469, hq_1044), rq_92, ([(65, (-1))], 121)), ((150, [lq 0 6 0, lq 1 0 1, lq 2 1 2, lq 3 0 1, lq 4 1 4, lq 5 1 5, lq 6 1 65], [], gi_3469, hq_1043), rq_92, ([(65, (-1))], 60))]
theorem ch_2911 : staG tb_X12_paste 3 bt_RX12 [] ct_2907 rf_2911 [77, 85, 95, 103, 117, 138, 154, 170] cu_2911 60 con_2911 = true := by decide +kernel
theorem cc_2911 : cu_2911.all (cutG tb_X12_paste 3 bt_RX12 [] ct_2907 rf_2911 [77, 85, 95, 103, 117, 138, 154, 170] cu_2911 60 con_2911) = true := by decide +kernel
theorem vl_2911 (l : Launch) : Vld2 l vwCl gTbl con_2911 := conR_ok3 gT_all (hd_2911) rfl pn_RX12 tk_X12_paste bo_RX12 xo_RX12 (cto_2907 l) ch_2911 (cut_all cc_2911)
/-- RookHustingModel paste -/
noncomputable def gi_3479 : GI := jl_n [gp_992, gp_1018]
noncomputable def con_2912 : Con2 := ((yX12_paste, cX12_paste, 7, (some .int)), (2, 45), ([(6, 0, 0), (0, 1, 0), (1, 2, 0), (0, 1, 0), (1, 4, 0), (1, 5, 0)], gi_3311, [ac_1585, ac_1586, ac_1587, ac_807, ac_1588], []), [((0, (-6), 0), gi_3479, hq_1040, [], [1]), ((0, (-7), 0), gi_3478, hq_1040, [([(2, 1), (5, 1), (52, (-1))], (-1))], [1]), ((0, (-7), 0), gi_3478, hq_1040, [([(4, 1), (5, 1), (52, (-1))], (-1))], [1]), ((0, (-7), 0), gi_3474, hq_1040, [], [1]), ((0, 0, 0), gi_3468, hq_1043, rq_91, [1])])
theorem hd_2912 : con_2912.1 = (yX12_paste, cX12_paste, 7, (some .int)) := rfl
noncomputable def rf_2912 : List (Nat × List POP) := [(17, [(1, (1, 1, 0), 0, 0), (1, (1, 3, 0), 0, 0)]), (52, [(1, (0, 1, 0), 0, 0)]), (110, [(0, (1, 2, 0), 0, 60), (0, (1, 4, 0), 0, 60), (0, (1, 5, 0), 0, 60)]), (139, [(0, (0, 0, 0), 0, 239)]), (178, [(0, (0, 1, 0), 0, 239)])]
noncomputable def cu_2912 : List CUT2 := [((113, [lq 0 6 0, lq 1 0 1, lq 2 1 2, lq 3 0 1, lq 4 1 4, lq 5 1 5, lq 6 1 65], [], gi_3469, hq_1044), rq_92, ([(65, (-1))], 121)), ((150, [lq 0 6 0, lq 1 0 1, lq 2 1 2, lq 3 0 1, lq 4 1 4, lq 5 1 5, lq 6 1 65], [], gi_3469, hq_1043), rq_92, ([(65, (-1))], 60))]
theorem ch_2912 : staG tb_X12_paste 3 bt_RX12 [] ct_2907 rf_2912 [77, 85, 95, 103, 117, 138, 154, 170] cu_2912 60 con_2912 = true := by decide +kernel
theorem cc_2912 : cu_2912.all (cutG tb_X12_paste 3 bt_RX12 [] ct_2907 rf_2912 [77, 85, 95, 103, 117, 138, 154, 170] cu_2912 60 con_2912) = true := by decide +kernel
theorem vl_2912 (l : Launch) : Vld2 l vwCl gTbl con_2912 := conR_ok3 gT_all (hd_2912) rfl pn_RX12 tk_X12_paste bo_RX12 xo_RX12 (cto_2907 l) ch_2912 (cut_all cc_2912)
/-- RookHustingModel paste -/
noncomputable def gi_3480 : GI := jl_n [gp_994, gp_1020]
noncomputable def con_2913 : Con2 := ((yX12_paste, cX12_paste, 7, (some .int)), (2, 45), ([(6, 0, 0), (0, 1, 0), (1, 2, 0), (0, 1, 0), (1, 4, 0), (1, 5, 0)], gi_3313, [ac_1585, ac_1586, ac_1587, ac_807, ac_1588], []), [((0, (-6), 0), gi_3457, hq_1040, [], [1]), ((0, (-7), 0), gi_3478, hq_1040, [([(2, 1), (5, 1), (52, (-1))], (-1))], [1]), ((0, (-7), 0), gi_3478, hq_1040, [([(4, 1), (5, 1), (52, (-1))], (-1))], [1]), ((0, (-7), 0), gi_3476, hq_1040, [], [1]), ((0, (-7), 0), gi_3480, hq_1040, [], [1]), ((0, (-7), 0), gi_3472, hq_1040, [], [1]), ((0, 0, 0), gi_3468, hq_1043, rq_91, [1])])
theorem hd_2913 : con_2913.1 = (yX12_paste, cX12_paste, 7, (some .int)) := rfl
noncomputable def rf_2913 : List (Nat × List POP) := [(17, [(1, (1, 1, 0), 0, 0), (1, (1, 3, 0), 0, 0)]), (52, [(1, (0, 1, 0), 0, 0)]), (110, [(0, (1, 2, 0), 0, 60), (0, (1, 4, 0), 0, 60), (0, (1, 5, 0), 0, 60)]), (139, [(0, (0, 0, 0), 0, 239)]), (178, [(0, (0, 1, 0), 0, 239)])]
noncomputable def cu_2913 : List CUT2 := [((113, [lq 0 6 0, lq 1 0 1, lq 2 1 2, lq 3 0 1, lq 4 1 4, lq 5 1 5, lq 6 1 65], [], gi_3469, hq_1044), rq_92, ([(65, (-1))], 121)), ((150, [lq 0 6 0, lq 1 0 1, lq 2 1 2, lq 3 0 1, lq 4 1 4, lq 5 1 5, lq 6 1 65], [], gi_3469, hq_1043), rq_92, ([(65, (-1))], 60))]
theorem ch_2913 : staG tb_X12_paste 3 bt_RX12 [] ct_2907 rf_2913 [77, 85, 95, 103, 117, 138, 154, 170] cu_2913 60 con_2913 = true := by decide +kernel
theorem cc_2913 : cu_2913.all (cutG tb_X12_paste 3 bt_RX12 [] ct_2907 rf_2913 [77, 85, 95, 103, 117, 138, 154, 170] cu_2913 60 con_2913) = true := by decide +kernel
theorem vl_2913 (l : Launch) : Vld2 l vwCl gTbl con_2913 := conR_ok3 gT_all (hd_2913) rfl pn_RX12 tk_X12_paste bo_RX12 xo_RX12 (cto_2907 l) ch_2913 (cut_all cc_2913)
/-- RookHusting paste -/
noncomputable def gi_3481 : GI := jl_n [gp_963, jl_k 0 0, gp_1019]
noncomputable def gi_3482 : GI := jl_n [gp_968, gp_1021]
noncomputable def rq_93 : RLs := [([(29, (-1)), (30, 1)], 0), ([(29, 1), (30, (-1))], 0), ([(2, 1), (5, 1), (26, (-1))], (-1))]
noncomputable def gi_3483 : GI := jl_n [gp_973, gp_1021]
noncomputable def rq_94 : RLs := [([(29, (-1)), (30, 1)], 0), ([(29, 1), (30, (-1))], 0), ([(4, 1), (5, 1), (25, (-1))], (-1))]
noncomputable def gi_3484 : GI := jl_n [gp_975, gp_1021]
noncomputable def gi_3485 : GI := jl_n [gp_977, gp_1021]
noncomputable def gi_3486 : GI := jl_n [gp_979, gp_1021]
noncomputable def gi_3487 : GI := jl_n [gp_963, gp_1022, gp_998, gp_1023]
noncomputable def gi_3488 : GI := jl_n [gp_963, gp_1022, gp_999, gp_1023]
noncomputable def gi_3489 : GI := jl_n [gp_982, gp_1021]
noncomputable def rq_95 : RLs := [([(29, (-1)), (30, 1)], 0), ([(29, 1), (30, (-1))], 0), ([(2, (-1)), (5, (-1)), (26, 1)], 0), ([(4, (-1)), (5, (-1)), (25, 1)], 0)]
noncomputable def con_2914 : Con2 := ((yX11_paste, cX11_paste, 6, (some .int)), (1, 23), ([(6, 0, 0), (0, 1, 0), (1, 2, 0), (0, 0, 0), (1, 4, 0), (1, 5, 0)], gi_3286, hc_264, []), [((0, (-6), 0), gi_3453, hq_1039, [], [1]), ((0, (-6), 0), gi_3481, hq_1039, [], [1]), ((0, (-7), 0), gi_3482, hq_1039, rq_93, [1]), ((0, (-7), 0), gi_3483, hq_1039, rq_94, [1]), ((0, (-7), 0), gi_3484, hq_1039, [([(29, (-1)), (30, 1)], 0), ([(29, 1), (30, (-1))], 0)], [1]), ((0, (-7), 0), gi_3485, hq_1039, [([(29, (-1)), (30, 1)], 0), ([(29, 1), (30, (-1))], 0)], [1]), ((0, (-7), 0), gi_3486, hq_1039, [([(29, (-1)), (30, 1)], 0), ([(29, 1), (30, (-1))], 0)], [1]), ((0, (-8), 0), gi_3487, hq_1039, [([(29, (-1)), (30, 1)], (-1))], [1]), ((0, (-8), 0), gi_3488, hq_1039, [([(29, 1), (30, (-1))], (-1))], [1]), ((0, 0, 0), gi_3489, hq_1042, rq_95, [1])])
theorem hd_2914 : con_2914.1 = (yX11_paste, cX11_paste, 6, (some .int)) := rfl
noncomputable def ct_2914 : CTB2 := [(1, 414, 1, con_1384, []), (8, 414, 1, con_1447, []), (22, 420, 0, con_1385, [1, 2]), (33, 420, 0, con_1448, [1, 2]), (74, 433, 0, con_2899, [1, 2]), (89, 433, 0, con_2869, [1, 2])]
noncomputable def rf_2914 : List (Nat × List POP) := [(60, [(1, (0, 1, 0), 0, 0)]), (98, [(0, (1, 2, 0), 0, 60), (0, (1, 4, 0), 0, 60), (0, (1, 5, 0), 0, 60)])]
noncomputable def cu_2914 : List CUT2 := []
theorem ch_2914 : staG tb_X11_paste 2 bt_RX11 [] ct_2914 rf_2914 [110, 124] cu_2914 63 con_2914 = true := by decide +kernel
theorem cto_2914 (l : Launch) : CTOK2 l RX11 vwCl gTbl ct_2914 := ct2_cons (vl_1384 l) ck_RX11_414_1384 (ct2_cons (vl_1447 l) ck_RX11_414_1447 (ct2_cons (vl_1385 l) ck_RX11_420_1385 (ct2_cons (vl_1448 l) ck_RX11_420_1448 (ct2_cons (vl_2899 l) ck_RX11_433_2899 (ct2_cons (vl_2869 l) ck_RX11_433_2869 (ct2_nil))))))
theorem vl_2914 (l : Launch) : Vld2 l vwCl gTbl con_2914 := conR_ok3 gT_all (hd_2914) rfl pn_RX11 tk_X11_paste bo_RX11 xo_RX11 (cto_2914 l) ch_2914 cut_nil
/-- RookHustingModel paste -/
noncomputable def gi_3490 : GI := jl_n [gp_983, jl_k 0 0, gp_1019]
noncomputable def gi_3491 : GI := jl_n [gp_983, gp_1021]
noncomputable def rq_96 : RLs := [([(55, (-1)), (56, 1)], 0), ([(55, 1), (56, (-1))], 0), ([(2, 1), (5, 1), (52, (-1))], (-1))]
noncomputable def rq_97 : RLs := [([(55, (-1)), (56, 1)], 0), ([(55, 1), (56, (-1))], 0), ([(4, 1), (5, 1), (51, (-1))], (-1))]
noncomputable def gi_3492 : GI := jl_n [gp_983, gp_1022, gp_998, gp_1023]
noncomputable def gi_3493 : GI := jl_n [gp_983, gp_1022, gp_999, gp_1023]
noncomputable def rq_98 : RLs := [([(55, (-1)), (56, 1)], 0), ([(55, 1), (56, (-1))], 0), ([(2, (-1)), (5, (-1)), (52, 1)], 0), ([(4, (-1)), (5, (-1)), (51, 1)], 0)]
noncomputable def con_2915 : Con2 := ((yX12_paste, cX12_paste, 7, (some .int)), (2, 45), ([(6, 0, 0), (0, 1, 0), (1, 2, 0), (0, 0, 0), (1, 4, 0), (1, 5, 0)], gi_3294, [ac_1585, ac_1586, ac_1587, ac_807, ac_1588], []), [((0, (-6), 0), gi_3455, hq_1040, [], [1]), ((0, (-6), 0), gi_3490, hq_1040, [], [1]), ((0, (-7), 0), gi_3491, hq_1040, rq_96, [1]), ((0, (-7), 0), gi_3491, hq_1040, rq_97, [1]), ((0, (-8), 0), gi_3492, hq_1040, [([(55, (-1)), (56, 1)], (-1))], [1]), ((0, (-8), 0), gi_3493, hq_1040, [([(55, 1), (56, (-1))], (-1))], [1]), ((0, 0, 0), gi_3491, hq_1043, rq_98, [1])])
theorem hd_2915 : con_2915.1 = (yX12_paste, cX12_paste, 7, (some .int)) := rfl
noncomputable def ct_2915 : CTB2 := [(1, 414, 1, con_2226, []), (8, 414, 1, con_2370, [])]
noncomputable def rf_2915 : List (Nat × List POP) := [(17, [(1, (1, 1, 0), 0, 0), (1, (1, 3, 0), 0, 0)]), (52, [(1, (0, 1, 0), 0, 0)]), (110, [(0, (1, 2, 0), 0, 60), (0, (1, 4, 0), 0, 60), (0, (1, 5, 0), 0, 60)]), (139, [(0, (0, 0, 0), 0, 239)]), (178, [(0, (0, 1, 0), 0, 239)])]
noncomputable def gi_3494 : GI := jl_n [gp_983, gp_1022, gp_984]
noncomputable def rq_99 : RLs := [([(2, (-1)), (5, (-1))], 60), ([(4, (-1)), (5, (-1))], 60), ([(2, (-1)), (5, (-1)), (52, 1)], 0), ([(4, (-1)), (5, (-1)), (51, 1)], 0), ([(55, (-1)), (56, 1)], 0), ([(55, 1), (56, (-1))], 0)]
noncomputable def cu_2915 : List CUT2 := [((113, [lq 0 6 0, lq 1 0 1, lq 2 1 2, lq 3 0 0, lq 4 1 4, lq 5 1 5, lq 6 1 65], [], gi_3494, hq_1044), rq_99, ([(65, (-1))], 121)), ((150, [lq 0 6 0, lq 1 0 1, lq 2 1 2, lq 3 0 0, lq 4 1 4, lq 5 1 5, lq 6 1 65], [], gi_3494, hq_1043), rq_99, ([(65, (-1))], 60))]
theorem ch_2915 : staG tb_X12_paste 3 bt_RX12 [] ct_2915 rf_2915 [77, 85, 95, 103, 117, 138, 154, 170] cu_2915 60 con_2915 = true := by decide +kernel
theorem cc_2915 : cu_2915.all (cutG tb_X12_paste 3 bt_RX12 [] ct_2915 rf_2915 [77, 85, 95, 103, 117, 138, 154, 170] cu_2915 60 con_2915) = true := by decide +kernel
theorem cto_2915 (l : Launch) : CTOK2 l RX12 vwCl gTbl ct_2915 := ct2_cons (vl_2226 l) ck_RX12_414_2226 (ct2_cons (vl_2370 l) ck_RX12_414_2370 (ct2_nil))
theorem vl_2915 (l : Launch) : Vld2 l vwCl gTbl con_2915 := conR_ok3 gT_all (hd_2915) rfl pn_RX12 tk_X12_paste bo_RX12 xo_RX12 (cto_2915 l) ch_2915 (cut_all cc_2915)
/-- RookHustingModel paste -/
noncomputable def gi_3495 : GI := jl_n [gp_993, jl_k 0 0, gp_1019]
noncomputable def gi_3496 : GI := jl_n [gp_991, gp_1021]
noncomputable def gi_3497 : GI := jl_n [gp_990, gp_1021]
noncomputable def gi_3498 : GI := jl_n [gp_994, gp_1021]
noncomputable def gi_3499 : GI := jl_n [gp_987, gp_1021]
noncomputable def gi_3500 : GI := jl_n [gp_993, gp_1022, gp_998, gp_1023]
noncomputable def gi_3501 : GI := jl_n [gp_993, gp_1022, gp_999, gp_1023]
noncomputable def con_2916 : Con2 := ((yX12_paste, cX12_paste, 7, (some .int)), (2, 45), ([(6, 0, 0), (0, 1, 0), (1, 2, 0), (0, 0, 0), (1, 4, 0), (1, 5, 0)], gi_3313, [ac_1585, ac_1586, ac_1587, ac_807, ac_1588], []), [((0, (-6), 0), gi_3457, hq_1040, [], [1]), ((0, (-6), 0), gi_3495, hq_1040, [], [1]), ((0, (-7), 0), gi_3496, hq_1040, rq_96, [1]), ((0, (-7), 0), gi_3496, hq_1040, rq_97, [1]), ((0, (-7), 0), gi_3497, hq_1040, [([(55, (-1)), (56, 1)], 0), ([(55, 1), (56, (-1))], 0)], [1]), ((0, (-7), 0), gi_3498, hq_1040, [([(55, (-1)), (56, 1)], 0), ([(55, 1), (56, (-1))], 0)], [1]), ((0, (-7), 0), gi_3499, hq_1040, [([(55, (-1)), (56, 1)], 0), ([(55, 1), (56, (-1))], 0)], [1]), ((0, (-8), 0), gi_3500, hq_1040, [([(55, (-1)), (56, 1)], (-1))], [1]), ((0, (-8), 0), gi_3501, hq_1040, [([(55, 1), (56, (-1))], (-1))], [1]), ((0, 0, 0), gi_3491, hq_1043, rq_98, [1])])
theorem hd_2916 : con_2916.1 = (yX12_paste, cX12_paste, 7, (some .int)) := rfl
noncomputable def rf_2916 : List (Nat × List POP) := [(17, [(1, (1, 1, 0), 0, 0), (1, (1, 3, 0), 0, 0)]), (52, [(1, (0, 1, 0), 0, 0)]), (110, [(0, (1, 2, 0), 0, 60), (0, (1, 4, 0), 0, 60), (0, (1, 5, 0), 0, 60)]), (139, [(0, (0, 0, 0), 0, 239)]), (178, [(0, (0, 1, 0), 0, 239)])]
noncomputable def cu_2916 : List CUT2 := [((113, [lq 0 6 0, lq 1 0 1, lq 2 1 2, lq 3 0 0, lq 4 1 4, lq 5 1 5, lq 6 1 65], [], gi_3494, hq_1044), rq_99, ([(65, (-1))], 121)), ((150, [lq 0 6 0, lq 1 0 1, lq 2 1 2, lq 3 0 0, lq 4 1 4, lq 5 1 5, lq 6 1 65], [], gi_3494, hq_1043), rq_99, ([(65, (-1))], 60))]
theorem ch_2916 : staG tb_X12_paste 3 bt_RX12 [] ct_2915 rf_2916 [77, 85, 95, 103, 117, 138, 154, 170] cu_2916 60 con_2916 = true := by decide +kernel
theorem cc_2916 : cu_2916.all (cutG tb_X12_paste 3 bt_RX12 [] ct_2915 rf_2916 [77, 85, 95, 103, 117, 138, 154, 170] cu_2916 60 con_2916) = true := by decide +kernel
theorem vl_2916 (l : Launch) : Vld2 l vwCl gTbl con_2916 := conR_ok3 gT_all (hd_2916) rfl pn_RX12 tk_X12_paste bo_RX12 xo_RX12 (cto_2915 l) ch_2916 (cut_all cc_2916)
/-- RookHusting paste -/
noncomputable def con_2917 : Con2 := ((yX11_paste, cX11_paste, 6, (some .int)), (1, 20), ([(6, 0, 0), (0, 1, 0), (1, 2, 0), (1, 3, 0), (1, 4, 0), (1, 5, 0)], gi_3382, hc_264, []), [((0, (-2), 0), gi_3383, hq_1039, [], [1])])
theorem hd_2917 : con_2917.1 = (yX11_paste, cX11_paste, 6, (some .int)) := rfl
noncomputable def ct_2917 : CTB2 := [(1, 414, 1, con_1384, []), (8, 414, 1, con_1510, [])]
noncomputable def rf_2917 : List (Nat × List POP) := [(60, [(1, (0, 1, 0), 0, 0)]), (98, [(0, (1, 2, 0), 0, 60), (0, (1, 4, 0), 0, 60), (0, (1, 5, 0), 0, 60)])]
noncomputable def cu_2917 : List CUT2 := []
theorem ch_2917 : staG tb_X11_paste 2 bt_RX11 [] ct_2917 rf_2917 [110, 124] cu_2917 10 con_2917 = true := by decide +kernel
theorem cto_2917 (l : Launch) : CTOK2 l RX11 vwCl gTbl ct_2917 := ct2_cons (vl_1384 l) ck_RX11_414_1384 (ct2_cons (vl_1510 l) ck_RX11_414_1510 (ct2_nil))
theorem vl_2917 (l : Launch) : Vld2 l vwCl gTbl con_2917 := conR_ok3 gT_all (hd_2917) rfl pn_RX11 tk_X11_paste bo_RX11 xo_RX11 (cto_2917 l) ch_2917 cut_nil
/-- RookHustingModel paste -/
noncomputable def con_2918 : Con2 := ((yX12_paste, cX12_paste, 7, (some .int)), (2, 45), ([(6, 0, 0), (0, 1, 0), (1, 2, 0), (1, 3, 0), (1, 4, 0), (1, 5, 0)], gi_3384, [ac_1585, ac_1586, ac_1587, ac_807, ac_1588], []), [((0, (-2), 0), gi_3385, hq_1040, [], [1])])
theorem hd_2918 : con_2918.1 = (yX12_paste, cX12_paste, 7, (some .int)) := rfl
noncomputable def ct_2918 : CTB2 := [(1, 414, 1, con_2226, []), (8, 414, 1, con_2514, [])]
noncomputable def rf_2918 : List (Nat × List POP) := [(17, [(1, (1, 1, 0), 0, 0), (1, (1, 3, 0), 0, 0)]), (52, [(1, (0, 1, 0), 0, 0)]), (110, [(0, (1, 2, 0), 0, 60), (0, (1, 4, 0), 0, 60), (0, (1, 5, 0), 0, 60)]), (139, [(0, (0, 0, 0), 0, 239)]), (178, [(0, (0, 1, 0), 0, 239)])]
noncomputable def cu_2918 : List CUT2 := []
theorem ch_2918 : staG tb_X12_paste 3 bt_RX12 [] ct_2918 rf_2918 [77, 85, 95, 103, 117, 138, 154, 170] cu_2918 10 con_2918 = true := by decide +kernel
theorem cto_2918 (l : Launch) : CTOK2 l RX12 vwCl gTbl ct_2918 := ct2_cons (vl_2226 l) ck_RX12_414_2226 (ct2_cons (vl_2514 l) ck_RX12_414_2514 (ct2_nil))
theorem vl_2918 (l : Launch) : Vld2 l vwCl gTbl con_2918 := conR_ok3 gT_all (hd_2918) rfl pn_RX12 tk_X12_paste bo_RX12 xo_RX12 (cto_2918 l) ch_2918 cut_nil
/-- RookHusting paste -/
noncomputable def con_2919 : Con2 := ((yX11_paste, cX11_paste, 6, (some .int)), (1, 20), ([(6, 0, 0), (0, 0, 0), (1, 2, 0), (1, 3, 0), (1, 4, 0), (1, 5, 0)], gi_3275, hc_264, []), [((0, (-2), 0), gi_3276, hq_1039, [], [1])])
theorem hd_2919 : con_2919.1 = (yX11_paste, cX11_paste, 6, (some .int)) := rfl
noncomputable def ct_2919 : CTB2 := [(1, 414, 1, con_1447, []), (8, 414, 1, con_1253, [])]
noncomputable def rf_2919 : List (Nat × List POP) := [(60, [(1, (0, 1, 0), 0, 0)]), (98, [(0, (1, 2, 0), 0, 60), (0, (1, 4, 0), 0, 60), (0, (1, 5, 0), 0, 60)])]
noncomputable def cu_2919 : List CUT2 := []
theorem ch_2919 : staG tb_X11_paste 2 bt_RX11 [] ct_2919 rf_2919 [110, 124] cu_2919 10 con_2919 = true := by decide +kernel
theorem cto_2919 (l : Launch) : CTOK2 l RX11 vwCl gTbl ct_2919 := ct2_cons (vl_1447 l) ck_RX11_414_1447 (ct2_cons (vl_1253 l) ck_RX11_414_1253 (ct2_nil))
theorem vl_2919 (l : Launch) : Vld2 l vwCl gTbl con_2919 := conR_ok3 gT_all (hd_2919) rfl pn_RX11 tk_X11_paste bo_RX11 xo_RX11 (cto_2919 l) ch_2919 cut_nil
/-- RookHustingModel paste -/
noncomputable def con_2920 : Con2 := ((yX12_paste, cX12_paste, 7, (some .int)), (2, 45), ([(6, 0, 0), (0, 0, 0), (1, 2, 0), (1, 3, 0), (1, 4, 0), (1, 5, 0)], gi_3277, [ac_1585, ac_1586, ac_1587, ac_807, ac_1588], []), [((0, (-2), 0), gi_3278, hq_1040, [], [1])])
theorem hd_2920 : con_2920.1 = (yX12_paste, cX12_paste, 7, (some .int)) := rfl
noncomputable def ct_2920 : CTB2 := [(1, 414, 1, con_2370, []), (8, 414, 1, con_1927, [])]
noncomputable def rf_2920 : List (Nat × List POP) := [(17, [(1, (1, 1, 0), 0, 0), (1, (1, 3, 0), 0, 0)]), (52, [(1, (0, 1, 0), 0, 0)]), (110, [(0, (1, 2, 0), 0, 60), (0, (1, 4, 0), 0, 60), (0, (1, 5, 0), 0, 60)]), (139, [(0, (0, 0, 0), 0, 239)]), (178, [(0, (0, 1, 0), 0, 239)])]
noncomputable def cu_2920 : List CUT2 := []
theorem ch_2920 : staG tb_X12_paste 3 bt_RX12 [] ct_2920 rf_2920 [77, 85, 95, 103, 117, 138, 154, 170] cu_2920 10 con_2920 = true := by decide +kernel
theorem cto_2920 (l : Launch) : CTOK2 l RX12 vwCl gTbl ct_2920 := ct2_cons (vl_2370 l) ck_RX12_414_2370 (ct2_cons (vl_1927 l) ck_RX12_414_1927 (ct2_nil))
theorem vl_2920 (l : Launch) : Vld2 l vwCl gTbl con_2920 := conR_ok3 gT_all (hd_2920) rfl pn_RX12 tk_X12_paste bo_RX12 xo_RX12 (cto_2920 l) ch_2920 cut_nil
/-- RookHusting$Slots holds -/
noncomputable def con_2921 : Con2 := ((yX8_holds, cX8_holds, 4, (some .boolean)), (0, 0), ([(6, 0, 0), (0, 0, 0), (1, 2, 0), (1, 3, 0)], gi_3279, [.inl (8, [(8, 4, 0), (8, 5, 0), (6, 1, 0)]), ac_1553], []), [((0, 0, 0), gi_3280, hq_1041, [], [1]), ((0, 0, 0), gi_3281, hq_1041, [([(2, 1), (3, 1), (7, (-1))], (-1))], [1]), ((0, 0, 0), gi_3282, hq_1041, [], [1]), ((0, 1, 0), gi_3360, hq_1041, rq_44, [1])])
theorem hd_2921 : con_2921.1 = (yX8_holds, cX8_holds, 4, (some .boolean)) := rfl
noncomputable def cu_2921 : List CUT2 := []
theorem ch_2921 : staG tb_X8_holds 2 bt_RX8 [] ct_1253 [] [12, 20] cu_2921 20 con_2921 = true := by decide +kernel
theorem vl_2921 (l : Launch) : Vld2 l vwCl gTbl con_2921 := conR_ok3 gT_all (hd_2921) rfl pn_RX8 tk_X8_holds bo_RX8 xo_RX8 (cto_1253 l) ch_2921 cut_nil
/-- RookHusting paste -/
noncomputable def gi_3502 : GI := jl_n [gp_963, gp_1025]
noncomputable def gi_3503 : GI := jl_n [gp_963, gp_538, gp_964]
noncomputable def rq_100 : RLs := [([(29, 1), (32, (-1))], 0), ([(29, (-1)), (32, 1)], 0), ([(2, 1), (5, 1), (25, (-1))], (-1))]
noncomputable def rq_101 : RLs := [([(29, 1), (32, (-1))], 0), ([(29, (-1)), (32, 1)], 0), ([(4, 1), (5, 1), (28, (-1))], (-1))]
noncomputable def rq_102 : RLs := [([(29, 1), (32, (-1))], 0), ([(29, (-1)), (32, 1)], 0), ([(2, (-1)), (5, (-1)), (25, 1)], 0), ([(4, (-1)), (5, (-1)), (28, 1)], 0)]
noncomputable def con_2922 : Con2 := ((yX11_paste, cX11_paste, 6, (some .int)), (1, 23), ([(6, 0, 0), (0, 0, 0), (1, 2, 0), (0, 3, 0), (1, 4, 0), (1, 5, 0)], gi_3286, hc_264, []), [((0, (-6), 0), gi_3502, hq_1039, [], [1]), ((0, (-6), 0), gi_3503, hq_1039, [], [1]), ((0, (-7), 0), gi_3362, hq_1039, rq_100, [1]), ((0, (-7), 0), gi_3363, hq_1039, rq_101, [1]), ((0, (-7), 0), gi_3364, hq_1039, [([(29, 1), (32, (-1))], 0), ([(29, (-1)), (32, 1)], 0)], [1]), ((0, (-7), 0), gi_3365, hq_1039, [([(29, 1), (32, (-1))], 0), ([(29, (-1)), (32, 1)], 0)], [1]), ((0, (-7), 0), gi_3366, hq_1039, [([(29, 1), (32, (-1))], 0), ([(29, (-1)), (32, 1)], 0)], [1]), ((0, (-8), 0), gi_3368, hq_1039, [([(29, 1), (32, (-1))], (-1))], [1]), ((0, (-8), 0), gi_3367, hq_1039, [([(29, (-1)), (32, 1)], (-1))], [1]), ((0, 0, 0), gi_3369, hq_1042, rq_102, [1])])
theorem hd_2922 : con_2922.1 = (yX11_paste, cX11_paste, 6, (some .int)) := rfl
theorem ck_RX11_433_2921 : COK2 RX11 vwCl gTbl 433 0 con_2921 := ⟨wd_1393, wd_131, mh_X8_holds, .inr (.inr ⟨rfl, wd_1390, wd_1391, wd_1392, ⟨_, rfl, pd_X8_holds⟩, 8, _, TX8, 3, rfl, rfl⟩)⟩
noncomputable def ct_2922 : CTB2 := [(1, 414, 1, con_1447, []), (8, 414, 1, con_1255, []), (22, 420, 0, con_1448, [1, 2]), (33, 420, 0, con_1256, [1, 2]), (74, 433, 0, con_2921, [1, 2]), (89, 433, 0, con_2852, [1, 2])]
noncomputable def rf_2922 : List (Nat × List POP) := [(60, [(1, (0, 1, 0), 0, 0)]), (98, [(0, (1, 2, 0), 0, 60), (0, (1, 4, 0), 0, 60), (0, (1, 5, 0), 0, 60)])]
noncomputable def cu_2922 : List CUT2 := []
theorem ch_2922 : staG tb_X11_paste 2 bt_RX11 [] ct_2922 rf_2922 [110, 124] cu_2922 63 con_2922 = true := by decide +kernel
theorem cto_2922 (l : Launch) : CTOK2 l RX11 vwCl gTbl ct_2922 := ct2_cons (vl_1447 l) ck_RX11_414_1447 (ct2_cons (vl_1255 l) ck_RX11_414_1255 (ct2_cons (vl_1448 l) ck_RX11_420_1448 (ct2_cons (vl_1256 l) ck_RX11_420_1256 (ct2_cons (vl_2921 l) ck_RX11_433_2921 (ct2_cons (vl_2852 l) ck_RX11_433_2852 (ct2_nil))))))
theorem vl_2922 (l : Launch) : Vld2 l vwCl gTbl con_2922 := conR_ok3 gT_all (hd_2922) rfl pn_RX11 tk_X11_paste bo_RX11 xo_RX11 (cto_2922 l) ch_2922 cut_nil
/-- RookHustingModel paste -/
noncomputable def gi_3504 : GI := jl_n [gp_983, gp_1025]
noncomputable def gi_3505 : GI := jl_n [gp_983, gp_538, gp_964]
noncomputable def rq_103 : RLs := [([(55, 1), (58, (-1))], 0), ([(55, (-1)), (58, 1)], 0), ([(2, 1), (5, 1), (51, (-1))], (-1))]
noncomputable def rq_104 : RLs := [([(55, 1), (58, (-1))], 0), ([(55, (-1)), (58, 1)], 0), ([(4, 1), (5, 1), (54, (-1))], (-1))]
noncomputable def rq_105 : RLs := [([(55, 1), (58, (-1))], 0), ([(55, (-1)), (58, 1)], 0), ([(2, (-1)), (5, (-1)), (51, 1)], 0), ([(4, (-1)), (5, (-1)), (54, 1)], 0)]
noncomputable def con_2923 : Con2 := ((yX12_paste, cX12_paste, 7, (some .int)), (2, 45), ([(6, 0, 0), (0, 0, 0), (1, 2, 0), (0, 3, 0), (1, 4, 0), (1, 5, 0)], gi_3294, [ac_1585, ac_1586, ac_1587, ac_807, ac_1588], []), [((0, (-6), 0), gi_3504, hq_1040, [], [1]), ((0, (-6), 0), gi_3505, hq_1040, [], [1]), ((0, (-7), 0), gi_3371, hq_1040, rq_103, [1]), ((0, (-7), 0), gi_3371, hq_1040, rq_104, [1]), ((0, (-8), 0), gi_3373, hq_1040, [([(55, 1), (58, (-1))], (-1))], [1]), ((0, (-8), 0), gi_3372, hq_1040, [([(55, (-1)), (58, 1)], (-1))], [1]), ((0, 0, 0), gi_3371, hq_1043, rq_105, [1])])
theorem hd_2923 : con_2923.1 = (yX12_paste, cX12_paste, 7, (some .int)) := rfl
noncomputable def ct_2923 : CTB2 := [(1, 414, 1, con_2370, []), (8, 414, 1, con_1930, [])]
noncomputable def rf_2923 : List (Nat × List POP) := [(17, [(1, (1, 1, 0), 0, 0), (1, (1, 3, 0), 0, 0)]), (52, [(1, (0, 1, 0), 0, 0)]), (110, [(0, (1, 2, 0), 0, 60), (0, (1, 4, 0), 0, 60), (0, (1, 5, 0), 0, 60)]), (139, [(0, (0, 0, 0), 0, 239)]), (178, [(0, (0, 1, 0), 0, 239)])]
noncomputable def rq_106 : RLs := [([(2, (-1)), (5, (-1))], 60), ([(4, (-1)), (5, (-1))], 60), ([(2, (-1)), (5, (-1)), (51, 1)], 0), ([(4, (-1)), (5, (-1)), (54, 1)], 0), ([(55, 1), (58, (-1))], 0), ([(55, (-1)), (58, 1)], 0)]
noncomputable def cu_2923 : List CUT2 := [((113, [lq 0 6 0, lq 1 0 0, lq 2 1 2, lq 3 0 3, lq 4 1 4, lq 5 1 5, lq 6 1 65], [], gi_3374, hq_1044), rq_106, ([(65, (-1))], 121)), ((150, [lq 0 6 0, lq 1 0 0, lq 2 1 2, lq 3 0 3, lq 4 1 4, lq 5 1 5, lq 6 1 65], [], gi_3374, hq_1043), rq_106, ([(65, (-1))], 60))]
theorem ch_2923 : staG tb_X12_paste 3 bt_RX12 [] ct_2923 rf_2923 [77, 85, 95, 103, 117, 138, 154, 170] cu_2923 60 con_2923 = true := by decide +kernel
theorem cc_2923 : cu_2923.all (cutG tb_X12_paste 3 bt_RX12 [] ct_2923 rf_2923 [77, 85, 95, 103, 117, 138, 154, 170] cu_2923 60 con_2923) = true := by decide +kernel
theorem cto_2923 (l : Launch) : CTOK2 l RX12 vwCl gTbl ct_2923 := ct2_cons (vl_2370 l) ck_RX12_414_2370 (ct2_cons (vl_1930 l) ck_RX12_414_1930 (ct2_nil))
theorem vl_2923 (l : Launch) : Vld2 l vwCl gTbl con_2923 := conR_ok3 gT_all (hd_2923) rfl pn_RX12 tk_X12_paste bo_RX12 xo_RX12 (cto_2923 l) ch_2923 (cut_all cc_2923)
/-- RookHustingModel paste -/
noncomputable def gi_3506 : GI := jl_n [gp_993, gp_1025]
noncomputable def gi_3507 : GI := jl_n [gp_993, gp_538, gp_964]
noncomputable def con_2924 : Con2 := ((yX12_paste, cX12_paste, 7, (some .int)), (2, 45), ([(6, 0, 0), (0, 0, 0), (1, 2, 0), (0, 3, 0), (1, 4, 0), (1, 5, 0)], gi_3313, [ac_1585, ac_1586, ac_1587, ac_807, ac_1588], []), [((0, (-6), 0), gi_3506, hq_1040, [], [1]), ((0, (-6), 0), gi_3507, hq_1040, [], [1]), ((0, (-7), 0), gi_3376, hq_1040, rq_103, [1]), ((0, (-7), 0), gi_3376, hq_1040, rq_104, [1]), ((0, (-7), 0), gi_3377, hq_1040, [([(55, 1), (58, (-1))], 0), ([(55, (-1)), (58, 1)], 0)], [1]), ((0, (-7), 0), gi_3378, hq_1040, [([(55, 1), (58, (-1))], 0), ([(55, (-1)), (58, 1)], 0)], [1]), ((0, (-7), 0), gi_3379, hq_1040, [([(55, 1), (58, (-1))], 0), ([(55, (-1)), (58, 1)], 0)], [1]), ((0, (-8), 0), gi_3381, hq_1040, [([(55, 1), (58, (-1))], (-1))], [1]), ((0, (-8), 0), gi_3380, hq_1040, [([(55, (-1)), (58, 1)], (-1))], [1]), ((0, 0, 0), gi_3371, hq_1043, rq_105, [1])])
theorem hd_2924 : con_2924.1 = (yX12_paste, cX12_paste, 7, (some .int)) := rfl
noncomputable def rf_2924 : List (Nat × List POP) := [(17, [(1, (1, 1, 0), 0, 0), (1, (1, 3, 0), 0, 0)]), (52, [(1, (0, 1, 0), 0, 0)]), (110, [(0, (1, 2, 0), 0, 60), (0, (1, 4, 0), 0, 60), (0, (1, 5, 0), 0, 60)]), (139, [(0, (0, 0, 0), 0, 239)]), (178, [(0, (0, 1, 0), 0, 239)])]
noncomputable def cu_2924 : List CUT2 := [((113, [lq 0 6 0, lq 1 0 0, lq 2 1 2, lq 3 0 3, lq 4 1 4, lq 5 1 5, lq 6 1 65], [], gi_3374, hq_1044), rq_106, ([(65, (-1))], 121)), ((150, [lq 0 6 0, lq 1 0 0, lq 2 1 2, lq 3 0 3, lq 4 1 4, lq 5 1 5, lq 6 1 65], [], gi_3374, hq_1043), rq_106, ([(65, (-1))], 60))]
theorem ch_2924 : staG tb_X12_paste 3 bt_RX12 [] ct_2923 rf_2924 [77, 85, 95, 103, 117, 138, 154, 170] cu_2924 60 con_2924 = true := by decide +kernel
theorem cc_2924 : cu_2924.all (cutG tb_X12_paste 3 bt_RX12 [] ct_2923 rf_2924 [77, 85, 95, 103, 117, 138, 154, 170] cu_2924 60 con_2924) = true := by decide +kernel
theorem vl_2924 (l : Launch) : Vld2 l vwCl gTbl con_2924 := conR_ok3 gT_all (hd_2924) rfl pn_RX12 tk_X12_paste bo_RX12 xo_RX12 (cto_2923 l) ch_2924 (cut_all cc_2924)
/-- RookHusting paste -/
noncomputable def gi_3508 : GI := jl_n [gp_963, gp_492, gp_1008]
noncomputable def rq_107 : RLs := [([(29, 1), (31, (-1))], 0), ([(29, (-1)), (31, 1)], 0), ([(2, 1), (5, 1), (25, (-1))], (-1))]
noncomputable def rq_108 : RLs := [([(29, 1), (31, (-1))], 0), ([(29, (-1)), (31, 1)], 0), ([(4, 1), (5, 1), (27, (-1))], (-1))]
noncomputable def rq_109 : RLs := [([(29, 1), (31, (-1))], 0), ([(29, (-1)), (31, 1)], 0), ([(2, (-1)), (5, (-1)), (25, 1)], 0), ([(4, (-1)), (5, (-1)), (27, 1)], 0)]
noncomputable def con_2925 : Con2 := ((yX11_paste, cX11_paste, 6, (some .int)), (1, 23), ([(6, 0, 0), (0, 0, 0), (1, 2, 0), (0, 2, 0), (1, 4, 0), (1, 5, 0)], gi_3286, hc_264, []), [((0, (-6), 0), gi_3502, hq_1039, [], [1]), ((0, (-6), 0), gi_3508, hq_1039, [], [1]), ((0, (-7), 0), gi_3433, hq_1039, rq_107, [1]), ((0, (-7), 0), gi_3434, hq_1039, rq_108, [1]), ((0, (-7), 0), gi_3435, hq_1039, [([(29, 1), (31, (-1))], 0), ([(29, (-1)), (31, 1)], 0)], [1]), ((0, (-7), 0), gi_3436, hq_1039, [([(29, 1), (31, (-1))], 0), ([(29, (-1)), (31, 1)], 0)], [1]), ((0, (-7), 0), gi_3437, hq_1039, [([(29, 1), (31, (-1))], 0), ([(29, (-1)), (31, 1)], 0)], [1]), ((0, (-8), 0), gi_3439, hq_1039, [([(29, 1), (31, (-1))], (-1))], [1]), ((0, (-8), 0), gi_3438, hq_1039, [([(29, (-1)), (31, 1)], (-1))], [1]), ((0, 0, 0), gi_3440, hq_1042, rq_109, [1])])
theorem hd_2925 : con_2925.1 = (yX11_paste, cX11_paste, 6, (some .int)) := rfl
noncomputable def ct_2925 : CTB2 := [(1, 414, 1, con_1447, []), (8, 414, 1, con_1321, []), (22, 420, 0, con_1448, [1, 2]), (33, 420, 0, con_1322, [1, 2]), (74, 433, 0, con_2921, [1, 2]), (89, 433, 0, con_2861, [1, 2])]
noncomputable def rf_2925 : List (Nat × List POP) := [(60, [(1, (0, 1, 0), 0, 0)]), (98, [(0, (1, 2, 0), 0, 60), (0, (1, 4, 0), 0, 60), (0, (1, 5, 0), 0, 60)])]
noncomputable def cu_2925 : List CUT2 := []
theorem ch_2925 : staG tb_X11_paste 2 bt_RX11 [] ct_2925 rf_2925 [110, 124] cu_2925 63 con_2925 = true := by decide +kernel
theorem cto_2925 (l : Launch) : CTOK2 l RX11 vwCl gTbl ct_2925 := ct2_cons (vl_1447 l) ck_RX11_414_1447 (ct2_cons (vl_1321 l) ck_RX11_414_1321 (ct2_cons (vl_1448 l) ck_RX11_420_1448 (ct2_cons (vl_1322 l) ck_RX11_420_1322 (ct2_cons (vl_2921 l) ck_RX11_433_2921 (ct2_cons (vl_2861 l) ck_RX11_433_2861 (ct2_nil))))))
theorem vl_2925 (l : Launch) : Vld2 l vwCl gTbl con_2925 := conR_ok3 gT_all (hd_2925) rfl pn_RX11 tk_X11_paste bo_RX11 xo_RX11 (cto_2925 l) ch_2925 cut_nil
/-- RookHustingModel paste -/
noncomputable def gi_3509 : GI := jl_n [gp_983, gp_492, gp_1008]
noncomputable def rq_110 : RLs := [([(55, 1), (57, (-1))], 0), ([(55, (-1)), (57, 1)], 0), ([(2, 1), (5, 1), (51, (-1))], (-1))]
noncomputable def rq_111 : RLs := [([(55, 1), (57, (-1))], 0), ([(55, (-1)), (57, 1)], 0), ([(4, 1), (5, 1), (53, (-1))], (-1))]
noncomputable def rq_112 : RLs := [([(55, 1), (57, (-1))], 0), ([(55, (-1)), (57, 1)], 0), ([(2, (-1)), (5, (-1)), (51, 1)], 0), ([(4, (-1)), (5, (-1)), (53, 1)], 0)]
noncomputable def con_2926 : Con2 := ((yX12_paste, cX12_paste, 7, (some .int)), (2, 45), ([(6, 0, 0), (0, 0, 0), (1, 2, 0), (0, 2, 0), (1, 4, 0), (1, 5, 0)], gi_3294, [ac_1585, ac_1586, ac_1587, ac_807, ac_1588], []), [((0, (-6), 0), gi_3504, hq_1040, [], [1]), ((0, (-6), 0), gi_3509, hq_1040, [], [1]), ((0, (-7), 0), gi_3442, hq_1040, rq_110, [1]), ((0, (-7), 0), gi_3442, hq_1040, rq_111, [1]), ((0, (-8), 0), gi_3444, hq_1040, [([(55, 1), (57, (-1))], (-1))], [1]), ((0, (-8), 0), gi_3443, hq_1040, [([(55, (-1)), (57, 1)], (-1))], [1]), ((0, 0, 0), gi_3442, hq_1043, rq_112, [1])])
theorem hd_2926 : con_2926.1 = (yX12_paste, cX12_paste, 7, (some .int)) := rfl
noncomputable def ct_2926 : CTB2 := [(1, 414, 1, con_2370, []), (8, 414, 1, con_2082, [])]
noncomputable def rf_2926 : List (Nat × List POP) := [(17, [(1, (1, 1, 0), 0, 0), (1, (1, 3, 0), 0, 0)]), (52, [(1, (0, 1, 0), 0, 0)]), (110, [(0, (1, 2, 0), 0, 60), (0, (1, 4, 0), 0, 60), (0, (1, 5, 0), 0, 60)]), (139, [(0, (0, 0, 0), 0, 239)]), (178, [(0, (0, 1, 0), 0, 239)])]
noncomputable def rq_113 : RLs := [([(2, (-1)), (5, (-1))], 60), ([(4, (-1)), (5, (-1))], 60), ([(2, (-1)), (5, (-1)), (51, 1)], 0), ([(4, (-1)), (5, (-1)), (53, 1)], 0), ([(55, 1), (57, (-1))], 0), ([(55, (-1)), (57, 1)], 0)]
noncomputable def cu_2926 : List CUT2 := [((113, [lq 0 6 0, lq 1 0 0, lq 2 1 2, lq 3 0 2, lq 4 1 4, lq 5 1 5, lq 6 1 65], [], gi_3445, hq_1044), rq_113, ([(65, (-1))], 121)), ((150, [lq 0 6 0, lq 1 0 0, lq 2 1 2, lq 3 0 2, lq 4 1 4, lq 5 1 5, lq 6 1 65], [], gi_3445, hq_1043), rq_113, ([(65, (-1))], 60))]
theorem ch_2926 : staG tb_X12_paste 3 bt_RX12 [] ct_2926 rf_2926 [77, 85, 95, 103, 117, 138, 154, 170] cu_2926 60 con_2926 = true := by decide +kernel
theorem cc_2926 : cu_2926.all (cutG tb_X12_paste 3 bt_RX12 [] ct_2926 rf_2926 [77, 85, 95, 103, 117, 138, 154, 170] cu_2926 60 con_2926) = true := by decide +kernel
theorem cto_2926 (l : Launch) : CTOK2 l RX12 vwCl gTbl ct_2926 := ct2_cons (vl_2370 l) ck_RX12_414_2370 (ct2_cons (vl_2082 l) ck_RX12_414_2082 (ct2_nil))
theorem vl_2926 (l : Launch) : Vld2 l vwCl gTbl con_2926 := conR_ok3 gT_all (hd_2926) rfl pn_RX12 tk_X12_paste bo_RX12 xo_RX12 (cto_2926 l) ch_2926 (cut_all cc_2926)
/-- RookHustingModel paste -/
noncomputable def gi_3510 : GI := jl_n [gp_993, gp_492, gp_1008]
noncomputable def con_2927 : Con2 := ((yX12_paste, cX12_paste, 7, (some .int)), (2, 45), ([(6, 0, 0), (0, 0, 0), (1, 2, 0), (0, 2, 0), (1, 4, 0), (1, 5, 0)], gi_3313, [ac_1585, ac_1586, ac_1587, ac_807, ac_1588], []), [((0, (-6), 0), gi_3506, hq_1040, [], [1]), ((0, (-6), 0), gi_3510, hq_1040, [], [1]), ((0, (-7), 0), gi_3447, hq_1040, rq_110, [1]), ((0, (-7), 0), gi_3447, hq_1040, rq_111, [1]), ((0, (-7), 0), gi_3448, hq_1040, [([(55, 1), (57, (-1))], 0), ([(55, (-1)), (57, 1)], 0)], [1]), ((0, (-7), 0), gi_3449, hq_1040, [([(55, 1), (57, (-1))], 0), ([(55, (-1)), (57, 1)], 0)], [1]), ((0, (-7), 0), gi_3450, hq_1040, [([(55, 1), (57, (-1))], 0), ([(55, (-1)), (57, 1)], 0)], [1]), ((0, (-8), 0), gi_3452, hq_1040, [([(55, 1), (57, (-1))], (-1))], [1]), ((0, (-8), 0), gi_3451, hq_1040, [([(55, (-1)), (57, 1)], (-1))], [1]), ((0, 0, 0), gi_3442, hq_1043, rq_112, [1])])
theorem hd_2927 : con_2927.1 = (yX12_paste, cX12_paste, 7, (some .int)) := rfl
noncomputable def rf_2927 : List (Nat × List POP) := [(17, [(1, (1, 1, 0), 0, 0), (1, (1, 3, 0), 0, 0)]), (52, [(1, (0, 1, 0), 0, 0)]), (110, [(0, (1, 2, 0), 0, 60), (0, (1, 4, 0), 0, 60), (0, (1, 5, 0), 0, 60)]), (139, [(0, (0, 0, 0), 0, 239)]), (178, [(0, (0, 1, 0), 0, 239)])]
noncomputable def cu_2927 : List CUT2 := [((113, [lq 0 6 0, lq 1 0 0, lq 2 1 2, lq 3 0 2, lq 4 1 4, lq 5 1 5, lq 6 1 65], [], gi_3445, hq_1044), rq_113, ([(65, (-1))], 121)), ((150, [lq 0 6 0, lq 1 0 0, lq 2 1 2, lq 3 0 2, lq 4 1 4, lq 5 1 5, lq 6 1 65], [], gi_3445, hq_1043), rq_113, ([(65, (-1))], 60))]
theorem ch_2927 : staG tb_X12_paste 3 bt_RX12 [] ct_2926 rf_2927 [77, 85, 95, 103, 117, 138, 154, 170] cu_2927 60 con_2927 = true := by decide +kernel
theorem cc_2927 : cu_2927.all (cutG tb_X12_paste 3 bt_RX12 [] ct_2926 rf_2927 [77, 85, 95, 103, 117, 138, 154, 170] cu_2927 60 con_2927) = true := by decide +kernel
theorem vl_2927 (l : Launch) : Vld2 l vwCl gTbl con_2927 := conR_ok3 gT_all (hd_2927) rfl pn_RX12 tk_X12_paste bo_RX12 xo_RX12 (cto_2926 l) ch_2927 (cut_all cc_2927)
/-- RookHusting paste -/
noncomputable def gi_3511 : GI := jl_n [gp_963, jl_i 0 60, jl_k 0 0, gp_1017]
noncomputable def rq_114 : RLs := [([(29, 1), (30, (-1))], 0), ([(29, (-1)), (30, 1)], 0), ([(2, 1), (5, 1), (25, (-1))], (-1))]
noncomputable def rq_115 : RLs := [([(29, 1), (30, (-1))], 0), ([(29, (-1)), (30, 1)], 0), ([(4, 1), (5, 1), (26, (-1))], (-1))]
noncomputable def rq_116 : RLs := [([(29, 1), (30, (-1))], 0), ([(29, (-1)), (30, 1)], 0), ([(2, (-1)), (5, (-1)), (25, 1)], 0), ([(4, (-1)), (5, (-1)), (26, 1)], 0)]
noncomputable def con_2928 : Con2 := ((yX11_paste, cX11_paste, 6, (some .int)), (1, 23), ([(6, 0, 0), (0, 0, 0), (1, 2, 0), (0, 1, 0), (1, 4, 0), (1, 5, 0)], gi_3286, hc_264, []), [((0, (-6), 0), gi_3502, hq_1039, [], [1]), ((0, (-6), 0), gi_3511, hq_1039, [], [1]), ((0, (-7), 0), gi_3482, hq_1039, rq_114, [1]), ((0, (-7), 0), gi_3483, hq_1039, rq_115, [1]), ((0, (-7), 0), gi_3484, hq_1039, [([(29, 1), (30, (-1))], 0), ([(29, (-1)), (30, 1)], 0)], [1]), ((0, (-7), 0), gi_3485, hq_1039, [([(29, 1), (30, (-1))], 0), ([(29, (-1)), (30, 1)], 0)], [1]), ((0, (-7), 0), gi_3486, hq_1039, [([(29, 1), (30, (-1))], 0), ([(29, (-1)), (30, 1)], 0)], [1]), ((0, (-8), 0), gi_3488, hq_1039, [([(29, 1), (30, (-1))], (-1))], [1]), ((0, (-8), 0), gi_3487, hq_1039, [([(29, (-1)), (30, 1)], (-1))], [1]), ((0, 0, 0), gi_3489, hq_1042, rq_116, [1])])
theorem hd_2928 : con_2928.1 = (yX11_paste, cX11_paste, 6, (some .int)) := rfl
noncomputable def ct_2928 : CTB2 := [(1, 414, 1, con_1447, []), (8, 414, 1, con_1384, []), (22, 420, 0, con_1448, [1, 2]), (33, 420, 0, con_1385, [1, 2]), (74, 433, 0, con_2921, [1, 2]), (89, 433, 0, con_2865, [1, 2])]
noncomputable def rf_2928 : List (Nat × List POP) := [(60, [(1, (0, 1, 0), 0, 0)]), (98, [(0, (1, 2, 0), 0, 60), (0, (1, 4, 0), 0, 60), (0, (1, 5, 0), 0, 60)])]
noncomputable def cu_2928 : List CUT2 := []
theorem ch_2928 : staG tb_X11_paste 2 bt_RX11 [] ct_2928 rf_2928 [110, 124] cu_2928 63 con_2928 = true := by decide +kernel
theorem cto_2928 (l : Launch) : CTOK2 l RX11 vwCl gTbl ct_2928 := ct2_cons (vl_1447 l) ck_RX11_414_1447 (ct2_cons (vl_1384 l) ck_RX11_414_1384 (ct2_cons (vl_1448 l) ck_RX11_420_1448 (ct2_cons (vl_1385 l) ck_RX11_420_1385 (ct2_cons (vl_2921 l) ck_RX11_433_2921 (ct2_cons (vl_2865 l) ck_RX11_433_2865 (ct2_nil))))))
theorem vl_2928 (l : Launch) : Vld2 l vwCl gTbl con_2928 := conR_ok3 gT_all (hd_2928) rfl pn_RX11 tk_X11_paste bo_RX11 xo_RX11 (cto_2928 l) ch_2928 cut_nil
