/-! ===== contracts, 23 ===== -/
/-- RookHustingModel electAll -/
noncomputable def gi_410 : GI := jl_n [gp_235, gp_124]
noncomputable def ac_491 : AC := .inl (12, jl_n [vp_60, jl_6 5 1, jl_8 47 26])
noncomputable def hc_94 : List AC := [ac_491, ac_438, am_8, am_6, am_3]
noncomputable def hq_481 : HP := [(false, ac_491), (false, ac_438), (false, am_8), (false, am_6), (true, am_3)]
noncomputable def con_855 : Con2 := ((yX12_electAll, cX12_electAll, 4, none), (5, 121), ([(6, 0, 0), (1, 1, 0)], gi_410, hc_94, []), [((9, 0, 0), gi_410, hq_481, [], [])])
theorem hd_855 : con_855.1 = (yX12_electAll, cX12_electAll, 4, none) := rfl
noncomputable def ct_855 : CTB2 := [(1, 269, 0, con_692, [0, 1]), (1, 269, 0, con_787, [0, 1]), (1, 269, 0, con_818, [0, 1]), (1, 269, 0, con_834, [0, 1]), (1, 269, 0, con_842, [0, 1]), (1, 269, 0, con_847, [0, 1]), (9, 106, 0, con_646, [0, 1]), (23, 277, 0, con_753, [0, 1, 2, 3]), (23, 277, 0, con_801, [0, 1, 2, 3]), (23, 277, 0, con_825, [0, 1, 2, 3]), (23, 277, 0, con_837, [0, 1, 2, 3]), (23, 277, 0, con_844, [0, 1, 2, 3]), (23, 277, 0, con_850, [0, 1, 2, 3]), (23, 277, 0, con_769, [0, 1, 2, 3]), (23, 277, 0, con_761, [0, 1, 2, 3]), (23, 277, 0, con_757, [0, 1, 2, 3]), (23, 277, 0, con_755, [0, 1, 2, 3]), (23, 277, 0, con_754, [0, 1, 2, 3]), (23, 277, 0, con_809, [0, 1, 2, 3]), (23, 277, 0, con_805, [0, 1, 2, 3]), (23, 277, 0, con_803, [0, 1, 2, 3]), (23, 277, 0, con_802, [0, 1, 2, 3]), (23, 277, 0, con_829, [0, 1, 2, 3]), (23, 277, 0, con_827, [0, 1, 2, 3]), (23, 277, 0, con_826, [0, 1, 2, 3]), (23, 277, 0, con_839, [0, 1, 2, 3]), (23, 277, 0, con_838, [0, 1, 2, 3]), (23, 277, 0, con_845, [0, 1, 2, 3]), (23, 277, 0, con_777, [0, 1, 2, 3]), (23, 277, 0, con_773, [0, 1, 2, 3]), (23, 277, 0, con_771, [0, 1, 2, 3]), (23, 277, 0, con_770, [0, 1, 2, 3]), (23, 277, 0, con_765, [0, 1, 2, 3]), (23, 277, 0, con_763, [0, 1, 2, 3]), (23, 277, 0, con_762, [0, 1, 2, 3]), (23, 277, 0, con_759, [0, 1, 2, 3]), (23, 277, 0, con_758, [0, 1, 2, 3]), (23, 277, 0, con_756, [0, 1, 2, 3]), (23, 277, 0, con_813, [0, 1, 2, 3]), (23, 277, 0, con_811, [0, 1, 2, 3]), (23, 277, 0, con_810, [0, 1, 2, 3]), (23, 277, 0, con_807, [0, 1, 2, 3]), (23, 277, 0, con_806, [0, 1, 2, 3]), (23, 277, 0, con_804, [0, 1, 2, 3]), (23, 277, 0, con_831, [0, 1, 2, 3]), (23, 277, 0, con_830, [0, 1, 2, 3]), (23, 277, 0, con_828, [0, 1, 2, 3]), (23, 277, 0, con_840, [0, 1, 2, 3]), (23, 277, 0, con_781, [0, 1, 2, 3]), (23, 277, 0, con_779, [0, 1, 2, 3]), (23, 277, 0, con_778, [0, 1, 2, 3]), (23, 277, 0, con_775, [0, 1, 2, 3]), (23, 277, 0, con_774, [0, 1, 2, 3]), (23, 277, 0, con_772, [0, 1, 2, 3]), (23, 277, 0, con_767, [0, 1, 2, 3]), (23, 277, 0, con_766, [0, 1, 2, 3]), (23, 277, 0, con_764, [0, 1, 2, 3]), (23, 277, 0, con_760, [0, 1, 2, 3]), (23, 277, 0, con_815, [0, 1, 2, 3]), (23, 277, 0, con_814, [0, 1, 2, 3]), (23, 277, 0, con_812, [0, 1, 2, 3]), (23, 277, 0, con_808, [0, 1, 2, 3]), (23, 277, 0, con_832, [0, 1, 2, 3]), (23, 277, 0, con_783, [0, 1, 2, 3]), (23, 277, 0, con_782, [0, 1, 2, 3]), (23, 277, 0, con_780, [0, 1, 2, 3]), (23, 277, 0, con_776, [0, 1, 2, 3]), (23, 277, 0, con_768, [0, 1, 2, 3]), (23, 277, 0, con_816, [0, 1, 2, 3])]
noncomputable def rf_855 : List (Nat × List POP) := [(0, [(1, (2, 1, 5), 0, 0)]), (45, [(1, (0, 0, 0), 0, 0)])]
noncomputable def gi_411 : GI := jl_n [gp_236, jl_i 5 5, gp_238]
noncomputable def gi_412 : GI := jl_n [gp_236, jl_i 4 4, gp_238]
noncomputable def gi_413 : GI := jl_n [gp_236, jl_i 3 3, gp_238]
noncomputable def gi_414 : GI := jl_n [gp_236, jl_i 2 2, gp_238]
noncomputable def gi_415 : GI := jl_n [gp_236, jl_i 1 1, gp_238]
noncomputable def gi_416 : GI := jl_n [gp_236, jl_z 1, gp_238]
noncomputable def gi_417 : GI := jl_n [gp_239, jl_i 5 5, gp_240]
noncomputable def gi_418 : GI := jl_n [gp_239, jl_i 4 4, gp_240]
noncomputable def gi_419 : GI := jl_n [gp_239, jl_i 3 3, gp_240]
noncomputable def gi_420 : GI := jl_n [gp_239, jl_i 2 2, gp_240]
noncomputable def gi_421 : GI := jl_n [gp_239, jl_i 1 1, gp_240]
noncomputable def gi_422 : GI := jl_n [gp_242, gp_243, gp_244]
noncomputable def gi_423 : GI := jl_n [gp_242, jl_i 0 8, jl_i 4 4, gp_244]
noncomputable def gi_424 : GI := jl_n [gp_242, jl_i 0 8, jl_i 3 3, gp_244]
noncomputable def gi_425 : GI := jl_n [gp_242, jl_i 0 8, jl_i 2 2, gp_244]
noncomputable def gi_426 : GI := jl_n [gp_241, jl_i 3 5, gp_243, gp_237, jl_i 3 5]
noncomputable def gi_427 : GI := jl_n [gp_241, jl_i 3 5, jl_i 0 8, jl_i 4 4, gp_237, jl_i 3 5]
noncomputable def gi_428 : GI := jl_n [gp_241, jl_i 3 5, jl_i 0 8, jl_i 3 3, gp_237, jl_i 3 5]
noncomputable def gi_429 : GI := jl_n [gp_241, jl_i 4 5, gp_243, gp_237, jl_i 4 5]
noncomputable def gi_430 : GI := jl_n [gp_241, jl_i 4 5, jl_i 0 8, jl_i 4 4, gp_237, jl_i 4 5]
noncomputable def gi_431 : GI := jl_n [gp_241, jl_i 5 5, gp_243, gp_145, jl_z 19]
noncomputable def hq_482 : HP := [(false, ac_491), (false, ac_438), (false, am_8), (false, am_6), (true, .inr (1, [(4, (2, (-1), 4)), (1, (2, 0, 4))]))]
noncomputable def cu_855_0 : List CUT2 := [((7, [lq 0 6 0, lq 1 1 1, lq 2 0 31, lq 3 1 73], [], gi_411, hq_481), [], ([(73, (-1))], 5)), ((7, [lq 0 6 0, lq 1 1 1, lq 2 0 15, lq 3 1 73], [], gi_412, hq_481), [], ([(73, (-1))], 5)), ((7, [lq 0 6 0, lq 1 1 1, lq 2 0 7, lq 3 1 73], [], gi_413, hq_481), [], ([(73, (-1))], 5)), ((7, [lq 0 6 0, lq 1 1 1, lq 2 0 3, lq 3 1 73], [], gi_414, hq_481), [], ([(73, (-1))], 5)), ((7, [lq 0 6 0, lq 1 1 1, lq 2 0 1, lq 3 1 73], [], gi_415, hq_481), [], ([(73, (-1))], 5)), ((7, [lq 0 6 0, lq 1 1 1, lq 2 0 0, lq 3 1 73], [], gi_416, hq_481), [], ([(73, (-1))], 5)), ((7, [lq 0 6 0, lq 1 1 1, lq 2 0 15, lq 3 1 73], [], gi_417, hq_481), [], ([(73, (-1))], 5)), ((7, [lq 0 6 0, lq 1 1 1, lq 2 0 23, lq 3 1 73], [], gi_417, hq_481), [], ([(73, (-1))], 5)), ((7, [lq 0 6 0, lq 1 1 1, lq 2 0 27, lq 3 1 73], [], gi_417, hq_481), [], ([(73, (-1))], 5)), ((7, [lq 0 6 0, lq 1 1 1, lq 2 0 29, lq 3 1 73], [], gi_417, hq_481), [], ([(73, (-1))], 5)), ((7, [lq 0 6 0, lq 1 1 1, lq 2 0 30, lq 3 1 73], [], gi_417, hq_481), [], ([(73, (-1))], 5)), ((7, [lq 0 6 0, lq 1 1 1, lq 2 0 7, lq 3 1 73], [], gi_418, hq_481), [], ([(73, (-1))], 5)), ((7, [lq 0 6 0, lq 1 1 1, lq 2 0 11, lq 3 1 73], [], gi_418, hq_481), [], ([(73, (-1))], 5))]
noncomputable def cu_855_1 : List CUT2 := [((7, [lq 0 6 0, lq 1 1 1, lq 2 0 13, lq 3 1 73], [], gi_418, hq_481), [], ([(73, (-1))], 5)), ((7, [lq 0 6 0, lq 1 1 1, lq 2 0 14, lq 3 1 73], [], gi_418, hq_481), [], ([(73, (-1))], 5)), ((7, [lq 0 6 0, lq 1 1 1, lq 2 0 3, lq 3 1 73], [], gi_419, hq_481), [], ([(73, (-1))], 5)), ((7, [lq 0 6 0, lq 1 1 1, lq 2 0 5, lq 3 1 73], [], gi_419, hq_481), [], ([(73, (-1))], 5)), ((7, [lq 0 6 0, lq 1 1 1, lq 2 0 6, lq 3 1 73], [], gi_419, hq_481), [], ([(73, (-1))], 5)), ((7, [lq 0 6 0, lq 1 1 1, lq 2 0 1, lq 3 1 73], [], gi_420, hq_481), [], ([(73, (-1))], 5)), ((7, [lq 0 6 0, lq 1 1 1, lq 2 0 2, lq 3 1 73], [], gi_420, hq_481), [], ([(73, (-1))], 5)), ((7, [lq 0 6 0, lq 1 1 1, lq 2 0 0, lq 3 1 73], [], gi_421, hq_481), [], ([(73, (-1))], 5)), ((7, [lq 0 6 0, lq 1 1 1, lq 2 0 7, lq 3 1 73], [], gi_422, hq_481), [], ([(73, (-1))], 5)), ((7, [lq 0 6 0, lq 1 1 1, lq 2 0 11, lq 3 1 73], [], gi_422, hq_481), [], ([(73, (-1))], 5)), ((7, [lq 0 6 0, lq 1 1 1, lq 2 0 13, lq 3 1 73], [], gi_422, hq_481), [], ([(73, (-1))], 5)), ((7, [lq 0 6 0, lq 1 1 1, lq 2 0 14, lq 3 1 73], [], gi_422, hq_481), [], ([(73, (-1))], 5)), ((7, [lq 0 6 0, lq 1 1 1, lq 2 0 19, lq 3 1 73], [], gi_422, hq_481), [], ([(73, (-1))], 5))]
noncomputable def cu_855_2 : List CUT2 := [((7, [lq 0 6 0, lq 1 1 1, lq 2 0 21, lq 3 1 73], [], gi_422, hq_481), [], ([(73, (-1))], 5)), ((7, [lq 0 6 0, lq 1 1 1, lq 2 0 22, lq 3 1 73], [], gi_422, hq_481), [], ([(73, (-1))], 5)), ((7, [lq 0 6 0, lq 1 1 1, lq 2 0 25, lq 3 1 73], [], gi_422, hq_481), [], ([(73, (-1))], 5)), ((7, [lq 0 6 0, lq 1 1 1, lq 2 0 26, lq 3 1 73], [], gi_422, hq_481), [], ([(73, (-1))], 5)), ((7, [lq 0 6 0, lq 1 1 1, lq 2 0 28, lq 3 1 73], [], gi_422, hq_481), [], ([(73, (-1))], 5)), ((7, [lq 0 6 0, lq 1 1 1, lq 2 0 3, lq 3 1 73], [], gi_423, hq_481), [], ([(73, (-1))], 5)), ((7, [lq 0 6 0, lq 1 1 1, lq 2 0 5, lq 3 1 73], [], gi_423, hq_481), [], ([(73, (-1))], 5)), ((7, [lq 0 6 0, lq 1 1 1, lq 2 0 6, lq 3 1 73], [], gi_423, hq_481), [], ([(73, (-1))], 5)), ((7, [lq 0 6 0, lq 1 1 1, lq 2 0 9, lq 3 1 73], [], gi_423, hq_481), [], ([(73, (-1))], 5)), ((7, [lq 0 6 0, lq 1 1 1, lq 2 0 10, lq 3 1 73], [], gi_423, hq_481), [], ([(73, (-1))], 5)), ((7, [lq 0 6 0, lq 1 1 1, lq 2 0 12, lq 3 1 73], [], gi_423, hq_481), [], ([(73, (-1))], 5)), ((7, [lq 0 6 0, lq 1 1 1, lq 2 0 1, lq 3 1 73], [], gi_424, hq_481), [], ([(73, (-1))], 5)), ((7, [lq 0 6 0, lq 1 1 1, lq 2 0 2, lq 3 1 73], [], gi_424, hq_481), [], ([(73, (-1))], 5))]
noncomputable def cu_855_3 : List CUT2 := [((7, [lq 0 6 0, lq 1 1 1, lq 2 0 4, lq 3 1 73], [], gi_424, hq_481), [], ([(73, (-1))], 5)), ((7, [lq 0 6 0, lq 1 1 1, lq 2 0 0, lq 3 1 73], [], gi_425, hq_481), [], ([(73, (-1))], 5)), ((7, [lq 0 6 0, lq 1 1 1, lq 2 0 3, lq 3 1 73], [], gi_426, hq_481), [], ([(73, (-1))], 5)), ((7, [lq 0 6 0, lq 1 1 1, lq 2 0 5, lq 3 1 73], [], gi_426, hq_481), [], ([(73, (-1))], 5)), ((7, [lq 0 6 0, lq 1 1 1, lq 2 0 6, lq 3 1 73], [], gi_426, hq_481), [], ([(73, (-1))], 5)), ((7, [lq 0 6 0, lq 1 1 1, lq 2 0 9, lq 3 1 73], [], gi_426, hq_481), [], ([(73, (-1))], 5)), ((7, [lq 0 6 0, lq 1 1 1, lq 2 0 10, lq 3 1 73], [], gi_426, hq_481), [], ([(73, (-1))], 5)), ((7, [lq 0 6 0, lq 1 1 1, lq 2 0 12, lq 3 1 73], [], gi_426, hq_481), [], ([(73, (-1))], 5)), ((7, [lq 0 6 0, lq 1 1 1, lq 2 0 17, lq 3 1 73], [], gi_426, hq_481), [], ([(73, (-1))], 5)), ((7, [lq 0 6 0, lq 1 1 1, lq 2 0 18, lq 3 1 73], [], gi_426, hq_481), [], ([(73, (-1))], 5)), ((7, [lq 0 6 0, lq 1 1 1, lq 2 0 20, lq 3 1 73], [], gi_426, hq_481), [], ([(73, (-1))], 5)), ((7, [lq 0 6 0, lq 1 1 1, lq 2 0 24, lq 3 1 73], [], gi_426, hq_481), [], ([(73, (-1))], 5)), ((7, [lq 0 6 0, lq 1 1 1, lq 2 0 1, lq 3 1 73], [], gi_427, hq_481), [], ([(73, (-1))], 5))]
noncomputable def cu_855_4 : List CUT2 := [((7, [lq 0 6 0, lq 1 1 1, lq 2 0 2, lq 3 1 73], [], gi_427, hq_481), [], ([(73, (-1))], 5)), ((7, [lq 0 6 0, lq 1 1 1, lq 2 0 4, lq 3 1 73], [], gi_427, hq_481), [], ([(73, (-1))], 5)), ((7, [lq 0 6 0, lq 1 1 1, lq 2 0 8, lq 3 1 73], [], gi_427, hq_481), [], ([(73, (-1))], 5)), ((7, [lq 0 6 0, lq 1 1 1, lq 2 0 0, lq 3 1 73], [], gi_428, hq_481), [], ([(73, (-1))], 5)), ((7, [lq 0 6 0, lq 1 1 1, lq 2 0 1, lq 3 1 73], [], gi_429, hq_481), [], ([(73, (-1))], 5)), ((7, [lq 0 6 0, lq 1 1 1, lq 2 0 2, lq 3 1 73], [], gi_429, hq_481), [], ([(73, (-1))], 5)), ((7, [lq 0 6 0, lq 1 1 1, lq 2 0 4, lq 3 1 73], [], gi_429, hq_481), [], ([(73, (-1))], 5)), ((7, [lq 0 6 0, lq 1 1 1, lq 2 0 8, lq 3 1 73], [], gi_429, hq_481), [], ([(73, (-1))], 5)), ((7, [lq 0 6 0, lq 1 1 1, lq 2 0 16, lq 3 1 73], [], gi_429, hq_481), [], ([(73, (-1))], 5)), ((7, [lq 0 6 0, lq 1 1 1, lq 2 0 0, lq 3 1 73], [], gi_430, hq_481), [], ([(73, (-1))], 5)), ((7, [lq 0 6 0, lq 1 1 1, lq 2 0 0, lq 3 0 5], [], gi_431, hq_482), [], ([], 0))]
noncomputable def cu_855 : List CUT2 := cu_855_0 ++ (cu_855_1 ++ (cu_855_2 ++ (cu_855_3 ++ (cu_855_4))))
theorem ch_855 : staG tb_X12_electAll 1 bt_RX12 [] ct_855 rf_855 [] cu_855 34 con_855 = true := by decide +kernel
theorem cc_855_0 : cu_855_0.all (cutG tb_X12_electAll 1 bt_RX12 [] ct_855 rf_855 [] cu_855 34 con_855) = true := by decide +kernel
theorem cc_855_1 : cu_855_1.all (cutG tb_X12_electAll 1 bt_RX12 [] ct_855 rf_855 [] cu_855 34 con_855) = true := by decide +kernel
theorem cc_855_2 : cu_855_2.all (cutG tb_X12_electAll 1 bt_RX12 [] ct_855 rf_855 [] cu_855 34 con_855) = true := by decide +kernel
theorem cc_855_3 : cu_855_3.all (cutG tb_X12_electAll 1 bt_RX12 [] ct_855 rf_855 [] cu_855 34 con_855) = true := by decide +kernel
theorem cc_855_4 : cu_855_4.all (cutG tb_X12_electAll 1 bt_RX12 [] ct_855 rf_855 [] cu_855 34 con_855) = true := by decide +kernel
theorem cto_855 (l : Launch) : CTOK2 l RX12 vwCl gTbl ct_855 := ct2_cons (vl_692 l) ck_RX12_269_692 (ct2_cons (vl_787 l) ck_RX12_269_787 (ct2_cons (vl_818 l) ck_RX12_269_818 (ct2_cons (vl_834 l) ck_RX12_269_834 (ct2_cons (vl_842 l) ck_RX12_269_842 (ct2_cons (vl_847 l) ck_RX12_269_847 (ct2_cons (vl_646 l) ck_RX12_106_646 (ct2_cons (vl_753 l) ck_RX12_277_753 (ct2_cons (vl_801 l) ck_RX12_277_801 (ct2_cons (vl_825 l) ck_RX12_277_825 (ct2_cons (vl_837 l) ck_RX12_277_837 (ct2_cons (vl_844 l) ck_RX12_277_844 (ct2_cons (vl_850 l) ck_RX12_277_850 (ct2_cons (vl_769 l) ck_RX12_277_769 (ct2_cons (vl_761 l) ck_RX12_277_761 (ct2_cons (vl_757 l) ck_RX12_277_757 (ct2_cons (vl_755 l) ck_RX12_277_755 (ct2_cons (vl_754 l) ck_RX12_277_754 (ct2_cons (vl_809 l) ck_RX12_277_809 (ct2_cons (vl_805 l) ck_RX12_277_805 (ct2_cons (vl_803 l) ck_RX12_277_803 (ct2_cons (vl_802 l) ck_RX12_277_802 (ct2_cons (vl_829 l) ck_RX12_277_829 (ct2_cons (vl_827 l) ck_RX12_277_827 (ct2_cons (vl_826 l) ck_RX12_277_826 (ct2_cons (vl_839 l) ck_RX12_277_839 (ct2_cons (vl_838 l) ck_RX12_277_838 (ct2_cons (vl_845 l) ck_RX12_277_845 (ct2_cons (vl_777 l) ck_RX12_277_777 (ct2_cons (vl_773 l) ck_RX12_277_773 (ct2_cons (vl_771 l) ck_RX12_277_771 (ct2_cons (vl_770 l) ck_RX12_277_770 (ct2_cons (vl_765 l) ck_RX12_277_765 (ct2_cons (vl_763 l) ck_RX12_277_763 (ct2_cons (vl_762 l) ck_RX12_277_762 (ct2_cons (vl_759 l) ck_RX12_277_759 (ct2_cons (vl_758 l) ck_RX12_277_758 (ct2_cons (vl_756 l) ck_RX12_277_756 (ct2_cons (vl_813 l) ck_RX12_277_813 (ct2_cons (vl_811 l) ck_RX12_277_811 (ct2_cons (vl_810 l) ck_RX12_277_810 (ct2_cons (vl_807 l) ck_RX12_277_807 (ct2_cons (vl_806 l) ck_RX12_277_806 (ct2_cons (vl_804 l) ck_RX12_277_804 (ct2_cons (vl_831 l) ck_RX12_277_831 (ct2_cons (vl_830 l) ck_RX12_277_830 (ct2_cons (vl_828 l) ck_RX12_277_828 (ct2_cons (vl_840 l) ck_RX12_277_840 (ct2_cons (vl_781 l) ck_RX12_277_781 (ct2_cons (vl_779 l) ck_RX12_277_779 (ct2_cons (vl_778 l) ck_RX12_277_778 (ct2_cons (vl_775 l) ck_RX12_277_775 (ct2_cons (vl_774 l) ck_RX12_277_774 (ct2_cons (vl_772 l) ck_RX12_277_772 (ct2_cons (vl_767 l) ck_RX12_277_767 (ct2_cons (vl_766 l) ck_RX12_277_766 (ct2_cons (vl_764 l) ck_RX12_277_764 (ct2_cons (vl_760 l) ck_RX12_277_760 (ct2_cons (vl_815 l) ck_RX12_277_815 (ct2_cons (vl_814 l) ck_RX12_277_814 (ct2_cons (vl_812 l) ck_RX12_277_812 (ct2_cons (vl_808 l) ck_RX12_277_808 (ct2_cons (vl_832 l) ck_RX12_277_832 (ct2_cons (vl_783 l) ck_RX12_277_783 (ct2_cons (vl_782 l) ck_RX12_277_782 (ct2_cons (vl_780 l) ck_RX12_277_780 (ct2_cons (vl_776 l) ck_RX12_277_776 (ct2_cons (vl_768 l) ck_RX12_277_768 (ct2_cons (vl_816 l) ck_RX12_277_816 (ct2_nil)))))))))))))))))))))))))))))))))))))))))))))))))))))))))))))))))))))
theorem vl_855 (l : Launch) : Vld2 l vwCl gTbl con_855 := conR_ok3 gT_all (hd_855) rfl pn_RX12 tk_X12_electAll bo_RX12 xo_RX12 (cto_855 l) ch_855 (cut_app (cut_all cc_855_0) (cut_app (cut_all cc_855_1) (cut_app (cut_all cc_855_2) (cut_app (cut_all cc_855_3) (cut_all cc_855_4)))))
/-- RookHustingModel elected -/
noncomputable def gi_432 : GI := jl_n [gp_245]
noncomputable def gi_433 : GI := jl_n [gp_245, jl_m 1 4, gp_189]
noncomputable def ac_492 : AC := .inl (12, jl_n [vp_66, jl_6 5 1, jl_8 47 26])
noncomputable def hq_483 : HP := [(true, ac_492), (false, ac_438), (true, am_8), (true, am_6), (true, am_3)]
noncomputable def con_856 : Con2 := ((yX12_elected, cX12_elected, 2, (some .int)), (6, 144), ([(6, 0, 0), (1, 1, 0)], gi_432, hc_94, []), [((1, 70, 0), gi_433, hq_483, [], tg_1)])
theorem hd_856 : con_856.1 = (yX12_elected, cX12_elected, 2, (some .int)) := rfl
theorem ck_RX12_280_855 : COK2 RX12 vwCl gTbl 280 0 con_855 := ⟨wd_1744, wd_137, mh_X12_electAll, .inr (.inr ⟨rfl, wd_1741, wd_1743, wd_81, ⟨_, rfl, pd_X12_electAll⟩, 12, _, TX12, 45, rfl, rfl⟩)⟩
noncomputable def ct_856 : CTB2 := [(3, 109, 0, con_647, [0, 1]), (13, 249, 0, con_665, [0, 1, 2, 3]), (23, 280, 0, con_855, [0, 1, 2, 3, 4])]
noncomputable def cu_856 : List CUT2 := []
theorem ch_856 : staG tb_X12_elected 1 bt_RX12 [] ct_856 [] [] cu_856 20 con_856 = true := by decide +kernel
theorem cto_856 (l : Launch) : CTOK2 l RX12 vwCl gTbl ct_856 := ct2_cons (vl_647 l) ck_RX12_109_647 (ct2_cons (vl_665 l) ck_RX12_249_665 (ct2_cons (vl_855 l) ck_RX12_280_855 (ct2_nil)))
theorem vl_856 (l : Launch) : Vld2 l vwCl gTbl con_856 := conR_ok3 gT_all (hd_856) rfl pn_RX12 tk_X12_elected bo_RX12 xo_RX12 (cto_856 l) ch_856 cut_nil
/-- RookHusting$Scene begin -/
noncomputable def gi_434 : GI := jl_n [jl_z 5, jl_t, jl_z 17]
noncomputable def ac_493 : AC := .inl (4, jl_n [jl_8 16 10, jl_6 6 1, jl_8 23 6])
noncomputable def hc_95 : List AC := [.inl (7, [(6, 2, 0), (6, 3, 0), (6, 4, 0), (1, 5, 0)]), ac_493, am_3, am_1, am_1, am_1]
noncomputable def gi_435 : GI := jl_n [jl_z 5, jl_t, jl_z 21]
noncomputable def hq_484 : HP := [(true, .inl (7, [(6, 2, 0), (6, 3, 0), (6, 4, 0), (0, 0, 0)])), (false, ac_493), (true, am_3), (true, am_1), (true, am_1), (false, am_1)]
noncomputable def con_857 : Con2 := ((yX7_begin, cX7_begin, 3, none), (1, 18), ([(6, 0, 0), (6, 1, 0)], gi_434, hc_95, []), [((9, 0, 0), gi_435, hq_484, [], [1, 1, 1, 1])])
theorem hd_857 : con_857.1 = (yX7_begin, cX7_begin, 3, none) := rfl
noncomputable def ct_857 : CTB2 := []
noncomputable def gi_436 : GI := jl_n [jl_z 5, jl_t, jl_z 19, jl_i 0 5]
noncomputable def hq_485 : HP := [(false, .inl (7, [(6, 2, 0), (6, 3, 0), (6, 4, 0), (1, 5, 0)])), (false, ac_493), (true, am_3), (true, am_1), (false, am_1), (false, am_1)]
noncomputable def cu_857 : List CUT2 := [((2, [lq 0 6 0, lq 1 6 1, lq 2 1 25], [], gi_436, hq_485), [], ([(25, (-1))], 5))]
theorem ch_857 : staG tb_X7_begin 1 bt_RX7 [] ct_857 [] [] cu_857 18 con_857 = true := by decide +kernel
theorem cc_857 : cu_857.all (cutG tb_X7_begin 1 bt_RX7 [] ct_857 [] [] cu_857 18 con_857) = true := by decide +kernel
theorem cto_857 (l : Launch) : CTOK2 l RX7 vwCl gTbl ct_857 := ct2_nil
theorem vl_857 (l : Launch) : Vld2 l vwCl gTbl con_857 := conR_ok3 gT_all (hd_857) rfl pn_RX7 tk_X7_begin bo_RX7 xo_RX7 (cto_857 l) ch_857 (cut_all cc_857)
/-- RookHusting$Scene placeOf -/
noncomputable def hc_96 : List AC := [.inl (7, [(6, 1, 0), (8, 3, 0), (8, 4, 0), (8, 5, 0)]), am_3]
noncomputable def gi_437 : GI := jl_n [jl_z 1, jl_m 0 4, jl_z 4, jl_m 0 4]
noncomputable def hq_486 : HP := [(false, .inl (7, [(6, 1, 0), (8, 3, 0), (8, 4, 0), (8, 5, 0)])), (false, am_3)]
noncomputable def con_858 : Con2 := ((yX7_placeOf, cX7_placeOf, 3, (some .int)), (0, 0), ([(6, 0, 0), (1, 1, 0)], [(0, 0), ((-1), 4), (0, 0), (0, 0), (0, 0), (0, 0)], hc_96, []), [((1, 6, 0), gi_437, hq_486, [], [1])])
theorem hd_858 : con_858.1 = (yX7_placeOf, cX7_placeOf, 3, (some .int)) := rfl
noncomputable def gi_438 : GI := jl_n [jl_z 1, jl_m 0 4, jl_z 6, jl_i 0 5]
noncomputable def cu_858 : List CUT2 := [((2, [lq 0 6 0, lq 1 1 1, lq 2 1 8], [], gi_438, hq_486), [], ([(8, (-1))], 5))]
theorem ch_858 : staG tb_X7_placeOf 1 bt_RX7 [] ct_857 [] [] cu_858 14 con_858 = true := by decide +kernel
theorem cc_858 : cu_858.all (cutG tb_X7_placeOf 1 bt_RX7 [] ct_857 [] [] cu_858 14 con_858) = true := by decide +kernel
theorem vl_858 (l : Launch) : Vld2 l vwCl gTbl con_858 := conR_ok3 gT_all (hd_858) rfl pn_RX7 tk_X7_placeOf bo_RX7 xo_RX7 (cto_857 l) ch_858 (cut_all cc_858)
/-- RookHusting$Scene placeMan -/
noncomputable def hc_97 : List AC := [.inl (7, [(6, 1, 0), (8, 4, 0), (8, 5, 0), (8, 6, 0)]), am_3]
noncomputable def hq_487 : HP := [(false, .inl (7, [(6, 1, 0), (8, 4, 0), (8, 5, 0), (8, 6, 0)])), (true, am_3)]
noncomputable def con_859 : Con2 := ((yX7_placeMan, cX7_placeMan, 4, none), (1, 22), ([(6, 0, 0), (1, 1, 0), (1, 2, 0)], [(0, 0), (0, 4), ((-1), 4), (0, 0), (0, 0), (0, 0), (0, 0)], hc_97, []), [((9, 0, 0), [(0, 0), (0, 4), ((-1), 4), (0, 0), (0, 0), (0, 0), (0, 0)], hq_487, [], [])])
theorem hd_859 : con_859.1 = (yX7_placeMan, cX7_placeMan, 4, none) := rfl
theorem ck_RX7_34_858 : COK2 RX7 vwCl gTbl 34 0 con_858 := ⟨wd_866, wd_133, mh_X7_placeOf, .inr (.inr ⟨rfl, wd_863, wd_864, wd_865, ⟨_, rfl, pd_X7_placeOf⟩, 7, _, TX7, 4, rfl, rfl⟩)⟩
noncomputable def ct_859 : CTB2 := [(11, 34, 0, con_858, [0, 1])]
noncomputable def cu_859 : List CUT2 := []
theorem ch_859 : staG tb_X7_placeMan 1 bt_RX7 [] ct_859 [] [] cu_859 23 con_859 = true := by decide +kernel
theorem cto_859 (l : Launch) : CTOK2 l RX7 vwCl gTbl ct_859 := ct2_cons (vl_858 l) ck_RX7_34_858 (ct2_nil)
theorem vl_859 (l : Launch) : Vld2 l vwCl gTbl con_859 := conR_ok3 gT_all (hd_859) rfl pn_RX7 tk_X7_placeMan bo_RX7 xo_RX7 (cto_859 l) ch_859 cut_nil
/-- RookHusting$Acts playOn -/
noncomputable def gi_439 : GI := jl_n [jl_z 3, jl_i 0 30, gp_247]
noncomputable def ac_494 : AC := .inr (1, jl_n [js_1 41 30])
noncomputable def ac_495 : AC := .inr (1, jl_n [js_1 71 30])
noncomputable def hc_98 : List AC := [.inl (0, [(1, 3, 0), (6, 2, 0), (6, 3, 0), (6, 5, 0)]), .inl (7, [(6, 6, 0), (6, 4, 0), (8, 9, 0), (8, 10, 0)]), ac_494, am_12, am_1, ac_495, am_3]
noncomputable def rq_1 : RLs := [([(11, 12), (41, (-1))], 4), ([(12, 12), (42, (-1))], 4), ([(13, 12), (43, (-1))], 4), ([(14, 12), (44, (-1))], 4), ([(15, 12), (45, (-1))], 4), ([(16, 12), (46, (-1))], 4), ([(17, 12), (47, (-1))], 4), ([(18, 12), (48, (-1))], 4), ([(19, 12), (49, (-1))], 4), ([(20, 12), (50, (-1))], 4), ([(21, 12), (51, (-1))], 4), ([(22, 12), (52, (-1))], 4), ([(23, 12), (53, (-1))], 4), ([(24, 12), (54, (-1))], 4), ([(25, 12), (55, (-1))], 4), ([(26, 12), (56, (-1))], 4), ([(27, 12), (57, (-1))], 4), ([(28, 12), (58, (-1))], 4), ([(29, 12), (59, (-1))], 4), ([(30, 12), (60, (-1))], 4), ([(31, 12), (61, (-1))], 4), ([(32, 12), (62, (-1))], 4), ([(33, 12), (63, (-1))], 4), ([(34, 12), (64, (-1))], 4), ([(35, 12), (65, (-1))], 4), ([(36, 12), (66, (-1))], 4), ([(37, 12), (67, (-1))], 4), ([(38, 12), (68, (-1))], 4), ([(39, 12), (69, (-1))], 4), ([(40, 12), (70, (-1))], 4)]
noncomputable def hq_488 : HP := [(false, .inl (0, [(1, 3, 0), (6, 2, 0), (6, 3, 0), (6, 5, 0)])), (false, .inl (7, [(6, 6, 0), (6, 4, 0), (8, 9, 0), (8, 10, 0)])), (false, ac_494), (false, am_12), (true, am_1), (false, ac_495), (true, am_3)]
noncomputable def con_860 : Con2 := ((yX0_playOn, cX0_playOn, 4, none), (2, 45), ([(6, 0, 0), (6, 1, 0), (0, 1, 0)], gi_439, hc_98, rq_1), [((9, 0, 0), gi_439, hq_488, [], [])])
theorem hd_860 : con_860.1 = (yX0_playOn, cX0_playOn, 4, none) := rfl
theorem ck_RX0_30_859 : COK2 RX0 vwCl gTbl 30 0 con_859 := ⟨wd_862, wd_133, mh_X7_placeMan, .inr (.inr ⟨rfl, wd_859, wd_860, wd_861, ⟨_, rfl, pd_X7_placeMan⟩, 7, _, TX7, 4, rfl, rfl⟩)⟩
noncomputable def ct_860 : CTB2 := [(62, 30, 0, con_859, [1, 6])]
noncomputable def gi_440 : GI := jl_n [jl_z 3, jl_i 0 30, gp_248]
noncomputable def hq_489 : HP := [(false, .inl (0, [(1, 3, 0), (6, 2, 0), (6, 3, 0), (6, 5, 0)])), (false, .inl (7, [(6, 6, 0), (6, 4, 0), (8, 9, 0), (8, 10, 0)])), (false, ac_494), (false, am_12), (false, am_1), (false, ac_495), (false, am_3)]
noncomputable def gi_441 : GI := jl_n [jl_z 3, jl_i 1 30, gp_248]
noncomputable def gi_442 : GI := jl_n [jl_z 3, jl_i 2 30, gp_248]
noncomputable def gi_443 : GI := jl_n [jl_z 3, jl_i 3 30, gp_248]
noncomputable def gi_444 : GI := jl_n [jl_z 3, jl_i 4 30, gp_248]
noncomputable def gi_445 : GI := jl_n [jl_z 3, jl_i 5 30, gp_248]
noncomputable def gi_446 : GI := jl_n [jl_z 3, jl_i 6 30, gp_248]
noncomputable def gi_447 : GI := jl_n [jl_z 3, jl_i 7 30, gp_248]
noncomputable def gi_448 : GI := jl_n [jl_z 3, jl_i 8 30, gp_248]
noncomputable def gi_449 : GI := jl_n [jl_z 3, jl_i 9 30, gp_248]
noncomputable def gi_450 : GI := jl_n [jl_z 3, jl_i 10 30, gp_248]
noncomputable def gi_451 : GI := jl_n [jl_z 3, jl_i 11 30, gp_248]
noncomputable def gi_452 : GI := jl_n [jl_z 3, jl_i 12 30, gp_248]
noncomputable def gi_453 : GI := jl_n [jl_z 3, jl_i 13 30, gp_248]
noncomputable def gi_454 : GI := jl_n [jl_z 3, jl_i 14 30, gp_248]
noncomputable def gi_455 : GI := jl_n [jl_z 3, jl_i 15 30, gp_248]
noncomputable def gi_456 : GI := jl_n [jl_z 3, jl_i 16 30, gp_248]
noncomputable def gi_457 : GI := jl_n [jl_z 3, jl_i 17 30, gp_248]
noncomputable def gi_458 : GI := jl_n [jl_z 3, jl_i 18 30, gp_248]
noncomputable def gi_459 : GI := jl_n [jl_z 3, jl_i 19 30, gp_248]
noncomputable def gi_460 : GI := jl_n [jl_z 3, jl_i 20 30, gp_248]
noncomputable def gi_461 : GI := jl_n [jl_z 3, jl_i 21 30, gp_248]
noncomputable def gi_462 : GI := jl_n [jl_z 3, jl_i 22 30, gp_248]
noncomputable def gi_463 : GI := jl_n [jl_z 3, jl_i 23 30, gp_248]
noncomputable def gi_464 : GI := jl_n [jl_z 3, jl_i 24 30, gp_248]
noncomputable def gi_465 : GI := jl_n [jl_z 3, jl_i 25 30, gp_248]
noncomputable def gi_466 : GI := jl_n [jl_z 3, jl_i 26 30, gp_248]
noncomputable def gi_467 : GI := jl_n [jl_z 3, jl_i 27 30, gp_248]
noncomputable def gi_468 : GI := jl_n [jl_z 3, jl_i 28 30, gp_248]
noncomputable def gi_469 : GI := jl_n [jl_z 3, jl_i 29 30, gp_248]
noncomputable def gi_470 : GI := jl_n [jl_z 3, jl_i 30 30, gp_248]
noncomputable def cu_860_0 : List CUT2 := [((2, [lq 0 6 0, lq 1 6 1, lq 2 0 1, lq 3 0 0], [], gi_440, hq_489), rq_1, ([], 30)), ((2, [lq 0 6 0, lq 1 6 1, lq 2 0 1, lq 3 0 1], [], gi_441, hq_488), rq_1, ([], 29)), ((2, [lq 0 6 0, lq 1 6 1, lq 2 0 1, lq 3 0 2], [], gi_442, hq_488), rq_1, ([], 28)), ((2, [lq 0 6 0, lq 1 6 1, lq 2 0 1, lq 3 0 3], [], gi_443, hq_488), rq_1, ([], 27)), ((2, [lq 0 6 0, lq 1 6 1, lq 2 0 1, lq 3 0 4], [], gi_444, hq_488), rq_1, ([], 26)), ((2, [lq 0 6 0, lq 1 6 1, lq 2 0 1, lq 3 0 5], [], gi_445, hq_488), rq_1, ([], 25)), ((2, [lq 0 6 0, lq 1 6 1, lq 2 0 1, lq 3 0 6], [], gi_446, hq_488), rq_1, ([], 24)), ((2, [lq 0 6 0, lq 1 6 1, lq 2 0 1, lq 3 0 7], [], gi_447, hq_488), rq_1, ([], 23)), ((2, [lq 0 6 0, lq 1 6 1, lq 2 0 1, lq 3 0 8], [], gi_448, hq_488), rq_1, ([], 22)), ((2, [lq 0 6 0, lq 1 6 1, lq 2 0 1, lq 3 0 9], [], gi_449, hq_488), rq_1, ([], 21)), ((2, [lq 0 6 0, lq 1 6 1, lq 2 0 1, lq 3 0 10], [], gi_450, hq_488), rq_1, ([], 20)), ((2, [lq 0 6 0, lq 1 6 1, lq 2 0 1, lq 3 0 11], [], gi_451, hq_488), rq_1, ([], 19)), ((2, [lq 0 6 0, lq 1 6 1, lq 2 0 1, lq 3 0 12], [], gi_452, hq_488), rq_1, ([], 18)), ((2, [lq 0 6 0, lq 1 6 1, lq 2 0 1, lq 3 0 13], [], gi_453, hq_488), rq_1, ([], 17)), ((2, [lq 0 6 0, lq 1 6 1, lq 2 0 1, lq 3 0 14], [], gi_454, hq_488), rq_1, ([], 16)), ((2, [lq 0 6 0, lq 1 6 1, lq 2 0 1, lq 3 0 15], [], gi_455, hq_488), rq_1, ([], 15)), ((2, [lq 0 6 0, lq 1 6 1, lq 2 0 1, lq 3 0 16], [], gi_456, hq_488), rq_1, ([], 14)), ((2, [lq 0 6 0, lq 1 6 1, lq 2 0 1, lq 3 0 17], [], gi_457, hq_488), rq_1, ([], 13)), ((2, [lq 0 6 0, lq 1 6 1, lq 2 0 1, lq 3 0 18], [], gi_458, hq_488), rq_1, ([], 12))]
noncomputable def cu_860_1 : List CUT2 := [((2, [lq 0 6 0, lq 1 6 1, lq 2 0 1, lq 3 0 19], [], gi_459, hq_488), rq_1, ([], 11)), ((2, [lq 0 6 0, lq 1 6 1, lq 2 0 1, lq 3 0 20], [], gi_460, hq_488), rq_1, ([], 10)), ((2, [lq 0 6 0, lq 1 6 1, lq 2 0 1, lq 3 0 21], [], gi_461, hq_488), rq_1, ([], 9)), ((2, [lq 0 6 0, lq 1 6 1, lq 2 0 1, lq 3 0 22], [], gi_462, hq_488), rq_1, ([], 8)), ((2, [lq 0 6 0, lq 1 6 1, lq 2 0 1, lq 3 0 23], [], gi_463, hq_488), rq_1, ([], 7)), ((2, [lq 0 6 0, lq 1 6 1, lq 2 0 1, lq 3 0 24], [], gi_464, hq_488), rq_1, ([], 6)), ((2, [lq 0 6 0, lq 1 6 1, lq 2 0 1, lq 3 0 25], [], gi_465, hq_488), rq_1, ([], 5)), ((2, [lq 0 6 0, lq 1 6 1, lq 2 0 1, lq 3 0 26], [], gi_466, hq_488), rq_1, ([], 4)), ((2, [lq 0 6 0, lq 1 6 1, lq 2 0 1, lq 3 0 27], [], gi_467, hq_488), rq_1, ([], 3)), ((2, [lq 0 6 0, lq 1 6 1, lq 2 0 1, lq 3 0 28], [], gi_468, hq_488), rq_1, ([], 2)), ((2, [lq 0 6 0, lq 1 6 1, lq 2 0 1, lq 3 0 29], [], gi_469, hq_488), rq_1, ([], 1)), ((2, [lq 0 6 0, lq 1 6 1, lq 2 0 1, lq 3 0 30], [], gi_470, hq_488), rq_1, ([], 0))]
noncomputable def cu_860 : List CUT2 := cu_860_0 ++ (cu_860_1)
theorem ch_860 : staG tb_X0_playOn 1 bt_RX0 [] ct_860 [(62, [(0, (0, 0, 0), (-1), 4)])] [] cu_860 32 con_860 = true := by decide +kernel
theorem cc_860_0 : cu_860_0.all (cutG tb_X0_playOn 1 bt_RX0 [] ct_860 [(62, [(0, (0, 0, 0), (-1), 4)])] [] cu_860 32 con_860) = true := by decide +kernel
theorem cc_860_1 : cu_860_1.all (cutG tb_X0_playOn 1 bt_RX0 [] ct_860 [(62, [(0, (0, 0, 0), (-1), 4)])] [] cu_860 32 con_860) = true := by decide +kernel
theorem cto_860 (l : Launch) : CTOK2 l RX0 vwCl gTbl ct_860 := ct2_cons (vl_859 l) ck_RX0_30_859 (ct2_nil)
theorem vl_860 (l : Launch) : Vld2 l vwCl gTbl con_860 := conR_ok3 gT_all (hd_860) rfl pn_RX0 tk_X0_playOn bo_RX0 xo_RX0 (cto_860 l) ch_860 (cut_app (cut_all cc_860_0) (cut_all cc_860_1))
/-- RookHusting$Harvest leastFeared -/
noncomputable def gi_471 : GI := jl_n [gp_7, jl_i 0 16, gp_249]
noncomputable def ac_496 : AC := .inl (3, jl_n [jl_6 2 1, jl_8 10 6, vp_67])
noncomputable def gi_472 : GI := jl_n [gp_7, jl_i 0 16, gp_249, jl_m 0 4]
noncomputable def hq_490 : HP := [(false, ac_496), (false, am_0)]
noncomputable def con_863 : Con2 := ((yX3_leastFeared, cX3_leastFeared, 5, (some .int)), (0, 0), ([(6, 0, 0), (1, 1, 0), (1, 2, 0)], gi_471, [ac_496, am_0], []), [((1, 12, 0), gi_472, hq_490, [], [1])])
theorem hd_863 : con_863.1 = (yX3_leastFeared, cX3_leastFeared, 5, (some .int)) := rfl
noncomputable def ct_863 : CTB2 := []
noncomputable def gi_473 : GI := jl_n [gp_7, jl_i 0 16, gp_250, jl_z 4, gp_225]
noncomputable def cu_863 : List CUT2 := [((5, [lq 0 6 0, lq 1 1 1, lq 2 1 2, lq 3 1 15, lq 4 1 16], [], gi_473, hq_490), [], ([(16, (-1))], 5))]
theorem ch_863 : staG tb_X3_leastFeared 1 bt_RX3 [] ct_863 [] [] cu_863 38 con_863 = true := by decide +kernel
theorem cc_863 : cu_863.all (cutG tb_X3_leastFeared 1 bt_RX3 [] ct_863 [] [] cu_863 38 con_863) = true := by decide +kernel
theorem cto_863 (l : Launch) : CTOK2 l RX3 vwCl gTbl ct_863 := ct2_nil
theorem vl_863 (l : Launch) : Vld2 l vwCl gTbl con_863 := conR_ok3 gT_all (hd_863) rfl pn_RX3 tk_X3_leastFeared bo_RX3 xo_RX3 (cto_863 l) ch_863 (cut_all cc_863)
