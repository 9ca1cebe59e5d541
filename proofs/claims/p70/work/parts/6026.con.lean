/-! ===== contracts, 26 ===== -/
/-- RookHusting most -/
noncomputable def gi_835 : GI := jl_n [gp_275, jl_m 1 2147483647, gp_276]
noncomputable def con_1446 : Con2 := ((yX11_most, cX11_most, 2, (some .int)), (6, 151), ([(6, 0, 0), (1, 1, 0)], gi_493, hc_104, rq_3), [((1, 116, 0), gi_835, hq_498, [], tg_15)])
theorem hd_1446 : con_1446.1 = (yX11_most, cX11_most, 2, (some .int)) := rfl
theorem ck_RX11_311_1445 : COK2 RX11 vwCl gTbl 311 0 con_1445 := ⟨wd_1132, wd_134, mh_X3_mostRooks, .inr (.inr ⟨rfl, wd_1129, wd_1130, wd_1131, ⟨_, rfl, pd_X3_mostRooks⟩, 3, _, TX3, 9, rfl, rfl⟩)⟩
noncomputable def ct_1446 : CTB2 := [(2, 139, 0, con_647, [0, 1, 2]), (12, 208, 0, con_929, [0, 1, 3, 2, 4, 5, 6, 7, 8, 9, 10, 11, 12, 13, 14, 15, 16, 17, 18, 19, 20, 21, 22, 23, 24, 25, 26]), (20, 311, 0, con_1445, [15, 17])]
noncomputable def cu_1446 : List CUT2 := []
theorem ch_1446 : staG tb_X11_most 1 bt_RX11 [] ct_1446 [] [] cu_1446 13 con_1446 = true := by decide +kernel
theorem cto_1446 (l : Launch) : CTOK2 l RX11 vwCl gTbl ct_1446 := ct2_cons (vl_647 l) ck_RX11_139_647 (ct2_cons (vl_929 l) ck_RX11_208_929 (ct2_cons (vl_1445 l) ck_RX11_311_1445 (ct2_nil)))
theorem vl_1446 (l : Launch) : Vld2 l vwCl gTbl con_1446 := conR_ok3 gT_all (hd_1446) rfl pn_RX11 tk_X11_most bo_RX11 xo_RX11 (cto_1446 l) ch_1446 cut_nil
/-- RookHustingModel most -/
noncomputable def gi_836 : GI := jl_n [gp_288, jl_m 1 2147483647, jl_z 45]
noncomputable def con_1447 : Con2 := ((yX12_most, cX12_most, 4, (some .int)), (10, 229), ([(6, 0, 0), (1, 1, 0)], gi_507, hc_148, []), [((1, 70, 0), gi_836, hq_567, [], tg_1)])
theorem hd_1447 : con_1447.1 = (yX12_most, cX12_most, 4, (some .int)) := rfl
noncomputable def gi_837 : GI := jl_n [gp_370, jl_z 16, jl_i 0 2147483647, jl_i 0 17, jl_z 45]
noncomputable def cu_1447 : List CUT2 := [((15, [lq 0 6 0, lq 1 1 1, lq 2 1 72, lq 3 1 73], [], gi_837, hq_567), [], ([(73, (-1))], 17))]
theorem ch_1447 : staG tb_X12_most 1 bt_RX12 [] ct_1444 [] [] cu_1447 20 con_1447 = true := by decide +kernel
theorem cc_1447 : cu_1447.all (cutG tb_X12_most 1 bt_RX12 [] ct_1444 [] [] cu_1447 20 con_1447) = true := by decide +kernel
theorem vl_1447 (l : Launch) : Vld2 l vwCl gTbl con_1447 := conR_ok3 gT_all (hd_1447) rfl pn_RX12 tk_X12_most bo_RX12 xo_RX12 (cto_1444 l) ch_1447 (cut_all cc_1447)
/-- RookHusting$Harvest sumOf -/
noncomputable def ac_692 : AC := .inl (3, jl_n [vp_23, vp_66])
noncomputable def hq_604 : HP := [(false, ac_692), (false, am_0)]
noncomputable def con_1448 : Con2 := ((yX3_sumOf, cX3_sumOf, 5, (some .int)), (0, 0), ([(6, 0, 0), (6, 1, 0), (1, 2, 0)], gi_798, [ac_692, am_0], []), [((1, 12, 0), gi_799, hq_604, [], [1])])
theorem hd_1448 : con_1448.1 = (yX3_sumOf, cX3_sumOf, 5, (some .int)) := rfl
noncomputable def cu_1448 : List CUT2 := [((5, [lq 0 6 0, lq 1 6 1, lq 2 1 2, lq 3 1 15, lq 4 1 16], [], gi_800, hq_604), [], ([(16, (-1))], 5))]
theorem ch_1448 : staG tb_X3_sumOf 1 bt_RX3 [] ct_873 [] [] cu_1448 19 con_1448 = true := by decide +kernel
theorem cc_1448 : cu_1448.all (cutG tb_X3_sumOf 1 bt_RX3 [] ct_873 [] [] cu_1448 19 con_1448) = true := by decide +kernel
theorem vl_1448 (l : Launch) : Vld2 l vwCl gTbl con_1448 := conR_ok3 gT_all (hd_1448) rfl pn_RX3 tk_X3_sumOf bo_RX3 xo_RX3 (cto_873 l) ch_1448 (cut_all cc_1448)
/-- RookHusting sumNow -/
noncomputable def gi_838 : GI := jl_n [gp_247, gp_340]
noncomputable def ac_693 : AC := .inl (4, jl_n [vp_123, vp_94, jl_6 9 1, jl_6 25 2, jl_6 12 1, jl_8 41 2, jl_6 11 1])
noncomputable def ac_694 : AC := .inl (3, jl_n [vp_127, jl_6 2 1, vp_128, jl_1 117 2])
noncomputable def hc_173 : List AC := [ac_640, am_0, .inl (9, [(6, 4, 0), (6, 12, 0)]), .inl (7, [(6, 5, 0), (6, 6, 0), (6, 7, 0), (1, 24, 0)]), ac_693, am_7, am_1, am_1, am_1, .inl (1, [(6, 4, 0), (8, 43, 0)]), am_4, am_6, .inl (0, [(1, 44, 0), (6, 13, 0), (6, 14, 0), (6, 15, 0)]), ac_642, am_11, ac_643, ac_694, am_2, am_0, am_10, am_0, am_1, am_0, am_2, am_9, am_0, am_12]
noncomputable def gi_839 : GI := jl_n [gp_247, gp_341]
noncomputable def ac_695 : AC := .inl (3, jl_n [vp_127, jl_6 2 1, vp_128, jl_1 147 2])
noncomputable def hq_605 : HP := [(true, ac_645), (true, am_0), (false, .inl (9, [(6, 4, 0), (6, 12, 0)])), (true, .inl (7, [(6, 5, 0), (6, 6, 0), (6, 7, 0), (1, 137, 0)])), (false, ac_693), (true, am_7), (true, am_1), (true, am_1), (false, am_1), (false, .inl (1, [(6, 4, 0), (8, 43, 0)])), (false, am_4), (false, am_6), (false, .inl (0, [(1, 44, 0), (6, 13, 0), (6, 14, 0), (6, 15, 0)])), (false, ac_642), (false, am_11), (false, ac_643), (true, ac_695), (false, am_2), (true, am_0), (false, am_10), (true, am_0), (true, am_1), (true, am_0), (false, am_2), (false, am_9), (true, am_0), (true, am_12)]
noncomputable def con_1449 : Con2 := ((yX11_sumNow, cX11_sumNow, 3, (some .int)), (6, 151), ([(6, 0, 0), (6, 1, 0), (1, 2, 0)], gi_838, hc_173, rq_6), [((1, 117, 0), gi_839, hq_605, [], tg_15)])
theorem hd_1449 : con_1449.1 = (yX11_sumNow, cX11_sumNow, 3, (some .int)) := rfl
theorem ck_RX11_300_1448 : COK2 RX11 vwCl gTbl 300 0 con_1448 := ⟨wd_1055, wd_134, mh_X3_sumOf, .inr (.inr ⟨rfl, wd_1052, wd_1053, wd_1054, ⟨_, rfl, pd_X3_sumOf⟩, 3, _, TX3, 9, rfl, rfl⟩)⟩
noncomputable def ct_1449 : CTB2 := [(1, 208, 0, con_929, [0, 2, 3, 4, 5, 6, 7, 8, 9, 10, 11, 12, 13, 14, 15, 16, 17, 18, 19, 20, 21, 22, 23, 24, 25, 1, 26]), (10, 300, 0, con_1448, [16, 1])]
noncomputable def cu_1449 : List CUT2 := []
theorem ch_1449 : staG tb_X11_sumNow 1 bt_RX11 [] ct_1449 [] [] cu_1449 10 con_1449 = true := by decide +kernel
theorem cto_1449 (l : Launch) : CTOK2 l RX11 vwCl gTbl ct_1449 := ct2_cons (vl_929 l) ck_RX11_208_929 (ct2_cons (vl_1448 l) ck_RX11_300_1448 (ct2_nil))
theorem vl_1449 (l : Launch) : Vld2 l vwCl gTbl con_1449 := conR_ok3 gT_all (hd_1449) rfl pn_RX11 tk_X11_sumNow bo_RX11 xo_RX11 (cto_1449 l) ch_1449 cut_nil
/-- RookHusting flown -/
noncomputable def ac_696 : AC := .inl (4, jl_n [vp_82, vp_103, jl_6 25 2, jl_6 13 1, vp_124])
noncomputable def ac_697 : AC := .inl (3, jl_n [vp_127, jl_6 5 1, vp_128, jl_1 46 2])
noncomputable def hc_174 : List AC := [ac_647, .inl (9, [(6, 2, 0), (6, 13, 0)]), ac_696, ac_697, am_0, .inl (7, [(6, 6, 0), (6, 7, 0), (6, 8, 0), (1, 49, 0)]), am_7, am_1, am_1, am_1, .inl (1, [(6, 2, 0), (8, 51, 0)]), am_4, am_6, .inl (0, [(1, 52, 0), (6, 14, 0), (6, 15, 0), (6, 16, 0)]), ac_650, am_11, ac_651, am_2, am_0, am_10, am_0, am_1, am_0, am_2, am_9, am_0, am_12]
noncomputable def ac_698 : AC := .inl (3, jl_n [vp_127, jl_6 5 1, vp_128, jl_1 142 2])
noncomputable def hq_606 : HP := [(true, ac_652), (false, .inl (9, [(6, 2, 0), (6, 13, 0)])), (false, ac_696), (true, ac_698), (true, am_0), (true, .inl (7, [(6, 6, 0), (6, 7, 0), (6, 8, 0), (1, 145, 0)])), (true, am_7), (true, am_1), (true, am_1), (false, am_1), (false, .inl (1, [(6, 2, 0), (8, 51, 0)])), (false, am_4), (false, am_6), (false, .inl (0, [(1, 52, 0), (6, 14, 0), (6, 15, 0), (6, 16, 0)])), (false, ac_650), (false, am_11), (false, ac_651), (false, am_2), (true, am_0), (false, am_10), (true, am_0), (true, am_1), (true, am_0), (false, am_2), (false, am_9), (true, am_0), (true, am_12)]
noncomputable def con_1450 : Con2 := ((yX11_flown, cX11_flown, 2, (some .int)), (7, 173), ([(6, 0, 0), (1, 1, 0)], gi_782, hc_174, rq_7), [((1, 116, 0), gi_824, hq_606, [], tg_15)])
theorem hd_1450 : con_1450.1 = (yX11_flown, cX11_flown, 2, (some .int)) := rfl
theorem ck_RX11_281_1449 : COK2 RX11 vwCl gTbl 281 0 con_1449 := ⟨wd_1051, wd_125, mh_X11_sumNow, .inr (.inr ⟨rfl, wd_1048, wd_1050, wd_34, ⟨_, rfl, pd_X11_sumNow⟩, 11, _, TX11, 16, rfl, rfl⟩)⟩
noncomputable def ct_1450 : CTB2 := [(2, 272, 0, con_1364, [0, 1, 2]), (17, 281, 0, con_1449, [0, 4, 1, 5, 2, 6, 7, 8, 9, 10, 11, 12, 13, 14, 15, 16, 3, 17, 18, 19, 20, 21, 22, 23, 24, 25, 26])]
noncomputable def cu_1450 : List CUT2 := []
theorem ch_1450 : staG tb_X11_flown 1 bt_RX11 [] ct_1450 [] [] cu_1450 14 con_1450 = true := by decide +kernel
theorem cto_1450 (l : Launch) : CTOK2 l RX11 vwCl gTbl ct_1450 := ct2_cons (vl_1364 l) ck_RX11_272_1364 (ct2_cons (vl_1449 l) ck_RX11_281_1449 (ct2_nil))
theorem vl_1450 (l : Launch) : Vld2 l vwCl gTbl con_1450 := conR_ok3 gT_all (hd_1450) rfl pn_RX11 tk_X11_flown bo_RX11 xo_RX11 (cto_1450 l) ch_1450 cut_nil
/-- RookHustingModel flown -/
noncomputable def con_1451 : Con2 := ((yX12_flown, cX12_flown, 2, (some .int)), (10, 229), ([(6, 0, 0), (1, 1, 0)], gi_507, hc_148, []), [((1, 70, 0), gi_771, hq_567, [], tg_1)])
theorem hd_1451 : con_1451.1 = (yX12_flown, cX12_flown, 2, (some .int)) := rfl
noncomputable def ct_1451 : CTB2 := [(2, 381, 0, con_1369, [0, 1, 2, 3, 4, 5, 6, 7, 8, 9, 10, 11, 12])]
noncomputable def cu_1451 : List CUT2 := []
theorem ch_1451 : staG tb_X12_flown 1 bt_RX12 [] ct_1451 [] [] cu_1451 12 con_1451 = true := by decide +kernel
theorem cto_1451 (l : Launch) : CTOK2 l RX12 vwCl gTbl ct_1451 := ct2_cons (vl_1369 l) ck_RX12_381_1369 (ct2_nil)
theorem vl_1451 (l : Launch) : Vld2 l vwCl gTbl con_1451 := conR_ok3 gT_all (hd_1451) rfl pn_RX12 tk_X12_flown bo_RX12 xo_RX12 (cto_1451 l) ch_1451 cut_nil
/-- RookHusting$Harvest fieldOfMost -/
noncomputable def con_1452 : Con2 := ((yX3_fieldOfMost, cX3_fieldOfMost, 5, (some .int)), (0, 0), ([(6, 0, 0), (6, 1, 0), (1, 2, 0)], gi_761, [ac_639, am_0], []), [((1, 12, 0), gi_772, hq_578, [], [1])])
theorem hd_1452 : con_1452.1 = (yX3_fieldOfMost, cX3_fieldOfMost, 5, (some .int)) := rfl
noncomputable def cu_1452 : List CUT2 := [((5, [lq 0 6 0, lq 1 6 1, lq 2 1 2, lq 3 1 15, lq 4 1 16], [], gi_773, hq_578), [], ([(16, (-1))], 5))]
theorem ch_1452 : staG tb_X3_fieldOfMost 1 bt_RX3 [] ct_873 [] [] cu_1452 29 con_1452 = true := by decide +kernel
theorem cc_1452 : cu_1452.all (cutG tb_X3_fieldOfMost 1 bt_RX3 [] ct_873 [] [] cu_1452 29 con_1452) = true := by decide +kernel
theorem vl_1452 (l : Launch) : Vld2 l vwCl gTbl con_1452 := conR_ok3 gT_all (hd_1452) rfl pn_RX3 tk_X3_fieldOfMost bo_RX3 xo_RX3 (cto_873 l) ch_1452 (cut_all cc_1452)
/-- RookHusting mostNow -/
noncomputable def con_1453 : Con2 := ((yX11_mostNow, cX11_mostNow, 3, (some .int)), (6, 151), ([(6, 0, 0), (6, 1, 0), (1, 2, 0)], gi_764, hc_158, rq_6), [((1, 117, 0), gi_774, hq_579, [], tg_15)])
theorem hd_1453 : con_1453.1 = (yX11_mostNow, cX11_mostNow, 3, (some .int)) := rfl
theorem ck_RX11_464_1452 : COK2 RX11 vwCl gTbl 464 0 con_1452 := ⟨wd_1067, wd_134, mh_X3_fieldOfMost, .inr (.inr ⟨rfl, wd_1064, wd_1065, wd_1066, ⟨_, rfl, pd_X3_fieldOfMost⟩, 3, _, TX3, 9, rfl, rfl⟩)⟩
noncomputable def ct_1453 : CTB2 := [(1, 208, 0, con_929, [0, 2, 3, 4, 5, 6, 7, 8, 9, 10, 11, 12, 13, 14, 15, 16, 17, 18, 19, 1, 20, 21, 22, 23, 24, 25, 26]), (10, 464, 0, con_1452, [16, 1])]
noncomputable def cu_1453 : List CUT2 := []
theorem ch_1453 : staG tb_X11_mostNow 1 bt_RX11 [] ct_1453 [] [] cu_1453 10 con_1453 = true := by decide +kernel
theorem cto_1453 (l : Launch) : CTOK2 l RX11 vwCl gTbl ct_1453 := ct2_cons (vl_929 l) ck_RX11_208_929 (ct2_cons (vl_1452 l) ck_RX11_464_1452 (ct2_nil))
theorem vl_1453 (l : Launch) : Vld2 l vwCl gTbl con_1453 := conR_ok3 gT_all (hd_1453) rfl pn_RX11 tk_X11_mostNow bo_RX11 xo_RX11 (cto_1453 l) ch_1453 cut_nil
/-- RookHusting richest -/
noncomputable def con_1454 : Con2 := ((yX11_richest, cX11_richest, 2, (some .int)), (7, 173), ([(6, 0, 0), (1, 1, 0)], gi_766, hc_159, rq_7), [((1, 116, 0), gi_775, hq_580, [], tg_15)])
theorem hd_1454 : con_1454.1 = (yX11_richest, cX11_richest, 2, (some .int)) := rfl
theorem ck_RX11_285_1453 : COK2 RX11 vwCl gTbl 285 0 con_1453 := ⟨wd_1063, wd_125, mh_X11_mostNow, .inr (.inr ⟨rfl, wd_1060, wd_1062, wd_35, ⟨_, rfl, pd_X11_mostNow⟩, 11, _, TX11, 16, rfl, rfl⟩)⟩
noncomputable def ct_1454 : CTB2 := [(2, 260, 0, con_1341, [0, 1, 2]), (17, 285, 0, con_1453, [0, 4, 1, 5, 2, 6, 7, 8, 9, 10, 11, 12, 13, 14, 15, 16, 3, 17, 18, 19, 20, 21, 22, 23, 24, 25, 26])]
noncomputable def cu_1454 : List CUT2 := []
theorem ch_1454 : staG tb_X11_richest 1 bt_RX11 [] ct_1454 [] [] cu_1454 14 con_1454 = true := by decide +kernel
theorem cto_1454 (l : Launch) : CTOK2 l RX11 vwCl gTbl ct_1454 := ct2_cons (vl_1341 l) ck_RX11_260_1341 (ct2_cons (vl_1453 l) ck_RX11_285_1453 (ct2_nil))
theorem vl_1454 (l : Launch) : Vld2 l vwCl gTbl con_1454 := conR_ok3 gT_all (hd_1454) rfl pn_RX11 tk_X11_richest bo_RX11 xo_RX11 (cto_1454 l) ch_1454 cut_nil
/-- RookHustingModel richest -/
noncomputable def con_1455 : Con2 := ((yX12_richest, cX12_richest, 4, (some .int)), (10, 229), ([(6, 0, 0), (1, 1, 0)], gi_507, hc_148, []), [((1, 70, 0), gi_508, hq_567, [], tg_1)])
theorem hd_1455 : con_1455.1 = (yX12_richest, cX12_richest, 4, (some .int)) := rfl
noncomputable def cu_1455 : List CUT2 := [((15, [lq 0 6 0, lq 1 1 1, lq 2 1 72, lq 3 1 73], [], gi_776, hq_567), [], ([(73, (-1))], 5))]
theorem ch_1455 : staG tb_X12_richest 1 bt_RX12 [] ct_1382 [] [] cu_1455 31 con_1455 = true := by decide +kernel
theorem cc_1455 : cu_1455.all (cutG tb_X12_richest 1 bt_RX12 [] ct_1382 [] [] cu_1455 31 con_1455) = true := by decide +kernel
theorem vl_1455 (l : Launch) : Vld2 l vwCl gTbl con_1455 := conR_ok3 gT_all (hd_1455) rfl pn_RX12 tk_X12_richest bo_RX12 xo_RX12 (cto_1382 l) ch_1455 (cut_all cc_1455)
/-- RookHusting$Scene copyFrom -/
noncomputable def gi_840 : GI := jl_n [jl_z 5, gp_381, jl_t]
noncomputable def hc_175 : List AC := [.inl (7, [(6, 2, 0), (6, 4, 0), (6, 6, 0), (1, 5, 0)]), .inl (7, [(6, 3, 0), (6, 5, 0), (6, 7, 0), (1, 9, 0)]), am_7, am_7, am_1, am_1, am_1, am_1]
noncomputable def gi_841 : GI := jl_n [jl_z 5, gp_381, jl_t, jl_z 4]
noncomputable def hq_607 : HP := [(true, .inl (7, [(6, 2, 0), (6, 4, 0), (6, 6, 0), (1, 9, 0)])), (false, .inl (7, [(6, 3, 0), (6, 5, 0), (6, 7, 0), (1, 9, 0)])), (true, am_7), (false, am_7), (true, am_1), (false, am_1), (true, am_1), (false, am_1)]
noncomputable def con_1456 : Con2 := ((yX7_copyFrom, cX7_copyFrom, 2, none), (1, 18), ([(6, 0, 0), (6, 1, 0)], gi_840, hc_175, []), [((9, 0, 0), gi_841, hq_607, [], [1, 1, 1, 1])])
theorem hd_1456 : con_1456.1 = (yX7_copyFrom, cX7_copyFrom, 2, none) := rfl
noncomputable def cu_1456 : List CUT2 := []
theorem ch_1456 : staG tb_X7_copyFrom 1 bt_RX7 [] ct_867 [] [] cu_1456 31 con_1456 = true := by decide +kernel
theorem vl_1456 (l : Launch) : Vld2 l vwCl gTbl con_1456 := conR_ok3 gT_all (hd_1456) rfl pn_RX7 tk_X7_copyFrom bo_RX7 xo_RX7 (cto_867 l) ch_1456 cut_nil
/-- RookHusting$PutSearch weighRow -/
noncomputable def gi_842 : GI := jl_n [jl_z 1, jl_i 0 63, gp_198, jl_z 5, gp_383, gp_349]
noncomputable def ac_699 : AC := .inl (5, jl_n [jl_6 19 1, jl_1 6 3, jl_8 7 1, vp_129])
noncomputable def ac_700 : AC := .inl (4, jl_n [jl_8 11 1, vp_18, jl_1 15 1, jl_8 18 3, vp_130, jl_8 21 1, jl_6 14 2, jl_8 27 4])
noncomputable def ac_701 : AC := .inl (3, jl_n [vp_131, jl_1 36 2])
noncomputable def hc_176 : List AC := [ac_699, ac_700, ac_701, .inl (7, [(6, 10, 0), (6, 8, 0), (6, 17, 0), (1, 39, 0)]), am_2, am_0, am_10, am_0, am_1, am_1, am_7, am_0, am_2, am_9, am_0, am_0, am_12, am_1, am_7]
noncomputable def gi_843 : GI := jl_n [jl_z 1, jl_i 0 63, gp_198, jl_z 5, gp_383, gp_344, gp_384, gp_385]
noncomputable def ac_702 : AC := .inl (5, jl_n [jl_6 19 1, jl_1 44 3, jl_8 7 1, vp_129])
noncomputable def ac_703 : AC := .inl (3, jl_n [vp_131, jl_1 56 1, jl_1 12 1])
noncomputable def hq_608 : HP := [(true, ac_702), (false, ac_700), (true, ac_703), (false, .inl (7, [(6, 10, 0), (6, 8, 0), (6, 17, 0), (1, 39, 0)])), (false, am_2), (true, am_0), (false, am_10), (true, am_0), (false, am_1), (true, am_1), (false, am_7), (true, am_0), (false, am_2), (false, am_9), (true, am_0), (true, am_0), (true, am_12), (false, am_1), (true, am_7)]
noncomputable def con_1457 : Con2 := ((yX5_weighRow, cX5_weighRow, 3, none), (3, 74), ([(6, 0, 0), (1, 1, 0)], gi_842, hc_176, []), [((9, 0, 0), gi_843, hq_608, [], tg_2)])
theorem hd_1457 : con_1457.1 = (yX5_weighRow, cX5_weighRow, 3, none) := rfl
theorem ck_RX5_85_1374 : COK2 RX5 vwCl gTbl 85 0 con_1374 := ⟨wd_1055, wd_134, mh_X3_sumOf, .inr (.inr ⟨rfl, wd_1159, wd_1053, wd_1054, ⟨_, rfl, pd_X3_sumOf⟩, 3, _, TX3, 9, rfl, rfl⟩)⟩
theorem ck_RX5_77_928 : COK2 RX5 vwCl gTbl 77 0 con_928 := ⟨wd_870, wd_134, mh_X3_passDays, .inr (.inr ⟨rfl, wd_1158, wd_868, wd_869, ⟨_, rfl, pd_X3_passDays⟩, 3, _, TX3, 9, rfl, rfl⟩)⟩
noncomputable def ct_1457 : CTB2 := [(19, 77, 0, con_928, [2, 1, 3, 4, 5, 6, 7, 8, 9, 10, 11, 12, 13, 14, 15, 16, 17]), (40, 85, 0, con_1374, [2, 7])]
noncomputable def cu_1457 : List CUT2 := []
theorem ch_1457 : staG tb_X5_weighRow 1 bt_RX5 [] ct_1457 [] [] cu_1457 46 con_1457 = true := by decide +kernel
theorem cto_1457 (l : Launch) : CTOK2 l RX5 vwCl gTbl ct_1457 := ct2_cons (vl_928 l) ck_RX5_77_928 (ct2_cons (vl_1374 l) ck_RX5_85_1374 (ct2_nil))
theorem vl_1457 (l : Launch) : Vld2 l vwCl gTbl con_1457 := conR_ok3 gT_all (hd_1457) rfl pn_RX5 tk_X5_weighRow bo_RX5 xo_RX5 (cto_1457 l) ch_1457 cut_nil
/-- RookHusting$PutSearch fillFrom -/
noncomputable def gi_844 : GI := jl_n [gp_387, gp_388, gp_349]
noncomputable def ac_704 : AC := .inl (5, jl_n [jl_6 19 1, jl_1 7 3, jl_8 8 1, vp_129])
noncomputable def ac_705 : AC := .inl (4, jl_n [jl_8 12 1, jl_1 13 1, jl_8 15 2, jl_1 16 1, jl_8 17 1, jl_1 18 1, jl_8 19 1, vp_130, jl_8 22 1, jl_6 14 2, jl_8 28 4])
noncomputable def ac_706 : AC := .inl (3, jl_n [vp_131, jl_1 37 2])
noncomputable def hc_177 : List AC := [ac_704, ac_705, ac_706, .inl (7, [(6, 10, 0), (6, 8, 0), (6, 17, 0), (1, 40, 0)]), am_2, am_0, am_10, am_0, am_1, am_1, am_7, am_0, am_2, am_9, am_0, am_0, am_12, am_1, am_7]
noncomputable def gi_845 : GI := jl_n [gp_387, gp_388, gp_344, gp_384, gp_385]
noncomputable def ac_707 : AC := .inl (5, jl_n [jl_6 19 1, jl_1 45 3, jl_8 8 1, vp_129])
noncomputable def ac_708 : AC := .inl (3, jl_n [vp_131, jl_1 57 1, jl_1 13 1])
noncomputable def hq_609 : HP := [(true, ac_707), (false, ac_705), (true, ac_708), (false, .inl (7, [(6, 10, 0), (6, 8, 0), (6, 17, 0), (1, 40, 0)])), (false, am_2), (true, am_0), (false, am_10), (true, am_0), (false, am_1), (true, am_1), (false, am_7), (true, am_0), (false, am_2), (false, am_9), (true, am_0), (true, am_0), (true, am_12), (false, am_1), (true, am_7)]
noncomputable def con_1458 : Con2 := ((yX5_fillFrom, cX5_fillFrom, 4, none), (4, 96), ([(6, 0, 0), (0, 5, 0), (1, 2, 0)], gi_844, hc_177, []), [((9, 0, 0), gi_845, hq_609, [], tg_2)])
theorem hd_1458 : con_1458.1 = (yX5_fillFrom, cX5_fillFrom, 4, none) := rfl
theorem ck_RX5_62_1457 : COK2 RX5 vwCl gTbl 62 0 con_1457 := ⟨wd_1157, wd_135, mh_X5_weighRow, .inr (.inr ⟨rfl, wd_1154, wd_1156, wd_38, ⟨_, rfl, pd_X5_weighRow⟩, 5, _, TX5, 8, rfl, rfl⟩)⟩
theorem ck_RX5_56_675 : COK2 RX5 vwCl gTbl 56 1 con_675 := ⟨wd_806, wd_144, mh_J_bitCount, .inl ⟨rfl, wd_1153, wd_805, pd_J_bitCount⟩⟩
noncomputable def ct_1458 : CTB2 := [(18, 56, 1, con_675, []), (21, 62, 0, con_1457, [0, 1, 2, 3, 4, 5, 6, 7, 8, 9, 10, 11, 12, 13, 14, 15, 16, 17, 18])]
noncomputable def cu_1458 : List CUT2 := []
theorem ch_1458 : staG tb_X5_fillFrom 1 bt_RX5 [] ct_1458 [] [] cu_1458 12 con_1458 = true := by decide +kernel
theorem cto_1458 (l : Launch) : CTOK2 l RX5 vwCl gTbl ct_1458 := ct2_cons (vl_675 l) ck_RX5_56_675 (ct2_cons (vl_1457 l) ck_RX5_62_1457 (ct2_nil))
theorem vl_1458 (l : Launch) : Vld2 l vwCl gTbl con_1458 := conR_ok3 gT_all (hd_1458) rfl pn_RX5 tk_X5_fillFrom bo_RX5 xo_RX5 (cto_1458 l) ch_1458 cut_nil
/-- RookHusting$PutSearch fillFrom -/
noncomputable def hq_610 : HP := [(true, ac_707), (false, ac_705), (true, ac_708), (false, .inl (7, [(6, 10, 0), (6, 8, 0), (6, 17, 0), (1, 40, 0)])), (false, am_2), (true, am_0), (false, am_10), (true, am_0), (false, am_1), (true, am_1), (true, am_7), (true, am_0), (false, am_2), (false, am_9), (true, am_0), (true, am_0), (true, am_12), (false, am_1), (true, am_7)]
noncomputable def con_1459 : Con2 := ((yX5_fillFrom, cX5_fillFrom, 4, none), (5, 119), ([(6, 0, 0), (0, 4, 0), (1, 2, 0)], gi_844, hc_177, []), [((9, 0, 0), gi_845, hq_610, [], tg_2)])
theorem hd_1459 : con_1459.1 = (yX5_fillFrom, cX5_fillFrom, 4, none) := rfl
theorem ck_RX5_47_1458 : COK2 RX5 vwCl gTbl 47 0 con_1458 := ⟨wd_1152, wd_135, mh_X5_fillFrom, .inr (.inr ⟨rfl, wd_1149, wd_1151, wd_37, ⟨_, rfl, pd_X5_fillFrom⟩, 5, _, TX5, 8, rfl, rfl⟩)⟩
theorem ck_RX5_70_696 : COK2 RX5 vwCl gTbl 70 2 con_696 := ⟨wd_682, wd_125, mh_X11_hasBit, .inr (.inl ⟨rfl, by decide +kernel, wd_681, pd_X11_hasBit⟩)⟩
noncomputable def ct_1459 : CTB2 := [(18, 56, 1, con_675, []), (21, 62, 0, con_1457, [0, 1, 2, 3, 4, 5, 6, 7, 8, 9, 10, 11, 12, 13, 14, 15, 16, 17, 18]), (40, 47, 0, con_1458, [0, 1, 2, 3, 4, 5, 6, 7, 8, 9, 10, 11, 12, 13, 14, 15, 16, 17, 18]), (58, 70, 2, con_696, []), (83, 47, 0, con_1458, [0, 1, 2, 3, 4, 5, 6, 7, 8, 9, 10, 11, 12, 13, 14, 15, 16, 17, 18])]
noncomputable def gi_846 : GI := jl_n [gp_387, jl_i 5 5, gp_389]
noncomputable def ac_709 : AC := .inl (5, jl_n [jl_6 19 1, jl_1 49 3, jl_8 8 1, vp_129])
noncomputable def ac_710 : AC := .inl (3, jl_n [vp_131, jl_1 61 1, jl_1 13 1])
noncomputable def hq_611 : HP := [(true, ac_709), (false, ac_705), (true, ac_710), (false, .inl (7, [(6, 10, 0), (6, 8, 0), (6, 17, 0), (1, 40, 0)])), (false, am_2), (true, am_0), (false, am_10), (true, am_0), (false, am_1), (true, am_1), (true, am_7), (true, am_0), (false, am_2), (false, am_9), (true, am_0), (true, am_0), (true, am_12), (false, am_1), (true, am_7)]
noncomputable def cu_1459 : List CUT2 := [((45, [lq 0 6 0, lq 1 0 4, lq 2 1 2, lq 3 1 44], [], gi_846, hq_611), [], ([(44, (-1))], 5))]
theorem ch_1459 : staG tb_X5_fillFrom 1 bt_RX5 [] ct_1459 [] [] cu_1459 30 con_1459 = true := by decide +kernel
theorem cc_1459 : cu_1459.all (cutG tb_X5_fillFrom 1 bt_RX5 [] ct_1459 [] [] cu_1459 30 con_1459) = true := by decide +kernel
theorem cto_1459 (l : Launch) : CTOK2 l RX5 vwCl gTbl ct_1459 := ct2_cons (vl_675 l) ck_RX5_56_675 (ct2_cons (vl_1457 l) ck_RX5_62_1457 (ct2_cons (vl_1458 l) ck_RX5_47_1458 (ct2_cons (vl_696 l) ck_RX5_70_696 (ct2_cons (vl_1458 l) ck_RX5_47_1458 (ct2_nil)))))
theorem vl_1459 (l : Launch) : Vld2 l vwCl gTbl con_1459 := conR_ok3 gT_all (hd_1459) rfl pn_RX5 tk_X5_fillFrom bo_RX5 xo_RX5 (cto_1459 l) ch_1459 (cut_all cc_1459)
/-- RookHusting$PutSearch fillFrom -/
noncomputable def con_1460 : Con2 := ((yX5_fillFrom, cX5_fillFrom, 4, none), (6, 142), ([(6, 0, 0), (0, 3, 0), (1, 2, 0)], gi_844, hc_177, []), [((9, 0, 0), gi_845, hq_610, [], tg_2)])
theorem hd_1460 : con_1460.1 = (yX5_fillFrom, cX5_fillFrom, 4, none) := rfl
theorem ck_RX5_47_1459 : COK2 RX5 vwCl gTbl 47 0 con_1459 := ⟨wd_1152, wd_135, mh_X5_fillFrom, .inr (.inr ⟨rfl, wd_1149, wd_1151, wd_37, ⟨_, rfl, pd_X5_fillFrom⟩, 5, _, TX5, 8, rfl, rfl⟩)⟩
noncomputable def ct_1460 : CTB2 := [(18, 56, 1, con_675, []), (21, 62, 0, con_1457, [0, 1, 2, 3, 4, 5, 6, 7, 8, 9, 10, 11, 12, 13, 14, 15, 16, 17, 18]), (40, 47, 0, con_1459, [0, 1, 2, 3, 4, 5, 6, 7, 8, 9, 10, 11, 12, 13, 14, 15, 16, 17, 18]), (58, 70, 2, con_696, []), (83, 47, 0, con_1459, [0, 1, 2, 3, 4, 5, 6, 7, 8, 9, 10, 11, 12, 13, 14, 15, 16, 17, 18])]
noncomputable def gi_847 : GI := jl_n [gp_387, jl_i 4 5, gp_389]
noncomputable def cu_1460 : List CUT2 := [((45, [lq 0 6 0, lq 1 0 3, lq 2 1 2, lq 3 1 44], [], gi_847, hq_611), [], ([(44, (-1))], 5))]
theorem ch_1460 : staG tb_X5_fillFrom 1 bt_RX5 [] ct_1460 [] [] cu_1460 30 con_1460 = true := by decide +kernel
theorem cc_1460 : cu_1460.all (cutG tb_X5_fillFrom 1 bt_RX5 [] ct_1460 [] [] cu_1460 30 con_1460) = true := by decide +kernel
theorem cto_1460 (l : Launch) : CTOK2 l RX5 vwCl gTbl ct_1460 := ct2_cons (vl_675 l) ck_RX5_56_675 (ct2_cons (vl_1457 l) ck_RX5_62_1457 (ct2_cons (vl_1459 l) ck_RX5_47_1459 (ct2_cons (vl_696 l) ck_RX5_70_696 (ct2_cons (vl_1459 l) ck_RX5_47_1459 (ct2_nil)))))
theorem vl_1460 (l : Launch) : Vld2 l vwCl gTbl con_1460 := conR_ok3 gT_all (hd_1460) rfl pn_RX5 tk_X5_fillFrom bo_RX5 xo_RX5 (cto_1460 l) ch_1460 (cut_all cc_1460)
/-- RookHusting$PutSearch fillFrom -/
noncomputable def con_1461 : Con2 := ((yX5_fillFrom, cX5_fillFrom, 4, none), (7, 165), ([(6, 0, 0), (0, 2, 0), (1, 2, 0)], gi_844, hc_177, []), [((9, 0, 0), gi_845, hq_610, [], tg_2)])
theorem hd_1461 : con_1461.1 = (yX5_fillFrom, cX5_fillFrom, 4, none) := rfl
theorem ck_RX5_47_1460 : COK2 RX5 vwCl gTbl 47 0 con_1460 := ⟨wd_1152, wd_135, mh_X5_fillFrom, .inr (.inr ⟨rfl, wd_1149, wd_1151, wd_37, ⟨_, rfl, pd_X5_fillFrom⟩, 5, _, TX5, 8, rfl, rfl⟩)⟩
noncomputable def ct_1461 : CTB2 := [(18, 56, 1, con_675, []), (21, 62, 0, con_1457, [0, 1, 2, 3, 4, 5, 6, 7, 8, 9, 10, 11, 12, 13, 14, 15, 16, 17, 18]), (40, 47, 0, con_1460, [0, 1, 2, 3, 4, 5, 6, 7, 8, 9, 10, 11, 12, 13, 14, 15, 16, 17, 18]), (58, 70, 2, con_696, []), (83, 47, 0, con_1460, [0, 1, 2, 3, 4, 5, 6, 7, 8, 9, 10, 11, 12, 13, 14, 15, 16, 17, 18])]
noncomputable def gi_848 : GI := jl_n [gp_387, jl_i 3 5, gp_389]
noncomputable def cu_1461 : List CUT2 := [((45, [lq 0 6 0, lq 1 0 2, lq 2 1 2, lq 3 1 44], [], gi_848, hq_611), [], ([(44, (-1))], 5))]
theorem ch_1461 : staG tb_X5_fillFrom 1 bt_RX5 [] ct_1461 [] [] cu_1461 30 con_1461 = true := by decide +kernel
theorem cc_1461 : cu_1461.all (cutG tb_X5_fillFrom 1 bt_RX5 [] ct_1461 [] [] cu_1461 30 con_1461) = true := by decide +kernel
theorem cto_1461 (l : Launch) : CTOK2 l RX5 vwCl gTbl ct_1461 := ct2_cons (vl_675 l) ck_RX5_56_675 (ct2_cons (vl_1457 l) ck_RX5_62_1457 (ct2_cons (vl_1460 l) ck_RX5_47_1460 (ct2_cons (vl_696 l) ck_RX5_70_696 (ct2_cons (vl_1460 l) ck_RX5_47_1460 (ct2_nil)))))
theorem vl_1461 (l : Launch) : Vld2 l vwCl gTbl con_1461 := conR_ok3 gT_all (hd_1461) rfl pn_RX5 tk_X5_fillFrom bo_RX5 xo_RX5 (cto_1461 l) ch_1461 (cut_all cc_1461)
/-- RookHusting$PutSearch fillFrom -/
noncomputable def con_1462 : Con2 := ((yX5_fillFrom, cX5_fillFrom, 4, none), (8, 188), ([(6, 0, 0), (0, 1, 0), (1, 2, 0)], gi_844, hc_177, []), [((9, 0, 0), gi_845, hq_610, [], tg_2)])
theorem hd_1462 : con_1462.1 = (yX5_fillFrom, cX5_fillFrom, 4, none) := rfl
theorem ck_RX5_47_1461 : COK2 RX5 vwCl gTbl 47 0 con_1461 := ⟨wd_1152, wd_135, mh_X5_fillFrom, .inr (.inr ⟨rfl, wd_1149, wd_1151, wd_37, ⟨_, rfl, pd_X5_fillFrom⟩, 5, _, TX5, 8, rfl, rfl⟩)⟩
noncomputable def ct_1462 : CTB2 := [(18, 56, 1, con_675, []), (21, 62, 0, con_1457, [0, 1, 2, 3, 4, 5, 6, 7, 8, 9, 10, 11, 12, 13, 14, 15, 16, 17, 18]), (40, 47, 0, con_1461, [0, 1, 2, 3, 4, 5, 6, 7, 8, 9, 10, 11, 12, 13, 14, 15, 16, 17, 18]), (58, 70, 2, con_696, []), (83, 47, 0, con_1461, [0, 1, 2, 3, 4, 5, 6, 7, 8, 9, 10, 11, 12, 13, 14, 15, 16, 17, 18])]
noncomputable def gi_849 : GI := jl_n [gp_387, jl_i 2 5, gp_389]
noncomputable def cu_1462 : List CUT2 := [((45, [lq 0 6 0, lq 1 0 1, lq 2 1 2, lq 3 1 44], [], gi_849, hq_611), [], ([(44, (-1))], 5))]
theorem ch_1462 : staG tb_X5_fillFrom 1 bt_RX5 [] ct_1462 [] [] cu_1462 30 con_1462 = true := by decide +kernel
theorem cc_1462 : cu_1462.all (cutG tb_X5_fillFrom 1 bt_RX5 [] ct_1462 [] [] cu_1462 30 con_1462) = true := by decide +kernel
theorem cto_1462 (l : Launch) : CTOK2 l RX5 vwCl gTbl ct_1462 := ct2_cons (vl_675 l) ck_RX5_56_675 (ct2_cons (vl_1457 l) ck_RX5_62_1457 (ct2_cons (vl_1461 l) ck_RX5_47_1461 (ct2_cons (vl_696 l) ck_RX5_70_696 (ct2_cons (vl_1461 l) ck_RX5_47_1461 (ct2_nil)))))
theorem vl_1462 (l : Launch) : Vld2 l vwCl gTbl con_1462 := conR_ok3 gT_all (hd_1462) rfl pn_RX5 tk_X5_fillFrom bo_RX5 xo_RX5 (cto_1462 l) ch_1462 (cut_all cc_1462)
/-- RookHusting$PutSearch fillFrom -/
noncomputable def con_1463 : Con2 := ((yX5_fillFrom, cX5_fillFrom, 4, none), (9, 211), ([(6, 0, 0), (0, 0, 0), (1, 2, 0)], gi_844, hc_177, []), [((9, 0, 0), gi_845, hq_610, [], tg_2)])
theorem hd_1463 : con_1463.1 = (yX5_fillFrom, cX5_fillFrom, 4, none) := rfl
theorem ck_RX5_47_1462 : COK2 RX5 vwCl gTbl 47 0 con_1462 := ⟨wd_1152, wd_135, mh_X5_fillFrom, .inr (.inr ⟨rfl, wd_1149, wd_1151, wd_37, ⟨_, rfl, pd_X5_fillFrom⟩, 5, _, TX5, 8, rfl, rfl⟩)⟩
noncomputable def ct_1463 : CTB2 := [(18, 56, 1, con_675, []), (21, 62, 0, con_1457, [0, 1, 2, 3, 4, 5, 6, 7, 8, 9, 10, 11, 12, 13, 14, 15, 16, 17, 18]), (40, 47, 0, con_1462, [0, 1, 2, 3, 4, 5, 6, 7, 8, 9, 10, 11, 12, 13, 14, 15, 16, 17, 18]), (58, 70, 2, con_696, []), (83, 47, 0, con_1462, [0, 1, 2, 3, 4, 5, 6, 7, 8, 9, 10, 11, 12, 13, 14, 15, 16, 17, 18])]
noncomputable def gi_850 : GI := jl_n [gp_386, gp_390, gp_389]
noncomputable def cu_1463 : List CUT2 := [((45, [lq 0 6 0, lq 1 0 0, lq 2 1 2, lq 3 1 44], [], gi_850, hq_611), [], ([(44, (-1))], 5))]
theorem ch_1463 : staG tb_X5_fillFrom 1 bt_RX5 [] ct_1463 [] [] cu_1463 30 con_1463 = true := by decide +kernel
theorem cc_1463 : cu_1463.all (cutG tb_X5_fillFrom 1 bt_RX5 [] ct_1463 [] [] cu_1463 30 con_1463) = true := by decide +kernel
theorem cto_1463 (l : Launch) : CTOK2 l RX5 vwCl gTbl ct_1463 := ct2_cons (vl_675 l) ck_RX5_56_675 (ct2_cons (vl_1457 l) ck_RX5_62_1457 (ct2_cons (vl_1462 l) ck_RX5_47_1462 (ct2_cons (vl_696 l) ck_RX5_70_696 (ct2_cons (vl_1462 l) ck_RX5_47_1462 (ct2_nil)))))
theorem vl_1463 (l : Launch) : Vld2 l vwCl gTbl con_1463 := conR_ok3 gT_all (hd_1463) rfl pn_RX5 tk_X5_fillFrom bo_RX5 xo_RX5 (cto_1463 l) ch_1463 (cut_all cc_1463)
/-- RookHusting$PutSearch searchFrom -/
noncomputable def gi_851 : GI := jl_n [jl_z 3, jl_r 3 (jl_t), gp_391, gp_381, gp_0, gp_371, gp_388, gp_250]
noncomputable def ac_711 : AC := .inl (5, jl_n [jl_6 23 1, jl_1 7 4, jl_6 10 1, jl_6 3 1, jl_6 11 1])
noncomputable def ac_712 : AC := .inl (4, jl_n [jl_8 19 1, jl_1 20 1, vp_61, vp_62, jl_8 26 1, jl_6 14 1, jl_6 12 1, jl_8 29 1, jl_6 19 2, jl_8 35 4])
noncomputable def ac_713 : AC := .inl (3, jl_n [jl_6 17 1, vp_7, jl_6 22 3, jl_6 16 1, jl_1 44 2])
noncomputable def hc_178 : List AC := [ac_711, .inl (7, [(6, 4, 0), (6, 6, 0), (6, 8, 0), (1, 13, 0)]), .inl (7, [(6, 3, 0), (6, 5, 0), (6, 7, 0), (1, 17, 0)]), am_7, am_7, am_1, am_1, am_1, am_1, ac_712, ac_713, am_2, am_0, am_10, am_0, am_1, am_0, am_2, am_9, am_0, am_0, am_12, am_7]
noncomputable def gi_852 : GI := jl_n [jl_z 3, jl_r 3 (jl_t), gp_391, gp_381, gp_0, gp_371, gp_388, gp_250, gp_198, jl_z 7, gp_266]
noncomputable def ac_714 : AC := .inl (5, jl_n [jl_6 23 1, jl_1 48 3, jl_c 1, jl_6 10 1, jl_6 3 1, jl_6 11 1])
noncomputable def ac_715 : AC := .inl (3, jl_n [jl_6 17 1, vp_7, jl_6 22 3, jl_6 16 1, jl_1 65 2])
noncomputable def hq_612 : HP := [(true, ac_714), (false, .inl (7, [(6, 4, 0), (6, 6, 0), (6, 8, 0), (1, 13, 0)])), (true, .inl (7, [(6, 3, 0), (6, 5, 0), (6, 7, 0), (1, 55, 0)])), (true, am_7), (false, am_7), (true, am_1), (false, am_1), (true, am_1), (false, am_1), (false, ac_712), (true, ac_715), (false, am_2), (true, am_0), (false, am_10), (true, am_0), (true, am_1), (true, am_0), (false, am_2), (false, am_9), (true, am_0), (true, am_0), (true, am_12), (true, am_7)]
noncomputable def con_1464 : Con2 := ((yX5_searchFrom, cX5_searchFrom, 2, none), (10, 234), ([(6, 0, 0), (6, 1, 0)], gi_851, hc_178, []), [((9, 0, 0), gi_852, hq_612, [], tg_17)])
theorem hd_1464 : con_1464.1 = (yX5_searchFrom, cX5_searchFrom, 2, none) := rfl
theorem ck_RX5_47_1463 : COK2 RX5 vwCl gTbl 47 0 con_1463 := ⟨wd_1152, wd_135, mh_X5_fillFrom, .inr (.inr ⟨rfl, wd_1149, wd_1151, wd_37, ⟨_, rfl, pd_X5_fillFrom⟩, 5, _, TX5, 8, rfl, rfl⟩)⟩
theorem ck_RX5_31_1456 : COK2 RX5 vwCl gTbl 31 0 con_1456 := ⟨wd_1148, wd_133, mh_X7_copyFrom, .inr (.inr ⟨rfl, wd_1145, wd_1146, wd_1147, ⟨_, rfl, pd_X7_copyFrom⟩, 7, _, TX7, 4, rfl, rfl⟩)⟩
noncomputable def ct_1464 : CTB2 := [(13, 31, 0, con_1456, [2, 1, 3, 4, 5, 6, 7, 8]), (34, 47, 0, con_1463, [0, 9, 10, 2, 11, 12, 13, 14, 5, 15, 3, 16, 17, 18, 19, 20, 21, 7, 22])]
noncomputable def cu_1464 : List CUT2 := []
theorem ch_1464 : staG tb_X5_searchFrom 1 bt_RX5 [] ct_1464 [] [] cu_1464 26 con_1464 = true := by decide +kernel
theorem cto_1464 (l : Launch) : CTOK2 l RX5 vwCl gTbl ct_1464 := ct2_cons (vl_1456 l) ck_RX5_31_1456 (ct2_cons (vl_1463 l) ck_RX5_47_1463 (ct2_nil))
theorem vl_1464 (l : Launch) : Vld2 l vwCl gTbl con_1464 := conR_ok3 gT_all (hd_1464) rfl pn_RX5 tk_X5_searchFrom bo_RX5 xo_RX5 (cto_1464 l) ch_1464 cut_nil
/-- RookHusting best -/
noncomputable def gi_853 : GI := jl_n [gp_373, gp_392]
noncomputable def ac_716 : AC := .inl (11, jl_n [vp_125, vp_133, jl_8 14 2, vp_72])
noncomputable def ac_717 : AC := .inl (5, jl_n [jl_6 41 1, jl_1 120 4, vp_134])
noncomputable def ac_718 : AC := .inl (3, jl_n [vp_135, jl_1 136 2])
noncomputable def hc_179 : List AC := [ac_716, .inl (9, [(6, 2, 0), (6, 11, 0)]), ac_671, .inl (7, [(6, 4, 0), (6, 5, 0), (6, 6, 0), (1, 39, 0)]), am_7, am_1, am_1, am_1, .inl (1, [(6, 2, 0), (8, 41, 0)]), am_4, am_6, .inl (0, [(1, 42, 0), (6, 12, 0), (6, 13, 0), (6, 14, 0)]), ac_508, am_11, ac_509, ac_510, am_2, am_0, am_10, am_0, am_1, am_0, am_2, am_9, am_0, am_0, am_12, ac_717, .inl (7, [(6, 29, 0), (6, 30, 0), (6, 31, 0), (1, 126, 0)]), am_7, am_1, am_1, ac_718, am_0, am_0, am_1, am_0, am_0, am_0, am_12, am_7]
noncomputable def gi_854 : GI := jl_n [gp_373, gp_392, gp_374, gp_392]
noncomputable def ac_719 : AC := .inl (11, jl_n [vp_125, vp_133, jl_8 14 2, jl_1 151 1, jl_8 17 2])
noncomputable def ac_720 : AC := .inl (3, jl_n [vp_77, jl_1 166 2])
noncomputable def ac_721 : AC := .inl (5, jl_n [jl_6 41 1, jl_1 171 4, vp_134])
noncomputable def ac_722 : AC := .inl (3, jl_n [vp_135, jl_1 187 2])
noncomputable def hq_613 : HP := [(true, ac_719), (false, .inl (9, [(6, 2, 0), (6, 11, 0)])), (false, ac_671), (true, .inl (7, [(6, 4, 0), (6, 5, 0), (6, 6, 0), (1, 156, 0)])), (true, am_7), (true, am_1), (true, am_1), (false, am_1), (false, .inl (1, [(6, 2, 0), (8, 41, 0)])), (false, am_4), (false, am_6), (false, .inl (0, [(1, 42, 0), (6, 12, 0), (6, 13, 0), (6, 14, 0)])), (false, ac_508), (false, am_11), (false, ac_509), (true, ac_720), (false, am_2), (true, am_0), (false, am_10), (true, am_0), (true, am_1), (true, am_0), (false, am_2), (false, am_9), (true, am_0), (true, am_0), (true, am_12), (true, ac_721), (true, .inl (7, [(6, 29, 0), (6, 30, 0), (6, 31, 0), (1, 177, 0)])), (true, am_7), (true, am_1), (true, am_1), (true, ac_722), (true, am_0), (true, am_0), (true, am_1), (true, am_0), (true, am_0), (true, am_0), (true, am_12), (true, am_7)]
noncomputable def con_1465 : Con2 := ((yX11_best, cX11_best, 1, (some .int)), (11, 255), ([(6, 0, 0)], gi_853, hc_179, rq_2), [((1, 136, 0), gi_854, hq_613, [], tg_18)])
theorem hd_1465 : con_1465.1 = (yX11_best, cX11_best, 1, (some .int)) := rfl
theorem ck_RX11_317_1464 : COK2 RX11 vwCl gTbl 317 0 con_1464 := ⟨wd_1144, wd_135, mh_X5_searchFrom, .inr (.inr ⟨rfl, wd_1141, wd_1142, wd_1143, ⟨_, rfl, pd_X5_searchFrom⟩, 5, _, TX5, 8, rfl, rfl⟩)⟩
noncomputable def ct_1465 : CTB2 := [(1, 219, 0, con_671, [0, 1, 2]), (11, 208, 0, con_929, [0, 1, 3, 2, 4, 5, 6, 7, 8, 9, 10, 11, 12, 13, 14, 15, 16, 17, 18, 19, 20, 21, 22, 23, 24, 25, 26]), (22, 317, 0, con_1464, [27, 3, 28, 29, 4, 30, 5, 31, 6, 2, 32, 16, 33, 18, 34, 35, 36, 22, 23, 37, 38, 39, 40])]
noncomputable def cu_1465 : List CUT2 := []
theorem ch_1465 : staG tb_X11_best 1 bt_RX11 [] ct_1465 [] [] cu_1465 16 con_1465 = true := by decide +kernel
theorem cto_1465 (l : Launch) : CTOK2 l RX11 vwCl gTbl ct_1465 := ct2_cons (vl_671 l) ck_RX11_219_671 (ct2_cons (vl_929 l) ck_RX11_208_929 (ct2_cons (vl_1464 l) ck_RX11_317_1464 (ct2_nil)))
theorem vl_1465 (l : Launch) : Vld2 l vwCl gTbl con_1465 := conR_ok3 gT_all (hd_1465) rfl pn_RX11 tk_X11_best bo_RX11 xo_RX11 (cto_1465 l) ch_1465 cut_nil
/-- RookHustingModel menIn -/
noncomputable def ac_723 : AC := .inl (12, jl_n [vp_136, jl_8 46 25])
noncomputable def gi_855 : GI := jl_n [gp_164, jl_m 0 16]
noncomputable def hq_614 : HP := [(false, ac_723), (false, ac_436), (false, am_7)]
noncomputable def con_1466 : Con2 := ((yX12_menIn, cX12_menIn, 3, (some .int)), (1, 22), ([(6, 0, 0)], gi_298, [ac_723, ac_436, am_7], []), [((1, 69, 0), gi_855, hq_614, [], [1])])
theorem hd_1466 : con_1466.1 = (yX12_menIn, cX12_menIn, 3, (some .int)) := rfl
noncomputable def ct_1466 : CTB2 := [(6, 106, 0, con_650, [0, 1]), (32, 199, 1, con_394, []), (59, 252, 1, con_683, [])]
noncomputable def gi_856 : GI := jl_n [jl_z 46, gp_125, gp_207]
noncomputable def cu_1466 : List CUT2 := [((4, [lq 0 6 0, lq 1 1 70, lq 2 1 71], [], gi_856, hq_614), [], ([(71, (-1))], 5))]
theorem ch_1466 : staG tb_X12_menIn 1 bt_RX12 [] ct_1466 [] [] cu_1466 32 con_1466 = true := by decide +kernel
theorem cc_1466 : cu_1466.all (cutG tb_X12_menIn 1 bt_RX12 [] ct_1466 [] [] cu_1466 32 con_1466) = true := by decide +kernel
theorem cto_1466 (l : Launch) : CTOK2 l RX12 vwCl gTbl ct_1466 := ct2_cons (vl_650 l) ck_RX12_106_650 (ct2_cons (vl_394 l) ck_RX12_199_394 (ct2_cons (vl_683 l) ck_RX12_252_683 (ct2_nil)))
theorem vl_1466 (l : Launch) : Vld2 l vwCl gTbl con_1466 := conR_ok3 gT_all (hd_1466) rfl pn_RX12 tk_X12_menIn bo_RX12 xo_RX12 (cto_1466 l) ch_1466 (cut_all cc_1466)
/-- RookHustingModel allLast -/
noncomputable def ac_724 : AC := .inl (12, jl_n [vp_39, jl_8 28 25, jl_6 3 1, jl_8 46 17])
noncomputable def hc_180 : List AC := [ac_724, ac_436, am_0]
noncomputable def hq_615 : HP := [(false, ac_724), (false, ac_436), (false, am_0)]
noncomputable def con_1467 : Con2 := ((yX12_allLast, cX12_allLast, 1, (some .int)), (2, 43), ([(6, 0, 0)], gi_298, hc_180, []), [((1, 69, 0), gi_553, hq_615, [], [1])])
theorem hd_1467 : con_1467.1 = (yX12_allLast, cX12_allLast, 1, (some .int)) := rfl
noncomputable def ct_1467 : CTB2 := [(2, 103, 0, con_1344, [0, 1]), (5, 375, 0, con_1377, [0, 1, 2])]
noncomputable def cu_1467 : List CUT2 := []
theorem ch_1467 : staG tb_X12_allLast 1 bt_RX12 [] ct_1467 [] [] cu_1467 7 con_1467 = true := by decide +kernel
theorem cto_1467 (l : Launch) : CTOK2 l RX12 vwCl gTbl ct_1467 := ct2_cons (vl_1344 l) ck_RX12_103_1344 (ct2_cons (vl_1377 l) ck_RX12_375_1377 (ct2_nil))
theorem vl_1467 (l : Launch) : Vld2 l vwCl gTbl con_1467 := conR_ok3 gT_all (hd_1467) rfl pn_RX12 tk_X12_allLast bo_RX12 xo_RX12 (cto_1467 l) ch_1467 cut_nil
/-- RookHustingModel tryRow -/
noncomputable def gi_857 : GI := jl_n [gp_278, gp_395]
noncomputable def ac_725 : AC := .inl (12, jl_n [vp_136, jl_6 6 1, jl_1 26 4, vp_130, jl_6 4 1, vp_109, jl_6 11 1, jl_1 36 3, jl_8 46 10])
noncomputable def hc_181 : List AC := [ac_725, ac_436, am_7, am_0, am_0, am_1, am_0, am_13, am_14, am_15, am_7]
noncomputable def gi_858 : GI := jl_n [gp_278, gp_394, gp_123, jl_z 46, gp_393]
noncomputable def ac_726 : AC := .inl (12, jl_n [vp_136, jl_6 6 1, jl_1 26 4, vp_130, jl_6 4 1, vp_109, jl_6 11 1, jl_1 104 3, jl_8 46 10])
noncomputable def hq_616 : HP := [(true, ac_726), (false, ac_436), (false, am_7), (true, am_0), (true, am_0), (false, am_1), (true, am_0), (true, am_13), (true, am_14), (true, am_15), (true, am_7)]
noncomputable def con_1468 : Con2 := ((yX12_tryRow, cX12_tryRow, 4, none), (4, 97), ([(6, 0, 0)], gi_857, hc_181, []), [((9, 0, 0), gi_858, hq_616, [], tg_10)])
theorem hd_1468 : con_1468.1 = (yX12_tryRow, cX12_tryRow, 4, none) := rfl
theorem ck_RX12_390_1467 : COK2 RX12 vwCl gTbl 390 0 con_1467 := ⟨wd_2006, wd_137, mh_X12_allLast, .inr (.inr ⟨rfl, wd_2003, wd_2005, wd_109, ⟨_, rfl, pd_X12_allLast⟩, 12, _, TX12, 45, rfl, rfl⟩)⟩
theorem ck_RX12_387_1466 : COK2 RX12 vwCl gTbl 387 0 con_1466 := ⟨wd_2002, wd_137, mh_X12_menIn, .inr (.inr ⟨rfl, wd_1999, wd_2001, wd_108, ⟨_, rfl, pd_X12_menIn⟩, 12, _, TX12, 45, rfl, rfl⟩)⟩
noncomputable def ct_1468 : CTB2 := [(1, 387, 0, con_1466, [0, 1, 2]), (12, 363, 0, con_1352, [0, 1, 3, 4, 2, 5, 6, 7, 8, 9]), (16, 390, 0, con_1467, [0, 1, 3])]
noncomputable def gi_859 : GI := jl_n [gp_278, jl_z 7, jl_m 2147483647 2147483646, jl_r 2 (jl_t), jl_z 10, gp_125, jl_i 0 16, jl_m 2147483646 2147483647, gp_284]
noncomputable def ac_727 : AC := .inl (12, jl_n [vp_136, jl_6 6 1, jl_1 26 4, vp_130, jl_6 4 1, vp_109, jl_6 11 1, jl_1 34 1, jl_c 0, jl_c 1000000000, jl_8 46 10])
noncomputable def hq_617 : HP := [(true, ac_727), (false, ac_436), (false, am_7), (true, am_0), (true, am_0), (false, am_1), (true, am_0), (true, am_13), (true, am_14), (true, am_15), (true, am_7)]
noncomputable def cu_1468 : List CUT2 := [((42, [lq 0 6 0, lq 1 1 70, lq 2 1 71, lq 3 1 72], [], gi_859, hq_617), [], ([(72, (-1))], 5))]
theorem ch_1468 : staG tb_X12_tryRow 1 bt_RX12 [] ct_1468 [] [] cu_1468 46 con_1468 = true := by decide +kernel
theorem cc_1468 : cu_1468.all (cutG tb_X12_tryRow 1 bt_RX12 [] ct_1468 [] [] cu_1468 46 con_1468) = true := by decide +kernel
theorem cto_1468 (l : Launch) : CTOK2 l RX12 vwCl gTbl ct_1468 := ct2_cons (vl_1466 l) ck_RX12_387_1466 (ct2_cons (vl_1352 l) ck_RX12_363_1352 (ct2_cons (vl_1467 l) ck_RX12_390_1467 (ct2_nil)))
theorem vl_1468 (l : Launch) : Vld2 l vwCl gTbl con_1468 := conR_ok3 gT_all (hd_1468) rfl pn_RX12 tk_X12_tryRow bo_RX12 xo_RX12 (cto_1468 l) ch_1468 (cut_all cc_1468)
/-- RookHustingModel fields -/
noncomputable def gi_860 : GI := jl_n [gp_396, jl_z 1, gp_397]
noncomputable def ac_728 : AC := .inr (1, jl_n [js_1 49 3, jl_x (1, (0, 5, 0)), sp_132])
noncomputable def gi_861 : GI := jl_n [gp_396, jl_z 1, gp_13, gp_127]
noncomputable def con_1469 : Con2 := ((yX12_fields, cX12_fields, 1, (some .int)), (0, 0), ([(6, 0, 0)], gi_860, [ac_435, ac_728], []), [((0, 5, 0), gi_861, [(false, ac_435), (false, ac_728)], [], [1])])
theorem hd_1469 : con_1469.1 = (yX12_fields, cX12_fields, 1, (some .int)) := rfl
noncomputable def cu_1469 : List CUT2 := []
theorem ch_1469 : staG tb_X12_fields 1 bt_RX12 [] ct_2 [] [] cu_1469 7 con_1469 = true := by decide +kernel
theorem vl_1469 (l : Launch) : Vld2 l vwCl gTbl con_1469 := conR_ok3 gT_all (hd_1469) rfl pn_RX12 tk_X12_fields bo_RX12 xo_RX12 (cto_2 l) ch_1469 cut_nil
/-- RookHustingModel fields -/
noncomputable def ac_729 : AC := .inr (1, jl_n [js_1 49 3, jl_x (1, (0, 4, 0)), sp_132])
noncomputable def con_1470 : Con2 := ((yX12_fields, cX12_fields, 1, (some .int)), (0, 0), ([(6, 0, 0)], gi_860, [ac_435, ac_729], []), [((0, 4, 0), gi_861, [(false, ac_435), (false, ac_729)], [], [1])])
theorem hd_1470 : con_1470.1 = (yX12_fields, cX12_fields, 1, (some .int)) := rfl
noncomputable def cu_1470 : List CUT2 := []
theorem ch_1470 : staG tb_X12_fields 1 bt_RX12 [] ct_2 [] [] cu_1470 7 con_1470 = true := by decide +kernel
theorem vl_1470 (l : Launch) : Vld2 l vwCl gTbl con_1470 := conR_ok3 gT_all (hd_1470) rfl pn_RX12 tk_X12_fields bo_RX12 xo_RX12 (cto_2 l) ch_1470 cut_nil
/-- RookHustingModel fields -/
noncomputable def ac_730 : AC := .inr (1, jl_n [js_1 49 3, jl_x (1, (0, 3, 0)), sp_132])
noncomputable def con_1471 : Con2 := ((yX12_fields, cX12_fields, 1, (some .int)), (0, 0), ([(6, 0, 0)], gi_860, [ac_435, ac_730], []), [((0, 3, 0), gi_861, [(false, ac_435), (false, ac_730)], [], [1])])
theorem hd_1471 : con_1471.1 = (yX12_fields, cX12_fields, 1, (some .int)) := rfl
noncomputable def cu_1471 : List CUT2 := []
theorem ch_1471 : staG tb_X12_fields 1 bt_RX12 [] ct_2 [] [] cu_1471 7 con_1471 = true := by decide +kernel
theorem vl_1471 (l : Launch) : Vld2 l vwCl gTbl con_1471 := conR_ok3 gT_all (hd_1471) rfl pn_RX12 tk_X12_fields bo_RX12 xo_RX12 (cto_2 l) ch_1471 cut_nil
/-- RookHustingModel fields -/
noncomputable def ac_731 : AC := .inr (1, jl_n [js_1 49 3, jl_x (1, (0, 2, 0)), sp_132])
noncomputable def con_1472 : Con2 := ((yX12_fields, cX12_fields, 1, (some .int)), (0, 0), ([(6, 0, 0)], gi_860, [ac_435, ac_731], []), [((0, 2, 0), gi_861, [(false, ac_435), (false, ac_731)], [], [1])])
theorem hd_1472 : con_1472.1 = (yX12_fields, cX12_fields, 1, (some .int)) := rfl
noncomputable def cu_1472 : List CUT2 := []
theorem ch_1472 : staG tb_X12_fields 1 bt_RX12 [] ct_2 [] [] cu_1472 7 con_1472 = true := by decide +kernel
theorem vl_1472 (l : Launch) : Vld2 l vwCl gTbl con_1472 := conR_ok3 gT_all (hd_1472) rfl pn_RX12 tk_X12_fields bo_RX12 xo_RX12 (cto_2 l) ch_1472 cut_nil
/-- RookHustingModel fields -/
noncomputable def ac_732 : AC := .inr (1, jl_n [js_1 49 3, jl_x (1, (0, 1, 0)), sp_132])
noncomputable def con_1473 : Con2 := ((yX12_fields, cX12_fields, 1, (some .int)), (0, 0), ([(6, 0, 0)], gi_860, [ac_435, ac_732], []), [((0, 1, 0), gi_861, [(false, ac_435), (false, ac_732)], [], [1])])
theorem hd_1473 : con_1473.1 = (yX12_fields, cX12_fields, 1, (some .int)) := rfl
noncomputable def cu_1473 : List CUT2 := []
theorem ch_1473 : staG tb_X12_fields 1 bt_RX12 [] ct_2 [] [] cu_1473 7 con_1473 = true := by decide +kernel
theorem vl_1473 (l : Launch) : Vld2 l vwCl gTbl con_1473 := conR_ok3 gT_all (hd_1473) rfl pn_RX12 tk_X12_fields bo_RX12 xo_RX12 (cto_2 l) ch_1473 cut_nil
/-- RookHustingModel fields -/
noncomputable def ac_733 : AC := .inr (1, jl_n [js_1 49 3, jl_x (1, (0, 0, 0)), sp_132])
noncomputable def con_1474 : Con2 := ((yX12_fields, cX12_fields, 1, (some .int)), (0, 0), ([(6, 0, 0)], gi_860, [ac_435, ac_733], []), [((0, 0, 0), gi_861, [(false, ac_435), (false, ac_733)], [], [1])])
theorem hd_1474 : con_1474.1 = (yX12_fields, cX12_fields, 1, (some .int)) := rfl
noncomputable def cu_1474 : List CUT2 := []
theorem ch_1474 : staG tb_X12_fields 1 bt_RX12 [] ct_2 [] [] cu_1474 7 con_1474 = true := by decide +kernel
theorem vl_1474 (l : Launch) : Vld2 l vwCl gTbl con_1474 := conR_ok3 gT_all (hd_1474) rfl pn_RX12 tk_X12_fields bo_RX12 xo_RX12 (cto_2 l) ch_1474 cut_nil
/-- RookHustingModel nextRow -/
noncomputable def gi_862 : GI := jl_n [gp_164, jl_r 5 (jl_m 0 4)]
noncomputable def ac_734 : AC := .inr (1, jl_n [js_1 74 5])
noncomputable def gi_863 : GI := jl_n [gp_396, jl_z 1, gp_398, jl_z 1]
noncomputable def gi_864 : GI := jl_n [gp_396, jl_i 1 1, gp_399]
noncomputable def ac_735 : AC := .inr (1, jl_n [jl_x (1, (0, (-1), 0)), js_1 74 4])
noncomputable def gi_865 : GI := jl_n [gp_396, jl_i 2 2, gp_399]
noncomputable def ac_736 : AC := .inr (1, jl_n [sp_133, js_1 74 3])
noncomputable def gi_866 : GI := jl_n [gp_400, gp_399]
noncomputable def ac_737 : AC := .inr (1, jl_n [sp_134, js_1 74 2])
noncomputable def gi_867 : GI := jl_n [gp_401, gp_399]
noncomputable def ac_738 : AC := .inr (1, jl_n [sp_133, sp_133, js_1 74 1])
noncomputable def gi_868 : GI := jl_n [gp_402, gp_399]
noncomputable def ac_739 : AC := .inr (1, jl_n [sp_133, sp_134])
noncomputable def gi_869 : GI := jl_n [gp_396, jl_i 1 1, gp_404]
noncomputable def ac_740 : AC := .inr (1, jl_n [jl_x (1, (1, 69, 1)), js_1 74 4])
noncomputable def gi_870 : GI := jl_n [gp_396, jl_i 2 2, gp_404]
noncomputable def ac_741 : AC := .inr (1, jl_n [jl_x (1, (1, 69, 1)), jl_x (1, (0, (-1), 0)), js_1 74 3])
noncomputable def gi_871 : GI := jl_n [gp_400, gp_404]
noncomputable def ac_742 : AC := .inr (1, jl_n [jl_x (1, (1, 69, 1)), sp_133, js_1 74 2])
noncomputable def gi_872 : GI := jl_n [gp_401, gp_404]
noncomputable def ac_743 : AC := .inr (1, jl_n [jl_x (1, (1, 69, 1)), sp_134, js_1 74 1])
noncomputable def gi_873 : GI := jl_n [gp_402, gp_404]
noncomputable def ac_744 : AC := .inr (1, jl_n [jl_x (1, (1, 69, 1)), sp_133, sp_133])
noncomputable def gi_874 : GI := jl_n [gp_396, jl_i 2 2, gp_405]
noncomputable def ac_745 : AC := .inr (1, jl_n [sp_135, js_1 74 3])
noncomputable def gi_875 : GI := jl_n [gp_400, gp_405]
noncomputable def ac_746 : AC := .inr (1, jl_n [sp_135, jl_x (1, (0, (-1), 0)), js_1 74 2])
noncomputable def gi_876 : GI := jl_n [gp_401, gp_405]
noncomputable def ac_747 : AC := .inr (1, jl_n [sp_135, sp_133, js_1 74 1])
noncomputable def gi_877 : GI := jl_n [gp_402, gp_405]
noncomputable def ac_748 : AC := .inr (1, jl_n [sp_135, sp_134])
noncomputable def gi_878 : GI := jl_n [gp_400, gp_403, jl_r 2 (jl_m 0 4), jl_m 0 3, jl_r 2 (jl_m 0 4), jl_z 6]
noncomputable def ac_749 : AC := .inr (1, jl_n [js_1 71 2, jl_x (1, (1, 71, 1)), js_1 74 2])
noncomputable def gi_879 : GI := jl_n [gp_401, gp_403, jl_r 2 (jl_m 0 4), jl_m 0 3, jl_r 2 (jl_m 0 4), jl_z 6]
noncomputable def ac_750 : AC := .inr (1, jl_n [js_1 71 2, jl_x (1, (1, 71, 1)), jl_x (1, (0, (-1), 0)), js_1 74 1])
noncomputable def gi_880 : GI := jl_n [gp_402, gp_403, jl_r 2 (jl_m 0 4), jl_m 0 3, jl_r 2 (jl_m 0 4), jl_z 6]
noncomputable def ac_751 : AC := .inr (1, jl_n [js_1 71 2, jl_x (1, (1, 71, 1)), sp_133])
noncomputable def gi_881 : GI := jl_n [gp_401, gp_403, jl_r 3 (jl_m 0 4), jl_m 0 3, jl_m 0 4, jl_z 6]
noncomputable def ac_752 : AC := .inr (1, jl_n [js_1 72 3, jl_x (1, (1, 72, 1)), js_1 74 1])
noncomputable def gi_882 : GI := jl_n [gp_402, gp_403, jl_r 3 (jl_m 0 4), jl_m 0 3, jl_m 0 4, jl_z 6]
noncomputable def ac_753 : AC := .inr (1, jl_n [js_1 72 3, jl_x (1, (1, 72, 1)), jl_x (1, (0, (-1), 0))])
noncomputable def gi_883 : GI := jl_n [gp_402, gp_403, jl_r 4 (jl_m 0 4), jl_m 0 3, jl_z 6]
noncomputable def ac_754 : AC := .inr (1, jl_n [js_1 73 4, jl_x (1, (1, 73, 1))])
noncomputable def con_1475 : Con2 := ((yX12_nextRow, cX12_nextRow, 2, (some .boolean)), (1, 20), ([(6, 0, 0)], gi_862, [ac_723, ac_436, ac_734], []), [((0, 0, 0), gi_863, [(false, ac_723), (false, ac_436), (false, ac_734)], [], [1]), ((0, 0, 0), gi_864, [(false, ac_723), (false, ac_436), (true, ac_735)], [], [1, 1, 1, 1, 1, 1]), ((0, 0, 0), gi_865, [(false, ac_723), (false, ac_436), (true, ac_736)], [], [1, 1, 1, 1, 1, 1]), ((0, 0, 0), gi_866, [(false, ac_723), (false, ac_436), (true, ac_737)], [], [1, 1, 1, 1, 1, 1]), ((0, 0, 0), gi_867, [(false, ac_723), (false, ac_436), (true, ac_738)], [], [1, 1, 1, 1, 1, 1]), ((0, 0, 0), gi_868, [(false, ac_723), (false, ac_436), (true, ac_739)], [], [1, 1, 1, 1, 1, 1]), ((0, 1, 0), gi_869, [(false, ac_723), (false, ac_436), (true, ac_740)], [], [1, 1, 1, 1, 1, 1]), ((0, 1, 0), gi_870, [(false, ac_723), (false, ac_436), (true, ac_741)], [], [1, 1, 1, 1, 1, 1]), ((0, 1, 0), gi_871, [(false, ac_723), (false, ac_436), (true, ac_742)], [], [1, 1, 1, 1, 1, 1]), ((0, 1, 0), gi_872, [(false, ac_723), (false, ac_436), (true, ac_743)], [], [1, 1, 1, 1, 1, 1]), ((0, 1, 0), gi_873, [(false, ac_723), (false, ac_436), (true, ac_744)], [], [1, 1, 1, 1, 1, 1]), ((0, 1, 0), gi_874, [(false, ac_723), (false, ac_436), (true, ac_745)], [], [1, 1, 1, 1, 1, 1]), ((0, 1, 0), gi_875, [(false, ac_723), (false, ac_436), (true, ac_746)], [], [1, 1, 1, 1, 1, 1]), ((0, 1, 0), gi_876, [(false, ac_723), (false, ac_436), (true, ac_747)], [], [1, 1, 1, 1, 1, 1]), ((0, 1, 0), gi_877, [(false, ac_723), (false, ac_436), (true, ac_748)], [], [1, 1, 1, 1, 1, 1]), ((0, 1, 0), gi_878, [(false, ac_723), (false, ac_436), (true, ac_749)], [], [1, 1, 1, 1, 1, 1]), ((0, 1, 0), gi_879, [(false, ac_723), (false, ac_436), (true, ac_750)], [], [1, 1, 1, 1, 1, 1]), ((0, 1, 0), gi_880, [(false, ac_723), (false, ac_436), (true, ac_751)], [], [1, 1, 1, 1, 1, 1]), ((0, 1, 0), gi_881, [(false, ac_723), (false, ac_436), (true, ac_752)], [], [1, 1, 1, 1, 1, 1]), ((0, 1, 0), gi_882, [(false, ac_723), (false, ac_436), (true, ac_753)], [], [1, 1, 1, 1, 1, 1]), ((0, 1, 0), gi_883, [(false, ac_723), (false, ac_436), (true, ac_754)], [], [1, 1, 1, 1, 1, 1])])
theorem hd_1475 : con_1475.1 = (yX12_nextRow, cX12_nextRow, 2, (some .boolean)) := rfl
theorem ck_RX12_106_1474 : COK2 RX12 vwCl gTbl 106 0 con_1474 := ⟨wd_1660, wd_137, mh_X12_fields, .inr (.inr ⟨rfl, wd_1657, wd_1659, wd_67, ⟨_, rfl, pd_X12_fields⟩, 12, _, TX12, 45, rfl, rfl⟩)⟩
theorem ck_RX12_106_1473 : COK2 RX12 vwCl gTbl 106 0 con_1473 := ⟨wd_1660, wd_137, mh_X12_fields, .inr (.inr ⟨rfl, wd_1657, wd_1659, wd_67, ⟨_, rfl, pd_X12_fields⟩, 12, _, TX12, 45, rfl, rfl⟩)⟩
theorem ck_RX12_106_1472 : COK2 RX12 vwCl gTbl 106 0 con_1472 := ⟨wd_1660, wd_137, mh_X12_fields, .inr (.inr ⟨rfl, wd_1657, wd_1659, wd_67, ⟨_, rfl, pd_X12_fields⟩, 12, _, TX12, 45, rfl, rfl⟩)⟩
theorem ck_RX12_106_1471 : COK2 RX12 vwCl gTbl 106 0 con_1471 := ⟨wd_1660, wd_137, mh_X12_fields, .inr (.inr ⟨rfl, wd_1657, wd_1659, wd_67, ⟨_, rfl, pd_X12_fields⟩, 12, _, TX12, 45, rfl, rfl⟩)⟩
theorem ck_RX12_106_1470 : COK2 RX12 vwCl gTbl 106 0 con_1470 := ⟨wd_1660, wd_137, mh_X12_fields, .inr (.inr ⟨rfl, wd_1657, wd_1659, wd_67, ⟨_, rfl, pd_X12_fields⟩, 12, _, TX12, 45, rfl, rfl⟩)⟩
theorem ck_RX12_106_1469 : COK2 RX12 vwCl gTbl 106 0 con_1469 := ⟨wd_1660, wd_137, mh_X12_fields, .inr (.inr ⟨rfl, wd_1657, wd_1659, wd_67, ⟨_, rfl, pd_X12_fields⟩, 12, _, TX12, 45, rfl, rfl⟩)⟩
noncomputable def ct_1475 : CTB2 := [(1, 106, 0, con_1469, [0, 1]), (1, 106, 0, con_1470, [0, 1]), (1, 106, 0, con_1471, [0, 1]), (1, 106, 0, con_1472, [0, 1]), (1, 106, 0, con_1473, [0, 1]), (1, 106, 0, con_1474, [0, 1]), (18, 95, 0, con_659, [0, 1])]
noncomputable def cu_1475 : List CUT2 := []
theorem ch_1475 : staG tb_X12_nextRow 1 bt_RX12 [] ct_1475 [(0, [(1, (2, 1, 3), 0, 0)])] [] cu_1475 101 con_1475 = true := by decide +kernel
theorem cto_1475 (l : Launch) : CTOK2 l RX12 vwCl gTbl ct_1475 := ct2_cons (vl_1469 l) ck_RX12_106_1469 (ct2_cons (vl_1470 l) ck_RX12_106_1470 (ct2_cons (vl_1471 l) ck_RX12_106_1471 (ct2_cons (vl_1472 l) ck_RX12_106_1472 (ct2_cons (vl_1473 l) ck_RX12_106_1473 (ct2_cons (vl_1474 l) ck_RX12_106_1474 (ct2_cons (vl_659 l) ck_RX12_95_659 (ct2_nil)))))))
theorem vl_1475 (l : Launch) : Vld2 l vwCl gTbl con_1475 := conR_ok3 gT_all (hd_1475) rfl pn_RX12 tk_X12_nextRow bo_RX12 xo_RX12 (cto_1475 l) ch_1475 cut_nil
/-- RookHustingModel asksRows -/
noncomputable def gi_884 : GI := jl_n [gp_285, gp_395, jl_r 5 (jl_m 0 4)]
noncomputable def ac_755 : AC := .inl (12, jl_n [vp_45, jl_6 7 3, jl_1 26 4, vp_137, jl_1 36 3, jl_8 46 10])
noncomputable def hc_182 : List AC := [ac_755, ac_436, am_8, am_5, am_7, ac_734, am_1, am_0, am_0, am_0, am_13, am_14, am_15, am_7]
noncomputable def gi_885 : GI := jl_n [gp_285, gp_394, gp_406, jl_r 5 (jl_m 0 4), jl_z 1]
noncomputable def hq_618 : HP := [(false, ac_755), (false, ac_436), (false, am_8), (false, am_5), (false, am_7), (false, ac_734), (false, am_1), (false, am_0), (false, am_0), (false, am_0), (false, am_13), (false, am_14), (false, am_15), (false, am_7)]
noncomputable def gi_886 : GI := jl_n [gp_285, gp_394, gp_15, gp_407, jl_r 5 (jl_m 0 4), jl_z 33, gp_393, jl_r 5 (jl_m 0 4)]
noncomputable def ac_756 : AC := .inl (12, jl_n [vp_85, vp_112, jl_6 14 1, jl_1 110 3, jl_8 46 10])
noncomputable def ac_757 : AC := .inr (1, jl_n [js_1 125 5])
noncomputable def hq_619 : HP := [(true, ac_756), (false, ac_436), (true, am_8), (true, am_5), (true, am_7), (true, ac_757), (true, am_1), (true, am_0), (true, am_0), (true, am_0), (true, am_13), (true, am_14), (true, am_15), (true, am_7)]
noncomputable def con_1476 : Con2 := ((yX12_asksRows, cX12_asksRows, 2, (some .boolean)), (8, 188), ([(6, 0, 0)], gi_884, hc_182, []), [((0, 0, 0), gi_885, hq_618, [], [1]), ((0, 1, 0), gi_886, hq_619, [], tg_18)])
theorem hd_1476 : con_1476.1 = (yX12_asksRows, cX12_asksRows, 2, (some .boolean)) := rfl
theorem ck_RX12_405_1475 : COK2 RX12 vwCl gTbl 405 0 con_1475 := ⟨wd_2010, wd_137, mh_X12_nextRow, .inr (.inr ⟨rfl, wd_2007, wd_2009, wd_110, ⟨_, rfl, pd_X12_nextRow⟩, 12, _, TX12, 45, rfl, rfl⟩)⟩
theorem ck_RX12_402_1468 : COK2 RX12 vwCl gTbl 402 0 con_1468 := ⟨wd_1998, wd_137, mh_X12_tryRow, .inr (.inr ⟨rfl, wd_1995, wd_1997, wd_107, ⟨_, rfl, pd_X12_tryRow⟩, 12, _, TX12, 45, rfl, rfl⟩)⟩
noncomputable def ct_1476 : CTB2 := [(1, 99, 0, con_678, [0, 1]), (10, 345, 0, con_934, [0, 1, 2, 3, 4, 5, 6]), (45, 402, 0, con_1468, [0, 1, 5, 7, 8, 6, 9, 10, 11, 12, 13]), (49, 405, 0, con_1475, [0, 1, 5])]
noncomputable def gi_887 : GI := jl_n [gp_285, gp_394, gp_15, gp_407, jl_r 5 (jl_m 0 4), jl_z 34, gp_393, jl_r 5 (jl_m 0 4)]
noncomputable def ac_758 : AC := .inl (12, jl_n [vp_85, vp_112, jl_6 14 1, jl_1 111 3, jl_8 46 10])
noncomputable def ac_759 : AC := .inr (1, jl_n [js_1 126 5])
noncomputable def hq_620 : HP := [(true, ac_758), (false, ac_436), (true, am_8), (true, am_5), (true, am_7), (true, ac_759), (true, am_1), (true, am_0), (true, am_0), (true, am_0), (true, am_13), (true, am_14), (true, am_15), (true, am_7)]
noncomputable def cu_1476 : List CUT2 := [((40, [lq 0 6 0, lq 1 0 1], [], gi_887, hq_620), [], ([(121, (-1296)), (122, (-216)), (123, (-36)), (124, (-6)), (125, (-1))], 10000)), ((40, [lq 0 6 0, lq 1 0 0], [], gi_887, hq_620), [], ([], 0))]
theorem ch_1476 : staG tb_X12_asksRows 1 bt_RX12 [] ct_1476 [] [] cu_1476 68 con_1476 = true := by decide +kernel
theorem cc_1476 : cu_1476.all (cutG tb_X12_asksRows 1 bt_RX12 [] ct_1476 [] [] cu_1476 68 con_1476) = true := by decide +kernel
theorem cto_1476 (l : Launch) : CTOK2 l RX12 vwCl gTbl ct_1476 := ct2_cons (vl_678 l) ck_RX12_99_678 (ct2_cons (vl_934 l) ck_RX12_345_934 (ct2_cons (vl_1468 l) ck_RX12_402_1468 (ct2_cons (vl_1475 l) ck_RX12_405_1475 (ct2_nil))))
theorem vl_1476 (l : Launch) : Vld2 l vwCl gTbl con_1476 := conR_ok3 gT_all (hd_1476) rfl pn_RX12 tk_X12_asksRows bo_RX12 xo_RX12 (cto_1476 l) ch_1476 (cut_all cc_1476)
/-- RookHustingModel best -/
noncomputable def gi_888 : GI := jl_n [gp_285, gp_395]
noncomputable def hc_183 : List AC := [ac_755, ac_436, am_8, am_5, am_7, am_7, am_1, am_0, am_0, am_0, am_13, am_14, am_15, am_7]
noncomputable def gi_889 : GI := jl_n [gp_285, gp_395, jl_t, gp_281, gp_394]
noncomputable def ac_760 : AC := .inl (12, jl_n [vp_44, jl_1 88 1, jl_6 7 3, jl_1 95 4, vp_137, jl_1 105 3, jl_8 46 10])
noncomputable def hq_621 : HP := [(true, ac_760), (false, ac_436), (true, am_8), (true, am_5), (true, am_7), (true, am_7), (true, am_1), (true, am_0), (true, am_0), (true, am_0), (true, am_13), (true, am_14), (true, am_15), (true, am_7)]
noncomputable def con_1477 : Con2 := ((yX12_best, cX12_best, 1, (some .int)), (9, 209), ([(6, 0, 0)], gi_888, hc_183, []), [((1, 69, 0), gi_889, hq_621, [], tg_1)])
theorem hd_1477 : con_1477.1 = (yX12_best, cX12_best, 1, (some .int)) := rfl
theorem ck_RX12_408_1476 : COK2 RX12 vwCl gTbl 408 0 con_1476 := ⟨wd_1994, wd_137, mh_X12_asksRows, .inr (.inr ⟨rfl, wd_1991, wd_1993, wd_106, ⟨_, rfl, pd_X12_asksRows⟩, 12, _, TX12, 45, rfl, rfl⟩)⟩
noncomputable def ct_1477 : CTB2 := [(1, 408, 0, con_1476, [0, 1, 2, 3, 4, 5, 6, 7, 8, 9, 10, 11, 12, 13])]
noncomputable def cu_1477 : List CUT2 := []
theorem ch_1477 : staG tb_X12_best 1 bt_RX12 [] ct_1477 [] [] cu_1477 9 con_1477 = true := by decide +kernel
theorem cto_1477 (l : Launch) : CTOK2 l RX12 vwCl gTbl ct_1477 := ct2_cons (vl_1476 l) ck_RX12_408_1476 (ct2_nil)
theorem vl_1477 (l : Launch) : Vld2 l vwCl gTbl con_1477 := conR_ok3 gT_all (hd_1477) rfl pn_RX12 tk_X12_best bo_RX12 xo_RX12 (cto_1477 l) ch_1477 cut_nil
/-- RookHusting put -/
noncomputable def gi_890 : GI := jl_n [gp_275, gp_392]
noncomputable def ac_761 : AC := .inl (11, jl_n [vp_79, vp_133, jl_8 15 2, vp_81])
noncomputable def ac_762 : AC := .inl (5, jl_n [jl_6 41 1, jl_1 121 4, vp_134])
noncomputable def ac_763 : AC := .inl (3, jl_n [vp_135, jl_1 137 2])
noncomputable def hc_184 : List AC := [ac_761, .inl (9, [(6, 2, 0), (6, 11, 0)]), ac_514, .inl (7, [(6, 4, 0), (6, 5, 0), (6, 6, 0), (1, 40, 0)]), am_7, am_1, am_1, am_1, .inl (1, [(6, 2, 0), (8, 42, 0)]), am_4, am_6, .inl (0, [(1, 43, 0), (6, 12, 0), (6, 13, 0), (6, 14, 0)]), ac_515, am_11, ac_516, ac_517, am_2, am_0, am_10, am_0, am_1, am_0, am_2, am_9, am_0, am_0, am_12, ac_762, .inl (7, [(6, 29, 0), (6, 30, 0), (6, 31, 0), (1, 127, 0)]), am_7, am_1, am_1, ac_763, am_0, am_0, am_1, am_0, am_0, am_0, am_12, am_7]
noncomputable def gi_891 : GI := jl_n [gp_275, gp_392, jl_m 1 4, gp_276, gp_392]
noncomputable def ac_764 : AC := .inl (11, jl_n [vp_79, vp_133, jl_8 15 2, jl_1 152 1, jl_8 18 2])
noncomputable def ac_765 : AC := .inl (3, jl_n [vp_77, jl_1 167 2])
noncomputable def ac_766 : AC := .inl (5, jl_n [jl_6 41 1, jl_1 172 4, vp_134])
noncomputable def ac_767 : AC := .inl (3, jl_n [vp_135, jl_1 188 2])
noncomputable def hq_622 : HP := [(true, ac_764), (false, .inl (9, [(6, 2, 0), (6, 11, 0)])), (false, ac_514), (true, .inl (7, [(6, 4, 0), (6, 5, 0), (6, 6, 0), (1, 157, 0)])), (true, am_7), (true, am_1), (true, am_1), (false, am_1), (false, .inl (1, [(6, 2, 0), (8, 42, 0)])), (false, am_4), (false, am_6), (false, .inl (0, [(1, 43, 0), (6, 12, 0), (6, 13, 0), (6, 14, 0)])), (false, ac_515), (false, am_11), (false, ac_516), (true, ac_765), (false, am_2), (true, am_0), (false, am_10), (true, am_0), (true, am_1), (true, am_0), (false, am_2), (false, am_9), (true, am_0), (true, am_0), (true, am_12), (true, ac_766), (true, .inl (7, [(6, 29, 0), (6, 30, 0), (6, 31, 0), (1, 178, 0)])), (true, am_7), (true, am_1), (true, am_1), (true, ac_767), (true, am_0), (true, am_0), (true, am_1), (true, am_0), (true, am_0), (true, am_0), (true, am_12), (true, am_7)]
noncomputable def con_1478 : Con2 := ((yX11_put, cX11_put, 2, (some .int)), (11, 255), ([(6, 0, 0), (1, 1, 0)], gi_890, hc_184, rq_3), [((1, 137, 0), gi_891, hq_622, [], tg_18)])
theorem hd_1478 : con_1478.1 = (yX11_put, cX11_put, 2, (some .int)) := rfl
noncomputable def ct_1478 : CTB2 := [(2, 139, 0, con_647, [0, 1, 2]), (12, 208, 0, con_929, [0, 1, 3, 2, 4, 5, 6, 7, 8, 9, 10, 11, 12, 13, 14, 15, 16, 17, 18, 19, 20, 21, 22, 23, 24, 25, 26]), (23, 317, 0, con_1464, [27, 3, 28, 29, 4, 30, 5, 31, 6, 2, 32, 16, 33, 18, 34, 35, 36, 22, 23, 37, 38, 39, 40])]
noncomputable def cu_1478 : List CUT2 := []
theorem ch_1478 : staG tb_X11_put 1 bt_RX11 [] ct_1478 [] [] cu_1478 19 con_1478 = true := by decide +kernel
theorem cto_1478 (l : Launch) : CTOK2 l RX11 vwCl gTbl ct_1478 := ct2_cons (vl_647 l) ck_RX11_139_647 (ct2_cons (vl_929 l) ck_RX11_208_929 (ct2_cons (vl_1464 l) ck_RX11_317_1464 (ct2_nil)))
theorem vl_1478 (l : Launch) : Vld2 l vwCl gTbl con_1478 := conR_ok3 gT_all (hd_1478) rfl pn_RX11 tk_X11_put bo_RX11 xo_RX11 (cto_1478 l) ch_1478 cut_nil
/-- RookHustingModel put -/
noncomputable def gi_892 : GI := jl_n [gp_7, gp_281, gp_395]
noncomputable def ac_768 : AC := .inl (12, jl_n [vp_59, jl_6 7 3, jl_1 27 4, vp_137, jl_1 37 3, jl_8 47 10])
noncomputable def hc_185 : List AC := [ac_768, ac_438, am_8, am_5, am_7, am_7, am_1, am_0, am_0, am_0, am_13, am_14, am_15, am_7]
noncomputable def gi_893 : GI := jl_n [gp_7, gp_281, gp_395, jl_m 1 4, gp_281, gp_394]
noncomputable def ac_769 : AC := .inl (12, jl_n [vp_65, jl_6 7 3, jl_1 96 4, vp_137, jl_1 106 3, jl_8 47 10])
noncomputable def hq_623 : HP := [(true, ac_769), (false, ac_438), (true, am_8), (true, am_5), (true, am_7), (true, am_7), (true, am_1), (true, am_0), (true, am_0), (true, am_0), (true, am_13), (true, am_14), (true, am_15), (true, am_7)]
noncomputable def con_1479 : Con2 := ((yX12_put, cX12_put, 2, (some .int)), (9, 209), ([(6, 0, 0), (1, 1, 0)], gi_892, hc_185, []), [((1, 70, 0), gi_893, hq_623, [], tg_1)])
theorem hd_1479 : con_1479.1 = (yX12_put, cX12_put, 2, (some .int)) := rfl
noncomputable def ct_1479 : CTB2 := [(3, 109, 0, con_651, [0, 1]), (10, 408, 0, con_1476, [0, 1, 2, 3, 4, 5, 6, 7, 8, 9, 10, 11, 12, 13])]
noncomputable def cu_1479 : List CUT2 := []
theorem ch_1479 : staG tb_X12_put 1 bt_RX12 [] ct_1479 [] [] cu_1479 16 con_1479 = true := by decide +kernel
theorem cto_1479 (l : Launch) : CTOK2 l RX12 vwCl gTbl ct_1479 := ct2_cons (vl_651 l) ck_RX12_109_651 (ct2_cons (vl_1476 l) ck_RX12_408_1476 (ct2_nil))
theorem vl_1479 (l : Launch) : Vld2 l vwCl gTbl con_1479 := conR_ok3 gT_all (hd_1479) rfl pn_RX12 tk_X12_put bo_RX12 xo_RX12 (cto_1479 l) ch_1479 cut_nil
/-- RookHusting ways -/
noncomputable def con_1480 : Con2 := ((yX11_ways, cX11_ways, 1, (some .int)), (11, 255), ([(6, 0, 0)], gi_853, hc_179, rq_2), [((1, 136, 0), gi_854, hq_613, [], tg_18)])
theorem hd_1480 : con_1480.1 = (yX11_ways, cX11_ways, 1, (some .int)) := rfl
noncomputable def cu_1480 : List CUT2 := []
theorem ch_1480 : staG tb_X11_ways 1 bt_RX11 [] ct_1465 [] [] cu_1480 16 con_1480 = true := by decide +kernel
theorem vl_1480 (l : Launch) : Vld2 l vwCl gTbl con_1480 := conR_ok3 gT_all (hd_1480) rfl pn_RX11 tk_X11_ways bo_RX11 xo_RX11 (cto_1465 l) ch_1480 cut_nil
/-- RookHustingModel ways -/
noncomputable def con_1481 : Con2 := ((yX12_ways, cX12_ways, 1, (some .int)), (9, 209), ([(6, 0, 0)], gi_888, hc_183, []), [((1, 69, 0), gi_889, hq_621, [], tg_1)])
theorem hd_1481 : con_1481.1 = (yX12_ways, cX12_ways, 1, (some .int)) := rfl
noncomputable def cu_1481 : List CUT2 := []
theorem ch_1481 : staG tb_X12_ways 1 bt_RX12 [] ct_1477 [] [] cu_1481 9 con_1481 = true := by decide +kernel
theorem vl_1481 (l : Launch) : Vld2 l vwCl gTbl con_1481 := conR_ok3 gT_all (hd_1481) rfl pn_RX12 tk_X12_ways bo_RX12 xo_RX12 (cto_1477 l) ch_1481 cut_nil
/-- RookHusting fewest -/
noncomputable def con_1482 : Con2 := ((yX11_fewest, cX11_fewest, 1, (some .int)), (11, 255), ([(6, 0, 0)], gi_853, hc_179, rq_2), [((1, 136, 0), gi_854, hq_613, [], tg_18)])
theorem hd_1482 : con_1482.1 = (yX11_fewest, cX11_fewest, 1, (some .int)) := rfl
noncomputable def cu_1482 : List CUT2 := []
theorem ch_1482 : staG tb_X11_fewest 1 bt_RX11 [] ct_1465 [] [] cu_1482 16 con_1482 = true := by decide +kernel
theorem vl_1482 (l : Launch) : Vld2 l vwCl gTbl con_1482 := conR_ok3 gT_all (hd_1482) rfl pn_RX11 tk_X11_fewest bo_RX11 xo_RX11 (cto_1465 l) ch_1482 cut_nil
/-- RookHustingModel fewest -/
noncomputable def con_1483 : Con2 := ((yX12_fewest, cX12_fewest, 1, (some .int)), (9, 209), ([(6, 0, 0)], gi_888, hc_183, []), [((1, 69, 0), gi_889, hq_621, [], tg_1)])
theorem hd_1483 : con_1483.1 = (yX12_fewest, cX12_fewest, 1, (some .int)) := rfl
noncomputable def cu_1483 : List CUT2 := []
theorem ch_1483 : staG tb_X12_fewest 1 bt_RX12 [] ct_1477 [] [] cu_1483 9 con_1483 = true := by decide +kernel
theorem vl_1483 (l : Launch) : Vld2 l vwCl gTbl con_1483 := conR_ok3 gT_all (hd_1483) rfl pn_RX12 tk_X12_fewest bo_RX12 xo_RX12 (cto_1477 l) ch_1483 cut_nil
/-- RookHusting$Acts playOn -/
noncomputable def hq_624 : HP := [(false, .inl (0, [(1, 3, 0), (6, 2, 0), (6, 3, 0), (6, 5, 0)])), (false, .inl (7, [(6, 6, 0), (6, 4, 0), (8, 9, 0), (8, 10, 0)])), (false, ac_494), (false, am_11), (true, am_1), (false, ac_495), (false, am_7)]
noncomputable def con_1484 : Con2 := ((yX0_playOn, cX0_playOn, 4, none), (0, 0), ([(6, 0, 0), (6, 1, 0), (0, 0, 0)], gi_438, hc_98, rq_1), [((9, 0, 0), gi_438, hq_624, [], [])])
theorem hd_1484 : con_1484.1 = (yX0_playOn, cX0_playOn, 4, none) := rfl
noncomputable def ct_1484 : CTB2 := []
noncomputable def cu_1484_0 : List CUT2 := [((2, [lq 0 6 0, lq 1 6 1, lq 2 0 0, lq 3 0 0], [], gi_439, hq_489), rq_1, ([], 30)), ((2, [lq 0 6 0, lq 1 6 1, lq 2 0 0, lq 3 0 1], [], gi_440, hq_624), rq_1, ([], 29)), ((2, [lq 0 6 0, lq 1 6 1, lq 2 0 0, lq 3 0 2], [], gi_441, hq_624), rq_1, ([], 28)), ((2, [lq 0 6 0, lq 1 6 1, lq 2 0 0, lq 3 0 3], [], gi_442, hq_624), rq_1, ([], 27)), ((2, [lq 0 6 0, lq 1 6 1, lq 2 0 0, lq 3 0 4], [], gi_443, hq_624), rq_1, ([], 26)), ((2, [lq 0 6 0, lq 1 6 1, lq 2 0 0, lq 3 0 5], [], gi_444, hq_624), rq_1, ([], 25)), ((2, [lq 0 6 0, lq 1 6 1, lq 2 0 0, lq 3 0 6], [], gi_445, hq_624), rq_1, ([], 24)), ((2, [lq 0 6 0, lq 1 6 1, lq 2 0 0, lq 3 0 7], [], gi_446, hq_624), rq_1, ([], 23)), ((2, [lq 0 6 0, lq 1 6 1, lq 2 0 0, lq 3 0 8], [], gi_447, hq_624), rq_1, ([], 22)), ((2, [lq 0 6 0, lq 1 6 1, lq 2 0 0, lq 3 0 9], [], gi_448, hq_624), rq_1, ([], 21)), ((2, [lq 0 6 0, lq 1 6 1, lq 2 0 0, lq 3 0 10], [], gi_449, hq_624), rq_1, ([], 20)), ((2, [lq 0 6 0, lq 1 6 1, lq 2 0 0, lq 3 0 11], [], gi_450, hq_624), rq_1, ([], 19)), ((2, [lq 0 6 0, lq 1 6 1, lq 2 0 0, lq 3 0 12], [], gi_451, hq_624), rq_1, ([], 18)), ((2, [lq 0 6 0, lq 1 6 1, lq 2 0 0, lq 3 0 13], [], gi_452, hq_624), rq_1, ([], 17)), ((2, [lq 0 6 0, lq 1 6 1, lq 2 0 0, lq 3 0 14], [], gi_453, hq_624), rq_1, ([], 16)), ((2, [lq 0 6 0, lq 1 6 1, lq 2 0 0, lq 3 0 15], [], gi_454, hq_624), rq_1, ([], 15)), ((2, [lq 0 6 0, lq 1 6 1, lq 2 0 0, lq 3 0 16], [], gi_455, hq_624), rq_1, ([], 14)), ((2, [lq 0 6 0, lq 1 6 1, lq 2 0 0, lq 3 0 17], [], gi_456, hq_624), rq_1, ([], 13)), ((2, [lq 0 6 0, lq 1 6 1, lq 2 0 0, lq 3 0 18], [], gi_457, hq_624), rq_1, ([], 12)), ((2, [lq 0 6 0, lq 1 6 1, lq 2 0 0, lq 3 0 19], [], gi_458, hq_624), rq_1, ([], 11)), ((2, [lq 0 6 0, lq 1 6 1, lq 2 0 0, lq 3 0 20], [], gi_459, hq_624), rq_1, ([], 10)), ((2, [lq 0 6 0, lq 1 6 1, lq 2 0 0, lq 3 0 21], [], gi_460, hq_624), rq_1, ([], 9)), ((2, [lq 0 6 0, lq 1 6 1, lq 2 0 0, lq 3 0 22], [], gi_461, hq_624), rq_1, ([], 8)), ((2, [lq 0 6 0, lq 1 6 1, lq 2 0 0, lq 3 0 23], [], gi_462, hq_624), rq_1, ([], 7)), ((2, [lq 0 6 0, lq 1 6 1, lq 2 0 0, lq 3 0 24], [], gi_463, hq_624), rq_1, ([], 6))]
noncomputable def cu_1484_1 : List CUT2 := [((2, [lq 0 6 0, lq 1 6 1, lq 2 0 0, lq 3 0 25], [], gi_464, hq_624), rq_1, ([], 5)), ((2, [lq 0 6 0, lq 1 6 1, lq 2 0 0, lq 3 0 26], [], gi_465, hq_624), rq_1, ([], 4)), ((2, [lq 0 6 0, lq 1 6 1, lq 2 0 0, lq 3 0 27], [], gi_466, hq_624), rq_1, ([], 3)), ((2, [lq 0 6 0, lq 1 6 1, lq 2 0 0, lq 3 0 28], [], gi_467, hq_624), rq_1, ([], 2)), ((2, [lq 0 6 0, lq 1 6 1, lq 2 0 0, lq 3 0 29], [], gi_468, hq_624), rq_1, ([], 1)), ((2, [lq 0 6 0, lq 1 6 1, lq 2 0 0, lq 3 0 30], [], gi_469, hq_624), rq_1, ([], 0))]
noncomputable def cu_1484 : List CUT2 := cu_1484_0 ++ (cu_1484_1)
theorem ch_1484 : staG tb_X0_playOn 1 bt_RX0 [] ct_1484 [(62, [(0, (0, 0, 0), (-1), 4)])] [] cu_1484 32 con_1484 = true := by decide +kernel
theorem cc_1484_0 : cu_1484_0.all (cutG tb_X0_playOn 1 bt_RX0 [] ct_1484 [(62, [(0, (0, 0, 0), (-1), 4)])] [] cu_1484 32 con_1484) = true := by decide +kernel
theorem cc_1484_1 : cu_1484_1.all (cutG tb_X0_playOn 1 bt_RX0 [] ct_1484 [(62, [(0, (0, 0, 0), (-1), 4)])] [] cu_1484 32 con_1484) = true := by decide +kernel
theorem cto_1484 (l : Launch) : CTOK2 l RX0 vwCl gTbl ct_1484 := ct2_nil
theorem vl_1484 (l : Launch) : Vld2 l vwCl gTbl con_1484 := conR_ok3 gT_all (hd_1484) rfl pn_RX0 tk_X0_playOn bo_RX0 xo_RX0 (cto_1484 l) ch_1484 (cut_app (cut_all cc_1484_0) (cut_all cc_1484_1))
/-- RookHusting leftOnTrial -/
noncomputable def gi_894 : GI := jl_n [jl_z 20, gp_383, gp_349]
noncomputable def ac_770 : AC := .inl (11, jl_n [vp_51, jl_8 8 4, jl_6 5 1, jl_8 10 1, jl_6 4 1, jl_8 17 6])
noncomputable def ac_771 : AC := .inl (4, jl_n [jl_8 20 1, jl_1 21 1, jl_8 23 2, jl_1 24 1, jl_8 27 3, jl_6 8 1, jl_6 6 1, jl_8 30 1, jl_6 15 2, jl_8 36 4])
noncomputable def ac_772 : AC := .inl (3, jl_n [jl_6 13 1, vp_6, jl_6 18 3, jl_6 11 1, jl_1 45 2])
noncomputable def hc_186 : List AC := [ac_770, .inl (9, [(6, 2, 0), (8, 18, 0)]), ac_771, ac_772, .inl (7, [(6, 11, 0), (6, 9, 0), (6, 18, 0), (1, 48, 0)]), am_2, am_0, am_10, am_0, am_1, am_1, am_7, am_0, am_2, am_9, am_0, am_0, am_12, am_1]
noncomputable def gi_895 : GI := jl_n [jl_z 20, gp_383, gp_344, jl_r 2 (jl_t), gp_244]
noncomputable def ac_773 : AC := .inl (3, jl_n [jl_6 13 1, vp_6, jl_6 18 3, jl_6 11 1, jl_1 58 1, jl_1 21 1])
noncomputable def hq_625 : HP := [(false, ac_770), (false, .inl (9, [(6, 2, 0), (8, 18, 0)])), (false, ac_771), (true, ac_773), (false, .inl (7, [(6, 11, 0), (6, 9, 0), (6, 18, 0), (1, 48, 0)])), (false, am_2), (true, am_0), (false, am_10), (true, am_0), (false, am_1), (true, am_1), (false, am_7), (true, am_0), (false, am_2), (false, am_9), (true, am_0), (true, am_0), (true, am_12), (false, am_1)]
noncomputable def con_1485 : Con2 := ((yX11_leftOnTrial, cX11_leftOnTrial, 1, (some .int)), (3, 74), ([(6, 0, 0)], gi_894, hc_186, []), [((1, 49, 0), gi_895, hq_625, [], tg_4)])
theorem hd_1485 : con_1485.1 = (yX11_leftOnTrial, cX11_leftOnTrial, 1, (some .int)) := rfl
noncomputable def ct_1485 : CTB2 := [(25, 372, 0, con_928, [3, 2, 4, 5, 6, 7, 8, 9, 10, 11, 12, 13, 14, 15, 16, 17, 18]), (49, 300, 0, con_1374, [3, 8])]
noncomputable def cu_1485 : List CUT2 := []
theorem ch_1485 : staG tb_X11_leftOnTrial 1 bt_RX11 [] ct_1485 [] [] cu_1485 25 con_1485 = true := by decide +kernel
theorem cto_1485 (l : Launch) : CTOK2 l RX11 vwCl gTbl ct_1485 := ct2_cons (vl_928 l) ck_RX11_372_928 (ct2_cons (vl_1374 l) ck_RX11_300_1374 (ct2_nil))
theorem vl_1485 (l : Launch) : Vld2 l vwCl gTbl con_1485 := conR_ok3 gT_all (hd_1485) rfl pn_RX11 tk_X11_leftOnTrial bo_RX11 xo_RX11 (cto_1485 l) ch_1485 cut_nil
/-- RookHusting leftByLaw -/
noncomputable def gi_896 : GI := jl_n [gp_210, gp_358, gp_382, gp_408]
noncomputable def ac_774 : AC := .inl (11, jl_n [vp_60, jl_6 9 1, jl_8 9 1, jl_6 3 1, vp_138, jl_8 18 6])
noncomputable def ac_775 : AC := .inl (4, jl_n [vp_101, jl_8 28 2, jl_1 29 1, jl_8 30 1, jl_1 32 2, vp_74, jl_8 40 2, jl_6 10 1])
noncomputable def hc_187 : List AC := [ac_774, .inl (9, [(6, 3, 0), (6, 11, 0)]), .inl (7, [(6, 4, 0), (6, 5, 0), (6, 6, 0), (1, 23, 0)]), ac_775, am_7, am_1, am_1, am_1, .inl (1, [(6, 3, 0), (8, 42, 0)]), am_4, am_6, .inl (0, [(1, 43, 0), (6, 12, 0), (6, 13, 0), (6, 14, 0)]), ac_515, am_11, ac_516, ac_517, am_2, am_0, am_10, am_0, am_1, am_0, am_2, am_9, am_0, am_0, am_12]
noncomputable def gi_897 : GI := jl_n [gp_210, gp_358, gp_382, gp_408, jl_t, gp_385]
noncomputable def ac_776 : AC := .inl (3, jl_n [vp_77, jl_1 129 1, jl_1 26 1])
noncomputable def hq_626 : HP := [(false, ac_774), (false, .inl (9, [(6, 3, 0), (6, 11, 0)])), (true, .inl (7, [(6, 4, 0), (6, 5, 0), (6, 6, 0), (0, 0, 0)])), (false, ac_775), (true, am_7), (true, am_1), (true, am_1), (false, am_1), (false, .inl (1, [(6, 3, 0), (8, 42, 0)])), (false, am_4), (false, am_6), (false, .inl (0, [(1, 43, 0), (6, 12, 0), (6, 13, 0), (6, 14, 0)])), (false, ac_515), (false, am_11), (false, ac_516), (true, ac_776), (false, am_2), (true, am_0), (false, am_10), (true, am_0), (true, am_1), (true, am_0), (false, am_2), (false, am_9), (true, am_0), (true, am_0), (true, am_12)]
noncomputable def con_1486 : Con2 := ((yX11_leftByLaw, cX11_leftByLaw, 2, (some .int)), (5, 131), ([(6, 0, 0), (1, 1, 0)], gi_896, hc_187, rq_3), [((1, 116, 0), gi_897, hq_626, [], tg_19)])
theorem hd_1486 : con_1486.1 = (yX11_leftByLaw, cX11_leftByLaw, 2, (some .int)) := rfl
theorem ck_RX11_337_1485 : COK2 RX11 vwCl gTbl 337 0 con_1485 := ⟨wd_1186, wd_125, mh_X11_leftOnTrial, .inr (.inr ⟨rfl, wd_1183, wd_1185, wd_40, ⟨_, rfl, pd_X11_leftOnTrial⟩, 11, _, TX11, 16, rfl, rfl⟩)⟩
theorem ck_RX11_460_1484 : COK2 RX11 vwCl gTbl 460 0 con_1484 := ⟨wd_858, wd_130, mh_X0_playOn, .inr (.inr ⟨rfl, wd_855, wd_856, wd_857, ⟨_, rfl, pd_X0_playOn⟩, 0, _, TX0, 4, rfl, rfl⟩)⟩
noncomputable def ct_1486 : CTB2 := [(11, 458, 0, con_867, [2, 3, 4, 5, 6, 7]), (26, 204, 0, con_863, [8, 4, 3, 9, 10]), (41, 460, 0, con_1484, [11, 2, 12, 13, 5, 14, 4]), (45, 337, 0, con_1485, [0, 1, 3, 15, 2, 16, 17, 18, 19, 5, 20, 4, 21, 22, 23, 24, 25, 26, 6])]
noncomputable def cu_1486 : List CUT2 := []
theorem ch_1486 : staG tb_X11_leftByLaw 1 bt_RX11 [] ct_1486 [] [] cu_1486 25 con_1486 = true := by decide +kernel
theorem cto_1486 (l : Launch) : CTOK2 l RX11 vwCl gTbl ct_1486 := ct2_cons (vl_867 l) ck_RX11_458_867 (ct2_cons (vl_863 l) ck_RX11_204_863 (ct2_cons (vl_1484 l) ck_RX11_460_1484 (ct2_cons (vl_1485 l) ck_RX11_337_1485 (ct2_nil))))
theorem vl_1486 (l : Launch) : Vld2 l vwCl gTbl con_1486 := conR_ok3 gT_all (hd_1486) rfl pn_RX11 tk_X11_leftByLaw bo_RX11 xo_RX11 (cto_1486 l) ch_1486 cut_nil
/-- RookHusting by -/
noncomputable def gi_898 : GI := jl_n [gp_191, jl_t, gp_409]
noncomputable def ac_777 : AC := .inl (11, jl_n [vp_60, jl_6 9 1, jl_8 9 1, jl_6 4 1, vp_138, jl_8 18 6])
noncomputable def ac_778 : AC := .inl (4, jl_n [jl_1 22 2, jl_8 24 2, jl_1 25 1, vp_63, vp_74, jl_8 36 2, jl_6 10 1])
noncomputable def hc_188 : List AC := [ac_777, .inl (9, [(6, 2, 0), (6, 11, 0)]), ac_778, .inl (7, [(6, 4, 0), (6, 5, 0), (6, 6, 0), (1, 40, 0)]), am_7, am_1, am_1, am_1, .inl (1, [(6, 2, 0), (8, 42, 0)]), am_4, am_6, .inl (0, [(1, 43, 0), (6, 12, 0), (6, 13, 0), (6, 14, 0)]), ac_515, am_11, ac_516, ac_517, am_2, am_0, am_10, am_0, am_1, am_0, am_2, am_9, am_0, am_0, am_12]
noncomputable def gi_899 : GI := jl_n [gp_191, jl_t, gp_409, jl_t, gp_410]
noncomputable def ac_779 : AC := .inl (3, jl_n [vp_77, jl_1 130 2])
noncomputable def hq_627 : HP := [(false, ac_777), (false, .inl (9, [(6, 2, 0), (6, 11, 0)])), (false, ac_778), (true, .inl (7, [(6, 4, 0), (6, 5, 0), (6, 6, 0), (1, 120, 0)])), (true, am_7), (true, am_1), (true, am_1), (false, am_1), (false, .inl (1, [(6, 2, 0), (8, 42, 0)])), (false, am_4), (false, am_6), (false, .inl (0, [(1, 43, 0), (6, 12, 0), (6, 13, 0), (6, 14, 0)])), (false, ac_515), (false, am_11), (false, ac_516), (true, ac_779), (false, am_2), (true, am_0), (false, am_10), (true, am_0), (true, am_1), (true, am_0), (false, am_2), (false, am_9), (true, am_0), (true, am_0), (true, am_12)]
noncomputable def con_1487 : Con2 := ((yX11_by, cX11_by, 2, (some .int)), (6, 152), ([(6, 0, 0), (1, 1, 0)], gi_898, hc_188, rq_3), [((1, 116, 0), gi_899, hq_627, [], tg_19)])
theorem hd_1487 : con_1487.1 = (yX11_by, cX11_by, 2, (some .int)) := rfl
theorem ck_RX11_329_1486 : COK2 RX11 vwCl gTbl 329 0 con_1486 := ⟨wd_1182, wd_125, mh_X11_leftByLaw, .inr (.inr ⟨rfl, wd_1179, wd_1181, wd_39, ⟨_, rfl, pd_X11_leftByLaw⟩, 11, _, TX11, 16, rfl, rfl⟩)⟩
noncomputable def ct_1487 : CTB2 := [(1, 219, 0, con_671, [0, 1, 2]), (8, 180, 1, con_673, []), (16, 329, 0, con_1486, [0, 1, 3, 2, 4, 5, 6, 7, 8, 9, 10, 11, 12, 13, 14, 15, 16, 17, 18, 19, 20, 21, 22, 23, 24, 25, 26])]
noncomputable def cu_1487 : List CUT2 := []
theorem ch_1487 : staG tb_X11_by 1 bt_RX11 [] ct_1487 [] [] cu_1487 13 con_1487 = true := by decide +kernel
theorem cto_1487 (l : Launch) : CTOK2 l RX11 vwCl gTbl ct_1487 := ct2_cons (vl_671 l) ck_RX11_219_671 (ct2_cons (vl_673 l) ck_RX11_180_673 (ct2_cons (vl_1486 l) ck_RX11_329_1486 (ct2_nil)))
theorem vl_1487 (l : Launch) : Vld2 l vwCl gTbl con_1487 := conR_ok3 gT_all (hd_1487) rfl pn_RX11 tk_X11_by bo_RX11 xo_RX11 (cto_1487 l) ch_1487 cut_nil
/-- RookHustingModel leftBy -/
noncomputable def gi_900 : GI := jl_n [gp_210, gp_283, gp_175]
noncomputable def con_1488 : Con2 := ((yX12_leftBy, cX12_leftBy, 2, (some .int)), (7, 166), ([(6, 0, 0), (1, 1, 0)], gi_499, hc_148, []), [((1, 70, 0), gi_900, hq_567, [], tg_1)])
theorem hd_1488 : con_1488.1 = (yX12_leftBy, cX12_leftBy, 2, (some .int)) := rfl
noncomputable def ct_1488 : CTB2 := [(2, 338, 0, con_932, [0, 1, 2, 3, 4, 5, 6]), (6, 363, 0, con_1352, [0, 1, 7, 8, 5, 6, 9, 10, 11, 12]), (10, 390, 0, con_1467, [0, 1, 7])]
noncomputable def cu_1488 : List CUT2 := []
theorem ch_1488 : staG tb_X12_leftBy 1 bt_RX12 [] ct_1488 [] [] cu_1488 10 con_1488 = true := by decide +kernel
theorem cto_1488 (l : Launch) : CTOK2 l RX12 vwCl gTbl ct_1488 := ct2_cons (vl_932 l) ck_RX12_338_932 (ct2_cons (vl_1352 l) ck_RX12_363_1352 (ct2_cons (vl_1467 l) ck_RX12_390_1467 (ct2_nil)))
theorem vl_1488 (l : Launch) : Vld2 l vwCl gTbl con_1488 := conR_ok3 gT_all (hd_1488) rfl pn_RX12 tk_X12_leftBy bo_RX12 xo_RX12 (cto_1488 l) ch_1488 cut_nil
/-- RookHustingModel by -/
noncomputable def gi_901 : GI := jl_n [gp_288, gp_411]
noncomputable def ac_780 : AC := .inl (12, jl_n [vp_65, jl_6 7 3, jl_1 96 4, vp_110, jl_8 47 14])
noncomputable def hq_628 : HP := [(true, ac_780), (false, ac_438), (true, am_8), (true, am_5), (true, am_7), (true, am_7), (true, am_1), (true, am_0), (true, am_0), (true, am_0), (true, am_13), (true, am_14), (true, am_15)]
noncomputable def con_1489 : Con2 := ((yX12_by, cX12_by, 2, (some .int)), (8, 187), ([(6, 0, 0), (1, 1, 0)], gi_507, hc_148, []), [((1, 70, 0), gi_901, hq_628, [], tg_1)])
theorem hd_1489 : con_1489.1 = (yX12_by, cX12_by, 2, (some .int)) := rfl
theorem ck_RX12_411_1488 : COK2 RX12 vwCl gTbl 411 0 con_1488 := ⟨wd_2030, wd_137, mh_X12_leftBy, .inr (.inr ⟨rfl, wd_2027, wd_2029, wd_111, ⟨_, rfl, pd_X12_leftBy⟩, 12, _, TX12, 45, rfl, rfl⟩)⟩
noncomputable def ct_1489 : CTB2 := [(1, 99, 0, con_678, [0, 1]), (13, 91, 1, con_336, []), (21, 411, 0, con_1488, [0, 1, 2, 3, 4, 5, 6, 7, 8, 9, 10, 11, 12])]
noncomputable def cu_1489 : List CUT2 := []
theorem ch_1489 : staG tb_X12_by 1 bt_RX12 [] ct_1489 [] [] cu_1489 16 con_1489 = true := by decide +kernel
theorem cto_1489 (l : Launch) : CTOK2 l RX12 vwCl gTbl ct_1489 := ct2_cons (vl_678 l) ck_RX12_99_678 (ct2_cons (vl_336 l) ck_RX12_91_336 (ct2_cons (vl_1488 l) ck_RX12_411_1488 (ct2_nil)))
theorem vl_1489 (l : Launch) : Vld2 l vwCl gTbl con_1489 := conR_ok3 gT_all (hd_1489) rfl pn_RX12 tk_X12_by bo_RX12 xo_RX12 (cto_1489 l) ch_1489 cut_nil
/-- RookHusting law -/
noncomputable def gi_902 : GI := jl_n [gp_190, gp_409]
noncomputable def ac_781 : AC := .inl (11, jl_n [vp_69, jl_6 9 1, jl_8 8 1, jl_6 4 1, vp_80, jl_8 17 6])
noncomputable def ac_782 : AC := .inl (4, jl_n [jl_1 21 2, jl_8 23 2, vp_107, vp_74, jl_8 35 2, jl_6 10 1])
noncomputable def hc_189 : List AC := [ac_781, .inl (9, [(6, 2, 0), (6, 11, 0)]), ac_782, .inl (7, [(6, 4, 0), (6, 5, 0), (6, 6, 0), (1, 39, 0)]), am_7, am_1, am_1, am_1, .inl (1, [(6, 2, 0), (8, 41, 0)]), am_4, am_6, .inl (0, [(1, 42, 0), (6, 12, 0), (6, 13, 0), (6, 14, 0)]), ac_508, am_11, ac_509, ac_510, am_2, am_0, am_10, am_0, am_1, am_0, am_2, am_9, am_0, am_0, am_12]
noncomputable def gi_903 : GI := jl_n [gp_190, gp_409, jl_m 1 3, gp_410]
noncomputable def ac_783 : AC := .inl (3, jl_n [vp_77, jl_1 129 2])
noncomputable def hq_629 : HP := [(false, ac_781), (false, .inl (9, [(6, 2, 0), (6, 11, 0)])), (false, ac_782), (true, .inl (7, [(6, 4, 0), (6, 5, 0), (6, 6, 0), (1, 119, 0)])), (true, am_7), (true, am_1), (true, am_1), (false, am_1), (false, .inl (1, [(6, 2, 0), (8, 41, 0)])), (false, am_4), (false, am_6), (false, .inl (0, [(1, 42, 0), (6, 12, 0), (6, 13, 0), (6, 14, 0)])), (false, ac_508), (false, am_11), (false, ac_509), (true, ac_783), (false, am_2), (true, am_0), (false, am_10), (true, am_0), (true, am_1), (true, am_0), (false, am_2), (false, am_9), (true, am_0), (true, am_0), (true, am_12)]
noncomputable def con_1490 : Con2 := ((yX11_law, cX11_law, 5, (some .int)), (6, 152), ([(6, 0, 0)], gi_902, hc_189, rq_2), [((1, 115, 0), gi_903, hq_629, [], tg_19)])
theorem hd_1490 : con_1490.1 = (yX11_law, cX11_law, 5, (some .int)) := rfl
noncomputable def ct_1490 : CTB2 := [(1, 219, 0, con_671, [0, 1, 2]), (14, 329, 0, con_1486, [0, 1, 3, 2, 4, 5, 6, 7, 8, 9, 10, 11, 12, 13, 14, 15, 16, 17, 18, 19, 20, 21, 22, 23, 24, 25, 26]), (27, 329, 0, con_1486, [0, 1, 3, 2, 4, 5, 6, 7, 8, 9, 10, 11, 12, 13, 14, 15, 16, 17, 18, 19, 20, 21, 22, 23, 24, 25, 26])]
noncomputable def gi_904 : GI := jl_n [jl_z 19, jl_i 1 2147483647, gp_409, gp_210, jl_t, jl_i 1 4, gp_385]
noncomputable def ac_784 : AC := .inl (3, jl_n [vp_77, jl_1 131 1, jl_1 21 1])
noncomputable def hq_630 : HP := [(false, ac_781), (false, .inl (9, [(6, 2, 0), (6, 11, 0)])), (false, ac_782), (true, .inl (7, [(6, 4, 0), (6, 5, 0), (6, 6, 0), (0, 0, 0)])), (true, am_7), (true, am_1), (true, am_1), (false, am_1), (false, .inl (1, [(6, 2, 0), (8, 41, 0)])), (false, am_4), (false, am_6), (false, .inl (0, [(1, 42, 0), (6, 12, 0), (6, 13, 0), (6, 14, 0)])), (false, ac_508), (false, am_11), (false, ac_509), (true, ac_784), (false, am_2), (true, am_0), (false, am_10), (true, am_0), (true, am_1), (true, am_0), (false, am_2), (false, am_9), (true, am_0), (true, am_0), (true, am_12)]
noncomputable def cu_1490 : List CUT2 := [((20, [lq 0 6 0, lq 1 1 116, lq 2 1 117, lq 3 1 118], [], gi_904, hq_630), rq_2, ([(118, (-1))], 4))]
theorem ch_1490 : staG tb_X11_law 1 bt_RX11 [] ct_1490 [] [] cu_1490 19 con_1490 = true := by decide +kernel
theorem cc_1490 : cu_1490.all (cutG tb_X11_law 1 bt_RX11 [] ct_1490 [] [] cu_1490 19 con_1490) = true := by decide +kernel
theorem cto_1490 (l : Launch) : CTOK2 l RX11 vwCl gTbl ct_1490 := ct2_cons (vl_671 l) ck_RX11_219_671 (ct2_cons (vl_1486 l) ck_RX11_329_1486 (ct2_cons (vl_1486 l) ck_RX11_329_1486 (ct2_nil)))
theorem vl_1490 (l : Launch) : Vld2 l vwCl gTbl con_1490 := conR_ok3 gT_all (hd_1490) rfl pn_RX11 tk_X11_law bo_RX11 xo_RX11 (cto_1490 l) ch_1490 (cut_all cc_1490)
/-- RookHustingModel law -/
noncomputable def gi_905 : GI := jl_n [gp_287, jl_m 1 3, gp_282]
noncomputable def ac_785 : AC := .inl (12, jl_n [vp_44, jl_1 88 1, jl_6 7 3, jl_1 95 4, vp_111])
noncomputable def hq_631 : HP := [(true, ac_785), (false, ac_436), (true, am_8), (true, am_5), (true, am_7), (true, am_7), (true, am_1), (true, am_0), (true, am_0), (true, am_0), (true, am_13), (true, am_14), (true, am_15)]
noncomputable def con_1491 : Con2 := ((yX12_law, cX12_law, 3, (some .int)), (8, 187), ([(6, 0, 0)], gi_504, hc_147, []), [((1, 69, 0), gi_905, hq_631, [], tg_1)])
theorem hd_1491 : con_1491.1 = (yX12_law, cX12_law, 3, (some .int)) := rfl
noncomputable def ct_1491 : CTB2 := [(1, 99, 0, con_678, [0, 1]), (21, 411, 0, con_1488, [0, 1, 2, 3, 4, 5, 6, 7, 8, 9, 10, 11, 12]), (26, 411, 0, con_1488, [0, 1, 2, 3, 4, 5, 6, 7, 8, 9, 10, 11, 12])]
noncomputable def gi_906 : GI := jl_n [gp_376, jl_i 0 3, jl_i 1 4, gp_282]
noncomputable def ac_786 : AC := .inl (12, jl_n [vp_44, jl_1 90 1, vp_139, vp_111])
noncomputable def hq_632 : HP := [(true, ac_786), (false, ac_436), (true, am_8), (true, am_5), (true, am_7), (true, am_7), (true, am_1), (true, am_0), (true, am_0), (true, am_0), (true, am_13), (true, am_14), (true, am_15)]
noncomputable def cu_1491 : List CUT2 := [((14, [lq 0 6 0, lq 1 1 70, lq 2 1 71], [], gi_906, hq_632), [], ([(71, (-1))], 4))]
theorem ch_1491 : staG tb_X12_law 1 bt_RX12 [] ct_1491 [] [] cu_1491 18 con_1491 = true := by decide +kernel
theorem cc_1491 : cu_1491.all (cutG tb_X12_law 1 bt_RX12 [] ct_1491 [] [] cu_1491 18 con_1491) = true := by decide +kernel
theorem cto_1491 (l : Launch) : CTOK2 l RX12 vwCl gTbl ct_1491 := ct2_cons (vl_678 l) ck_RX12_99_678 (ct2_cons (vl_1488 l) ck_RX12_411_1488 (ct2_cons (vl_1488 l) ck_RX12_411_1488 (ct2_nil)))
theorem vl_1491 (l : Launch) : Vld2 l vwCl gTbl con_1491 := conR_ok3 gT_all (hd_1491) rfl pn_RX12 tk_X12_law bo_RX12 xo_RX12 (cto_1491 l) ch_1491 (cut_all cc_1491)
/-- RookHusting speech -/
noncomputable def gi_907 : GI := jl_n [gp_372, gp_412]
noncomputable def ac_787 : AC := .inl (11, jl_n [vp_69, vp_99, jl_6 28 1, jl_6 4 1, jl_6 32 1, jl_8 14 3, vp_72])
noncomputable def ac_788 : AC := .inl (4, jl_n [jl_1 22 3, jl_8 23 1, vp_107, vp_105, jl_8 35 2, jl_6 12 1])
noncomputable def ac_789 : AC := .inl (3, jl_n [vp_118, jl_1 45 2])
noncomputable def ac_790 : AC := .inr (1, jl_n [js_1 85 30])
noncomputable def ac_791 : AC := .inr (1, jl_n [js_1 115 30])
noncomputable def ac_792 : AC := .inl (3, jl_n [vp_140, jl_1 128 2])
noncomputable def hc_190 : List AC := [ac_787, .inl (9, [(6, 2, 0), (6, 13, 0)]), ac_788, ac_789, am_0, .inl (7, [(6, 6, 0), (6, 7, 0), (6, 8, 0), (1, 48, 0)]), am_7, am_1, am_1, am_1, .inl (1, [(6, 2, 0), (8, 50, 0)]), am_4, am_6, .inl (0, [(1, 51, 0), (6, 14, 0), (6, 15, 0), (6, 16, 0)]), ac_790, am_11, ac_791, am_2, am_0, am_10, am_1, am_0, am_2, am_9, am_0, am_0, am_12, .inl (7, [(6, 28, 0), (6, 29, 0), (6, 30, 0), (1, 118, 0)]), am_7, am_1, am_1, ac_792, am_0, am_0, am_1, am_0, am_0, am_0, am_12]
noncomputable def rq_8 : RLs := [([(55, 12), (85, (-1))], 4), ([(56, 12), (86, (-1))], 4), ([(57, 12), (87, (-1))], 4), ([(58, 12), (88, (-1))], 4), ([(59, 12), (89, (-1))], 4), ([(60, 12), (90, (-1))], 4), ([(61, 12), (91, (-1))], 4), ([(62, 12), (92, (-1))], 4), ([(63, 12), (93, (-1))], 4), ([(64, 12), (94, (-1))], 4), ([(65, 12), (95, (-1))], 4), ([(66, 12), (96, (-1))], 4), ([(67, 12), (97, (-1))], 4), ([(68, 12), (98, (-1))], 4), ([(69, 12), (99, (-1))], 4), ([(70, 12), (100, (-1))], 4), ([(71, 12), (101, (-1))], 4), ([(72, 12), (102, (-1))], 4), ([(73, 12), (103, (-1))], 4), ([(74, 12), (104, (-1))], 4), ([(75, 12), (105, (-1))], 4), ([(76, 12), (106, (-1))], 4), ([(77, 12), (107, (-1))], 4), ([(78, 12), (108, (-1))], 4), ([(79, 12), (109, (-1))], 4), ([(80, 12), (110, (-1))], 4), ([(81, 12), (111, (-1))], 4), ([(82, 12), (112, (-1))], 4), ([(83, 12), (113, (-1))], 4), ([(84, 12), (114, (-1))], 4)]
noncomputable def gi_908 : GI := jl_n [gp_372, gp_412, jl_m 1 416, gp_350, gp_410]
noncomputable def ac_793 : AC := .inl (11, jl_n [vp_69, vp_99, jl_6 28 1, jl_6 4 1, jl_6 32 1, jl_8 14 3, jl_1 143 1, jl_8 17 2])
noncomputable def ac_794 : AC := .inl (3, jl_n [vp_118, jl_1 154 2])
noncomputable def ac_795 : AC := .inl (3, jl_n [vp_140, jl_1 171 2])
noncomputable def hq_633 : HP := [(true, ac_793), (false, .inl (9, [(6, 2, 0), (6, 13, 0)])), (false, ac_788), (true, ac_794), (true, am_0), (true, .inl (7, [(6, 6, 0), (6, 7, 0), (6, 8, 0), (1, 157, 0)])), (true, am_7), (true, am_1), (true, am_1), (false, am_1), (false, .inl (1, [(6, 2, 0), (8, 50, 0)])), (false, am_4), (false, am_6), (false, .inl (0, [(1, 51, 0), (6, 14, 0), (6, 15, 0), (6, 16, 0)])), (false, ac_790), (false, am_11), (false, ac_791), (false, am_2), (true, am_0), (false, am_10), (true, am_1), (true, am_0), (false, am_2), (false, am_9), (true, am_0), (true, am_0), (true, am_12), (true, .inl (7, [(6, 28, 0), (6, 29, 0), (6, 30, 0), (1, 161, 0)])), (true, am_7), (true, am_1), (true, am_1), (true, ac_795), (true, am_0), (true, am_0), (true, am_1), (true, am_0), (true, am_0), (true, am_0), (true, am_12)]
noncomputable def con_1492 : Con2 := ((yX11_speech, cX11_speech, 6, (some .int)), (7, 173), ([(6, 0, 0)], gi_907, hc_190, rq_8), [((1, 128, 0), gi_908, hq_633, [], tg_20)])
theorem hd_1492 : con_1492.1 = (yX11_speech, cX11_speech, 6, (some .int)) := rfl
theorem ck_RX11_332_1456 : COK2 RX11 vwCl gTbl 332 0 con_1456 := ⟨wd_1148, wd_133, mh_X7_copyFrom, .inr (.inr ⟨rfl, wd_1195, wd_1146, wd_1147, ⟨_, rfl, pd_X7_copyFrom⟩, 7, _, TX7, 4, rfl, rfl⟩)⟩
noncomputable def ct_1492 : CTB2 := [(1, 219, 0, con_671, [0, 1, 2]), (30, 281, 0, con_1375, [0, 4, 1, 5, 2, 6, 7, 8, 9, 10, 11, 12, 13, 14, 15, 16, 3, 17, 18, 19, 20, 21, 22, 23, 24, 25, 26]), (76, 332, 0, con_1456, [27, 5, 28, 6, 29, 7, 30, 8]), (96, 337, 0, con_1485, [0, 1, 2, 31, 27, 17, 32, 19, 33, 29, 34, 28, 35, 22, 23, 36, 37, 38, 30])]
noncomputable def gi_909 : GI := jl_n [gp_375, gp_412, jl_z 1, jl_m 0 416, gp_207, gp_413]
noncomputable def ac_796 : AC := .inl (11, jl_n [vp_69, vp_99, jl_6 28 1, jl_6 4 1, jl_6 32 1, jl_8 14 3, jl_c 1, jl_8 17 2])
noncomputable def ac_797 : AC := .inl (3, jl_n [vp_118, jl_1 157 2])
noncomputable def ac_798 : AC := .inl (3, jl_n [vp_140, jl_1 174 2])
noncomputable def hq_634 : HP := [(true, ac_796), (false, .inl (9, [(6, 2, 0), (6, 13, 0)])), (false, ac_788), (true, ac_797), (true, am_0), (true, .inl (7, [(6, 6, 0), (6, 7, 0), (6, 8, 0), (1, 160, 0)])), (true, am_7), (true, am_1), (true, am_1), (false, am_1), (false, .inl (1, [(6, 2, 0), (8, 50, 0)])), (false, am_4), (false, am_6), (false, .inl (0, [(1, 51, 0), (6, 14, 0), (6, 15, 0), (6, 16, 0)])), (false, ac_790), (false, am_11), (false, ac_791), (false, am_2), (true, am_0), (false, am_10), (true, am_1), (true, am_0), (false, am_2), (false, am_9), (true, am_0), (true, am_0), (true, am_12), (true, .inl (7, [(6, 28, 0), (6, 29, 0), (6, 30, 0), (1, 164, 0)])), (true, am_7), (true, am_1), (true, am_1), (true, ac_798), (true, am_0), (true, am_0), (true, am_1), (true, am_0), (true, am_0), (true, am_0), (true, am_12)]
noncomputable def gi_910 : GI := jl_n [gp_375, gp_415, gp_346, gp_410, jl_z 1, jl_m 0 416, jl_t, gp_339, gp_413]
noncomputable def ac_799 : AC := .inl (3, jl_n [vp_118, jl_1 158 2])
noncomputable def ac_800 : AC := .inl (3, jl_n [vp_140, jl_1 175 2])
noncomputable def hq_635 : HP := [(true, ac_796), (false, .inl (9, [(6, 2, 0), (6, 13, 0)])), (false, ac_788), (true, ac_799), (true, am_0), (true, .inl (7, [(6, 6, 0), (6, 7, 0), (6, 8, 0), (1, 161, 0)])), (true, am_7), (true, am_1), (true, am_1), (false, am_1), (false, .inl (1, [(6, 2, 0), (8, 50, 0)])), (false, am_4), (false, am_6), (false, .inl (0, [(1, 51, 0), (6, 14, 0), (6, 15, 0), (6, 16, 0)])), (false, ac_790), (false, am_11), (false, ac_791), (false, am_2), (true, am_0), (false, am_10), (true, am_1), (true, am_0), (false, am_2), (false, am_9), (true, am_0), (true, am_0), (true, am_12), (true, .inl (7, [(6, 28, 0), (6, 29, 0), (6, 30, 0), (1, 165, 0)])), (true, am_7), (true, am_1), (true, am_1), (true, ac_800), (true, am_0), (true, am_0), (true, am_1), (true, am_0), (true, am_0), (true, am_0), (true, am_12)]
noncomputable def cu_1492 : List CUT2 := [((36, [lq 0 6 0, lq 1 1 129, lq 2 1 130, lq 3 1 131], [], gi_909, hq_634), rq_8, ([(131, (-18))], 107)), ((53, [lq 0 6 0, lq 1 1 129, lq 2 1 130, lq 3 1 131, lq 4 1 132], [], gi_910, hq_635), rq_8, ([(131, (-18)), (132, (-1))], 106))]
theorem ch_1492 : staG tb_X11_speech 1 bt_RX11 [] ct_1492 [] [] cu_1492 41 con_1492 = true := by decide +kernel
theorem cc_1492 : cu_1492.all (cutG tb_X11_speech 1 bt_RX11 [] ct_1492 [] [] cu_1492 41 con_1492) = true := by decide +kernel
theorem cto_1492 (l : Launch) : CTOK2 l RX11 vwCl gTbl ct_1492 := ct2_cons (vl_671 l) ck_RX11_219_671 (ct2_cons (vl_1375 l) ck_RX11_281_1375 (ct2_cons (vl_1456 l) ck_RX11_332_1456 (ct2_cons (vl_1485 l) ck_RX11_337_1485 (ct2_nil))))
theorem vl_1492 (l : Launch) : Vld2 l vwCl gTbl con_1492 := conR_ok3 gT_all (hd_1492) rfl pn_RX11 tk_X11_speech bo_RX11 xo_RX11 (cto_1492 l) ch_1492 (cut_all cc_1492)
/-- RookHustingModel speech -/
noncomputable def gi_911 : GI := jl_n [gp_287, jl_m 1 416, jl_z 45]
noncomputable def con_1493 : Con2 := ((yX12_speech, cX12_speech, 6, (some .int)), (9, 208), ([(6, 0, 0)], gi_504, hc_147, []), [((1, 69, 0), gi_911, hq_566, [], tg_1)])
theorem hd_1493 : con_1493.1 = (yX12_speech, cX12_speech, 6, (some .int)) := rfl
noncomputable def ct_1493 : CTB2 := [(1, 366, 0, con_1353, [0, 1, 2, 3, 4, 5, 6, 7, 8, 9, 10, 11, 12]), (11, 390, 0, con_1467, [0, 1, 7]), (21, 106, 0, con_650, [0, 1]), (33, 103, 0, con_1344, [0, 1]), (61, 363, 0, con_1352, [0, 1, 7, 8, 5, 6, 9, 10, 11, 12]), (73, 390, 0, con_1467, [0, 1, 7]), (84, 390, 0, con_1467, [0, 1, 7])]
noncomputable def gi_912 : GI := jl_n [gp_376, jl_t, jl_m 0 416, gp_284]
noncomputable def gi_913 : GI := jl_n [gp_286, gp_167, gp_203, jl_t, jl_m 0 416, gp_339, jl_z 45]
noncomputable def cu_1493 : List CUT2 := [((19, [lq 0 6 0, lq 1 1 70, lq 2 1 71, lq 3 1 72], [], gi_912, hq_566), [], ([(72, (-18))], 107)), ((30, [lq 0 6 0, lq 1 1 70, lq 2 1 71, lq 3 1 72, lq 4 1 73], [], gi_913, hq_566), [], ([(72, (-18)), (73, (-1))], 106))]
theorem ch_1493 : staG tb_X12_speech 1 bt_RX12 [] ct_1493 [] [] cu_1493 44 con_1493 = true := by decide +kernel
theorem cc_1493 : cu_1493.all (cutG tb_X12_speech 1 bt_RX12 [] ct_1493 [] [] cu_1493 44 con_1493) = true := by decide +kernel
theorem cto_1493 (l : Launch) : CTOK2 l RX12 vwCl gTbl ct_1493 := ct2_cons (vl_1353 l) ck_RX12_366_1353 (ct2_cons (vl_1467 l) ck_RX12_390_1467 (ct2_cons (vl_650 l) ck_RX12_106_650 (ct2_cons (vl_1344 l) ck_RX12_103_1344 (ct2_cons (vl_1352 l) ck_RX12_363_1352 (ct2_cons (vl_1467 l) ck_RX12_390_1467 (ct2_cons (vl_1467 l) ck_RX12_390_1467 (ct2_nil)))))))
theorem vl_1493 (l : Launch) : Vld2 l vwCl gTbl con_1493 := conR_ok3 gT_all (hd_1493) rfl pn_RX12 tk_X12_speech bo_RX12 xo_RX12 (cto_1493 l) ch_1493 (cut_all cc_1493)
/-- RookHusting gap -/
noncomputable def gi_914 : GI := jl_n [gp_372, gp_412, jl_m 1 59, gp_350, gp_410]
noncomputable def con_1494 : Con2 := ((yX11_gap, cX11_gap, 6, (some .int)), (7, 173), ([(6, 0, 0)], gi_907, hc_190, rq_8), [((1, 128, 0), gi_914, hq_633, [], tg_20)])
theorem hd_1494 : con_1494.1 = (yX11_gap, cX11_gap, 6, (some .int)) := rfl
noncomputable def ct_1494 : CTB2 := [(1, 219, 0, con_671, [0, 1, 2]), (30, 281, 0, con_1375, [0, 4, 1, 5, 2, 6, 7, 8, 9, 10, 11, 12, 13, 14, 15, 16, 3, 17, 18, 19, 20, 21, 22, 23, 24, 25, 26]), (78, 332, 0, con_1456, [27, 5, 28, 6, 29, 7, 30, 8]), (114, 337, 0, con_1485, [0, 1, 2, 31, 27, 17, 32, 19, 33, 29, 34, 28, 35, 22, 23, 36, 37, 38, 30])]
noncomputable def gi_915 : GI := jl_n [gp_375, gp_412, jl_z 1, jl_m 0 59, gp_207, gp_413]
noncomputable def gi_916 : GI := jl_n [gp_375, gp_415, gp_346, gp_410, jl_z 1, jl_m 0 59, gp_298, jl_i 1 5, gp_413]
noncomputable def cu_1494 : List CUT2 := [((36, [lq 0 6 0, lq 1 1 129, lq 2 1 130, lq 3 1 131], [], gi_915, hq_634), rq_8, ([(131, (-6))], 35)), ((55, [lq 0 6 0, lq 1 1 129, lq 2 1 130, lq 3 1 131, lq 4 1 132], [], gi_916, hq_635), rq_8, ([(131, (-6)), (132, (-1))], 35))]
theorem ch_1494 : staG tb_X11_gap 1 bt_RX11 [] ct_1494 [] [] cu_1494 52 con_1494 = true := by decide +kernel
theorem cc_1494 : cu_1494.all (cutG tb_X11_gap 1 bt_RX11 [] ct_1494 [] [] cu_1494 52 con_1494) = true := by decide +kernel
theorem cto_1494 (l : Launch) : CTOK2 l RX11 vwCl gTbl ct_1494 := ct2_cons (vl_671 l) ck_RX11_219_671 (ct2_cons (vl_1375 l) ck_RX11_281_1375 (ct2_cons (vl_1456 l) ck_RX11_332_1456 (ct2_cons (vl_1485 l) ck_RX11_337_1485 (ct2_nil))))
theorem vl_1494 (l : Launch) : Vld2 l vwCl gTbl con_1494 := conR_ok3 gT_all (hd_1494) rfl pn_RX11 tk_X11_gap bo_RX11 xo_RX11 (cto_1494 l) ch_1494 (cut_all cc_1494)
/-- RookHustingModel fields -/
noncomputable def gi_917 : GI := jl_n [jl_z 46, gp_416]
noncomputable def gi_918 : GI := jl_n [jl_z 46, gp_169]
noncomputable def con_1495 : Con2 := ((yX12_fields, cX12_fields, 1, (some .int)), (0, 0), ([(6, 0, 0)], gi_917, [ac_435, ac_436], []), [((1, 49, 0), gi_918, [(false, ac_435), (false, ac_436)], [], [1])])
theorem hd_1495 : con_1495.1 = (yX12_fields, cX12_fields, 1, (some .int)) := rfl
noncomputable def cu_1495 : List CUT2 := []
theorem ch_1495 : staG tb_X12_fields 1 bt_RX12 [] ct_2 [] [] cu_1495 7 con_1495 = true := by decide +kernel
theorem vl_1495 (l : Launch) : Vld2 l vwCl gTbl con_1495 := conR_ok3 gT_all (hd_1495) rfl pn_RX12 tk_X12_fields bo_RX12 xo_RX12 (cto_2 l) ch_1495 cut_nil
/-- RookHustingModel gap -/
noncomputable def gi_919 : GI := jl_n [gp_287, jl_m 1 59, gp_172]
noncomputable def ac_801 : AC := .inl (12, jl_n [vp_85, jl_1 95 2, vp_111])
noncomputable def hq_636 : HP := [(true, ac_801), (false, ac_436), (true, am_8), (true, am_5), (true, am_7), (true, am_7), (true, am_1), (true, am_0), (true, am_0), (true, am_0), (true, am_13), (true, am_14), (true, am_15)]
noncomputable def con_1496 : Con2 := ((yX12_gap, cX12_gap, 5, (some .int)), (9, 208), ([(6, 0, 0)], gi_504, hc_147, []), [((1, 69, 0), gi_919, hq_636, [], tg_1)])
theorem hd_1496 : con_1496.1 = (yX12_gap, cX12_gap, 5, (some .int)) := rfl
theorem ck_RX12_106_1495 : COK2 RX12 vwCl gTbl 106 0 con_1495 := ⟨wd_1660, wd_137, mh_X12_fields, .inr (.inr ⟨rfl, wd_1657, wd_1659, wd_67, ⟨_, rfl, pd_X12_fields⟩, 12, _, TX12, 45, rfl, rfl⟩)⟩
noncomputable def ct_1496 : CTB2 := [(1, 366, 0, con_1353, [0, 1, 2, 3, 4, 5, 6, 7, 8, 9, 10, 11, 12]), (11, 390, 0, con_1467, [0, 1, 7]), (21, 106, 0, con_650, [0, 1]), (35, 106, 0, con_1495, [0, 1]), (53, 363, 0, con_1352, [0, 1, 7, 8, 5, 6, 9, 10, 11, 12]), (57, 390, 0, con_1467, [0, 1, 7]), (68, 390, 0, con_1467, [0, 1, 7])]
noncomputable def gi_920 : GI := jl_n [gp_376, jl_t, jl_m 0 59, jl_i 0 5, gp_172]
noncomputable def ac_802 : AC := .inl (12, jl_n [vp_85, jl_1 98 2, vp_111])
noncomputable def hq_637 : HP := [(true, ac_802), (false, ac_436), (true, am_8), (true, am_5), (true, am_7), (true, am_7), (true, am_1), (true, am_0), (true, am_0), (true, am_0), (true, am_13), (true, am_14), (true, am_15)]
noncomputable def gi_921 : GI := jl_n [gp_286, gp_167, gp_203, jl_t, jl_m 0 59, jl_i 0 4, jl_i 1 5, gp_172]
noncomputable def ac_803 : AC := .inl (12, jl_n [vp_85, jl_1 99 2, vp_111])
noncomputable def hq_638 : HP := [(true, ac_803), (false, ac_436), (true, am_8), (true, am_5), (true, am_7), (true, am_7), (true, am_1), (true, am_0), (true, am_0), (true, am_0), (true, am_13), (true, am_14), (true, am_15)]
noncomputable def cu_1496 : List CUT2 := [((19, [lq 0 6 0, lq 1 1 70, lq 2 1 71, lq 3 1 72], [], gi_920, hq_637), [], ([(72, (-6))], 35)), ((32, [lq 0 6 0, lq 1 1 70, lq 2 1 71, lq 3 1 72, lq 4 1 73], [], gi_921, hq_638), [], ([(72, (-6)), (73, (-1))], 35))]
theorem ch_1496 : staG tb_X12_gap 1 bt_RX12 [] ct_1496 [] [] cu_1496 30 con_1496 = true := by decide +kernel
theorem cc_1496 : cu_1496.all (cutG tb_X12_gap 1 bt_RX12 [] ct_1496 [] [] cu_1496 30 con_1496) = true := by decide +kernel
theorem cto_1496 (l : Launch) : CTOK2 l RX12 vwCl gTbl ct_1496 := ct2_cons (vl_1353 l) ck_RX12_366_1353 (ct2_cons (vl_1467 l) ck_RX12_390_1467 (ct2_cons (vl_650 l) ck_RX12_106_650 (ct2_cons (vl_1495 l) ck_RX12_106_1495 (ct2_cons (vl_1352 l) ck_RX12_363_1352 (ct2_cons (vl_1467 l) ck_RX12_390_1467 (ct2_cons (vl_1467 l) ck_RX12_390_1467 (ct2_nil)))))))
theorem vl_1496 (l : Launch) : Vld2 l vwCl gTbl con_1496 := conR_ok3 gT_all (hd_1496) rfl pn_RX12 tk_X12_gap bo_RX12 xo_RX12 (cto_1496 l) ch_1496 (cut_all cc_1496)
/-- RookHusting$Slots isSlot -/
noncomputable def con_1497 : Con2 := ((yX8_isSlot, cX8_isSlot, 1, (some .boolean)), (0, 0), ([(1, 0, 0)], [(4, 2147483647)], [], []), [((0, 0, 0), [(4, 2147483647), (0, 0)], [], [], [1])])
theorem hd_1497 : con_1497.1 = (yX8_isSlot, cX8_isSlot, 1, (some .boolean)) := rfl
noncomputable def ct_1497 : CTB2 := []
noncomputable def cu_1497 : List CUT2 := []
theorem ch_1497 : staG tb_X8_isSlot 1 bt_RX8 [] ct_1497 [] [] cu_1497 9 con_1497 = true := by decide +kernel
theorem cto_1497 (l : Launch) : CTOK2 l RX8 vwCl gTbl ct_1497 := ct2_nil
theorem vl_1497 (l : Launch) : Vld2 l vwCl gTbl con_1497 := conR_ok3 gT_all (hd_1497) rfl pn_RX8 tk_X8_isSlot bo_RX8 xo_RX8 (cto_1497 l) ch_1497 cut_nil
/-- RookHusting wrongSeen -/
noncomputable def gi_922 : GI := jl_n [gp_417, gp_419]
noncomputable def ac_804 : AC := .inl (11, jl_n [vp_141, jl_6 4 1, jl_8 19 11])
noncomputable def ac_805 : AC := .inl (4, jl_n [jl_8 22 1, jl_1 23 1, jl_8 25 2, jl_1 26 1, jl_8 38 12])
noncomputable def ac_806 : AC := .inr (1, jl_n [js_1 45 4])
noncomputable def ac_807 : AC := .inr (2, jl_n [js_5 240 9223372036854775807 9223372036854775807])
noncomputable def hc_191 : List AC := [ac_804, .inl (9, [(6, 2, 0), (8, 20, 0)]), ac_805, .inl (8, [(6, 5, 0), (8, 39, 0), (6, 4, 0)]), ac_806, ac_807]
noncomputable def gi_923 : GI := jl_n [gp_417, gp_419, jl_z 1]
noncomputable def hq_639 : HP := [(false, ac_804), (false, .inl (9, [(6, 2, 0), (8, 20, 0)])), (false, ac_805), (false, .inl (8, [(6, 5, 0), (8, 39, 0), (6, 4, 0)])), (false, ac_806), (false, ac_807)]
noncomputable def con_1498 : Con2 := ((yX11_wrongSeen, cX11_wrongSeen, 5, (some .int)), (1, 20), ([(6, 0, 0), (1, 1, 0), (1, 2, 0)], gi_922, hc_191, []), [((0, (-2), 0), gi_923, hq_639, [], [1])])
theorem hd_1498 : con_1498.1 = (yX11_wrongSeen, cX11_wrongSeen, 5, (some .int)) := rfl
theorem ck_RX11_414_1497 : COK2 RX11 vwCl gTbl 414 1 con_1497 := ⟨wd_1210, wd_131, mh_X8_isSlot, .inl ⟨rfl, wd_1208, wd_1209, pd_X8_isSlot⟩⟩
noncomputable def ct_1498 : CTB2 := [(1, 414, 1, con_1497, [])]
noncomputable def cu_1498 : List CUT2 := []
theorem ch_1498 : staG tb_X11_wrongSeen 1 bt_RX11 [] ct_1498 [] [] cu_1498 7 con_1498 = true := by decide +kernel
theorem cto_1498 (l : Launch) : CTOK2 l RX11 vwCl gTbl ct_1498 := ct2_cons (vl_1497 l) ck_RX11_414_1497 (ct2_nil)
theorem vl_1498 (l : Launch) : Vld2 l vwCl gTbl con_1498 := conR_ok3 gT_all (hd_1498) rfl pn_RX11 tk_X11_wrongSeen bo_RX11 xo_RX11 (cto_1498 l) ch_1498 cut_nil
/-- RookHusting$Slots isSlot -/
noncomputable def con_1499 : Con2 := ((yX8_isSlot, cX8_isSlot, 1, (some .boolean)), (0, 0), ([(0, 3, 0)], [(0, 0)], [], []), [((0, 1, 0), [(0, 0), (0, 0)], [], [], [1])])
theorem hd_1499 : con_1499.1 = (yX8_isSlot, cX8_isSlot, 1, (some .boolean)) := rfl
noncomputable def cu_1499 : List CUT2 := []
theorem ch_1499 : staG tb_X8_isSlot 1 bt_RX8 [] ct_1497 [] [] cu_1499 10 con_1499 = true := by decide +kernel
theorem vl_1499 (l : Launch) : Vld2 l vwCl gTbl con_1499 := conR_ok3 gT_all (hd_1499) rfl pn_RX8 tk_X8_isSlot bo_RX8 xo_RX8 (cto_1497 l) ch_1499 cut_nil
/-- RookHusting$Slots hasRow -/
noncomputable def gi_924 : GI := jl_n [jl_z 5, jl_r 4 (jl_m 0 60)]
noncomputable def ac_808 : AC := .inr (1, jl_n [js_1 9 4])
noncomputable def gi_925 : GI := jl_n [jl_z 5, jl_r 3 (jl_m 0 60), jl_k 0 0, jl_z 1]
noncomputable def hq_640 : HP := [(false, .inl (8, [(8, 2, 0), (8, 3, 0), (6, 1, 0)])), (false, ac_808)]
noncomputable def gi_926 : GI := jl_n [jl_z 5, gp_420, jl_z 1]
noncomputable def con_1500 : Con2 := ((yX8_hasRow, cX8_hasRow, 2, (some .boolean)), (0, 0), ([(6, 0, 0), (0, 3, 0)], gi_924, [.inl (8, [(8, 2, 0), (8, 3, 0), (6, 1, 0)]), ac_808], []), [((0, 0, 0), gi_925, hq_640, [], [1]), ((0, 1, 0), gi_926, hq_640, [], [1])])
theorem hd_1500 : con_1500.1 = (yX8_hasRow, cX8_hasRow, 2, (some .boolean)) := rfl
noncomputable def cu_1500 : List CUT2 := []
theorem ch_1500 : staG tb_X8_hasRow 1 bt_RX8 [] ct_1497 [] [] cu_1500 11 con_1500 = true := by decide +kernel
theorem vl_1500 (l : Launch) : Vld2 l vwCl gTbl con_1500 := conR_ok3 gT_all (hd_1500) rfl pn_RX8 tk_X8_hasRow bo_RX8 xo_RX8 (cto_1497 l) ch_1500 cut_nil
/-- RookHusting$Slots at -/
noncomputable def gi_927 : GI := jl_n [jl_z 6, jl_u]
noncomputable def ac_809 : AC := .inr (2, jl_n [js_5 180 9223372036854775807 9223372036854775807, js_4 7 1, js_5 59 9223372036854775807 9223372036854775807])
noncomputable def gi_928 : GI := jl_n [jl_z 6, gp_129]
noncomputable def hq_641 : HP := [(false, .inl (8, [(6, 1, 0), (8, 4, 0), (8, 5, 0)])), (false, ac_809)]
noncomputable def con_1501 : Con2 := ((yX8_at, cX8_at, 3, (some .long)), (0, 0), ([(6, 0, 0), (0, 3, 0), (0, 0, 0)], gi_927, [.inl (8, [(6, 1, 0), (8, 4, 0), (8, 5, 0)]), ac_809], []), [((4, 6, 0), gi_928, hq_641, [], [1])])
theorem hd_1501 : con_1501.1 = (yX8_at, cX8_at, 3, (some .long)) := rfl
noncomputable def cu_1501 : List CUT2 := []
theorem ch_1501 : staG tb_X8_at 1 bt_RX8 [] ct_1497 [] [] cu_1501 11 con_1501 = true := by decide +kernel
theorem vl_1501 (l : Launch) : Vld2 l vwCl gTbl con_1501 := conR_ok3 gT_all (hd_1501) rfl pn_RX8 tk_X8_at bo_RX8 xo_RX8 (cto_1497 l) ch_1501 cut_nil
/-- RookHusting isBetween -/
noncomputable def gi_929 : GI := jl_n [jl_u, gp_95]
noncomputable def con_1502 : Con2 := ((yX11_isBetween, cX11_isBetween, 3, (some .boolean)), (0, 0), ([(4, 0, 0), (1, 1, 0)], [((-9223372036854775808), 9223372036854775807), (0, 4)], [], []), [((0, 0, 0), gi_929, [], [], [1]), ((0, 1, 0), [(0, 4), (0, 4), (0, 0)], [], [], [1])])
theorem hd_1502 : con_1502.1 = (yX11_isBetween, cX11_isBetween, 3, (some .boolean)) := rfl
noncomputable def cu_1502 : List CUT2 := []
theorem ch_1502 : staG tb_X11_isBetween 1 bt_RX11 [] ct_3 [] [] cu_1502 12 con_1502 = true := by decide +kernel
theorem vl_1502 (l : Launch) : Vld2 l vwCl gTbl con_1502 := conR_ok3 gT_all (hd_1502) rfl pn_RX11 tk_X11_isBetween bo_RX11 xo_RX11 (cto_3 l) ch_1502 cut_nil
/-- RookHusting$Slots at -/
noncomputable def ac_810 : AC := .inr (2, jl_n [js_5 181 9223372036854775807 9223372036854775807, js_4 7 1, js_5 58 9223372036854775807 9223372036854775807])
noncomputable def hq_642 : HP := [(false, .inl (8, [(6, 1, 0), (8, 4, 0), (8, 5, 0)])), (false, ac_810)]
noncomputable def con_1503 : Con2 := ((yX8_at, cX8_at, 3, (some .long)), (0, 0), ([(6, 0, 0), (0, 3, 0), (0, 1, 0)], gi_927, [.inl (8, [(6, 1, 0), (8, 4, 0), (8, 5, 0)]), ac_810], []), [((4, 6, 0), gi_928, hq_642, [], [1])])
theorem hd_1503 : con_1503.1 = (yX8_at, cX8_at, 3, (some .long)) := rfl
noncomputable def cu_1503 : List CUT2 := []
theorem ch_1503 : staG tb_X8_at 1 bt_RX8 [] ct_1497 [] [] cu_1503 11 con_1503 = true := by decide +kernel
theorem vl_1503 (l : Launch) : Vld2 l vwCl gTbl con_1503 := conR_ok3 gT_all (hd_1503) rfl pn_RX8 tk_X8_at bo_RX8 xo_RX8 (cto_1497 l) ch_1503 cut_nil
/-- RookHusting isBetween -/
noncomputable def gi_930 : GI := jl_n [jl_u, gp_359]
noncomputable def con_1504 : Con2 := ((yX11_isBetween, cX11_isBetween, 3, (some .boolean)), (0, 0), ([(4, 0, 0), (1, 1, 0)], [((-9223372036854775808), 9223372036854775807), (0, 16)], [], []), [((0, 0, 0), gi_930, [], [], [1]), ((0, 1, 0), [(0, 16), (0, 16), (0, 0)], [], [], [1])])
theorem hd_1504 : con_1504.1 = (yX11_isBetween, cX11_isBetween, 3, (some .boolean)) := rfl
noncomputable def cu_1504 : List CUT2 := []
theorem ch_1504 : staG tb_X11_isBetween 1 bt_RX11 [] ct_3 [] [] cu_1504 12 con_1504 = true := by decide +kernel
theorem vl_1504 (l : Launch) : Vld2 l vwCl gTbl con_1504 := conR_ok3 gT_all (hd_1504) rfl pn_RX11 tk_X11_isBetween bo_RX11 xo_RX11 (cto_3 l) ch_1504 cut_nil
/-- RookHusting$Slots at -/
noncomputable def ac_811 : AC := .inr (2, jl_n [js_5 182 9223372036854775807 9223372036854775807, js_4 7 1, js_5 57 9223372036854775807 9223372036854775807])
noncomputable def hq_643 : HP := [(false, .inl (8, [(6, 1, 0), (8, 4, 0), (8, 5, 0)])), (false, ac_811)]
noncomputable def con_1505 : Con2 := ((yX8_at, cX8_at, 3, (some .long)), (0, 0), ([(6, 0, 0), (0, 3, 0), (0, 2, 0)], gi_927, [.inl (8, [(6, 1, 0), (8, 4, 0), (8, 5, 0)]), ac_811], []), [((4, 6, 0), gi_928, hq_643, [], [1])])
theorem hd_1505 : con_1505.1 = (yX8_at, cX8_at, 3, (some .long)) := rfl
noncomputable def cu_1505 : List CUT2 := []
theorem ch_1505 : staG tb_X8_at 1 bt_RX8 [] ct_1497 [] [] cu_1505 11 con_1505 = true := by decide +kernel
theorem vl_1505 (l : Launch) : Vld2 l vwCl gTbl con_1505 := conR_ok3 gT_all (hd_1505) rfl pn_RX8 tk_X8_at bo_RX8 xo_RX8 (cto_1497 l) ch_1505 cut_nil
/-- RookHusting isBetween -/
noncomputable def con_1506 : Con2 := ((yX11_isBetween, cX11_isBetween, 3, (some .boolean)), (0, 0), ([(4, 0, 0), (0, 250, 0)], [((-9223372036854775808), 9223372036854775807), (0, 0)], [], []), [((0, 0, 0), gi_145, [], [], [1]), ((0, 1, 0), [(0, 250), (0, 0), (0, 0)], [], [], [1])])
theorem hd_1506 : con_1506.1 = (yX11_isBetween, cX11_isBetween, 3, (some .boolean)) := rfl
noncomputable def cu_1506 : List CUT2 := []
theorem ch_1506 : staG tb_X11_isBetween 1 bt_RX11 [] ct_3 [] [] cu_1506 12 con_1506 = true := by decide +kernel
theorem vl_1506 (l : Launch) : Vld2 l vwCl gTbl con_1506 := conR_ok3 gT_all (hd_1506) rfl pn_RX11 tk_X11_isBetween bo_RX11 xo_RX11 (cto_3 l) ch_1506 cut_nil
/-- RookHusting$Slots at -/
noncomputable def ac_812 : AC := .inr (2, jl_n [js_5 183 9223372036854775807 9223372036854775807, js_4 7 1, js_5 56 9223372036854775807 9223372036854775807])
noncomputable def hq_644 : HP := [(false, .inl (8, [(6, 1, 0), (8, 4, 0), (8, 5, 0)])), (false, ac_812)]
noncomputable def con_1507 : Con2 := ((yX8_at, cX8_at, 3, (some .long)), (0, 0), ([(6, 0, 0), (0, 3, 0), (0, 3, 0)], gi_927, [.inl (8, [(6, 1, 0), (8, 4, 0), (8, 5, 0)]), ac_812], []), [((4, 6, 0), gi_928, hq_644, [], [1])])
theorem hd_1507 : con_1507.1 = (yX8_at, cX8_at, 3, (some .long)) := rfl
noncomputable def cu_1507 : List CUT2 := []
theorem ch_1507 : staG tb_X8_at 1 bt_RX8 [] ct_1497 [] [] cu_1507 11 con_1507 = true := by decide +kernel
theorem vl_1507 (l : Launch) : Vld2 l vwCl gTbl con_1507 := conR_ok3 gT_all (hd_1507) rfl pn_RX8 tk_X8_at bo_RX8 xo_RX8 (cto_1497 l) ch_1507 cut_nil
/-- RookHusting$Slots at -/
noncomputable def ac_813 : AC := .inr (2, jl_n [js_5 184 9223372036854775807 9223372036854775807, js_4 7 1, js_5 55 9223372036854775807 9223372036854775807])
noncomputable def hq_645 : HP := [(false, .inl (8, [(6, 1, 0), (8, 4, 0), (8, 5, 0)])), (false, ac_813)]
noncomputable def con_1508 : Con2 := ((yX8_at, cX8_at, 3, (some .long)), (0, 0), ([(6, 0, 0), (0, 3, 0), (0, 4, 0)], gi_927, [.inl (8, [(6, 1, 0), (8, 4, 0), (8, 5, 0)]), ac_813], []), [((4, 6, 0), gi_928, hq_645, [], [1])])
theorem hd_1508 : con_1508.1 = (yX8_at, cX8_at, 3, (some .long)) := rfl
noncomputable def cu_1508 : List CUT2 := []
theorem ch_1508 : staG tb_X8_at 1 bt_RX8 [] ct_1497 [] [] cu_1508 11 con_1508 = true := by decide +kernel
theorem vl_1508 (l : Launch) : Vld2 l vwCl gTbl con_1508 := conR_ok3 gT_all (hd_1508) rfl pn_RX8 tk_X8_at bo_RX8 xo_RX8 (cto_1497 l) ch_1508 cut_nil
/-- RookHusting$Slots at -/
noncomputable def ac_814 : AC := .inr (2, jl_n [js_5 185 9223372036854775807 9223372036854775807, js_4 7 1, js_5 54 9223372036854775807 9223372036854775807])
noncomputable def hq_646 : HP := [(false, .inl (8, [(6, 1, 0), (8, 4, 0), (8, 5, 0)])), (false, ac_814)]
noncomputable def con_1509 : Con2 := ((yX8_at, cX8_at, 3, (some .long)), (0, 0), ([(6, 0, 0), (0, 3, 0), (0, 5, 0)], gi_927, [.inl (8, [(6, 1, 0), (8, 4, 0), (8, 5, 0)]), ac_814], []), [((4, 6, 0), gi_928, hq_646, [], [1])])
theorem hd_1509 : con_1509.1 = (yX8_at, cX8_at, 3, (some .long)) := rfl
noncomputable def cu_1509 : List CUT2 := []
theorem ch_1509 : staG tb_X8_at 1 bt_RX8 [] ct_1497 [] [] cu_1509 11 con_1509 = true := by decide +kernel
theorem vl_1509 (l : Launch) : Vld2 l vwCl gTbl con_1509 := conR_ok3 gT_all (hd_1509) rfl pn_RX8 tk_X8_at bo_RX8 xo_RX8 (cto_1497 l) ch_1509 cut_nil
/-- RookHusting$Slots at -/
noncomputable def ac_815 : AC := .inr (2, jl_n [js_5 186 9223372036854775807 9223372036854775807, js_4 7 1, js_5 53 9223372036854775807 9223372036854775807])
noncomputable def hq_647 : HP := [(false, .inl (8, [(6, 1, 0), (8, 4, 0), (8, 5, 0)])), (false, ac_815)]
noncomputable def con_1510 : Con2 := ((yX8_at, cX8_at, 3, (some .long)), (0, 0), ([(6, 0, 0), (0, 3, 0), (0, 6, 0)], gi_927, [.inl (8, [(6, 1, 0), (8, 4, 0), (8, 5, 0)]), ac_815], []), [((4, 6, 0), gi_928, hq_647, [], [1])])
theorem hd_1510 : con_1510.1 = (yX8_at, cX8_at, 3, (some .long)) := rfl
noncomputable def cu_1510 : List CUT2 := []
theorem ch_1510 : staG tb_X8_at 1 bt_RX8 [] ct_1497 [] [] cu_1510 11 con_1510 = true := by decide +kernel
theorem vl_1510 (l : Launch) : Vld2 l vwCl gTbl con_1510 := conR_ok3 gT_all (hd_1510) rfl pn_RX8 tk_X8_at bo_RX8 xo_RX8 (cto_1497 l) ch_1510 cut_nil
/-- RookHusting$Slots at -/
noncomputable def ac_816 : AC := .inr (2, jl_n [js_5 187 9223372036854775807 9223372036854775807, js_4 7 1, js_5 52 9223372036854775807 9223372036854775807])
noncomputable def hq_648 : HP := [(false, .inl (8, [(6, 1, 0), (8, 4, 0), (8, 5, 0)])), (false, ac_816)]
noncomputable def con_1511 : Con2 := ((yX8_at, cX8_at, 3, (some .long)), (0, 0), ([(6, 0, 0), (0, 3, 0), (0, 7, 0)], gi_927, [.inl (8, [(6, 1, 0), (8, 4, 0), (8, 5, 0)]), ac_816], []), [((4, 6, 0), gi_928, hq_648, [], [1])])
theorem hd_1511 : con_1511.1 = (yX8_at, cX8_at, 3, (some .long)) := rfl
noncomputable def cu_1511 : List CUT2 := []
theorem ch_1511 : staG tb_X8_at 1 bt_RX8 [] ct_1497 [] [] cu_1511 11 con_1511 = true := by decide +kernel
theorem vl_1511 (l : Launch) : Vld2 l vwCl gTbl con_1511 := conR_ok3 gT_all (hd_1511) rfl pn_RX8 tk_X8_at bo_RX8 xo_RX8 (cto_1497 l) ch_1511 cut_nil
/-- RookHusting$Slots at -/
noncomputable def ac_817 : AC := .inr (2, jl_n [js_5 188 9223372036854775807 9223372036854775807, js_4 7 1, js_5 51 9223372036854775807 9223372036854775807])
noncomputable def hq_649 : HP := [(false, .inl (8, [(6, 1, 0), (8, 4, 0), (8, 5, 0)])), (false, ac_817)]
noncomputable def con_1512 : Con2 := ((yX8_at, cX8_at, 3, (some .long)), (0, 0), ([(6, 0, 0), (0, 3, 0), (0, 8, 0)], gi_927, [.inl (8, [(6, 1, 0), (8, 4, 0), (8, 5, 0)]), ac_817], []), [((4, 6, 0), gi_928, hq_649, [], [1])])
theorem hd_1512 : con_1512.1 = (yX8_at, cX8_at, 3, (some .long)) := rfl
noncomputable def cu_1512 : List CUT2 := []
theorem ch_1512 : staG tb_X8_at 1 bt_RX8 [] ct_1497 [] [] cu_1512 11 con_1512 = true := by decide +kernel
theorem vl_1512 (l : Launch) : Vld2 l vwCl gTbl con_1512 := conR_ok3 gT_all (hd_1512) rfl pn_RX8 tk_X8_at bo_RX8 xo_RX8 (cto_1497 l) ch_1512 cut_nil
/-- RookHusting$Slots at -/
noncomputable def ac_818 : AC := .inr (2, jl_n [js_5 189 9223372036854775807 9223372036854775807, js_4 7 1, js_5 50 9223372036854775807 9223372036854775807])
noncomputable def hq_650 : HP := [(false, .inl (8, [(6, 1, 0), (8, 4, 0), (8, 5, 0)])), (false, ac_818)]
noncomputable def con_1513 : Con2 := ((yX8_at, cX8_at, 3, (some .long)), (0, 0), ([(6, 0, 0), (0, 3, 0), (0, 9, 0)], gi_927, [.inl (8, [(6, 1, 0), (8, 4, 0), (8, 5, 0)]), ac_818], []), [((4, 6, 0), gi_928, hq_650, [], [1])])
theorem hd_1513 : con_1513.1 = (yX8_at, cX8_at, 3, (some .long)) := rfl
noncomputable def cu_1513 : List CUT2 := []
theorem ch_1513 : staG tb_X8_at 1 bt_RX8 [] ct_1497 [] [] cu_1513 11 con_1513 = true := by decide +kernel
theorem vl_1513 (l : Launch) : Vld2 l vwCl gTbl con_1513 := conR_ok3 gT_all (hd_1513) rfl pn_RX8 tk_X8_at bo_RX8 xo_RX8 (cto_1497 l) ch_1513 cut_nil
/-- RookHusting$Slots at -/
noncomputable def ac_819 : AC := .inr (2, jl_n [js_5 190 9223372036854775807 9223372036854775807, js_4 7 1, js_5 49 9223372036854775807 9223372036854775807])
noncomputable def hq_651 : HP := [(false, .inl (8, [(6, 1, 0), (8, 4, 0), (8, 5, 0)])), (false, ac_819)]
noncomputable def con_1514 : Con2 := ((yX8_at, cX8_at, 3, (some .long)), (0, 0), ([(6, 0, 0), (0, 3, 0), (0, 10, 0)], gi_927, [.inl (8, [(6, 1, 0), (8, 4, 0), (8, 5, 0)]), ac_819], []), [((4, 6, 0), gi_928, hq_651, [], [1])])
theorem hd_1514 : con_1514.1 = (yX8_at, cX8_at, 3, (some .long)) := rfl
noncomputable def cu_1514 : List CUT2 := []
theorem ch_1514 : staG tb_X8_at 1 bt_RX8 [] ct_1497 [] [] cu_1514 11 con_1514 = true := by decide +kernel
theorem vl_1514 (l : Launch) : Vld2 l vwCl gTbl con_1514 := conR_ok3 gT_all (hd_1514) rfl pn_RX8 tk_X8_at bo_RX8 xo_RX8 (cto_1497 l) ch_1514 cut_nil
/-- RookHusting$Slots at -/
noncomputable def ac_820 : AC := .inr (2, jl_n [js_5 191 9223372036854775807 9223372036854775807, js_4 7 1, js_5 48 9223372036854775807 9223372036854775807])
noncomputable def hq_652 : HP := [(false, .inl (8, [(6, 1, 0), (8, 4, 0), (8, 5, 0)])), (false, ac_820)]
noncomputable def con_1515 : Con2 := ((yX8_at, cX8_at, 3, (some .long)), (0, 0), ([(6, 0, 0), (0, 3, 0), (0, 11, 0)], gi_927, [.inl (8, [(6, 1, 0), (8, 4, 0), (8, 5, 0)]), ac_820], []), [((4, 6, 0), gi_928, hq_652, [], [1])])
theorem hd_1515 : con_1515.1 = (yX8_at, cX8_at, 3, (some .long)) := rfl
noncomputable def cu_1515 : List CUT2 := []
theorem ch_1515 : staG tb_X8_at 1 bt_RX8 [] ct_1497 [] [] cu_1515 11 con_1515 = true := by decide +kernel
theorem vl_1515 (l : Launch) : Vld2 l vwCl gTbl con_1515 := conR_ok3 gT_all (hd_1515) rfl pn_RX8 tk_X8_at bo_RX8 xo_RX8 (cto_1497 l) ch_1515 cut_nil
/-- RookHusting$Slots at -/
noncomputable def ac_821 : AC := .inr (2, jl_n [js_5 192 9223372036854775807 9223372036854775807, js_4 7 1, js_5 47 9223372036854775807 9223372036854775807])
noncomputable def hq_653 : HP := [(false, .inl (8, [(6, 1, 0), (8, 4, 0), (8, 5, 0)])), (false, ac_821)]
noncomputable def con_1516 : Con2 := ((yX8_at, cX8_at, 3, (some .long)), (0, 0), ([(6, 0, 0), (0, 3, 0), (0, 12, 0)], gi_927, [.inl (8, [(6, 1, 0), (8, 4, 0), (8, 5, 0)]), ac_821], []), [((4, 6, 0), gi_928, hq_653, [], [1])])
theorem hd_1516 : con_1516.1 = (yX8_at, cX8_at, 3, (some .long)) := rfl
noncomputable def cu_1516 : List CUT2 := []
theorem ch_1516 : staG tb_X8_at 1 bt_RX8 [] ct_1497 [] [] cu_1516 11 con_1516 = true := by decide +kernel
theorem vl_1516 (l : Launch) : Vld2 l vwCl gTbl con_1516 := conR_ok3 gT_all (hd_1516) rfl pn_RX8 tk_X8_at bo_RX8 xo_RX8 (cto_1497 l) ch_1516 cut_nil
/-- RookHusting$Slots at -/
noncomputable def ac_822 : AC := .inr (2, jl_n [js_5 193 9223372036854775807 9223372036854775807, js_4 7 1, js_5 46 9223372036854775807 9223372036854775807])
noncomputable def hq_654 : HP := [(false, .inl (8, [(6, 1, 0), (8, 4, 0), (8, 5, 0)])), (false, ac_822)]
noncomputable def con_1517 : Con2 := ((yX8_at, cX8_at, 3, (some .long)), (0, 0), ([(6, 0, 0), (0, 3, 0), (0, 13, 0)], gi_927, [.inl (8, [(6, 1, 0), (8, 4, 0), (8, 5, 0)]), ac_822], []), [((4, 6, 0), gi_928, hq_654, [], [1])])
theorem hd_1517 : con_1517.1 = (yX8_at, cX8_at, 3, (some .long)) := rfl
noncomputable def cu_1517 : List CUT2 := []
theorem ch_1517 : staG tb_X8_at 1 bt_RX8 [] ct_1497 [] [] cu_1517 11 con_1517 = true := by decide +kernel
theorem vl_1517 (l : Launch) : Vld2 l vwCl gTbl con_1517 := conR_ok3 gT_all (hd_1517) rfl pn_RX8 tk_X8_at bo_RX8 xo_RX8 (cto_1497 l) ch_1517 cut_nil
/-- RookHusting$Slots at -/
noncomputable def ac_823 : AC := .inr (2, jl_n [js_5 194 9223372036854775807 9223372036854775807, js_4 7 1, js_5 45 9223372036854775807 9223372036854775807])
noncomputable def hq_655 : HP := [(false, .inl (8, [(6, 1, 0), (8, 4, 0), (8, 5, 0)])), (false, ac_823)]
noncomputable def con_1518 : Con2 := ((yX8_at, cX8_at, 3, (some .long)), (0, 0), ([(6, 0, 0), (0, 3, 0), (0, 14, 0)], gi_927, [.inl (8, [(6, 1, 0), (8, 4, 0), (8, 5, 0)]), ac_823], []), [((4, 6, 0), gi_928, hq_655, [], [1])])
theorem hd_1518 : con_1518.1 = (yX8_at, cX8_at, 3, (some .long)) := rfl
noncomputable def cu_1518 : List CUT2 := []
theorem ch_1518 : staG tb_X8_at 1 bt_RX8 [] ct_1497 [] [] cu_1518 11 con_1518 = true := by decide +kernel
theorem vl_1518 (l : Launch) : Vld2 l vwCl gTbl con_1518 := conR_ok3 gT_all (hd_1518) rfl pn_RX8 tk_X8_at bo_RX8 xo_RX8 (cto_1497 l) ch_1518 cut_nil
/-- RookHusting$Slots at -/
noncomputable def ac_824 : AC := .inr (2, jl_n [js_5 195 9223372036854775807 9223372036854775807, js_4 7 1, js_5 44 9223372036854775807 9223372036854775807])
noncomputable def hq_656 : HP := [(false, .inl (8, [(6, 1, 0), (8, 4, 0), (8, 5, 0)])), (false, ac_824)]
noncomputable def con_1519 : Con2 := ((yX8_at, cX8_at, 3, (some .long)), (0, 0), ([(6, 0, 0), (0, 3, 0), (0, 15, 0)], gi_927, [.inl (8, [(6, 1, 0), (8, 4, 0), (8, 5, 0)]), ac_824], []), [((4, 6, 0), gi_928, hq_656, [], [1])])
theorem hd_1519 : con_1519.1 = (yX8_at, cX8_at, 3, (some .long)) := rfl
noncomputable def cu_1519 : List CUT2 := []
theorem ch_1519 : staG tb_X8_at 1 bt_RX8 [] ct_1497 [] [] cu_1519 11 con_1519 = true := by decide +kernel
theorem vl_1519 (l : Launch) : Vld2 l vwCl gTbl con_1519 := conR_ok3 gT_all (hd_1519) rfl pn_RX8 tk_X8_at bo_RX8 xo_RX8 (cto_1497 l) ch_1519 cut_nil
/-- RookHusting$Slots at -/
noncomputable def ac_825 : AC := .inr (2, jl_n [js_5 196 9223372036854775807 9223372036854775807, js_4 7 1, js_5 43 9223372036854775807 9223372036854775807])
noncomputable def hq_657 : HP := [(false, .inl (8, [(6, 1, 0), (8, 4, 0), (8, 5, 0)])), (false, ac_825)]
noncomputable def con_1520 : Con2 := ((yX8_at, cX8_at, 3, (some .long)), (0, 0), ([(6, 0, 0), (0, 3, 0), (0, 16, 0)], gi_927, [.inl (8, [(6, 1, 0), (8, 4, 0), (8, 5, 0)]), ac_825], []), [((4, 6, 0), gi_928, hq_657, [], [1])])
theorem hd_1520 : con_1520.1 = (yX8_at, cX8_at, 3, (some .long)) := rfl
noncomputable def cu_1520 : List CUT2 := []
theorem ch_1520 : staG tb_X8_at 1 bt_RX8 [] ct_1497 [] [] cu_1520 11 con_1520 = true := by decide +kernel
theorem vl_1520 (l : Launch) : Vld2 l vwCl gTbl con_1520 := conR_ok3 gT_all (hd_1520) rfl pn_RX8 tk_X8_at bo_RX8 xo_RX8 (cto_1497 l) ch_1520 cut_nil
/-- RookHusting$Slots at -/
noncomputable def ac_826 : AC := .inr (2, jl_n [js_5 197 9223372036854775807 9223372036854775807, js_4 7 1, js_5 42 9223372036854775807 9223372036854775807])
noncomputable def hq_658 : HP := [(false, .inl (8, [(6, 1, 0), (8, 4, 0), (8, 5, 0)])), (false, ac_826)]
noncomputable def con_1521 : Con2 := ((yX8_at, cX8_at, 3, (some .long)), (0, 0), ([(6, 0, 0), (0, 3, 0), (0, 17, 0)], gi_927, [.inl (8, [(6, 1, 0), (8, 4, 0), (8, 5, 0)]), ac_826], []), [((4, 6, 0), gi_928, hq_658, [], [1])])
theorem hd_1521 : con_1521.1 = (yX8_at, cX8_at, 3, (some .long)) := rfl
noncomputable def cu_1521 : List CUT2 := []
theorem ch_1521 : staG tb_X8_at 1 bt_RX8 [] ct_1497 [] [] cu_1521 11 con_1521 = true := by decide +kernel
theorem vl_1521 (l : Launch) : Vld2 l vwCl gTbl con_1521 := conR_ok3 gT_all (hd_1521) rfl pn_RX8 tk_X8_at bo_RX8 xo_RX8 (cto_1497 l) ch_1521 cut_nil
/-- RookHusting$Slots at -/
noncomputable def ac_827 : AC := .inr (2, jl_n [js_5 198 9223372036854775807 9223372036854775807, js_4 7 1, js_5 41 9223372036854775807 9223372036854775807])
noncomputable def hq_659 : HP := [(false, .inl (8, [(6, 1, 0), (8, 4, 0), (8, 5, 0)])), (false, ac_827)]
noncomputable def con_1522 : Con2 := ((yX8_at, cX8_at, 3, (some .long)), (0, 0), ([(6, 0, 0), (0, 3, 0), (0, 18, 0)], gi_927, [.inl (8, [(6, 1, 0), (8, 4, 0), (8, 5, 0)]), ac_827], []), [((4, 6, 0), gi_928, hq_659, [], [1])])
theorem hd_1522 : con_1522.1 = (yX8_at, cX8_at, 3, (some .long)) := rfl
noncomputable def cu_1522 : List CUT2 := []
theorem ch_1522 : staG tb_X8_at 1 bt_RX8 [] ct_1497 [] [] cu_1522 11 con_1522 = true := by decide +kernel
theorem vl_1522 (l : Launch) : Vld2 l vwCl gTbl con_1522 := conR_ok3 gT_all (hd_1522) rfl pn_RX8 tk_X8_at bo_RX8 xo_RX8 (cto_1497 l) ch_1522 cut_nil
/-- RookHusting$Slots at -/
noncomputable def ac_828 : AC := .inr (2, jl_n [js_5 199 9223372036854775807 9223372036854775807, js_4 7 1, js_5 40 9223372036854775807 9223372036854775807])
noncomputable def hq_660 : HP := [(false, .inl (8, [(6, 1, 0), (8, 4, 0), (8, 5, 0)])), (false, ac_828)]
noncomputable def con_1523 : Con2 := ((yX8_at, cX8_at, 3, (some .long)), (0, 0), ([(6, 0, 0), (0, 3, 0), (0, 19, 0)], gi_927, [.inl (8, [(6, 1, 0), (8, 4, 0), (8, 5, 0)]), ac_828], []), [((4, 6, 0), gi_928, hq_660, [], [1])])
theorem hd_1523 : con_1523.1 = (yX8_at, cX8_at, 3, (some .long)) := rfl
noncomputable def cu_1523 : List CUT2 := []
theorem ch_1523 : staG tb_X8_at 1 bt_RX8 [] ct_1497 [] [] cu_1523 11 con_1523 = true := by decide +kernel
theorem vl_1523 (l : Launch) : Vld2 l vwCl gTbl con_1523 := conR_ok3 gT_all (hd_1523) rfl pn_RX8 tk_X8_at bo_RX8 xo_RX8 (cto_1497 l) ch_1523 cut_nil
/-- RookHusting$Slots at -/
noncomputable def ac_829 : AC := .inr (2, jl_n [js_5 200 9223372036854775807 9223372036854775807, js_4 7 1, js_5 39 9223372036854775807 9223372036854775807])
noncomputable def hq_661 : HP := [(false, .inl (8, [(6, 1, 0), (8, 4, 0), (8, 5, 0)])), (false, ac_829)]
noncomputable def con_1524 : Con2 := ((yX8_at, cX8_at, 3, (some .long)), (0, 0), ([(6, 0, 0), (0, 3, 0), (0, 20, 0)], gi_927, [.inl (8, [(6, 1, 0), (8, 4, 0), (8, 5, 0)]), ac_829], []), [((4, 6, 0), gi_928, hq_661, [], [1])])
theorem hd_1524 : con_1524.1 = (yX8_at, cX8_at, 3, (some .long)) := rfl
noncomputable def cu_1524 : List CUT2 := []
theorem ch_1524 : staG tb_X8_at 1 bt_RX8 [] ct_1497 [] [] cu_1524 11 con_1524 = true := by decide +kernel
theorem vl_1524 (l : Launch) : Vld2 l vwCl gTbl con_1524 := conR_ok3 gT_all (hd_1524) rfl pn_RX8 tk_X8_at bo_RX8 xo_RX8 (cto_1497 l) ch_1524 cut_nil
/-- RookHusting$Slots at -/
noncomputable def ac_830 : AC := .inr (2, jl_n [js_5 201 9223372036854775807 9223372036854775807, js_4 7 1, js_5 38 9223372036854775807 9223372036854775807])
noncomputable def hq_662 : HP := [(false, .inl (8, [(6, 1, 0), (8, 4, 0), (8, 5, 0)])), (false, ac_830)]
noncomputable def con_1525 : Con2 := ((yX8_at, cX8_at, 3, (some .long)), (0, 0), ([(6, 0, 0), (0, 3, 0), (0, 21, 0)], gi_927, [.inl (8, [(6, 1, 0), (8, 4, 0), (8, 5, 0)]), ac_830], []), [((4, 6, 0), gi_928, hq_662, [], [1])])
theorem hd_1525 : con_1525.1 = (yX8_at, cX8_at, 3, (some .long)) := rfl
noncomputable def cu_1525 : List CUT2 := []
theorem ch_1525 : staG tb_X8_at 1 bt_RX8 [] ct_1497 [] [] cu_1525 11 con_1525 = true := by decide +kernel
theorem vl_1525 (l : Launch) : Vld2 l vwCl gTbl con_1525 := conR_ok3 gT_all (hd_1525) rfl pn_RX8 tk_X8_at bo_RX8 xo_RX8 (cto_1497 l) ch_1525 cut_nil
/-- RookHusting$Slots at -/
noncomputable def ac_831 : AC := .inr (2, jl_n [js_5 202 9223372036854775807 9223372036854775807, js_4 7 1, js_5 37 9223372036854775807 9223372036854775807])
noncomputable def hq_663 : HP := [(false, .inl (8, [(6, 1, 0), (8, 4, 0), (8, 5, 0)])), (false, ac_831)]
noncomputable def con_1526 : Con2 := ((yX8_at, cX8_at, 3, (some .long)), (0, 0), ([(6, 0, 0), (0, 3, 0), (0, 22, 0)], gi_927, [.inl (8, [(6, 1, 0), (8, 4, 0), (8, 5, 0)]), ac_831], []), [((4, 6, 0), gi_928, hq_663, [], [1])])
theorem hd_1526 : con_1526.1 = (yX8_at, cX8_at, 3, (some .long)) := rfl
noncomputable def cu_1526 : List CUT2 := []
theorem ch_1526 : staG tb_X8_at 1 bt_RX8 [] ct_1497 [] [] cu_1526 11 con_1526 = true := by decide +kernel
theorem vl_1526 (l : Launch) : Vld2 l vwCl gTbl con_1526 := conR_ok3 gT_all (hd_1526) rfl pn_RX8 tk_X8_at bo_RX8 xo_RX8 (cto_1497 l) ch_1526 cut_nil
/-- RookHusting$Slots at -/
noncomputable def ac_832 : AC := .inr (2, jl_n [js_5 203 9223372036854775807 9223372036854775807, js_4 7 1, js_5 36 9223372036854775807 9223372036854775807])
noncomputable def hq_664 : HP := [(false, .inl (8, [(6, 1, 0), (8, 4, 0), (8, 5, 0)])), (false, ac_832)]
noncomputable def con_1527 : Con2 := ((yX8_at, cX8_at, 3, (some .long)), (0, 0), ([(6, 0, 0), (0, 3, 0), (0, 23, 0)], gi_927, [.inl (8, [(6, 1, 0), (8, 4, 0), (8, 5, 0)]), ac_832], []), [((4, 6, 0), gi_928, hq_664, [], [1])])
theorem hd_1527 : con_1527.1 = (yX8_at, cX8_at, 3, (some .long)) := rfl
noncomputable def cu_1527 : List CUT2 := []
theorem ch_1527 : staG tb_X8_at 1 bt_RX8 [] ct_1497 [] [] cu_1527 11 con_1527 = true := by decide +kernel
theorem vl_1527 (l : Launch) : Vld2 l vwCl gTbl con_1527 := conR_ok3 gT_all (hd_1527) rfl pn_RX8 tk_X8_at bo_RX8 xo_RX8 (cto_1497 l) ch_1527 cut_nil
/-- RookHusting$Slots at -/
noncomputable def ac_833 : AC := .inr (2, jl_n [js_5 204 9223372036854775807 9223372036854775807, js_4 7 1, js_5 35 9223372036854775807 9223372036854775807])
noncomputable def hq_665 : HP := [(false, .inl (8, [(6, 1, 0), (8, 4, 0), (8, 5, 0)])), (false, ac_833)]
noncomputable def con_1528 : Con2 := ((yX8_at, cX8_at, 3, (some .long)), (0, 0), ([(6, 0, 0), (0, 3, 0), (0, 24, 0)], gi_927, [.inl (8, [(6, 1, 0), (8, 4, 0), (8, 5, 0)]), ac_833], []), [((4, 6, 0), gi_928, hq_665, [], [1])])
theorem hd_1528 : con_1528.1 = (yX8_at, cX8_at, 3, (some .long)) := rfl
noncomputable def cu_1528 : List CUT2 := []
theorem ch_1528 : staG tb_X8_at 1 bt_RX8 [] ct_1497 [] [] cu_1528 11 con_1528 = true := by decide +kernel
theorem vl_1528 (l : Launch) : Vld2 l vwCl gTbl con_1528 := conR_ok3 gT_all (hd_1528) rfl pn_RX8 tk_X8_at bo_RX8 xo_RX8 (cto_1497 l) ch_1528 cut_nil
/-- RookHusting$Slots at -/
noncomputable def ac_834 : AC := .inr (2, jl_n [js_5 205 9223372036854775807 9223372036854775807, js_4 7 1, js_5 34 9223372036854775807 9223372036854775807])
noncomputable def hq_666 : HP := [(false, .inl (8, [(6, 1, 0), (8, 4, 0), (8, 5, 0)])), (false, ac_834)]
noncomputable def con_1529 : Con2 := ((yX8_at, cX8_at, 3, (some .long)), (0, 0), ([(6, 0, 0), (0, 3, 0), (0, 25, 0)], gi_927, [.inl (8, [(6, 1, 0), (8, 4, 0), (8, 5, 0)]), ac_834], []), [((4, 6, 0), gi_928, hq_666, [], [1])])
theorem hd_1529 : con_1529.1 = (yX8_at, cX8_at, 3, (some .long)) := rfl
noncomputable def cu_1529 : List CUT2 := []
theorem ch_1529 : staG tb_X8_at 1 bt_RX8 [] ct_1497 [] [] cu_1529 11 con_1529 = true := by decide +kernel
theorem vl_1529 (l : Launch) : Vld2 l vwCl gTbl con_1529 := conR_ok3 gT_all (hd_1529) rfl pn_RX8 tk_X8_at bo_RX8 xo_RX8 (cto_1497 l) ch_1529 cut_nil
/-- RookHusting$Slots at -/
noncomputable def ac_835 : AC := .inr (2, jl_n [js_5 206 9223372036854775807 9223372036854775807, js_4 7 1, js_5 33 9223372036854775807 9223372036854775807])
noncomputable def hq_667 : HP := [(false, .inl (8, [(6, 1, 0), (8, 4, 0), (8, 5, 0)])), (false, ac_835)]
noncomputable def con_1530 : Con2 := ((yX8_at, cX8_at, 3, (some .long)), (0, 0), ([(6, 0, 0), (0, 3, 0), (0, 26, 0)], gi_927, [.inl (8, [(6, 1, 0), (8, 4, 0), (8, 5, 0)]), ac_835], []), [((4, 6, 0), gi_928, hq_667, [], [1])])
theorem hd_1530 : con_1530.1 = (yX8_at, cX8_at, 3, (some .long)) := rfl
noncomputable def cu_1530 : List CUT2 := []
theorem ch_1530 : staG tb_X8_at 1 bt_RX8 [] ct_1497 [] [] cu_1530 11 con_1530 = true := by decide +kernel
theorem vl_1530 (l : Launch) : Vld2 l vwCl gTbl con_1530 := conR_ok3 gT_all (hd_1530) rfl pn_RX8 tk_X8_at bo_RX8 xo_RX8 (cto_1497 l) ch_1530 cut_nil
/-- RookHusting$Slots at -/
noncomputable def ac_836 : AC := .inr (2, jl_n [js_5 207 9223372036854775807 9223372036854775807, js_4 7 1, js_5 32 9223372036854775807 9223372036854775807])
noncomputable def hq_668 : HP := [(false, .inl (8, [(6, 1, 0), (8, 4, 0), (8, 5, 0)])), (false, ac_836)]
noncomputable def con_1531 : Con2 := ((yX8_at, cX8_at, 3, (some .long)), (0, 0), ([(6, 0, 0), (0, 3, 0), (0, 27, 0)], gi_927, [.inl (8, [(6, 1, 0), (8, 4, 0), (8, 5, 0)]), ac_836], []), [((4, 6, 0), gi_928, hq_668, [], [1])])
theorem hd_1531 : con_1531.1 = (yX8_at, cX8_at, 3, (some .long)) := rfl
noncomputable def cu_1531 : List CUT2 := []
theorem ch_1531 : staG tb_X8_at 1 bt_RX8 [] ct_1497 [] [] cu_1531 11 con_1531 = true := by decide +kernel
theorem vl_1531 (l : Launch) : Vld2 l vwCl gTbl con_1531 := conR_ok3 gT_all (hd_1531) rfl pn_RX8 tk_X8_at bo_RX8 xo_RX8 (cto_1497 l) ch_1531 cut_nil
/-- RookHusting$Slots at -/
noncomputable def ac_837 : AC := .inr (2, jl_n [js_5 208 9223372036854775807 9223372036854775807, js_4 7 1, js_5 31 9223372036854775807 9223372036854775807])
noncomputable def hq_669 : HP := [(false, .inl (8, [(6, 1, 0), (8, 4, 0), (8, 5, 0)])), (false, ac_837)]
noncomputable def con_1532 : Con2 := ((yX8_at, cX8_at, 3, (some .long)), (0, 0), ([(6, 0, 0), (0, 3, 0), (0, 28, 0)], gi_927, [.inl (8, [(6, 1, 0), (8, 4, 0), (8, 5, 0)]), ac_837], []), [((4, 6, 0), gi_928, hq_669, [], [1])])
theorem hd_1532 : con_1532.1 = (yX8_at, cX8_at, 3, (some .long)) := rfl
noncomputable def cu_1532 : List CUT2 := []
theorem ch_1532 : staG tb_X8_at 1 bt_RX8 [] ct_1497 [] [] cu_1532 11 con_1532 = true := by decide +kernel
theorem vl_1532 (l : Launch) : Vld2 l vwCl gTbl con_1532 := conR_ok3 gT_all (hd_1532) rfl pn_RX8 tk_X8_at bo_RX8 xo_RX8 (cto_1497 l) ch_1532 cut_nil
/-- RookHusting$Slots at -/
noncomputable def ac_838 : AC := .inr (2, jl_n [js_5 209 9223372036854775807 9223372036854775807, js_4 7 1, js_5 30 9223372036854775807 9223372036854775807])
noncomputable def hq_670 : HP := [(false, .inl (8, [(6, 1, 0), (8, 4, 0), (8, 5, 0)])), (false, ac_838)]
noncomputable def con_1533 : Con2 := ((yX8_at, cX8_at, 3, (some .long)), (0, 0), ([(6, 0, 0), (0, 3, 0), (0, 29, 0)], gi_927, [.inl (8, [(6, 1, 0), (8, 4, 0), (8, 5, 0)]), ac_838], []), [((4, 6, 0), gi_928, hq_670, [], [1])])
theorem hd_1533 : con_1533.1 = (yX8_at, cX8_at, 3, (some .long)) := rfl
noncomputable def cu_1533 : List CUT2 := []
theorem ch_1533 : staG tb_X8_at 1 bt_RX8 [] ct_1497 [] [] cu_1533 11 con_1533 = true := by decide +kernel
theorem vl_1533 (l : Launch) : Vld2 l vwCl gTbl con_1533 := conR_ok3 gT_all (hd_1533) rfl pn_RX8 tk_X8_at bo_RX8 xo_RX8 (cto_1497 l) ch_1533 cut_nil
/-- RookHusting$Slots at -/
noncomputable def ac_839 : AC := .inr (2, jl_n [js_5 210 9223372036854775807 9223372036854775807, js_4 7 1, js_5 29 9223372036854775807 9223372036854775807])
noncomputable def hq_671 : HP := [(false, .inl (8, [(6, 1, 0), (8, 4, 0), (8, 5, 0)])), (false, ac_839)]
noncomputable def con_1534 : Con2 := ((yX8_at, cX8_at, 3, (some .long)), (0, 0), ([(6, 0, 0), (0, 3, 0), (0, 30, 0)], gi_927, [.inl (8, [(6, 1, 0), (8, 4, 0), (8, 5, 0)]), ac_839], []), [((4, 6, 0), gi_928, hq_671, [], [1])])
theorem hd_1534 : con_1534.1 = (yX8_at, cX8_at, 3, (some .long)) := rfl
noncomputable def cu_1534 : List CUT2 := []
theorem ch_1534 : staG tb_X8_at 1 bt_RX8 [] ct_1497 [] [] cu_1534 11 con_1534 = true := by decide +kernel
theorem vl_1534 (l : Launch) : Vld2 l vwCl gTbl con_1534 := conR_ok3 gT_all (hd_1534) rfl pn_RX8 tk_X8_at bo_RX8 xo_RX8 (cto_1497 l) ch_1534 cut_nil
/-- RookHusting$Slots at -/
noncomputable def ac_840 : AC := .inr (2, jl_n [js_5 211 9223372036854775807 9223372036854775807, js_4 7 1, js_5 28 9223372036854775807 9223372036854775807])
noncomputable def hq_672 : HP := [(false, .inl (8, [(6, 1, 0), (8, 4, 0), (8, 5, 0)])), (false, ac_840)]
noncomputable def con_1535 : Con2 := ((yX8_at, cX8_at, 3, (some .long)), (0, 0), ([(6, 0, 0), (0, 3, 0), (0, 31, 0)], gi_927, [.inl (8, [(6, 1, 0), (8, 4, 0), (8, 5, 0)]), ac_840], []), [((4, 6, 0), gi_928, hq_672, [], [1])])
theorem hd_1535 : con_1535.1 = (yX8_at, cX8_at, 3, (some .long)) := rfl
noncomputable def cu_1535 : List CUT2 := []
theorem ch_1535 : staG tb_X8_at 1 bt_RX8 [] ct_1497 [] [] cu_1535 11 con_1535 = true := by decide +kernel
theorem vl_1535 (l : Launch) : Vld2 l vwCl gTbl con_1535 := conR_ok3 gT_all (hd_1535) rfl pn_RX8 tk_X8_at bo_RX8 xo_RX8 (cto_1497 l) ch_1535 cut_nil
/-- RookHusting$Slots at -/
noncomputable def ac_841 : AC := .inr (2, jl_n [js_5 212 9223372036854775807 9223372036854775807, js_4 7 1, js_5 27 9223372036854775807 9223372036854775807])
noncomputable def hq_673 : HP := [(false, .inl (8, [(6, 1, 0), (8, 4, 0), (8, 5, 0)])), (false, ac_841)]
noncomputable def con_1536 : Con2 := ((yX8_at, cX8_at, 3, (some .long)), (0, 0), ([(6, 0, 0), (0, 3, 0), (0, 32, 0)], gi_927, [.inl (8, [(6, 1, 0), (8, 4, 0), (8, 5, 0)]), ac_841], []), [((4, 6, 0), gi_928, hq_673, [], [1])])
theorem hd_1536 : con_1536.1 = (yX8_at, cX8_at, 3, (some .long)) := rfl
noncomputable def cu_1536 : List CUT2 := []
theorem ch_1536 : staG tb_X8_at 1 bt_RX8 [] ct_1497 [] [] cu_1536 11 con_1536 = true := by decide +kernel
theorem vl_1536 (l : Launch) : Vld2 l vwCl gTbl con_1536 := conR_ok3 gT_all (hd_1536) rfl pn_RX8 tk_X8_at bo_RX8 xo_RX8 (cto_1497 l) ch_1536 cut_nil
/-- RookHusting$Slots at -/
noncomputable def ac_842 : AC := .inr (2, jl_n [js_5 213 9223372036854775807 9223372036854775807, js_4 7 1, js_5 26 9223372036854775807 9223372036854775807])
noncomputable def hq_674 : HP := [(false, .inl (8, [(6, 1, 0), (8, 4, 0), (8, 5, 0)])), (false, ac_842)]
noncomputable def con_1537 : Con2 := ((yX8_at, cX8_at, 3, (some .long)), (0, 0), ([(6, 0, 0), (0, 3, 0), (0, 33, 0)], gi_927, [.inl (8, [(6, 1, 0), (8, 4, 0), (8, 5, 0)]), ac_842], []), [((4, 6, 0), gi_928, hq_674, [], [1])])
theorem hd_1537 : con_1537.1 = (yX8_at, cX8_at, 3, (some .long)) := rfl
noncomputable def cu_1537 : List CUT2 := []
theorem ch_1537 : staG tb_X8_at 1 bt_RX8 [] ct_1497 [] [] cu_1537 11 con_1537 = true := by decide +kernel
theorem vl_1537 (l : Launch) : Vld2 l vwCl gTbl con_1537 := conR_ok3 gT_all (hd_1537) rfl pn_RX8 tk_X8_at bo_RX8 xo_RX8 (cto_1497 l) ch_1537 cut_nil
/-- RookHusting$Slots at -/
noncomputable def ac_843 : AC := .inr (2, jl_n [js_5 214 9223372036854775807 9223372036854775807, js_4 7 1, js_5 25 9223372036854775807 9223372036854775807])
noncomputable def hq_675 : HP := [(false, .inl (8, [(6, 1, 0), (8, 4, 0), (8, 5, 0)])), (false, ac_843)]
noncomputable def con_1538 : Con2 := ((yX8_at, cX8_at, 3, (some .long)), (0, 0), ([(6, 0, 0), (0, 3, 0), (0, 34, 0)], gi_927, [.inl (8, [(6, 1, 0), (8, 4, 0), (8, 5, 0)]), ac_843], []), [((4, 6, 0), gi_928, hq_675, [], [1])])
theorem hd_1538 : con_1538.1 = (yX8_at, cX8_at, 3, (some .long)) := rfl
noncomputable def cu_1538 : List CUT2 := []
theorem ch_1538 : staG tb_X8_at 1 bt_RX8 [] ct_1497 [] [] cu_1538 11 con_1538 = true := by decide +kernel
theorem vl_1538 (l : Launch) : Vld2 l vwCl gTbl con_1538 := conR_ok3 gT_all (hd_1538) rfl pn_RX8 tk_X8_at bo_RX8 xo_RX8 (cto_1497 l) ch_1538 cut_nil
/-- RookHusting$Slots at -/
noncomputable def ac_844 : AC := .inr (2, jl_n [js_5 215 9223372036854775807 9223372036854775807, js_4 7 1, js_5 24 9223372036854775807 9223372036854775807])
noncomputable def hq_676 : HP := [(false, .inl (8, [(6, 1, 0), (8, 4, 0), (8, 5, 0)])), (false, ac_844)]
noncomputable def con_1539 : Con2 := ((yX8_at, cX8_at, 3, (some .long)), (0, 0), ([(6, 0, 0), (0, 3, 0), (0, 35, 0)], gi_927, [.inl (8, [(6, 1, 0), (8, 4, 0), (8, 5, 0)]), ac_844], []), [((4, 6, 0), gi_928, hq_676, [], [1])])
theorem hd_1539 : con_1539.1 = (yX8_at, cX8_at, 3, (some .long)) := rfl
noncomputable def cu_1539 : List CUT2 := []
theorem ch_1539 : staG tb_X8_at 1 bt_RX8 [] ct_1497 [] [] cu_1539 11 con_1539 = true := by decide +kernel
theorem vl_1539 (l : Launch) : Vld2 l vwCl gTbl con_1539 := conR_ok3 gT_all (hd_1539) rfl pn_RX8 tk_X8_at bo_RX8 xo_RX8 (cto_1497 l) ch_1539 cut_nil
/-- RookHusting$Slots at -/
noncomputable def ac_845 : AC := .inr (2, jl_n [js_5 216 9223372036854775807 9223372036854775807, js_4 7 1, js_5 23 9223372036854775807 9223372036854775807])
noncomputable def hq_677 : HP := [(false, .inl (8, [(6, 1, 0), (8, 4, 0), (8, 5, 0)])), (false, ac_845)]
noncomputable def con_1540 : Con2 := ((yX8_at, cX8_at, 3, (some .long)), (0, 0), ([(6, 0, 0), (0, 3, 0), (0, 36, 0)], gi_927, [.inl (8, [(6, 1, 0), (8, 4, 0), (8, 5, 0)]), ac_845], []), [((4, 6, 0), gi_928, hq_677, [], [1])])
theorem hd_1540 : con_1540.1 = (yX8_at, cX8_at, 3, (some .long)) := rfl
noncomputable def cu_1540 : List CUT2 := []
theorem ch_1540 : staG tb_X8_at 1 bt_RX8 [] ct_1497 [] [] cu_1540 11 con_1540 = true := by decide +kernel
theorem vl_1540 (l : Launch) : Vld2 l vwCl gTbl con_1540 := conR_ok3 gT_all (hd_1540) rfl pn_RX8 tk_X8_at bo_RX8 xo_RX8 (cto_1497 l) ch_1540 cut_nil
/-- RookHusting$Slots at -/
noncomputable def ac_846 : AC := .inr (2, jl_n [js_5 217 9223372036854775807 9223372036854775807, js_4 7 1, js_5 22 9223372036854775807 9223372036854775807])
noncomputable def hq_678 : HP := [(false, .inl (8, [(6, 1, 0), (8, 4, 0), (8, 5, 0)])), (false, ac_846)]
noncomputable def con_1541 : Con2 := ((yX8_at, cX8_at, 3, (some .long)), (0, 0), ([(6, 0, 0), (0, 3, 0), (0, 37, 0)], gi_927, [.inl (8, [(6, 1, 0), (8, 4, 0), (8, 5, 0)]), ac_846], []), [((4, 6, 0), gi_928, hq_678, [], [1])])
theorem hd_1541 : con_1541.1 = (yX8_at, cX8_at, 3, (some .long)) := rfl
noncomputable def cu_1541 : List CUT2 := []
theorem ch_1541 : staG tb_X8_at 1 bt_RX8 [] ct_1497 [] [] cu_1541 11 con_1541 = true := by decide +kernel
theorem vl_1541 (l : Launch) : Vld2 l vwCl gTbl con_1541 := conR_ok3 gT_all (hd_1541) rfl pn_RX8 tk_X8_at bo_RX8 xo_RX8 (cto_1497 l) ch_1541 cut_nil
/-- RookHusting$Slots at -/
noncomputable def ac_847 : AC := .inr (2, jl_n [js_5 218 9223372036854775807 9223372036854775807, js_4 7 1, js_5 21 9223372036854775807 9223372036854775807])
noncomputable def hq_679 : HP := [(false, .inl (8, [(6, 1, 0), (8, 4, 0), (8, 5, 0)])), (false, ac_847)]
noncomputable def con_1542 : Con2 := ((yX8_at, cX8_at, 3, (some .long)), (0, 0), ([(6, 0, 0), (0, 3, 0), (0, 38, 0)], gi_927, [.inl (8, [(6, 1, 0), (8, 4, 0), (8, 5, 0)]), ac_847], []), [((4, 6, 0), gi_928, hq_679, [], [1])])
theorem hd_1542 : con_1542.1 = (yX8_at, cX8_at, 3, (some .long)) := rfl
noncomputable def cu_1542 : List CUT2 := []
theorem ch_1542 : staG tb_X8_at 1 bt_RX8 [] ct_1497 [] [] cu_1542 11 con_1542 = true := by decide +kernel
theorem vl_1542 (l : Launch) : Vld2 l vwCl gTbl con_1542 := conR_ok3 gT_all (hd_1542) rfl pn_RX8 tk_X8_at bo_RX8 xo_RX8 (cto_1497 l) ch_1542 cut_nil
/-- RookHusting$Slots at -/
noncomputable def ac_848 : AC := .inr (2, jl_n [js_5 219 9223372036854775807 9223372036854775807, js_4 7 1, js_5 20 9223372036854775807 9223372036854775807])
noncomputable def hq_680 : HP := [(false, .inl (8, [(6, 1, 0), (8, 4, 0), (8, 5, 0)])), (false, ac_848)]
noncomputable def con_1543 : Con2 := ((yX8_at, cX8_at, 3, (some .long)), (0, 0), ([(6, 0, 0), (0, 3, 0), (0, 39, 0)], gi_927, [.inl (8, [(6, 1, 0), (8, 4, 0), (8, 5, 0)]), ac_848], []), [((4, 6, 0), gi_928, hq_680, [], [1])])
theorem hd_1543 : con_1543.1 = (yX8_at, cX8_at, 3, (some .long)) := rfl
noncomputable def cu_1543 : List CUT2 := []
theorem ch_1543 : staG tb_X8_at 1 bt_RX8 [] ct_1497 [] [] cu_1543 11 con_1543 = true := by decide +kernel
theorem vl_1543 (l : Launch) : Vld2 l vwCl gTbl con_1543 := conR_ok3 gT_all (hd_1543) rfl pn_RX8 tk_X8_at bo_RX8 xo_RX8 (cto_1497 l) ch_1543 cut_nil
/-- RookHusting$Slots at -/
noncomputable def ac_849 : AC := .inr (2, jl_n [js_5 220 9223372036854775807 9223372036854775807, js_4 7 1, js_5 19 9223372036854775807 9223372036854775807])
noncomputable def hq_681 : HP := [(false, .inl (8, [(6, 1, 0), (8, 4, 0), (8, 5, 0)])), (false, ac_849)]
noncomputable def con_1544 : Con2 := ((yX8_at, cX8_at, 3, (some .long)), (0, 0), ([(6, 0, 0), (0, 3, 0), (0, 40, 0)], gi_927, [.inl (8, [(6, 1, 0), (8, 4, 0), (8, 5, 0)]), ac_849], []), [((4, 6, 0), gi_928, hq_681, [], [1])])
theorem hd_1544 : con_1544.1 = (yX8_at, cX8_at, 3, (some .long)) := rfl
noncomputable def cu_1544 : List CUT2 := []
theorem ch_1544 : staG tb_X8_at 1 bt_RX8 [] ct_1497 [] [] cu_1544 11 con_1544 = true := by decide +kernel
theorem vl_1544 (l : Launch) : Vld2 l vwCl gTbl con_1544 := conR_ok3 gT_all (hd_1544) rfl pn_RX8 tk_X8_at bo_RX8 xo_RX8 (cto_1497 l) ch_1544 cut_nil
/-- RookHusting$Slots at -/
noncomputable def ac_850 : AC := .inr (2, jl_n [js_5 221 9223372036854775807 9223372036854775807, js_4 7 1, js_5 18 9223372036854775807 9223372036854775807])
noncomputable def hq_682 : HP := [(false, .inl (8, [(6, 1, 0), (8, 4, 0), (8, 5, 0)])), (false, ac_850)]
noncomputable def con_1545 : Con2 := ((yX8_at, cX8_at, 3, (some .long)), (0, 0), ([(6, 0, 0), (0, 3, 0), (0, 41, 0)], gi_927, [.inl (8, [(6, 1, 0), (8, 4, 0), (8, 5, 0)]), ac_850], []), [((4, 6, 0), gi_928, hq_682, [], [1])])
theorem hd_1545 : con_1545.1 = (yX8_at, cX8_at, 3, (some .long)) := rfl
noncomputable def cu_1545 : List CUT2 := []
theorem ch_1545 : staG tb_X8_at 1 bt_RX8 [] ct_1497 [] [] cu_1545 11 con_1545 = true := by decide +kernel
theorem vl_1545 (l : Launch) : Vld2 l vwCl gTbl con_1545 := conR_ok3 gT_all (hd_1545) rfl pn_RX8 tk_X8_at bo_RX8 xo_RX8 (cto_1497 l) ch_1545 cut_nil
/-- RookHusting$Slots at -/
noncomputable def ac_851 : AC := .inr (2, jl_n [js_5 222 9223372036854775807 9223372036854775807, js_4 7 1, js_5 17 9223372036854775807 9223372036854775807])
noncomputable def hq_683 : HP := [(false, .inl (8, [(6, 1, 0), (8, 4, 0), (8, 5, 0)])), (false, ac_851)]
noncomputable def con_1546 : Con2 := ((yX8_at, cX8_at, 3, (some .long)), (0, 0), ([(6, 0, 0), (0, 3, 0), (0, 42, 0)], gi_927, [.inl (8, [(6, 1, 0), (8, 4, 0), (8, 5, 0)]), ac_851], []), [((4, 6, 0), gi_928, hq_683, [], [1])])
theorem hd_1546 : con_1546.1 = (yX8_at, cX8_at, 3, (some .long)) := rfl
noncomputable def cu_1546 : List CUT2 := []
theorem ch_1546 : staG tb_X8_at 1 bt_RX8 [] ct_1497 [] [] cu_1546 11 con_1546 = true := by decide +kernel
theorem vl_1546 (l : Launch) : Vld2 l vwCl gTbl con_1546 := conR_ok3 gT_all (hd_1546) rfl pn_RX8 tk_X8_at bo_RX8 xo_RX8 (cto_1497 l) ch_1546 cut_nil
/-- RookHusting$Slots at -/
noncomputable def ac_852 : AC := .inr (2, jl_n [js_5 223 9223372036854775807 9223372036854775807, js_4 7 1, js_5 16 9223372036854775807 9223372036854775807])
noncomputable def hq_684 : HP := [(false, .inl (8, [(6, 1, 0), (8, 4, 0), (8, 5, 0)])), (false, ac_852)]
noncomputable def con_1547 : Con2 := ((yX8_at, cX8_at, 3, (some .long)), (0, 0), ([(6, 0, 0), (0, 3, 0), (0, 43, 0)], gi_927, [.inl (8, [(6, 1, 0), (8, 4, 0), (8, 5, 0)]), ac_852], []), [((4, 6, 0), gi_928, hq_684, [], [1])])
theorem hd_1547 : con_1547.1 = (yX8_at, cX8_at, 3, (some .long)) := rfl
noncomputable def cu_1547 : List CUT2 := []
theorem ch_1547 : staG tb_X8_at 1 bt_RX8 [] ct_1497 [] [] cu_1547 11 con_1547 = true := by decide +kernel
theorem vl_1547 (l : Launch) : Vld2 l vwCl gTbl con_1547 := conR_ok3 gT_all (hd_1547) rfl pn_RX8 tk_X8_at bo_RX8 xo_RX8 (cto_1497 l) ch_1547 cut_nil
/-- RookHusting$Slots at -/
noncomputable def ac_853 : AC := .inr (2, jl_n [js_5 224 9223372036854775807 9223372036854775807, js_4 7 1, js_5 15 9223372036854775807 9223372036854775807])
noncomputable def hq_685 : HP := [(false, .inl (8, [(6, 1, 0), (8, 4, 0), (8, 5, 0)])), (false, ac_853)]
noncomputable def con_1548 : Con2 := ((yX8_at, cX8_at, 3, (some .long)), (0, 0), ([(6, 0, 0), (0, 3, 0), (0, 44, 0)], gi_927, [.inl (8, [(6, 1, 0), (8, 4, 0), (8, 5, 0)]), ac_853], []), [((4, 6, 0), gi_928, hq_685, [], [1])])
theorem hd_1548 : con_1548.1 = (yX8_at, cX8_at, 3, (some .long)) := rfl
noncomputable def cu_1548 : List CUT2 := []
theorem ch_1548 : staG tb_X8_at 1 bt_RX8 [] ct_1497 [] [] cu_1548 11 con_1548 = true := by decide +kernel
theorem vl_1548 (l : Launch) : Vld2 l vwCl gTbl con_1548 := conR_ok3 gT_all (hd_1548) rfl pn_RX8 tk_X8_at bo_RX8 xo_RX8 (cto_1497 l) ch_1548 cut_nil
