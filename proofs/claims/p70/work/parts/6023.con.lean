/-! ===== contracts, 23 ===== -/
/-- RookHustingModel elected -/
noncomputable def gi_431 : GI := jl_n [gp_240]
noncomputable def gi_432 : GI := jl_n [gp_240, jl_m 1 4, gp_188]
noncomputable def ac_492 : AC := .inl (12, jl_n [vp_65, jl_6 5 1, jl_8 47 26])
noncomputable def hq_483 : HP := [(true, ac_492), (false, ac_438), (true, am_8), (true, am_5), (true, am_7)]
noncomputable def con_866 : Con2 := ((yX12_elected, cX12_elected, 2, (some .int)), (6, 144), ([(6, 0, 0), (1, 1, 0)], gi_431, hc_94, []), [((1, 70, 0), gi_432, hq_483, [], tg_1)])
theorem hd_866 : con_866.1 = (yX12_elected, cX12_elected, 2, (some .int)) := rfl
theorem ck_RX12_280_865 : COK2 RX12 vwCl gTbl 280 0 con_865 := ⟨wd_1744, wd_137, mh_X12_electAll, .inr (.inr ⟨rfl, wd_1741, wd_1743, wd_81, ⟨_, rfl, pd_X12_electAll⟩, 12, _, TX12, 45, rfl, rfl⟩)⟩
noncomputable def ct_866 : CTB2 := [(3, 109, 0, con_651, [0, 1]), (13, 249, 0, con_669, [0, 1, 2, 3]), (23, 280, 0, con_865, [0, 1, 2, 3, 4])]
noncomputable def cu_866 : List CUT2 := []
theorem ch_866 : staG tb_X12_elected 1 bt_RX12 [] ct_866 [] [] cu_866 20 con_866 = true := by decide +kernel
theorem cto_866 (l : Launch) : CTOK2 l RX12 vwCl gTbl ct_866 := ct2_cons (vl_651 l) ck_RX12_109_651 (ct2_cons (vl_669 l) ck_RX12_249_669 (ct2_cons (vl_865 l) ck_RX12_280_865 (ct2_nil)))
theorem vl_866 (l : Launch) : Vld2 l vwCl gTbl con_866 := conR_ok3 gT_all (hd_866) rfl pn_RX12 tk_X12_elected bo_RX12 xo_RX12 (cto_866 l) ch_866 cut_nil
/-- RookHusting$Scene begin -/
noncomputable def gi_433 : GI := jl_n [jl_z 5, jl_t, jl_z 17]
noncomputable def ac_493 : AC := .inl (4, jl_n [jl_8 16 10, jl_6 6 1, jl_8 23 6])
noncomputable def hc_95 : List AC := [.inl (7, [(6, 2, 0), (6, 3, 0), (6, 4, 0), (1, 5, 0)]), ac_493, am_7, am_1, am_1, am_1]
noncomputable def gi_434 : GI := jl_n [jl_z 5, jl_t, jl_z 21]
noncomputable def hq_484 : HP := [(true, .inl (7, [(6, 2, 0), (6, 3, 0), (6, 4, 0), (0, 0, 0)])), (false, ac_493), (true, am_7), (true, am_1), (true, am_1), (false, am_1)]
noncomputable def con_867 : Con2 := ((yX7_begin, cX7_begin, 3, none), (1, 18), ([(6, 0, 0), (6, 1, 0)], gi_433, hc_95, []), [((9, 0, 0), gi_434, hq_484, [], [1, 1, 1, 1])])
theorem hd_867 : con_867.1 = (yX7_begin, cX7_begin, 3, none) := rfl
noncomputable def ct_867 : CTB2 := []
noncomputable def gi_435 : GI := jl_n [jl_z 5, jl_t, jl_z 19, jl_i 0 5]
noncomputable def hq_485 : HP := [(false, .inl (7, [(6, 2, 0), (6, 3, 0), (6, 4, 0), (1, 5, 0)])), (false, ac_493), (true, am_7), (true, am_1), (false, am_1), (false, am_1)]
noncomputable def cu_867 : List CUT2 := [((2, [lq 0 6 0, lq 1 6 1, lq 2 1 25], [], gi_435, hq_485), [], ([(25, (-1))], 5))]
theorem ch_867 : staG tb_X7_begin 1 bt_RX7 [] ct_867 [] [] cu_867 18 con_867 = true := by decide +kernel
theorem cc_867 : cu_867.all (cutG tb_X7_begin 1 bt_RX7 [] ct_867 [] [] cu_867 18 con_867) = true := by decide +kernel
theorem cto_867 (l : Launch) : CTOK2 l RX7 vwCl gTbl ct_867 := ct2_nil
theorem vl_867 (l : Launch) : Vld2 l vwCl gTbl con_867 := conR_ok3 gT_all (hd_867) rfl pn_RX7 tk_X7_begin bo_RX7 xo_RX7 (cto_867 l) ch_867 (cut_all cc_867)
/-- RookHusting$Scene placeOf -/
noncomputable def hc_96 : List AC := [.inl (7, [(6, 1, 0), (8, 3, 0), (8, 4, 0), (8, 5, 0)]), am_7]
noncomputable def gi_436 : GI := jl_n [jl_z 1, jl_m 0 4, jl_z 4, jl_m 0 4]
noncomputable def hq_486 : HP := [(false, .inl (7, [(6, 1, 0), (8, 3, 0), (8, 4, 0), (8, 5, 0)])), (false, am_7)]
noncomputable def con_868 : Con2 := ((yX7_placeOf, cX7_placeOf, 3, (some .int)), (0, 0), ([(6, 0, 0), (1, 1, 0)], [(0, 0), ((-1), 4), (0, 0), (0, 0), (0, 0), (0, 0)], hc_96, []), [((1, 6, 0), gi_436, hq_486, [], [1])])
theorem hd_868 : con_868.1 = (yX7_placeOf, cX7_placeOf, 3, (some .int)) := rfl
noncomputable def gi_437 : GI := jl_n [jl_z 1, jl_m 0 4, jl_z 6, jl_i 0 5]
noncomputable def cu_868 : List CUT2 := [((2, [lq 0 6 0, lq 1 1 1, lq 2 1 8], [], gi_437, hq_486), [], ([(8, (-1))], 5))]
theorem ch_868 : staG tb_X7_placeOf 1 bt_RX7 [] ct_867 [] [] cu_868 14 con_868 = true := by decide +kernel
theorem cc_868 : cu_868.all (cutG tb_X7_placeOf 1 bt_RX7 [] ct_867 [] [] cu_868 14 con_868) = true := by decide +kernel
theorem vl_868 (l : Launch) : Vld2 l vwCl gTbl con_868 := conR_ok3 gT_all (hd_868) rfl pn_RX7 tk_X7_placeOf bo_RX7 xo_RX7 (cto_867 l) ch_868 (cut_all cc_868)
/-- RookHusting$Scene placeMan -/
noncomputable def hc_97 : List AC := [.inl (7, [(6, 1, 0), (8, 4, 0), (8, 5, 0), (8, 6, 0)]), am_7]
noncomputable def hq_487 : HP := [(false, .inl (7, [(6, 1, 0), (8, 4, 0), (8, 5, 0), (8, 6, 0)])), (true, am_7)]
noncomputable def con_869 : Con2 := ((yX7_placeMan, cX7_placeMan, 4, none), (1, 22), ([(6, 0, 0), (1, 1, 0), (1, 2, 0)], [(0, 0), (0, 4), ((-1), 4), (0, 0), (0, 0), (0, 0), (0, 0)], hc_97, []), [((9, 0, 0), [(0, 0), (0, 4), ((-1), 4), (0, 0), (0, 0), (0, 0), (0, 0)], hq_487, [], [])])
theorem hd_869 : con_869.1 = (yX7_placeMan, cX7_placeMan, 4, none) := rfl
theorem ck_RX7_34_868 : COK2 RX7 vwCl gTbl 34 0 con_868 := ⟨wd_866, wd_133, mh_X7_placeOf, .inr (.inr ⟨rfl, wd_863, wd_864, wd_865, ⟨_, rfl, pd_X7_placeOf⟩, 7, _, TX7, 4, rfl, rfl⟩)⟩
noncomputable def ct_869 : CTB2 := [(11, 34, 0, con_868, [0, 1])]
noncomputable def cu_869 : List CUT2 := []
theorem ch_869 : staG tb_X7_placeMan 1 bt_RX7 [] ct_869 [] [] cu_869 23 con_869 = true := by decide +kernel
theorem cto_869 (l : Launch) : CTOK2 l RX7 vwCl gTbl ct_869 := ct2_cons (vl_868 l) ck_RX7_34_868 (ct2_nil)
theorem vl_869 (l : Launch) : Vld2 l vwCl gTbl con_869 := conR_ok3 gT_all (hd_869) rfl pn_RX7 tk_X7_placeMan bo_RX7 xo_RX7 (cto_869 l) ch_869 cut_nil
/-- RookHusting$Acts playOn -/
noncomputable def gi_438 : GI := jl_n [jl_z 3, jl_i 0 30, gp_242]
noncomputable def ac_494 : AC := .inr (1, jl_n [js_1 41 30])
noncomputable def ac_495 : AC := .inr (1, jl_n [js_1 71 30])
noncomputable def hc_98 : List AC := [.inl (0, [(1, 3, 0), (6, 2, 0), (6, 3, 0), (6, 5, 0)]), .inl (7, [(6, 6, 0), (6, 4, 0), (8, 9, 0), (8, 10, 0)]), ac_494, am_11, am_1, ac_495, am_7]
noncomputable def rq_1 : RLs := [([(11, 12), (41, (-1))], 4), ([(12, 12), (42, (-1))], 4), ([(13, 12), (43, (-1))], 4), ([(14, 12), (44, (-1))], 4), ([(15, 12), (45, (-1))], 4), ([(16, 12), (46, (-1))], 4), ([(17, 12), (47, (-1))], 4), ([(18, 12), (48, (-1))], 4), ([(19, 12), (49, (-1))], 4), ([(20, 12), (50, (-1))], 4), ([(21, 12), (51, (-1))], 4), ([(22, 12), (52, (-1))], 4), ([(23, 12), (53, (-1))], 4), ([(24, 12), (54, (-1))], 4), ([(25, 12), (55, (-1))], 4), ([(26, 12), (56, (-1))], 4), ([(27, 12), (57, (-1))], 4), ([(28, 12), (58, (-1))], 4), ([(29, 12), (59, (-1))], 4), ([(30, 12), (60, (-1))], 4), ([(31, 12), (61, (-1))], 4), ([(32, 12), (62, (-1))], 4), ([(33, 12), (63, (-1))], 4), ([(34, 12), (64, (-1))], 4), ([(35, 12), (65, (-1))], 4), ([(36, 12), (66, (-1))], 4), ([(37, 12), (67, (-1))], 4), ([(38, 12), (68, (-1))], 4), ([(39, 12), (69, (-1))], 4), ([(40, 12), (70, (-1))], 4)]
noncomputable def hq_488 : HP := [(false, .inl (0, [(1, 3, 0), (6, 2, 0), (6, 3, 0), (6, 5, 0)])), (false, .inl (7, [(6, 6, 0), (6, 4, 0), (8, 9, 0), (8, 10, 0)])), (false, ac_494), (false, am_11), (true, am_1), (false, ac_495), (true, am_7)]
noncomputable def con_870 : Con2 := ((yX0_playOn, cX0_playOn, 4, none), (2, 45), ([(6, 0, 0), (6, 1, 0), (0, 1, 0)], gi_438, hc_98, rq_1), [((9, 0, 0), gi_438, hq_488, [], [])])
theorem hd_870 : con_870.1 = (yX0_playOn, cX0_playOn, 4, none) := rfl
theorem ck_RX0_30_869 : COK2 RX0 vwCl gTbl 30 0 con_869 := ⟨wd_862, wd_133, mh_X7_placeMan, .inr (.inr ⟨rfl, wd_859, wd_860, wd_861, ⟨_, rfl, pd_X7_placeMan⟩, 7, _, TX7, 4, rfl, rfl⟩)⟩
noncomputable def ct_870 : CTB2 := [(62, 30, 0, con_869, [1, 6])]
noncomputable def gi_439 : GI := jl_n [jl_z 3, jl_i 0 30, gp_243]
noncomputable def hq_489 : HP := [(false, .inl (0, [(1, 3, 0), (6, 2, 0), (6, 3, 0), (6, 5, 0)])), (false, .inl (7, [(6, 6, 0), (6, 4, 0), (8, 9, 0), (8, 10, 0)])), (false, ac_494), (false, am_11), (false, am_1), (false, ac_495), (false, am_7)]
noncomputable def gi_440 : GI := jl_n [jl_z 3, jl_i 1 30, gp_243]
noncomputable def gi_441 : GI := jl_n [jl_z 3, jl_i 2 30, gp_243]
noncomputable def gi_442 : GI := jl_n [jl_z 3, jl_i 3 30, gp_243]
noncomputable def gi_443 : GI := jl_n [jl_z 3, jl_i 4 30, gp_243]
noncomputable def gi_444 : GI := jl_n [jl_z 3, jl_i 5 30, gp_243]
noncomputable def gi_445 : GI := jl_n [jl_z 3, jl_i 6 30, gp_243]
noncomputable def gi_446 : GI := jl_n [jl_z 3, jl_i 7 30, gp_243]
noncomputable def gi_447 : GI := jl_n [jl_z 3, jl_i 8 30, gp_243]
noncomputable def gi_448 : GI := jl_n [jl_z 3, jl_i 9 30, gp_243]
noncomputable def gi_449 : GI := jl_n [jl_z 3, jl_i 10 30, gp_243]
noncomputable def gi_450 : GI := jl_n [jl_z 3, jl_i 11 30, gp_243]
noncomputable def gi_451 : GI := jl_n [jl_z 3, jl_i 12 30, gp_243]
noncomputable def gi_452 : GI := jl_n [jl_z 3, jl_i 13 30, gp_243]
noncomputable def gi_453 : GI := jl_n [jl_z 3, jl_i 14 30, gp_243]
noncomputable def gi_454 : GI := jl_n [jl_z 3, jl_i 15 30, gp_243]
noncomputable def gi_455 : GI := jl_n [jl_z 3, jl_i 16 30, gp_243]
noncomputable def gi_456 : GI := jl_n [jl_z 3, jl_i 17 30, gp_243]
noncomputable def gi_457 : GI := jl_n [jl_z 3, jl_i 18 30, gp_243]
noncomputable def gi_458 : GI := jl_n [jl_z 3, jl_i 19 30, gp_243]
noncomputable def gi_459 : GI := jl_n [jl_z 3, jl_i 20 30, gp_243]
noncomputable def gi_460 : GI := jl_n [jl_z 3, jl_i 21 30, gp_243]
noncomputable def gi_461 : GI := jl_n [jl_z 3, jl_i 22 30, gp_243]
noncomputable def gi_462 : GI := jl_n [jl_z 3, jl_i 23 30, gp_243]
noncomputable def gi_463 : GI := jl_n [jl_z 3, jl_i 24 30, gp_243]
noncomputable def gi_464 : GI := jl_n [jl_z 3, jl_i 25 30, gp_243]
noncomputable def gi_465 : GI := jl_n [jl_z 3, jl_i 26 30, gp_243]
noncomputable def gi_466 : GI := jl_n [jl_z 3, jl_i 27 30, gp_243]
noncomputable def gi_467 : GI := jl_n [jl_z 3, jl_i 28 30, gp_243]
noncomputable def gi_468 : GI := jl_n [jl_z 3, jl_i 29 30, gp_243]
noncomputable def gi_469 : GI := jl_n [jl_z 3, jl_i 30 30, gp_243]
noncomputable def cu_870_0 : List CUT2 := [((2, [lq 0 6 0, lq 1 6 1, lq 2 0 1, lq 3 0 0], [], gi_439, hq_489), rq_1, ([], 30)), ((2, [lq 0 6 0, lq 1 6 1, lq 2 0 1, lq 3 0 1], [], gi_440, hq_488), rq_1, ([], 29)), ((2, [lq 0 6 0, lq 1 6 1, lq 2 0 1, lq 3 0 2], [], gi_441, hq_488), rq_1, ([], 28)), ((2, [lq 0 6 0, lq 1 6 1, lq 2 0 1, lq 3 0 3], [], gi_442, hq_488), rq_1, ([], 27)), ((2, [lq 0 6 0, lq 1 6 1, lq 2 0 1, lq 3 0 4], [], gi_443, hq_488), rq_1, ([], 26)), ((2, [lq 0 6 0, lq 1 6 1, lq 2 0 1, lq 3 0 5], [], gi_444, hq_488), rq_1, ([], 25)), ((2, [lq 0 6 0, lq 1 6 1, lq 2 0 1, lq 3 0 6], [], gi_445, hq_488), rq_1, ([], 24)), ((2, [lq 0 6 0, lq 1 6 1, lq 2 0 1, lq 3 0 7], [], gi_446, hq_488), rq_1, ([], 23)), ((2, [lq 0 6 0, lq 1 6 1, lq 2 0 1, lq 3 0 8], [], gi_447, hq_488), rq_1, ([], 22)), ((2, [lq 0 6 0, lq 1 6 1, lq 2 0 1, lq 3 0 9], [], gi_448, hq_488), rq_1, ([], 21)), ((2, [lq 0 6 0, lq 1 6 1, lq 2 0 1, lq 3 0 10], [], gi_449, hq_488), rq_1, ([], 20)), ((2, [lq 0 6 0, lq 1 6 1, lq 2 0 1, lq 3 0 11], [], gi_450, hq_488), rq_1, ([], 19)), ((2, [lq 0 6 0, lq 1 6 1, lq 2 0 1, lq 3 0 12], [], gi_451, hq_488), rq_1, ([], 18)), ((2, [lq 0 6 0, lq 1 6 1, lq 2 0 1, lq 3 0 13], [], gi_452, hq_488), rq_1, ([], 17)), ((2, [lq 0 6 0, lq 1 6 1, lq 2 0 1, lq 3 0 14], [], gi_453, hq_488), rq_1, ([], 16)), ((2, [lq 0 6 0, lq 1 6 1, lq 2 0 1, lq 3 0 15], [], gi_454, hq_488), rq_1, ([], 15)), ((2, [lq 0 6 0, lq 1 6 1, lq 2 0 1, lq 3 0 16], [], gi_455, hq_488), rq_1, ([], 14)), ((2, [lq 0 6 0, lq 1 6 1, lq 2 0 1, lq 3 0 17], [], gi_456, hq_488), rq_1, ([], 13)), ((2, [lq 0 6 0, lq 1 6 1, lq 2 0 1, lq 3 0 18], [], gi_457, hq_488), rq_1, ([], 12))]
noncomputable def cu_870_1 : List CUT2 := [((2, [lq 0 6 0, lq 1 6 1, lq 2 0 1, lq 3 0 19], [], gi_458, hq_488), rq_1, ([], 11)), ((2, [lq 0 6 0, lq 1 6 1, lq 2 0 1, lq 3 0 20], [], gi_459, hq_488), rq_1, ([], 10)), ((2, [lq 0 6 0, lq 1 6 1, lq 2 0 1, lq 3 0 21], [], gi_460, hq_488), rq_1, ([], 9)), ((2, [lq 0 6 0, lq 1 6 1, lq 2 0 1, lq 3 0 22], [], gi_461, hq_488), rq_1, ([], 8)), ((2, [lq 0 6 0, lq 1 6 1, lq 2 0 1, lq 3 0 23], [], gi_462, hq_488), rq_1, ([], 7)), ((2, [lq 0 6 0, lq 1 6 1, lq 2 0 1, lq 3 0 24], [], gi_463, hq_488), rq_1, ([], 6)), ((2, [lq 0 6 0, lq 1 6 1, lq 2 0 1, lq 3 0 25], [], gi_464, hq_488), rq_1, ([], 5)), ((2, [lq 0 6 0, lq 1 6 1, lq 2 0 1, lq 3 0 26], [], gi_465, hq_488), rq_1, ([], 4)), ((2, [lq 0 6 0, lq 1 6 1, lq 2 0 1, lq 3 0 27], [], gi_466, hq_488), rq_1, ([], 3)), ((2, [lq 0 6 0, lq 1 6 1, lq 2 0 1, lq 3 0 28], [], gi_467, hq_488), rq_1, ([], 2)), ((2, [lq 0 6 0, lq 1 6 1, lq 2 0 1, lq 3 0 29], [], gi_468, hq_488), rq_1, ([], 1)), ((2, [lq 0 6 0, lq 1 6 1, lq 2 0 1, lq 3 0 30], [], gi_469, hq_488), rq_1, ([], 0))]
noncomputable def cu_870 : List CUT2 := cu_870_0 ++ (cu_870_1)
theorem ch_870 : staG tb_X0_playOn 1 bt_RX0 [] ct_870 [(62, [(0, (0, 0, 0), (-1), 4)])] [] cu_870 32 con_870 = true := by decide +kernel
theorem cc_870_0 : cu_870_0.all (cutG tb_X0_playOn 1 bt_RX0 [] ct_870 [(62, [(0, (0, 0, 0), (-1), 4)])] [] cu_870 32 con_870) = true := by decide +kernel
theorem cc_870_1 : cu_870_1.all (cutG tb_X0_playOn 1 bt_RX0 [] ct_870 [(62, [(0, (0, 0, 0), (-1), 4)])] [] cu_870 32 con_870) = true := by decide +kernel
theorem cto_870 (l : Launch) : CTOK2 l RX0 vwCl gTbl ct_870 := ct2_cons (vl_869 l) ck_RX0_30_869 (ct2_nil)
theorem vl_870 (l : Launch) : Vld2 l vwCl gTbl con_870 := conR_ok3 gT_all (hd_870) rfl pn_RX0 tk_X0_playOn bo_RX0 xo_RX0 (cto_870 l) ch_870 (cut_app (cut_all cc_870_0) (cut_all cc_870_1))
/-- RookHusting$Harvest leastFeared -/
noncomputable def gi_470 : GI := jl_n [gp_7, jl_i 0 16, gp_244]
noncomputable def ac_496 : AC := .inl (3, jl_n [jl_6 2 1, jl_8 10 6, vp_66])
noncomputable def gi_471 : GI := jl_n [gp_7, jl_i 0 16, gp_244, jl_m 0 4]
noncomputable def hq_490 : HP := [(false, ac_496), (false, am_0)]
noncomputable def con_873 : Con2 := ((yX3_leastFeared, cX3_leastFeared, 5, (some .int)), (0, 0), ([(6, 0, 0), (1, 1, 0), (1, 2, 0)], gi_470, [ac_496, am_0], []), [((1, 12, 0), gi_471, hq_490, [], [1])])
theorem hd_873 : con_873.1 = (yX3_leastFeared, cX3_leastFeared, 5, (some .int)) := rfl
noncomputable def ct_873 : CTB2 := []
noncomputable def gi_472 : GI := jl_n [gp_7, jl_i 0 16, gp_245, jl_z 4, gp_221]
noncomputable def cu_873 : List CUT2 := [((5, [lq 0 6 0, lq 1 1 1, lq 2 1 2, lq 3 1 15, lq 4 1 16], [], gi_472, hq_490), [], ([(16, (-1))], 5))]
theorem ch_873 : staG tb_X3_leastFeared 1 bt_RX3 [] ct_873 [] [] cu_873 38 con_873 = true := by decide +kernel
theorem cc_873 : cu_873.all (cutG tb_X3_leastFeared 1 bt_RX3 [] ct_873 [] [] cu_873 38 con_873) = true := by decide +kernel
theorem cto_873 (l : Launch) : CTOK2 l RX3 vwCl gTbl ct_873 := ct2_nil
theorem vl_873 (l : Launch) : Vld2 l vwCl gTbl con_873 := conR_ok3 gT_all (hd_873) rfl pn_RX3 tk_X3_leastFeared bo_RX3 xo_RX3 (cto_873 l) ch_873 (cut_all cc_873)
/-- RookHusting hasBit -/
noncomputable def con_894 : Con2 := ((yX11_hasBit, cX11_hasBit, 2, (some .boolean)), (0, 0), ([(1, 0, 0), (1, 1, 0)], [((-2147483648), 2147483647), (0, 5)], [], []), [((0, 0, 0), [((-2147483648), 2147483647), (0, 5), (0, 0)], [], [], [1]), ((0, 1, 0), [((-2147483648), 2147483647), (0, 5), (0, 0)], [], [], [1])])
theorem hd_894 : con_894.1 = (yX11_hasBit, cX11_hasBit, 2, (some .boolean)) := rfl
noncomputable def cu_894 : List CUT2 := []
theorem ch_894 : staG tb_X11_hasBit 1 bt_RX11 [] ct_3 [] [] cu_894 12 con_894 = true := by decide +kernel
theorem vl_894 (l : Launch) : Vld2 l vwCl gTbl con_894 := conR_ok3 gT_all (hd_894) rfl pn_RX11 tk_X11_hasBit bo_RX11 xo_RX11 (cto_3 l) ch_894 cut_nil
/-- RookHusting hasBit -/
noncomputable def con_899 : Con2 := ((yX11_hasBit, cX11_hasBit, 2, (some .boolean)), (0, 0), ([(1, 0, 0), (1, 1, 0)], [((-2147483648), 2147483647), (0, 6)], [], []), [((0, 0, 0), [((-2147483648), 2147483647), (0, 6), (0, 0)], [], [], [1]), ((0, 1, 0), [((-2147483648), 2147483647), (0, 6), (0, 0)], [], [], [1])])
theorem hd_899 : con_899.1 = (yX11_hasBit, cX11_hasBit, 2, (some .boolean)) := rfl
noncomputable def cu_899 : List CUT2 := []
theorem ch_899 : staG tb_X11_hasBit 1 bt_RX11 [] ct_3 [] [] cu_899 12 con_899 = true := by decide +kernel
theorem vl_899 (l : Launch) : Vld2 l vwCl gTbl con_899 := conR_ok3 gT_all (hd_899) rfl pn_RX11 tk_X11_hasBit bo_RX11 xo_RX11 (cto_3 l) ch_899 cut_nil
/-- RookHusting hasBit -/
noncomputable def con_901 : Con2 := ((yX11_hasBit, cX11_hasBit, 2, (some .boolean)), (0, 0), ([(1, 0, 0), (1, 1, 0)], [((-2147483648), 2147483647), (1, 7)], [], []), [((0, 0, 0), [((-2147483648), 2147483647), (1, 7), (0, 0)], [], [], [1]), ((0, 1, 0), [((-2147483648), 2147483647), (1, 7), (0, 0)], [], [], [1])])
theorem hd_901 : con_901.1 = (yX11_hasBit, cX11_hasBit, 2, (some .boolean)) := rfl
noncomputable def cu_901 : List CUT2 := []
theorem ch_901 : staG tb_X11_hasBit 1 bt_RX11 [] ct_3 [] [] cu_901 12 con_901 = true := by decide +kernel
theorem vl_901 (l : Launch) : Vld2 l vwCl gTbl con_901 := conR_ok3 gT_all (hd_901) rfl pn_RX11 tk_X11_hasBit bo_RX11 xo_RX11 (cto_3 l) ch_901 cut_nil
/-- RookHusting$Harvest frighten -/
noncomputable def gi_473 : GI := jl_n [jl_z 3, gp_246, jl_z 22]
noncomputable def ac_497 : AC := .inl (3, jl_n [jl_6 7 1, jl_8 10 5, jl_6 5 1, jl_1 12 1, jl_8 13 1])
noncomputable def ac_498 : AC := .inl (4, jl_n [jl_8 24 11, jl_6 9 2, jl_8 30 4])
noncomputable def hc_99 : List AC := [ac_497, ac_498, .inl (7, [(6, 5, 0), (6, 3, 0), (8, 32, 0), (8, 33, 0)]), am_1, am_1, am_7, am_0, am_2, am_9]
noncomputable def hq_491 : HP := [(false, ac_497), (false, ac_498), (false, .inl (7, [(6, 5, 0), (6, 3, 0), (8, 32, 0), (8, 33, 0)])), (false, am_1), (true, am_1), (false, am_7), (true, am_0), (false, am_2), (false, am_9)]
noncomputable def con_902 : Con2 := ((yX3_frighten, cX3_frighten, 8, none), (1, 21), ([(6, 0, 0), (6, 1, 0), (6, 2, 0), (1, 3, 0)], gi_473, hc_99, []), [((9, 0, 0), gi_473, hq_491, [], [])])
theorem hd_902 : con_902.1 = (yX3_frighten, cX3_frighten, 8, none) := rfl
theorem ck_RX3_58_901 : COK2 RX3 vwCl gTbl 58 2 con_901 := ⟨wd_682, wd_125, mh_X11_hasBit, .inr (.inl ⟨rfl, by decide +kernel, wd_681, pd_X11_hasBit⟩)⟩
noncomputable def ct_902 : CTB2 := [(24, 58, 2, con_901, [])]
noncomputable def gi_474 : GI := jl_n [jl_z 3, gp_246, gp_180, jl_i 0 5]
noncomputable def cu_902 : List CUT2 := [((3, [lq 0 6 0, lq 1 6 1, lq 2 6 2, lq 3 1 37, lq 4 1 38], [], gi_474, hq_491), [], ([(38, (-1))], 5))]
theorem ch_902 : staG tb_X3_frighten 1 bt_RX3 [] ct_902 [] [] cu_902 66 con_902 = true := by decide +kernel
theorem cc_902 : cu_902.all (cutG tb_X3_frighten 1 bt_RX3 [] ct_902 [] [] cu_902 66 con_902) = true := by decide +kernel
theorem cto_902 (l : Launch) : CTOK2 l RX3 vwCl gTbl ct_902 := ct2_cons (vl_901 l) ck_RX3_58_901 (ct2_nil)
theorem vl_902 (l : Launch) : Vld2 l vwCl gTbl con_902 := conR_ok3 gT_all (hd_902) rfl pn_RX3 tk_X3_frighten bo_RX3 xo_RX3 (cto_902 l) ch_902 (cut_all cc_902)
/-- RookHusting$Harvest beginNextDay -/
noncomputable def gi_475 : GI := jl_n [gp_225, gp_244]
noncomputable def ac_499 : AC := .inl (3, jl_n [jl_8 3 1, jl_6 6 5, jl_8 9 1, jl_1 10 1, jl_8 11 1])
noncomputable def hc_100 : List AC := [ac_499, am_0, am_0, am_0, am_0, am_12]
noncomputable def hq_492 : HP := [(false, ac_499), (true, am_0), (true, am_0), (true, am_0), (true, am_0), (true, am_12)]
noncomputable def con_903 : Con2 := ((yX3_beginNextDay, cX3_beginNextDay, 4, none), (0, 0), ([(6, 0, 0), (1, 1, 0)], gi_475, hc_100, []), [((9, 0, 0), gi_475, hq_492, [], [])])
theorem hd_903 : con_903.1 = (yX3_beginNextDay, cX3_beginNextDay, 4, none) := rfl
noncomputable def gi_476 : GI := jl_n [jl_z 1, gp_246, jl_z 3, jl_i 0 5]
noncomputable def cu_903 : List CUT2 := [((2, [lq 0 6 0, lq 1 1 1, lq 2 1 13], [], gi_476, hq_492), [], ([(13, (-1))], 5))]
theorem ch_903 : staG tb_X3_beginNextDay 1 bt_RX3 [] ct_873 [] [] cu_903 50 con_903 = true := by decide +kernel
theorem cc_903 : cu_903.all (cutG tb_X3_beginNextDay 1 bt_RX3 [] ct_873 [] [] cu_903 50 con_903) = true := by decide +kernel
theorem vl_903 (l : Launch) : Vld2 l vwCl gTbl con_903 := conR_ok3 gT_all (hd_903) rfl pn_RX3 tk_X3_beginNextDay bo_RX3 xo_RX3 (cto_873 l) ch_903 (cut_all cc_903)
/-- RookHusting hasBit -/
noncomputable def con_904 : Con2 := ((yX11_hasBit, cX11_hasBit, 2, (some .boolean)), (0, 0), ([(1, 0, 0), (1, 1, 0)], [((-2147483648), 2147483647), (0, 7)], [], []), [((0, 0, 0), [((-2147483648), 2147483647), (0, 7), (0, 0)], [], [], [1]), ((0, 1, 0), [((-2147483648), 2147483647), (0, 7), (0, 0)], [], [], [1])])
theorem hd_904 : con_904.1 = (yX11_hasBit, cX11_hasBit, 2, (some .boolean)) := rfl
noncomputable def cu_904 : List CUT2 := []
theorem ch_904 : staG tb_X11_hasBit 1 bt_RX11 [] ct_3 [] [] cu_904 12 con_904 = true := by decide +kernel
theorem vl_904 (l : Launch) : Vld2 l vwCl gTbl con_904 := conR_ok3 gT_all (hd_904) rfl pn_RX11 tk_X11_hasBit bo_RX11 xo_RX11 (cto_3 l) ch_904 cut_nil
/-- RookHusting$Harvest eatAndFly -/
noncomputable def gi_477 : GI := jl_n [jl_z 2, gp_246, jl_z 5]
noncomputable def ac_500 : AC := .inl (3, jl_n [vp_43, jl_6 6 2, vp_67, jl_8 10 1, vp_66])
noncomputable def hc_101 : List AC := [ac_500, .inl (7, [(8, 12, 0), (8, 13, 0), (6, 6, 0), (8, 15, 0)]), am_0, am_0, am_0, am_0, am_1, am_12, am_0]
noncomputable def hq_493 : HP := [(false, ac_500), (false, .inl (7, [(8, 12, 0), (8, 13, 0), (6, 6, 0), (8, 15, 0)])), (true, am_0), (false, am_0), (true, am_0), (true, am_0), (false, am_1), (true, am_12), (true, am_0)]
noncomputable def con_905 : Con2 := ((yX3_eatAndFly, cX3_eatAndFly, 7, none), (1, 24), ([(6, 0, 0), (6, 1, 0), (1, 2, 0)], gi_477, hc_101, []), [((9, 0, 0), gi_477, hq_493, [], [])])
theorem hd_905 : con_905.1 = (yX3_eatAndFly, cX3_eatAndFly, 7, none) := rfl
theorem ck_RX3_90_873 : COK2 RX3 vwCl gTbl 90 0 con_873 := ⟨wd_891, wd_134, mh_X3_leastFeared, .inr (.inr ⟨rfl, wd_888, wd_890, wd_23, ⟨_, rfl, pd_X3_leastFeared⟩, 3, _, TX3, 9, rfl, rfl⟩)⟩
noncomputable def ct_905 : CTB2 := [(96, 90, 0, con_873, [0, 3])]
noncomputable def gi_478 : GI := jl_n [jl_z 2, gp_246, jl_z 8, jl_i 0 5]
noncomputable def cu_905 : List CUT2 := [((2, [lq 0 6 0, lq 1 6 1, lq 2 1 2, lq 3 1 19], [], gi_478, hq_493), [], ([(19, (-1))], 5))]
theorem ch_905 : staG tb_X3_eatAndFly 1 bt_RX3 [] ct_905 [] [] cu_905 101 con_905 = true := by decide +kernel
theorem cc_905 : cu_905.all (cutG tb_X3_eatAndFly 1 bt_RX3 [] ct_905 [] [] cu_905 101 con_905) = true := by decide +kernel
theorem cto_905 (l : Launch) : CTOK2 l RX3 vwCl gTbl ct_905 := ct2_cons (vl_873 l) ck_RX3_90_873 (ct2_nil)
theorem vl_905 (l : Launch) : Vld2 l vwCl gTbl con_905 := conR_ok3 gT_all (hd_905) rfl pn_RX3 tk_X3_eatAndFly bo_RX3 xo_RX3 (cto_905 l) ch_905 (cut_all cc_905)
/-- RookHusting hasBit -/
noncomputable def con_906 : Con2 := ((yX11_hasBit, cX11_hasBit, 2, (some .boolean)), (0, 0), ([(1, 0, 0), (1, 1, 0)], [((-2147483648), 2147483647), (1, 8)], [], []), [((0, 0, 0), [((-2147483648), 2147483647), (1, 8), (0, 0)], [], [], [1]), ((0, 1, 0), [((-2147483648), 2147483647), (1, 8), (0, 0)], [], [], [1])])
theorem hd_906 : con_906.1 = (yX11_hasBit, cX11_hasBit, 2, (some .boolean)) := rfl
noncomputable def cu_906 : List CUT2 := []
theorem ch_906 : staG tb_X11_hasBit 1 bt_RX11 [] ct_3 [] [] cu_906 12 con_906 = true := by decide +kernel
theorem vl_906 (l : Launch) : Vld2 l vwCl gTbl con_906 := conR_ok3 gT_all (hd_906) rfl pn_RX11 tk_X11_hasBit bo_RX11 xo_RX11 (cto_3 l) ch_906 cut_nil
/-- RookHusting hasBit -/
noncomputable def con_921 : Con2 := ((yX11_hasBit, cX11_hasBit, 2, (some .boolean)), (0, 0), ([(1, 0, 0), (1, 1, 0)], [((-2147483648), 2147483647), (1, 15)], [], []), [((0, 0, 0), [((-2147483648), 2147483647), (1, 15), (0, 0)], [], [], [1]), ((0, 1, 0), [((-2147483648), 2147483647), (1, 15), (0, 0)], [], [], [1])])
theorem hd_921 : con_921.1 = (yX11_hasBit, cX11_hasBit, 2, (some .boolean)) := rfl
noncomputable def cu_921 : List CUT2 := []
theorem ch_921 : staG tb_X11_hasBit 1 bt_RX11 [] ct_3 [] [] cu_921 12 con_921 = true := by decide +kernel
theorem vl_921 (l : Launch) : Vld2 l vwCl gTbl con_921 := conR_ok3 gT_all (hd_921) rfl pn_RX11 tk_X11_hasBit bo_RX11 xo_RX11 (cto_3 l) ch_921 cut_nil
/-- RookHusting$Harvest frighten -/
noncomputable def gi_479 : GI := jl_n [jl_z 3, jl_i 0 15, gp_245, jl_z 22]
noncomputable def con_922 : Con2 := ((yX3_frighten, cX3_frighten, 8, none), (1, 21), ([(6, 0, 0), (6, 1, 0), (6, 2, 0), (1, 3, 0)], gi_479, hc_99, []), [((9, 0, 0), gi_479, hq_491, [], [])])
theorem hd_922 : con_922.1 = (yX3_frighten, cX3_frighten, 8, none) := rfl
theorem ck_RX3_58_921 : COK2 RX3 vwCl gTbl 58 2 con_921 := ⟨wd_682, wd_125, mh_X11_hasBit, .inr (.inl ⟨rfl, by decide +kernel, wd_681, pd_X11_hasBit⟩)⟩
noncomputable def ct_922 : CTB2 := [(24, 58, 2, con_921, [])]
noncomputable def gi_480 : GI := jl_n [jl_z 3, jl_i 0 15, gp_245, jl_z 25, jl_i 0 15, jl_i 0 5]
noncomputable def cu_922 : List CUT2 := [((3, [lq 0 6 0, lq 1 6 1, lq 2 6 2, lq 3 1 37, lq 4 1 38], [], gi_480, hq_491), [], ([(38, (-1))], 5))]
theorem ch_922 : staG tb_X3_frighten 1 bt_RX3 [] ct_922 [] [] cu_922 66 con_922 = true := by decide +kernel
theorem cc_922 : cu_922.all (cutG tb_X3_frighten 1 bt_RX3 [] ct_922 [] [] cu_922 66 con_922) = true := by decide +kernel
theorem cto_922 (l : Launch) : CTOK2 l RX3 vwCl gTbl ct_922 := ct2_cons (vl_921 l) ck_RX3_58_921 (ct2_nil)
theorem vl_922 (l : Launch) : Vld2 l vwCl gTbl con_922 := conR_ok3 gT_all (hd_922) rfl pn_RX3 tk_X3_frighten bo_RX3 xo_RX3 (cto_922 l) ch_922 (cut_all cc_922)
/-- RookHusting$Harvest beginNextDay -/
noncomputable def gi_481 : GI := jl_n [gp_224, gp_244]
noncomputable def con_923 : Con2 := ((yX3_beginNextDay, cX3_beginNextDay, 4, none), (0, 0), ([(6, 0, 0), (1, 1, 0)], gi_481, hc_100, []), [((9, 0, 0), gi_481, hq_492, [], [])])
theorem hd_923 : con_923.1 = (yX3_beginNextDay, cX3_beginNextDay, 4, none) := rfl
noncomputable def gi_482 : GI := jl_n [gp_224, gp_245, jl_z 3, jl_i 0 5]
noncomputable def cu_923 : List CUT2 := [((2, [lq 0 6 0, lq 1 1 1, lq 2 1 13], [], gi_482, hq_492), [], ([(13, (-1))], 5))]
theorem ch_923 : staG tb_X3_beginNextDay 1 bt_RX3 [] ct_873 [] [] cu_923 50 con_923 = true := by decide +kernel
theorem cc_923 : cu_923.all (cutG tb_X3_beginNextDay 1 bt_RX3 [] ct_873 [] [] cu_923 50 con_923) = true := by decide +kernel
theorem vl_923 (l : Launch) : Vld2 l vwCl gTbl con_923 := conR_ok3 gT_all (hd_923) rfl pn_RX3 tk_X3_beginNextDay bo_RX3 xo_RX3 (cto_873 l) ch_923 (cut_all cc_923)
/-- RookHusting hasBit -/
noncomputable def con_924 : Con2 := ((yX11_hasBit, cX11_hasBit, 2, (some .boolean)), (0, 0), ([(1, 0, 0), (1, 1, 0)], [((-2147483648), 2147483647), (0, 15)], [], []), [((0, 0, 0), [((-2147483648), 2147483647), (0, 15), (0, 0)], [], [], [1]), ((0, 1, 0), [((-2147483648), 2147483647), (0, 15), (0, 0)], [], [], [1])])
theorem hd_924 : con_924.1 = (yX11_hasBit, cX11_hasBit, 2, (some .boolean)) := rfl
noncomputable def cu_924 : List CUT2 := []
theorem ch_924 : staG tb_X11_hasBit 1 bt_RX11 [] ct_3 [] [] cu_924 12 con_924 = true := by decide +kernel
theorem vl_924 (l : Launch) : Vld2 l vwCl gTbl con_924 := conR_ok3 gT_all (hd_924) rfl pn_RX11 tk_X11_hasBit bo_RX11 xo_RX11 (cto_3 l) ch_924 cut_nil
/-- RookHusting$Harvest eatAndFly -/
noncomputable def gi_483 : GI := jl_n [gp_248, jl_z 5]
noncomputable def con_925 : Con2 := ((yX3_eatAndFly, cX3_eatAndFly, 7, none), (1, 24), ([(6, 0, 0), (6, 1, 0), (1, 2, 0)], gi_483, hc_101, []), [((9, 0, 0), gi_483, hq_493, [], [])])
theorem hd_925 : con_925.1 = (yX3_eatAndFly, cX3_eatAndFly, 7, none) := rfl
noncomputable def gi_484 : GI := jl_n [gp_248, jl_z 8, jl_i 0 5]
noncomputable def cu_925 : List CUT2 := [((2, [lq 0 6 0, lq 1 6 1, lq 2 1 2, lq 3 1 19], [], gi_484, hq_493), [], ([(19, (-1))], 5))]
theorem ch_925 : staG tb_X3_eatAndFly 1 bt_RX3 [] ct_905 [] [] cu_925 101 con_925 = true := by decide +kernel
theorem cc_925 : cu_925.all (cutG tb_X3_eatAndFly 1 bt_RX3 [] ct_905 [] [] cu_925 101 con_925) = true := by decide +kernel
theorem vl_925 (l : Launch) : Vld2 l vwCl gTbl con_925 := conR_ok3 gT_all (hd_925) rfl pn_RX3 tk_X3_eatAndFly bo_RX3 xo_RX3 (cto_905 l) ch_925 (cut_all cc_925)
/-- RookHusting hasBit -/
noncomputable def con_926 : Con2 := ((yX11_hasBit, cX11_hasBit, 2, (some .boolean)), (0, 0), ([(1, 0, 0), (1, 1, 0)], [((-2147483648), 2147483647), (1, 16)], [], []), [((0, 0, 0), [((-2147483648), 2147483647), (1, 16), (0, 0)], [], [], [1]), ((0, 1, 0), [((-2147483648), 2147483647), (1, 16), (0, 0)], [], [], [1])])
theorem hd_926 : con_926.1 = (yX11_hasBit, cX11_hasBit, 2, (some .boolean)) := rfl
noncomputable def cu_926 : List CUT2 := []
theorem ch_926 : staG tb_X11_hasBit 1 bt_RX11 [] ct_3 [] [] cu_926 12 con_926 = true := by decide +kernel
theorem vl_926 (l : Launch) : Vld2 l vwCl gTbl con_926 := conR_ok3 gT_all (hd_926) rfl pn_RX11 tk_X11_hasBit bo_RX11 xo_RX11 (cto_3 l) ch_926 cut_nil
/-- RookHusting$Harvest frighten -/
noncomputable def gi_485 : GI := jl_n [gp_249, gp_245, jl_z 22]
noncomputable def con_927 : Con2 := ((yX3_frighten, cX3_frighten, 8, none), (1, 21), ([(6, 0, 0), (6, 1, 0), (6, 2, 0), (1, 3, 0)], gi_485, hc_99, []), [((9, 0, 0), gi_485, hq_491, [], [])])
theorem hd_927 : con_927.1 = (yX3_frighten, cX3_frighten, 8, none) := rfl
theorem ck_RX3_58_926 : COK2 RX3 vwCl gTbl 58 2 con_926 := ⟨wd_682, wd_125, mh_X11_hasBit, .inr (.inl ⟨rfl, by decide +kernel, wd_681, pd_X11_hasBit⟩)⟩
noncomputable def ct_927 : CTB2 := [(24, 58, 2, con_926, [])]
noncomputable def gi_486 : GI := jl_n [gp_249, gp_245, jl_z 25, jl_i 0 16, jl_i 0 5]
noncomputable def cu_927 : List CUT2 := [((3, [lq 0 6 0, lq 1 6 1, lq 2 6 2, lq 3 1 37, lq 4 1 38], [], gi_486, hq_491), [], ([(38, (-1))], 5))]
theorem ch_927 : staG tb_X3_frighten 1 bt_RX3 [] ct_927 [] [] cu_927 66 con_927 = true := by decide +kernel
theorem cc_927 : cu_927.all (cutG tb_X3_frighten 1 bt_RX3 [] ct_927 [] [] cu_927 66 con_927) = true := by decide +kernel
theorem cto_927 (l : Launch) : CTOK2 l RX3 vwCl gTbl ct_927 := ct2_cons (vl_926 l) ck_RX3_58_926 (ct2_nil)
theorem vl_927 (l : Launch) : Vld2 l vwCl gTbl con_927 := conR_ok3 gT_all (hd_927) rfl pn_RX3 tk_X3_frighten bo_RX3 xo_RX3 (cto_927 l) ch_927 (cut_all cc_927)
/-- RookHusting$Harvest passDays -/
noncomputable def gi_487 : GI := jl_n [gp_249, gp_255]
noncomputable def ac_501 : AC := .inl (3, jl_n [vp_68, jl_1 13 2])
noncomputable def ac_502 : AC := .inl (4, jl_n [jl_8 17 4, jl_1 18 1, jl_8 21 3, jl_6 6 1, jl_6 4 1, jl_8 24 1, jl_6 13 2, jl_8 30 4])
noncomputable def hc_102 : List AC := [ac_501, ac_502, .inl (7, [(6, 9, 0), (6, 7, 0), (6, 16, 0), (1, 33, 0)]), am_2, am_0, am_10, am_0, am_1, am_1, am_7, am_0, am_2, am_9, am_0, am_0, am_12, am_1]
noncomputable def gi_488 : GI := jl_n [gp_249, gp_253, jl_z 15, gp_256, gp_112]
noncomputable def ac_503 : AC := .inl (3, jl_n [vp_68, jl_1 42 1, jl_1 4 1])
noncomputable def hq_494 : HP := [(true, ac_503), (false, ac_502), (false, .inl (7, [(6, 9, 0), (6, 7, 0), (6, 16, 0), (1, 33, 0)])), (false, am_2), (true, am_0), (false, am_10), (true, am_0), (false, am_1), (true, am_1), (false, am_7), (true, am_0), (false, am_2), (false, am_9), (true, am_0), (true, am_0), (true, am_12), (false, am_1)]
noncomputable def con_928 : Con2 := ((yX3_passDays, cX3_passDays, 5, none), (2, 50), ([(6, 0, 0), (6, 1, 0), (6, 2, 0), (1, 3, 0)], gi_487, hc_102, []), [((9, 0, 0), gi_488, hq_494, [], tg_13)])
theorem hd_928 : con_928.1 = (yX3_passDays, cX3_passDays, 5, none) := rfl
theorem ck_RX3_45_927 : COK2 RX3 vwCl gTbl 45 0 con_927 := ⟨wd_874, wd_134, mh_X3_frighten, .inr (.inr ⟨rfl, wd_871, wd_873, wd_20, ⟨_, rfl, pd_X3_frighten⟩, 3, _, TX3, 9, rfl, rfl⟩)⟩
theorem ck_RX3_62_925 : COK2 RX3 vwCl gTbl 62 0 con_925 := ⟨wd_886, wd_134, mh_X3_eatAndFly, .inr (.inr ⟨rfl, wd_883, wd_885, wd_22, ⟨_, rfl, pd_X3_eatAndFly⟩, 3, _, TX3, 9, rfl, rfl⟩)⟩
theorem ck_RX3_58_924 : COK2 RX3 vwCl gTbl 58 2 con_924 := ⟨wd_682, wd_125, mh_X11_hasBit, .inr (.inl ⟨rfl, by decide +kernel, wd_681, pd_X11_hasBit⟩)⟩
theorem ck_RX3_49_923 : COK2 RX3 vwCl gTbl 49 0 con_923 := ⟨wd_882, wd_134, mh_X3_beginNextDay, .inr (.inr ⟨rfl, wd_879, wd_881, wd_21, ⟨_, rfl, pd_X3_beginNextDay⟩, 3, _, TX3, 9, rfl, rfl⟩)⟩
theorem ck_RX3_45_922 : COK2 RX3 vwCl gTbl 45 0 con_922 := ⟨wd_874, wd_134, mh_X3_frighten, .inr (.inr ⟨rfl, wd_871, wd_873, wd_20, ⟨_, rfl, pd_X3_frighten⟩, 3, _, TX3, 9, rfl, rfl⟩)⟩
noncomputable def ct_928 : CTB2 := [(79, 45, 0, con_922, [0, 1, 2, 7, 8, 9, 10, 11, 12]), (85, 49, 0, con_923, [0, 4, 6, 13, 14, 15]), (94, 58, 2, con_924, []), (104, 62, 0, con_925, [0, 2, 4, 10, 6, 13, 16, 15, 14]), (117, 45, 0, con_927, [0, 1, 2, 7, 8, 9, 10, 11, 12])]
noncomputable def gi_489 : GI := jl_n [gp_249, gp_255, gp_252, jl_z 9]
noncomputable def ac_504 : AC := .inl (3, jl_n [vp_68, jl_1 18 1, jl_1 4 1])
noncomputable def hq_495 : HP := [(true, ac_504), (false, ac_502), (false, .inl (7, [(6, 9, 0), (6, 7, 0), (6, 16, 0), (1, 33, 0)])), (false, am_2), (true, am_0), (false, am_10), (true, am_0), (false, am_1), (false, am_1), (false, am_7), (false, am_0), (false, am_2), (false, am_9), (false, am_0), (false, am_0), (false, am_12), (false, am_1)]
noncomputable def gi_490 : GI := jl_n [gp_249, gp_255, jl_z 4, jl_i 0 16, gp_244]
noncomputable def ac_505 : AC := .inl (3, jl_n [vp_68, jl_1 47 1, jl_1 4 1])
noncomputable def hq_496 : HP := [(true, ac_505), (false, ac_502), (false, .inl (7, [(6, 9, 0), (6, 7, 0), (6, 16, 0), (1, 33, 0)])), (false, am_2), (true, am_0), (false, am_10), (true, am_0), (false, am_1), (true, am_1), (false, am_7), (true, am_0), (false, am_2), (false, am_9), (true, am_0), (true, am_0), (true, am_12), (false, am_1)]
noncomputable def cu_928 : List CUT2 := [((16, [lq 0 6 0, lq 1 6 1, lq 2 6 2, lq 3 1 3, lq 4 1 38], [], gi_489, hq_495), [], ([(38, (-1))], 22)), ((68, [lq 0 6 0, lq 1 6 1, lq 2 6 2, lq 3 1 3, lq 4 1 38], [], gi_490, hq_496), [], ([(38, (-1))], 16))]
theorem ch_928 : staG tb_X3_passDays 1 bt_RX3 [] ct_928 [] [] cu_928 29 con_928 = true := by decide +kernel
theorem cc_928 : cu_928.all (cutG tb_X3_passDays 1 bt_RX3 [] ct_928 [] [] cu_928 29 con_928) = true := by decide +kernel
theorem cto_928 (l : Launch) : CTOK2 l RX3 vwCl gTbl ct_928 := ct2_cons (vl_922 l) ck_RX3_45_922 (ct2_cons (vl_923 l) ck_RX3_49_923 (ct2_cons (vl_924 l) ck_RX3_58_924 (ct2_cons (vl_925 l) ck_RX3_62_925 (ct2_cons (vl_927 l) ck_RX3_45_927 (ct2_nil)))))
theorem vl_928 (l : Launch) : Vld2 l vwCl gTbl con_928 := conR_ok3 gT_all (hd_928) rfl pn_RX3 tk_X3_passDays bo_RX3 xo_RX3 (cto_928 l) ch_928 (cut_all cc_928)
/-- RookHusting settle -/
noncomputable def gi_491 : GI := jl_n [gp_257, gp_265]
noncomputable def ac_506 : AC := .inl (11, jl_n [vp_69, vp_70, vp_71, vp_72])
noncomputable def ac_507 : AC := .inl (4, jl_n [jl_8 24 1, jl_1 26 2, jl_8 27 1, jl_1 28 1, jl_8 29 1, jl_1 31 2, vp_74, jl_8 39 2, jl_6 10 1])
noncomputable def ac_508 : AC := .inr (1, jl_n [js_1 76 30])
noncomputable def ac_509 : AC := .inr (1, jl_n [js_1 106 30])
noncomputable def ac_510 : AC := .inl (3, jl_n [vp_77, jl_1 115 2])
noncomputable def hc_103 : List AC := [ac_506, .inl (9, [(6, 3, 0), (6, 11, 0)]), .inl (7, [(6, 4, 0), (6, 5, 0), (6, 6, 0), (1, 22, 0)]), ac_507, am_7, am_1, am_1, am_1, .inl (1, [(6, 3, 0), (8, 41, 0)]), am_4, am_6, .inl (0, [(1, 42, 0), (6, 12, 0), (6, 13, 0), (6, 14, 0)]), ac_508, am_11, ac_509, ac_510, am_2, am_0, am_10, am_0, am_1, am_0, am_2, am_9, am_0, am_0, am_12]
noncomputable def rq_2 : RLs := [([(46, 12), (76, (-1))], 4), ([(47, 12), (77, (-1))], 4), ([(48, 12), (78, (-1))], 4), ([(49, 12), (79, (-1))], 4), ([(50, 12), (80, (-1))], 4), ([(51, 12), (81, (-1))], 4), ([(52, 12), (82, (-1))], 4), ([(53, 12), (83, (-1))], 4), ([(54, 12), (84, (-1))], 4), ([(55, 12), (85, (-1))], 4), ([(56, 12), (86, (-1))], 4), ([(57, 12), (87, (-1))], 4), ([(58, 12), (88, (-1))], 4), ([(59, 12), (89, (-1))], 4), ([(60, 12), (90, (-1))], 4), ([(61, 12), (91, (-1))], 4), ([(62, 12), (92, (-1))], 4), ([(63, 12), (93, (-1))], 4), ([(64, 12), (94, (-1))], 4), ([(65, 12), (95, (-1))], 4), ([(66, 12), (96, (-1))], 4), ([(67, 12), (97, (-1))], 4), ([(68, 12), (98, (-1))], 4), ([(69, 12), (99, (-1))], 4), ([(70, 12), (100, (-1))], 4), ([(71, 12), (101, (-1))], 4), ([(72, 12), (102, (-1))], 4), ([(73, 12), (103, (-1))], 4), ([(74, 12), (104, (-1))], 4), ([(75, 12), (105, (-1))], 4)]
noncomputable def gi_492 : GI := jl_n [gp_257, gp_265, gp_267]
noncomputable def ac_511 : AC := .inl (11, jl_n [vp_69, vp_70, vp_71, jl_c 1, jl_8 17 2])
noncomputable def ac_512 : AC := .inl (3, jl_n [vp_77, jl_1 144 2])
noncomputable def hq_497 : HP := [(true, ac_511), (false, .inl (9, [(6, 3, 0), (6, 11, 0)])), (true, .inl (7, [(6, 4, 0), (6, 5, 0), (6, 6, 0), (1, 134, 0)])), (false, ac_507), (true, am_7), (true, am_1), (true, am_1), (false, am_1), (false, .inl (1, [(6, 3, 0), (8, 41, 0)])), (false, am_4), (false, am_6), (false, .inl (0, [(1, 42, 0), (6, 12, 0), (6, 13, 0), (6, 14, 0)])), (false, ac_508), (false, am_11), (false, ac_509), (true, ac_512), (false, am_2), (true, am_0), (false, am_10), (true, am_0), (true, am_1), (true, am_0), (false, am_2), (false, am_9), (true, am_0), (true, am_0), (true, am_12)]
noncomputable def con_929 : Con2 := ((yX11_settle, cX11_settle, 1, none), (5, 131), ([(6, 0, 0)], gi_491, hc_103, rq_2), [((9, 0, 0), gi_492, hq_497, [], tg_14)])
theorem hd_929 : con_929.1 = (yX11_settle, cX11_settle, 1, none) := rfl
theorem ck_RX11_372_928 : COK2 RX11 vwCl gTbl 372 0 con_928 := ⟨wd_870, wd_134, mh_X3_passDays, .inr (.inr ⟨rfl, wd_867, wd_868, wd_869, ⟨_, rfl, pd_X3_passDays⟩, 3, _, TX3, 9, rfl, rfl⟩)⟩
theorem ck_RX11_460_870 : COK2 RX11 vwCl gTbl 460 0 con_870 := ⟨wd_858, wd_130, mh_X0_playOn, .inr (.inr ⟨rfl, wd_855, wd_856, wd_857, ⟨_, rfl, pd_X0_playOn⟩, 0, _, TX0, 4, rfl, rfl⟩)⟩
theorem ck_RX11_458_867 : COK2 RX11 vwCl gTbl 458 0 con_867 := ⟨wd_853, wd_133, mh_X7_begin, .inr (.inr ⟨rfl, wd_850, wd_851, wd_852, ⟨_, rfl, pd_X7_begin⟩, 7, _, TX7, 4, rfl, rfl⟩)⟩
noncomputable def ct_929 : CTB2 := [(19, 458, 0, con_867, [2, 3, 4, 5, 6, 7]), (43, 204, 0, con_863, [8, 4, 3, 9, 10]), (58, 460, 0, con_870, [11, 2, 12, 13, 5, 14, 4]), (86, 372, 0, con_928, [15, 3, 2, 16, 17, 18, 19, 5, 20, 4, 21, 22, 23, 24, 25, 26, 6])]
noncomputable def cu_929 : List CUT2 := []
theorem ch_929 : staG tb_X11_settle 1 bt_RX11 [] ct_929 [] [] cu_929 44 con_929 = true := by decide +kernel
theorem cto_929 (l : Launch) : CTOK2 l RX11 vwCl gTbl ct_929 := ct2_cons (vl_867 l) ck_RX11_458_867 (ct2_cons (vl_863 l) ck_RX11_204_863 (ct2_cons (vl_870 l) ck_RX11_460_870 (ct2_cons (vl_928 l) ck_RX11_372_928 (ct2_nil))))
theorem vl_929 (l : Launch) : Vld2 l vwCl gTbl con_929 := conR_ok3 gT_all (hd_929) rfl pn_RX11 tk_X11_settle bo_RX11 xo_RX11 (cto_929 l) ch_929 cut_nil
/-- RookHusting stands -/
noncomputable def gi_493 : GI := jl_n [gp_275]
noncomputable def ac_513 : AC := .inl (11, jl_n [vp_79, vp_80, jl_8 15 4, vp_81])
noncomputable def ac_514 : AC := .inl (4, jl_n [vp_82, vp_74, jl_8 36 2, jl_6 10 1])
noncomputable def ac_515 : AC := .inr (1, jl_n [js_1 77 30])
noncomputable def ac_516 : AC := .inr (1, jl_n [js_1 107 30])
noncomputable def ac_517 : AC := .inl (3, jl_n [vp_77, jl_1 116 2])
noncomputable def hc_104 : List AC := [ac_513, .inl (9, [(6, 2, 0), (6, 11, 0)]), ac_514, .inl (7, [(6, 4, 0), (6, 5, 0), (6, 6, 0), (1, 40, 0)]), am_7, am_1, am_1, am_1, .inl (1, [(6, 2, 0), (8, 42, 0)]), am_4, am_6, .inl (0, [(1, 43, 0), (6, 12, 0), (6, 13, 0), (6, 14, 0)]), ac_515, am_11, ac_516, ac_517, am_2, am_0, am_10, am_0, am_1, am_0, am_2, am_9, am_0, am_0, am_12]
noncomputable def rq_3 : RLs := [([(47, 12), (77, (-1))], 4), ([(48, 12), (78, (-1))], 4), ([(49, 12), (79, (-1))], 4), ([(50, 12), (80, (-1))], 4), ([(51, 12), (81, (-1))], 4), ([(52, 12), (82, (-1))], 4), ([(53, 12), (83, (-1))], 4), ([(54, 12), (84, (-1))], 4), ([(55, 12), (85, (-1))], 4), ([(56, 12), (86, (-1))], 4), ([(57, 12), (87, (-1))], 4), ([(58, 12), (88, (-1))], 4), ([(59, 12), (89, (-1))], 4), ([(60, 12), (90, (-1))], 4), ([(61, 12), (91, (-1))], 4), ([(62, 12), (92, (-1))], 4), ([(63, 12), (93, (-1))], 4), ([(64, 12), (94, (-1))], 4), ([(65, 12), (95, (-1))], 4), ([(66, 12), (96, (-1))], 4), ([(67, 12), (97, (-1))], 4), ([(68, 12), (98, (-1))], 4), ([(69, 12), (99, (-1))], 4), ([(70, 12), (100, (-1))], 4), ([(71, 12), (101, (-1))], 4), ([(72, 12), (102, (-1))], 4), ([(73, 12), (103, (-1))], 4), ([(74, 12), (104, (-1))], 4), ([(75, 12), (105, (-1))], 4), ([(76, 12), (106, (-1))], 4)]
noncomputable def gi_494 : GI := jl_n [gp_275, jl_m 1 4, gp_276]
noncomputable def ac_518 : AC := .inl (11, jl_n [vp_79, vp_80, jl_8 15 4, jl_1 131 1, jl_8 18 2])
noncomputable def ac_519 : AC := .inl (3, jl_n [vp_77, jl_1 146 2])
noncomputable def hq_498 : HP := [(true, ac_518), (false, .inl (9, [(6, 2, 0), (6, 11, 0)])), (false, ac_514), (true, .inl (7, [(6, 4, 0), (6, 5, 0), (6, 6, 0), (1, 136, 0)])), (true, am_7), (true, am_1), (true, am_1), (false, am_1), (false, .inl (1, [(6, 2, 0), (8, 42, 0)])), (false, am_4), (false, am_6), (false, .inl (0, [(1, 43, 0), (6, 12, 0), (6, 13, 0), (6, 14, 0)])), (false, ac_515), (false, am_11), (false, ac_516), (true, ac_519), (false, am_2), (true, am_0), (false, am_10), (true, am_0), (true, am_1), (true, am_0), (false, am_2), (false, am_9), (true, am_0), (true, am_0), (true, am_12)]
noncomputable def con_930 : Con2 := ((yX11_stands, cX11_stands, 2, (some .int)), (6, 151), ([(6, 0, 0), (1, 1, 0)], gi_493, hc_104, rq_3), [((1, 116, 0), gi_494, hq_498, [], tg_15)])
theorem hd_930 : con_930.1 = (yX11_stands, cX11_stands, 2, (some .int)) := rfl
theorem ck_RX11_208_929 : COK2 RX11 vwCl gTbl 208 0 con_929 := ⟨wd_849, wd_125, mh_X11_settle, .inr (.inr ⟨rfl, wd_846, wd_848, wd_19, ⟨_, rfl, pd_X11_settle⟩, 11, _, TX11, 16, rfl, rfl⟩)⟩
noncomputable def ct_930 : CTB2 := [(2, 139, 0, con_647, [0, 1, 2]), (12, 208, 0, con_929, [0, 1, 3, 2, 4, 5, 6, 7, 8, 9, 10, 11, 12, 13, 14, 15, 16, 17, 18, 19, 20, 21, 22, 23, 24, 25, 26])]
noncomputable def cu_930 : List CUT2 := []
theorem ch_930 : staG tb_X11_stands 1 bt_RX11 [] ct_930 [] [] cu_930 14 con_930 = true := by decide +kernel
theorem cto_930 (l : Launch) : CTOK2 l RX11 vwCl gTbl ct_930 := ct2_cons (vl_647 l) ck_RX11_139_647 (ct2_cons (vl_929 l) ck_RX11_208_929 (ct2_nil))
theorem vl_930 (l : Launch) : Vld2 l vwCl gTbl con_930 := conR_ok3 gT_all (hd_930) rfl pn_RX11 tk_X11_stands bo_RX11 xo_RX11 (cto_930 l) ch_930 cut_nil
/-- RookHustingModel speeches -/
noncomputable def gi_495 : GI := jl_n [gp_279, gp_124]
noncomputable def ac_520 : AC := .inl (12, jl_n [jl_8 2 1, jl_6 3 1, jl_8 21 18, jl_6 2 1, jl_1 26 4, jl_8 46 20])
noncomputable def hc_105 : List AC := [ac_520, am_1, ac_436]
noncomputable def gi_496 : GI := jl_n [gp_279, gp_186]
noncomputable def ac_521 : AC := .inl (12, jl_n [jl_8 2 1, jl_6 3 1, jl_8 21 18, jl_6 2 1, vp_0, vp_41, jl_8 46 20])
noncomputable def hq_499 : HP := [(true, ac_521), (true, am_1), (false, ac_436)]
noncomputable def con_931 : Con2 := ((yX12_speeches, cX12_speeches, 3, none), (0, 0), ([(6, 0, 0)], gi_495, hc_105, []), [((9, 0, 0), gi_496, hq_499, [], tg_10)])
theorem hd_931 : con_931.1 = (yX12_speeches, cX12_speeches, 3, none) := rfl
noncomputable def gi_497 : GI := jl_n [gp_280, jl_i 0 5]
noncomputable def hq_500 : HP := [(false, ac_520), (true, am_1), (false, ac_436)]
noncomputable def gi_498 : GI := jl_n [gp_280, jl_i 0 30, jl_z 45]
noncomputable def cu_931 : List CUT2 := [((2, [lq 0 6 0, lq 1 1 70], [], gi_497, hq_500), [], ([(70, (-1))], 36)), ((42, [lq 0 6 0, lq 1 1 70], [], gi_498, hq_499), [], ([(70, (-1))], 30))]
theorem ch_931 : staG tb_X12_speeches 1 bt_RX12 [] ct_2 [(62, [(3, (0, 0, 0), 0, 0)])] [] cu_931 37 con_931 = true := by decide +kernel
theorem cc_931 : cu_931.all (cutG tb_X12_speeches 1 bt_RX12 [] ct_2 [(62, [(3, (0, 0, 0), 0, 0)])] [] cu_931 37 con_931) = true := by decide +kernel
theorem vl_931 (l : Launch) : Vld2 l vwCl gTbl con_931 := conR_ok3 gT_all (hd_931) rfl pn_RX12 tk_X12_speeches bo_RX12 xo_RX12 (cto_2 l) ch_931 (cut_all cc_931)
/-- RookHustingModel asElected -/
noncomputable def gi_499 : GI := jl_n [gp_210, gp_283]
noncomputable def ac_522 : AC := .inl (12, jl_n [vp_59, jl_6 7 3, jl_1 27 4, jl_8 47 20])
noncomputable def hc_106 : List AC := [ac_522, ac_438, am_8, am_5, am_7, am_7, am_1]
noncomputable def gi_500 : GI := jl_n [gp_210, gp_282, gp_186]
noncomputable def ac_523 : AC := .inl (12, jl_n [vp_57, vp_84, vp_41, jl_8 47 20])
noncomputable def hq_501 : HP := [(true, ac_523), (false, ac_438), (true, am_8), (true, am_5), (true, am_7), (true, am_7), (true, am_1)]
noncomputable def con_932 : Con2 := ((yX12_asElected, cX12_asElected, 3, none), (6, 144), ([(6, 0, 0), (1, 1, 0)], gi_499, hc_106, []), [((9, 0, 0), gi_500, hq_501, [], tg_10)])
theorem hd_932 : con_932.1 = (yX12_asElected, cX12_asElected, 3, none) := rfl
theorem ck_RX12_335_931 : COK2 RX12 vwCl gTbl 335 0 con_931 := ⟨wd_1845, wd_137, mh_X12_speeches, .inr (.inr ⟨rfl, wd_1842, wd_1844, wd_91, ⟨_, rfl, pd_X12_speeches⟩, 12, _, TX12, 45, rfl, rfl⟩)⟩
noncomputable def ct_932 : CTB2 := [(1, 249, 0, con_669, [0, 1, 2, 3]), (6, 280, 0, con_865, [0, 1, 2, 3, 4]), (23, 106, 0, con_650, [0, 1]), (47, 335, 0, con_931, [0, 6, 1])]
noncomputable def gi_501 : GI := jl_n [gp_210, gp_282, gp_123, jl_z 16, gp_284]
noncomputable def ac_524 : AC := .inl (12, jl_n [vp_57, vp_83, jl_1 27 4, jl_8 47 20])
noncomputable def hq_502 : HP := [(true, ac_524), (false, ac_438), (true, am_8), (true, am_5), (true, am_7), (true, am_7), (false, am_1)]
noncomputable def cu_932 : List CUT2 := [((11, [lq 0 6 0, lq 1 1 1, lq 2 1 72], [], gi_501, hq_502), [], ([(72, (-1))], 5))]
theorem ch_932 : staG tb_X12_asElected 1 bt_RX12 [] ct_932 [] [] cu_932 21 con_932 = true := by decide +kernel
theorem cc_932 : cu_932.all (cutG tb_X12_asElected 1 bt_RX12 [] ct_932 [] [] cu_932 21 con_932) = true := by decide +kernel
theorem cto_932 (l : Launch) : CTOK2 l RX12 vwCl gTbl ct_932 := ct2_cons (vl_669 l) ck_RX12_249_669 (ct2_cons (vl_865 l) ck_RX12_280_865 (ct2_cons (vl_650 l) ck_RX12_106_650 (ct2_cons (vl_931 l) ck_RX12_335_931 (ct2_nil))))
theorem vl_932 (l : Launch) : Vld2 l vwCl gTbl con_932 := conR_ok3 gT_all (hd_932) rfl pn_RX12 tk_X12_asElected bo_RX12 xo_RX12 (cto_932 l) ch_932 (cut_all cc_932)
/-- RookHustingModel putMan -/
noncomputable def gi_502 : GI := jl_n [gp_52, jl_m 0 4, gp_165]
noncomputable def ac_525 : AC := .inl (12, jl_n [vp_40, jl_8 22 17, jl_6 3 1, jl_8 48 25])
noncomputable def hq_503 : HP := [(false, ac_525), (false, ac_440), (true, am_7)]
noncomputable def con_933 : Con2 := ((yX12_putMan, cX12_putMan, 4, none), (1, 20), ([(6, 0, 0), (1, 1, 0), (1, 2, 0)], gi_502, [ac_525, ac_440, am_7], []), [((9, 0, 0), gi_502, hq_503, [], [])])
theorem hd_933 : con_933.1 = (yX12_putMan, cX12_putMan, 4, none) := rfl
noncomputable def ct_933 : CTB2 := [(4, 106, 0, con_650, [0, 1])]
noncomputable def gi_503 : GI := jl_n [gp_52, jl_m 0 4, jl_z 45, gp_220, jl_i 0 5]
noncomputable def cu_933 : List CUT2 := [((2, [lq 0 6 0, lq 1 1 1, lq 2 1 2, lq 3 1 74], [], gi_503, hq_503), [], ([(74, (-1))], 5))]
theorem ch_933 : staG tb_X12_putMan 1 bt_RX12 [] ct_933 [] [] cu_933 23 con_933 = true := by decide +kernel
theorem cc_933 : cu_933.all (cutG tb_X12_putMan 1 bt_RX12 [] ct_933 [] [] cu_933 23 con_933) = true := by decide +kernel
theorem cto_933 (l : Launch) : CTOK2 l RX12 vwCl gTbl ct_933 := ct2_cons (vl_650 l) ck_RX12_106_650 (ct2_nil)
theorem vl_933 (l : Launch) : Vld2 l vwCl gTbl con_933 := conR_ok3 gT_all (hd_933) rfl pn_RX12 tk_X12_putMan bo_RX12 xo_RX12 (cto_933 l) ch_933 (cut_all cc_933)
/-- RookHustingModel asItIs -/
noncomputable def gi_504 : GI := jl_n [gp_287]
noncomputable def ac_526 : AC := .inl (12, jl_n [vp_45, jl_6 7 3, jl_1 26 4, jl_8 46 20])
noncomputable def hc_107 : List AC := [ac_526, ac_436, am_8, am_5, am_7, am_7, am_1]
noncomputable def gi_505 : GI := jl_n [gp_286, gp_186]
noncomputable def ac_527 : AC := .inl (12, jl_n [vp_85, vp_41, jl_8 46 20])
noncomputable def hq_504 : HP := [(true, ac_527), (false, ac_436), (true, am_8), (true, am_5), (true, am_7), (true, am_7), (true, am_1)]
noncomputable def con_934 : Con2 := ((yX12_asItIs, cX12_asItIs, 3, none), (7, 166), ([(6, 0, 0)], gi_504, hc_107, []), [((9, 0, 0), gi_505, hq_504, [], tg_10)])
theorem hd_934 : con_934.1 = (yX12_asItIs, cX12_asItIs, 3, none) := rfl
theorem ck_RX12_341_933 : COK2 RX12 vwCl gTbl 341 0 con_933 := ⟨wd_1849, wd_137, mh_X12_putMan, .inr (.inr ⟨rfl, wd_1846, wd_1848, wd_92, ⟨_, rfl, pd_X12_putMan⟩, 12, _, TX12, 45, rfl, rfl⟩)⟩
theorem ck_RX12_338_932 : COK2 RX12 vwCl gTbl 338 0 con_932 := ⟨wd_1841, wd_137, mh_X12_asElected, .inr (.inr ⟨rfl, wd_1838, wd_1840, wd_90, ⟨_, rfl, pd_X12_asElected⟩, 12, _, TX12, 45, rfl, rfl⟩)⟩
noncomputable def ct_934 : CTB2 := [(7, 338, 0, con_932, [0, 1, 2, 3, 4, 5, 6]), (51, 341, 0, con_933, [0, 1, 5])]
noncomputable def gi_506 : GI := jl_n [gp_286, gp_125, jl_i 0 30, jl_z 45]
noncomputable def cu_934 : List CUT2 := [((12, [lq 0 6 0, lq 1 1 70], [], gi_506, hq_504), [], ([(70, (-1))], 30))]
theorem ch_934 : staG tb_X12_asItIs 1 bt_RX12 [] ct_934 [(32, [(3, (0, 0, 0), 0, 0)])] [] cu_934 31 con_934 = true := by decide +kernel
theorem cc_934 : cu_934.all (cutG tb_X12_asItIs 1 bt_RX12 [] ct_934 [(32, [(3, (0, 0, 0), 0, 0)])] [] cu_934 31 con_934) = true := by decide +kernel
theorem cto_934 (l : Launch) : CTOK2 l RX12 vwCl gTbl ct_934 := ct2_cons (vl_932 l) ck_RX12_338_932 (ct2_cons (vl_933 l) ck_RX12_341_933 (ct2_nil))
theorem vl_934 (l : Launch) : Vld2 l vwCl gTbl con_934 := conR_ok3 gT_all (hd_934) rfl pn_RX12 tk_X12_asItIs bo_RX12 xo_RX12 (cto_934 l) ch_934 (cut_all cc_934)
/-- RookHustingModel stands -/
noncomputable def gi_507 : GI := jl_n [gp_288]
noncomputable def gi_508 : GI := jl_n [gp_288, jl_m 1 4, jl_z 45]
noncomputable def con_935 : Con2 := ((yX12_stands, cX12_stands, 2, (some .int)), (8, 188), ([(6, 0, 0), (1, 1, 0)], gi_507, hc_106, []), [((1, 70, 0), gi_508, hq_501, [], tg_1)])
theorem hd_935 : con_935.1 = (yX12_stands, cX12_stands, 2, (some .int)) := rfl
theorem ck_RX12_345_934 : COK2 RX12 vwCl gTbl 345 0 con_934 := ⟨wd_1837, wd_137, mh_X12_asItIs, .inr (.inr ⟨rfl, wd_1834, wd_1836, wd_89, ⟨_, rfl, pd_X12_asItIs⟩, 12, _, TX12, 45, rfl, rfl⟩)⟩
noncomputable def ct_935 : CTB2 := [(1, 345, 0, con_934, [0, 1, 2, 3, 4, 5, 6]), (7, 109, 0, con_651, [0, 1])]
noncomputable def cu_935 : List CUT2 := []
theorem ch_935 : staG tb_X12_stands 1 bt_RX12 [] ct_935 [] [] cu_935 15 con_935 = true := by decide +kernel
theorem cto_935 (l : Launch) : CTOK2 l RX12 vwCl gTbl ct_935 := ct2_cons (vl_934 l) ck_RX12_345_934 (ct2_cons (vl_651 l) ck_RX12_109_651 (ct2_nil))
theorem vl_935 (l : Launch) : Vld2 l vwCl gTbl con_935 := conR_ok3 gT_all (hd_935) rfl pn_RX12 tk_X12_stands bo_RX12 xo_RX12 (cto_935 l) ch_935 cut_nil
/-- RookHusting where -/
noncomputable def con_936 : Con2 := ((yX11_where, cX11_where, 2, (some .int)), (6, 151), ([(6, 0, 0), (1, 1, 0)], gi_493, hc_104, rq_3), [((1, 116, 0), gi_494, hq_498, [], tg_15)])
theorem hd_936 : con_936.1 = (yX11_where, cX11_where, 2, (some .int)) := rfl
theorem ck_RX11_211_868 : COK2 RX11 vwCl gTbl 211 0 con_868 := ⟨wd_866, wd_133, mh_X7_placeOf, .inr (.inr ⟨rfl, wd_896, wd_864, wd_865, ⟨_, rfl, pd_X7_placeOf⟩, 7, _, TX7, 4, rfl, rfl⟩)⟩
noncomputable def ct_936 : CTB2 := [(2, 156, 0, con_657, [0, 1, 2]), (12, 208, 0, con_929, [0, 1, 3, 2, 4, 5, 6, 7, 8, 9, 10, 11, 12, 13, 14, 15, 16, 17, 18, 19, 20, 21, 22, 23, 24, 25, 26]), (20, 211, 0, con_868, [3, 4])]
noncomputable def cu_936 : List CUT2 := []
theorem ch_936 : staG tb_X11_where 1 bt_RX11 [] ct_936 [] [] cu_936 13 con_936 = true := by decide +kernel
theorem cto_936 (l : Launch) : CTOK2 l RX11 vwCl gTbl ct_936 := ct2_cons (vl_657 l) ck_RX11_156_657 (ct2_cons (vl_929 l) ck_RX11_208_929 (ct2_cons (vl_868 l) ck_RX11_211_868 (ct2_nil)))
theorem vl_936 (l : Launch) : Vld2 l vwCl gTbl con_936 := conR_ok3 gT_all (hd_936) rfl pn_RX11 tk_X11_where bo_RX11 xo_RX11 (cto_936 l) ch_936 cut_nil
/-- RookHustingModel where -/
noncomputable def con_937 : Con2 := ((yX12_where, cX12_where, 3, (some .int)), (8, 188), ([(6, 0, 0), (1, 1, 0)], gi_507, hc_106, []), [((1, 70, 0), gi_508, hq_501, [], tg_1)])
theorem hd_937 : con_937.1 = (yX12_where, cX12_where, 3, (some .int)) := rfl
noncomputable def ct_937 : CTB2 := [(1, 345, 0, con_934, [0, 1, 2, 3, 4, 5, 6]), (6, 236, 0, con_660, [0, 1]), (19, 106, 0, con_650, [0, 1])]
noncomputable def gi_509 : GI := jl_n [gp_52, gp_282, gp_140, gp_289, gp_284]
noncomputable def cu_937 : List CUT2 := [((17, [lq 0 6 0, lq 1 1 1, lq 2 1 72], [], gi_509, hq_501), [], ([(72, (-1))], 5))]
theorem ch_937 : staG tb_X12_where 1 bt_RX12 [] ct_937 [] [] cu_937 15 con_937 = true := by decide +kernel
theorem cc_937 : cu_937.all (cutG tb_X12_where 1 bt_RX12 [] ct_937 [] [] cu_937 15 con_937) = true := by decide +kernel
theorem cto_937 (l : Launch) : CTOK2 l RX12 vwCl gTbl ct_937 := ct2_cons (vl_934 l) ck_RX12_345_934 (ct2_cons (vl_660 l) ck_RX12_236_660 (ct2_cons (vl_650 l) ck_RX12_106_650 (ct2_nil)))
theorem vl_937 (l : Launch) : Vld2 l vwCl gTbl con_937 := conR_ok3 gT_all (hd_937) rfl pn_RX12 tk_X12_where bo_RX12 xo_RX12 (cto_937 l) ch_937 (cut_all cc_937)
/-- RookHusting hasBit -/
noncomputable def con_938 : Con2 := ((yX11_hasBit, cX11_hasBit, 2, (some .boolean)), (0, 0), ([(1, 0, 0), (1, 1, 0)], [(0, 2147483647), (0, 4)], [], []), [((0, 0, 0), [(0, 2147483647), (0, 4), (0, 0)], [], [], [1]), ((0, 1, 0), [(0, 2147483647), (0, 4), (0, 0)], [], [], [1])])
theorem hd_938 : con_938.1 = (yX11_hasBit, cX11_hasBit, 2, (some .boolean)) := rfl
noncomputable def cu_938 : List CUT2 := []
theorem ch_938 : staG tb_X11_hasBit 1 bt_RX11 [] ct_3 [] [] cu_938 12 con_938 = true := by decide +kernel
theorem vl_938 (l : Launch) : Vld2 l vwCl gTbl con_938 := conR_ok3 gT_all (hd_938) rfl pn_RX11 tk_X11_hasBit bo_RX11 xo_RX11 (cto_3 l) ch_938 cut_nil
/-- RookHusting hasBit -/
noncomputable def con_939 : Con2 := ((yX11_hasBit, cX11_hasBit, 2, (some .boolean)), (0, 0), ([(1, 0, 0), (1, 1, 0)], [((-2147483648), (-2)), (0, 4)], [], []), [((0, 0, 0), [((-2147483648), (-2)), (0, 4), (0, 0)], [], [], [1]), ((0, 1, 0), [((-2147483648), (-2)), (0, 4), (0, 0)], [], [], [1])])
theorem hd_939 : con_939.1 = (yX11_hasBit, cX11_hasBit, 2, (some .boolean)) := rfl
noncomputable def cu_939 : List CUT2 := []
theorem ch_939 : staG tb_X11_hasBit 1 bt_RX11 [] ct_3 [] [] cu_939 12 con_939 = true := by decide +kernel
theorem vl_939 (l : Launch) : Vld2 l vwCl gTbl con_939 := conR_ok3 gT_all (hd_939) rfl pn_RX11 tk_X11_hasBit bo_RX11 xo_RX11 (cto_3 l) ch_939 cut_nil
/-- RookHusting$Election isWantedMore -/
noncomputable def gi_510 : GI := jl_n [gp_182, jl_r 2 (jl_i 0 4), jl_z 19]
noncomputable def ac_528 : AC := .inl (4, jl_n [jl_8 22 16, jl_6 3 1])
noncomputable def hc_108 : List AC := [.inl (1, [(6, 1, 0), (8, 5, 0)]), ac_528, am_4]
noncomputable def gi_511 : GI := jl_n [gp_182, jl_r 2 (jl_i 0 4), jl_z 20]
noncomputable def hq_505 : HP := [(false, .inl (1, [(6, 1, 0), (8, 5, 0)])), (false, ac_528), (false, am_4)]
noncomputable def con_940 : Con2 := ((yX1_isWantedMore, cX1_isWantedMore, 5, (some .boolean)), (1, 21), ([(6, 0, 0), (1, 1, 0), (1, 2, 0), (1, 3, 0)], gi_510, hc_108, []), [((0, 0, 0), gi_511, hq_505, [], [1]), ((0, 1, 0), gi_511, hq_505, [], [1])])
theorem hd_940 : con_940.1 = (yX1_isWantedMore, cX1_isWantedMore, 5, (some .boolean)) := rfl
theorem ck_RX1_45_938 : COK2 RX1 vwCl gTbl 45 2 con_938 := ⟨wd_682, wd_125, mh_X11_hasBit, .inr (.inl ⟨rfl, by decide +kernel, wd_681, pd_X11_hasBit⟩)⟩
theorem ck_RX1_45_939 : COK2 RX1 vwCl gTbl 45 2 con_939 := ⟨wd_682, wd_125, mh_X11_hasBit, .inr (.inl ⟨rfl, by decide +kernel, wd_681, pd_X11_hasBit⟩)⟩
noncomputable def ct_940 : CTB2 := [(29, 45, 2, con_939, []), (29, 45, 2, con_938, [])]
noncomputable def cu_940 : List CUT2 := []
theorem ch_940 : staG tb_X1_isWantedMore 1 bt_RX1 [] ct_940 [] [] cu_940 25 con_940 = true := by decide +kernel
theorem cto_940 (l : Launch) : CTOK2 l RX1 vwCl gTbl ct_940 := ct2_cons (vl_939 l) ck_RX1_45_939 (ct2_cons (vl_938 l) ck_RX1_45_938 (ct2_nil))
theorem vl_940 (l : Launch) : Vld2 l vwCl gTbl con_940 := conR_ok3 gT_all (hd_940) rfl pn_RX1 tk_X1_isWantedMore bo_RX1 xo_RX1 (cto_940 l) ch_940 cut_nil
/-- RookHusting$Election hatsOver -/
noncomputable def gi_512 : GI := jl_n [gp_290, gp_196]
noncomputable def ac_529 : AC := .inl (4, jl_n [jl_8 12 7, jl_1 13 1, jl_8 18 5, jl_6 4 1, jl_8 21 2, jl_6 3 1])
noncomputable def hc_109 : List AC := [.inl (1, [(6, 1, 0), (8, 4, 0)]), ac_529, am_4, am_6]
noncomputable def gi_513 : GI := jl_n [gp_290, gp_197]
noncomputable def hq_506 : HP := [(false, .inl (1, [(6, 1, 0), (8, 4, 0)])), (false, ac_529), (false, am_4), (false, am_6)]
noncomputable def con_941 : Con2 := ((yX1_hatsOver, cX1_hatsOver, 5, (some .int)), (2, 45), ([(6, 0, 0), (1, 1, 0), (1, 2, 0)], gi_512, hc_109, []), [((1, 22, 0), gi_513, hq_506, [], [1])])
theorem hd_941 : con_941.1 = (yX1_hatsOver, cX1_hatsOver, 5, (some .int)) := rfl
theorem ck_RX1_70_940 : COK2 RX1 vwCl gTbl 70 0 con_940 := ⟨wd_908, wd_132, mh_X1_isWantedMore, .inr (.inr ⟨rfl, wd_905, wd_907, wd_24, ⟨_, rfl, pd_X1_isWantedMore⟩, 1, _, TX1, 2, rfl, rfl⟩)⟩
noncomputable def ct_941 : CTB2 := [(22, 70, 0, con_940, [0, 1, 2])]
noncomputable def gi_514 : GI := jl_n [gp_290, gp_195, jl_z 12, gp_212]
noncomputable def cu_941 : List CUT2 := [((5, [lq 0 6 0, lq 1 1 1, lq 2 1 2, lq 3 1 25, lq 4 1 26], [], gi_514, hq_506), [], ([(26, (-1))], 7))]
theorem ch_941 : staG tb_X1_hatsOver 1 bt_RX1 [] ct_941 [] [] cu_941 24 con_941 = true := by decide +kernel
theorem cc_941 : cu_941.all (cutG tb_X1_hatsOver 1 bt_RX1 [] ct_941 [] [] cu_941 24 con_941) = true := by decide +kernel
theorem cto_941 (l : Launch) : CTOK2 l RX1 vwCl gTbl ct_941 := ct2_cons (vl_940 l) ck_RX1_70_940 (ct2_nil)
theorem vl_941 (l : Launch) : Vld2 l vwCl gTbl con_941 := conR_ok3 gT_all (hd_941) rfl pn_RX1 tk_X1_hatsOver bo_RX1 xo_RX1 (cto_941 l) ch_941 (cut_all cc_941)
/-- RookHusting over -/
noncomputable def gi_515 : GI := jl_n [gp_163, gp_291]
noncomputable def ac_530 : AC := .inl (4, jl_n [jl_8 27 6, jl_1 29 2, jl_8 34 5, jl_6 6 1, jl_8 37 2, jl_6 5 1])
noncomputable def hc_110 : List AC := [ac_465, .inl (9, [(6, 2, 0), (8, 20, 0)]), ac_530, .inl (1, [(6, 2, 0), (8, 39, 0)]), am_4, am_6]
noncomputable def gi_516 : GI := jl_n [gp_163, gp_291, jl_t]
noncomputable def hq_507 : HP := [(false, ac_465), (false, .inl (9, [(6, 2, 0), (8, 20, 0)])), (false, ac_530), (false, .inl (1, [(6, 2, 0), (8, 39, 0)])), (false, am_4), (false, am_6)]
noncomputable def con_942 : Con2 := ((yX11_over, cX11_over, 3, (some .int)), (3, 69), ([(6, 0, 0), (1, 1, 0), (1, 2, 0)], gi_515, hc_110, []), [((1, 40, 0), gi_516, hq_507, [], [1])])
theorem hd_942 : con_942.1 = (yX11_over, cX11_over, 3, (some .int)) := rfl
theorem ck_RX11_215_941 : COK2 RX11 vwCl gTbl 215 0 con_941 := ⟨wd_904, wd_132, mh_X1_hatsOver, .inr (.inr ⟨rfl, wd_901, wd_902, wd_903, ⟨_, rfl, pd_X1_hatsOver⟩, 1, _, TX1, 2, rfl, rfl⟩)⟩
noncomputable def ct_942 : CTB2 := [(2, 156, 0, con_657, [0, 1, 2]), (10, 156, 0, con_657, [0, 1, 2]), (30, 215, 0, con_941, [3, 2, 4, 5])]
noncomputable def cu_942 : List CUT2 := []
theorem ch_942 : staG tb_X11_over 1 bt_RX11 [] ct_942 [] [] cu_942 19 con_942 = true := by decide +kernel
theorem cto_942 (l : Launch) : CTOK2 l RX11 vwCl gTbl ct_942 := ct2_cons (vl_657 l) ck_RX11_156_657 (ct2_cons (vl_657 l) ck_RX11_156_657 (ct2_cons (vl_941 l) ck_RX11_215_941 (ct2_nil)))
theorem vl_942 (l : Launch) : Vld2 l vwCl gTbl con_942 := conR_ok3 gT_all (hd_942) rfl pn_RX11 tk_X11_over bo_RX11 xo_RX11 (cto_942 l) ch_942 cut_nil
/-- RookHustingModel wantsMore -/
noncomputable def gi_517 : GI := jl_n [gp_182, jl_r 2 (jl_t), gp_165]
noncomputable def ac_531 : AC := .inl (12, jl_n [vp_53, jl_8 49 43])
noncomputable def gi_518 : GI := jl_n [gp_182, jl_r 2 (jl_t), gp_166]
noncomputable def gi_519 : GI := jl_n [gp_182, gp_83, gp_166]
noncomputable def con_943 : Con2 := ((yX12_wantsMore, cX12_wantsMore, 6, (some .boolean)), (0, 0), ([(6, 0, 0), (1, 1, 0), (1, 2, 0), (1, 3, 0)], gi_517, [ac_531, ac_461], []), [((0, 0, 0), gi_518, [(false, ac_531), (false, ac_461)], [], [1]), ((0, 1, 0), gi_519, [(false, ac_531), (false, ac_461)], [], [1])])
theorem hd_943 : con_943.1 = (yX12_wantsMore, cX12_wantsMore, 6, (some .boolean)) := rfl
noncomputable def gi_520 : GI := jl_n [jl_z 1, jl_i 6 6, gp_293]
noncomputable def gi_521 : GI := jl_n [jl_z 1, jl_i 5 5, gp_293]
noncomputable def gi_522 : GI := jl_n [jl_z 1, jl_i 4 4, gp_293]
noncomputable def gi_523 : GI := jl_n [gp_294, gp_293]
noncomputable def gi_524 : GI := jl_n [gp_295, gp_293]
noncomputable def gi_525 : GI := jl_n [gp_296, gp_293]
noncomputable def gi_526 : GI := jl_n [jl_z 2, gp_293]
noncomputable def cu_943 : List CUT2 := [((3, [lq 0 6 0, lq 1 0 6, lq 2 1 2, lq 3 1 3, lq 4 1 76], [], gi_520, [(false, ac_531), (false, ac_461)]), [], ([(76, (-1))], 5)), ((3, [lq 0 6 0, lq 1 0 5, lq 2 1 2, lq 3 1 3, lq 4 1 76], [], gi_521, [(false, ac_531), (false, ac_461)]), [], ([(76, (-1))], 5)), ((3, [lq 0 6 0, lq 1 0 4, lq 2 1 2, lq 3 1 3, lq 4 1 76], [], gi_522, [(false, ac_531), (false, ac_461)]), [], ([(76, (-1))], 5)), ((3, [lq 0 6 0, lq 1 0 3, lq 2 1 2, lq 3 1 3, lq 4 1 76], [], gi_523, [(false, ac_531), (false, ac_461)]), [], ([(76, (-1))], 5)), ((3, [lq 0 6 0, lq 1 0 2, lq 2 1 2, lq 3 1 3, lq 4 1 76], [], gi_524, [(false, ac_531), (false, ac_461)]), [], ([(76, (-1))], 5)), ((3, [lq 0 6 0, lq 1 0 1, lq 2 1 2, lq 3 1 3, lq 4 1 76], [], gi_525, [(false, ac_531), (false, ac_461)]), [], ([(76, (-1))], 5)), ((3, [lq 0 6 0, lq 1 0 0, lq 2 1 2, lq 3 1 3, lq 4 1 76], [], gi_526, [(false, ac_531), (false, ac_461)]), [], ([(76, (-1))], 5))]
theorem ch_943 : staG tb_X12_wantsMore 1 bt_RX12 [] ct_2 [(0, [(1, (1, 1, 0), 0, 0)])] [] cu_943 36 con_943 = true := by decide +kernel
theorem cc_943 : cu_943.all (cutG tb_X12_wantsMore 1 bt_RX12 [] ct_2 [(0, [(1, (1, 1, 0), 0, 0)])] [] cu_943 36 con_943) = true := by decide +kernel
theorem vl_943 (l : Launch) : Vld2 l vwCl gTbl con_943 := conR_ok3 gT_all (hd_943) rfl pn_RX12 tk_X12_wantsMore bo_RX12 xo_RX12 (cto_2 l) ch_943 (cut_all cc_943)
/-- RookHustingModel overOf -/
noncomputable def gi_527 : GI := jl_n [gp_170, jl_t]
noncomputable def con_944 : Con2 := ((yX12_overOf, cX12_overOf, 5, (some .int)), (1, 25), ([(6, 0, 0), (1, 1, 0), (1, 2, 0)], gi_303, [ac_439, ac_440], []), [((1, 71, 0), gi_527, [(false, ac_439), (false, ac_440)], [], [1])])
theorem hd_944 : con_944.1 = (yX12_overOf, cX12_overOf, 5, (some .int)) := rfl
theorem ck_RX12_283_943 : COK2 RX12 vwCl gTbl 283 0 con_943 := ⟨wd_1756, wd_137, mh_X12_wantsMore, .inr (.inr ⟨rfl, wd_1753, wd_1755, wd_83, ⟨_, rfl, pd_X12_wantsMore⟩, 12, _, TX12, 45, rfl, rfl⟩)⟩
noncomputable def ct_944 : CTB2 := [(23, 283, 0, con_943, [0, 1]), (32, 243, 0, con_666, [0, 1])]
noncomputable def gi_528 : GI := jl_n [gp_163, jl_z 45, gp_220, gp_212]
noncomputable def cu_944 : List CUT2 := [((5, [lq 0 6 0, lq 1 1 1, lq 2 1 2, lq 3 1 74, lq 4 1 75], [], gi_528, [(false, ac_439), (false, ac_440)]), [], ([(75, (-1))], 7))]
theorem ch_944 : staG tb_X12_overOf 1 bt_RX12 [] ct_944 [] [] cu_944 24 con_944 = true := by decide +kernel
theorem cc_944 : cu_944.all (cutG tb_X12_overOf 1 bt_RX12 [] ct_944 [] [] cu_944 24 con_944) = true := by decide +kernel
theorem cto_944 (l : Launch) : CTOK2 l RX12 vwCl gTbl ct_944 := ct2_cons (vl_943 l) ck_RX12_283_943 (ct2_cons (vl_666 l) ck_RX12_243_666 (ct2_nil))
theorem vl_944 (l : Launch) : Vld2 l vwCl gTbl con_944 := conR_ok3 gT_all (hd_944) rfl pn_RX12 tk_X12_overOf bo_RX12 xo_RX12 (cto_944 l) ch_944 (cut_all cc_944)
/-- RookHustingModel over -/
noncomputable def con_945 : Con2 := ((yX12_over, cX12_over, 3, (some .int)), (2, 49), ([(6, 0, 0), (1, 1, 0), (1, 2, 0)], gi_303, [ac_439, ac_440], []), [((1, 71, 0), gi_527, [(false, ac_439), (false, ac_440)], [], [1])])
theorem hd_945 : con_945.1 = (yX12_over, cX12_over, 3, (some .int)) := rfl
theorem ck_RX12_287_944 : COK2 RX12 vwCl gTbl 287 0 con_944 := ⟨wd_1752, wd_137, mh_X12_overOf, .inr (.inr ⟨rfl, wd_1749, wd_1751, wd_82, ⟨_, rfl, pd_X12_overOf⟩, 12, _, TX12, 45, rfl, rfl⟩)⟩
noncomputable def ct_945 : CTB2 := [(2, 236, 0, con_660, [0, 1]), (10, 236, 0, con_660, [0, 1]), (24, 287, 0, con_944, [0, 1])]
noncomputable def cu_945 : List CUT2 := []
theorem ch_945 : staG tb_X12_over 1 bt_RX12 [] ct_945 [] [] cu_945 19 con_945 = true := by decide +kernel
theorem cto_945 (l : Launch) : CTOK2 l RX12 vwCl gTbl ct_945 := ct2_cons (vl_660 l) ck_RX12_236_660 (ct2_cons (vl_660 l) ck_RX12_236_660 (ct2_cons (vl_944 l) ck_RX12_287_944 (ct2_nil)))
theorem vl_945 (l : Launch) : Vld2 l vwCl gTbl con_945 := conR_ok3 gT_all (hd_945) rfl pn_RX12 tk_X12_over bo_RX12 xo_RX12 (cto_945 l) ch_945 cut_nil
/-- RookHusting$Election isOver -/
noncomputable def gi_529 : GI := jl_n [gp_290, gp_195, jl_z 10]
noncomputable def con_946 : Con2 := ((yX1_isOver, cX1_isOver, 3, (some .boolean)), (3, 69), ([(6, 0, 0), (1, 1, 0), (1, 2, 0)], gi_512, hc_109, []), [((0, 0, 0), gi_529, hq_506, [], [1]), ((0, 1, 0), gi_529, hq_506, [], [1])])
theorem hd_946 : con_946.1 = (yX1_isOver, cX1_isOver, 3, (some .boolean)) := rfl
theorem ck_RX1_74_941 : COK2 RX1 vwCl gTbl 74 0 con_941 := ⟨wd_904, wd_132, mh_X1_hatsOver, .inr (.inr ⟨rfl, wd_921, wd_902, wd_903, ⟨_, rfl, pd_X1_hatsOver⟩, 1, _, TX1, 2, rfl, rfl⟩)⟩
noncomputable def ct_946 : CTB2 := [(3, 74, 0, con_941, [0, 1, 2, 3]), (9, 74, 0, con_941, [0, 1, 2, 3])]
noncomputable def cu_946 : List CUT2 := []
theorem ch_946 : staG tb_X1_isOver 1 bt_RX1 [] ct_946 [] [] cu_946 14 con_946 = true := by decide +kernel
theorem cto_946 (l : Launch) : CTOK2 l RX1 vwCl gTbl ct_946 := ct2_cons (vl_941 l) ck_RX1_74_941 (ct2_cons (vl_941 l) ck_RX1_74_941 (ct2_nil))
theorem vl_946 (l : Launch) : Vld2 l vwCl gTbl con_946 := conR_ok3 gT_all (hd_946) rfl pn_RX1 tk_X1_isOver bo_RX1 xo_RX1 (cto_946 l) ch_946 cut_nil
/-- RookHusting$Election manOverAll -/
noncomputable def gi_530 : GI := jl_n [jl_z 9, gp_214]
noncomputable def ac_532 : AC := .inl (4, jl_n [jl_8 9 6, jl_1 11 2, jl_8 16 5, jl_6 4 1, jl_8 19 2, jl_6 3 1])
noncomputable def hc_111 : List AC := [.inl (1, [(6, 1, 0), (8, 2, 0)]), ac_532, am_4, am_6]
noncomputable def gi_531 : GI := jl_n [jl_z 9, gp_214, jl_m 0 4]
noncomputable def hq_508 : HP := [(false, .inl (1, [(6, 1, 0), (8, 2, 0)])), (false, ac_532), (false, am_4), (false, am_6)]
noncomputable def con_947 : Con2 := ((yX1_manOverAll, cX1_manOverAll, 4, (some .int)), (4, 91), ([(6, 0, 0)], gi_530, hc_111, []), [((1, 20, 0), gi_531, hq_508, [], [1])])
theorem hd_947 : con_947.1 = (yX1_manOverAll, cX1_manOverAll, 4, (some .int)) := rfl
theorem ck_RX1_78_946 : COK2 RX1 vwCl gTbl 78 0 con_946 := ⟨wd_920, wd_132, mh_X1_isOver, .inr (.inr ⟨rfl, wd_917, wd_919, wd_25, ⟨_, rfl, pd_X1_isOver⟩, 1, _, TX1, 2, rfl, rfl⟩)⟩
noncomputable def ct_947 : CTB2 := [(36, 78, 0, con_946, [0, 1, 2, 3])]
noncomputable def gi_532 : GI := jl_n [jl_z 9, gp_12, jl_z 10, jl_i 0 5]
noncomputable def gi_533 : GI := jl_n [jl_z 9, jl_i 1 5, jl_i 0 7, jl_z 10, jl_i 0 4, gp_207]
noncomputable def cu_947 : List CUT2 := [((2, [lq 0 6 0, lq 1 1 21], [], gi_532, hq_508), [], ([(21, (-7))], 41)), ((17, [lq 0 6 0, lq 1 1 21, lq 2 1 22, lq 3 1 23], [], gi_533, hq_508), [], ([(21, (-7)), (23, (-1))], 40))]
theorem ch_947 : staG tb_X1_manOverAll 1 bt_RX1 [] ct_947 [] [] cu_947 19 con_947 = true := by decide +kernel
theorem cc_947 : cu_947.all (cutG tb_X1_manOverAll 1 bt_RX1 [] ct_947 [] [] cu_947 19 con_947) = true := by decide +kernel
theorem cto_947 (l : Launch) : CTOK2 l RX1 vwCl gTbl ct_947 := ct2_cons (vl_946 l) ck_RX1_78_946 (ct2_nil)
theorem vl_947 (l : Launch) : Vld2 l vwCl gTbl con_947 := conR_ok3 gT_all (hd_947) rfl pn_RX1 tk_X1_manOverAll bo_RX1 xo_RX1 (cto_947 l) ch_947 (cut_all cc_947)
/-- RookHusting beats -/
noncomputable def gi_534 : GI := jl_n [jl_z 19, gp_199]
noncomputable def ac_533 : AC := .inl (11, jl_n [vp_86, jl_8 17 10])
noncomputable def ac_534 : AC := .inl (4, jl_n [jl_1 20 1, jl_8 25 5, vp_87, jl_6 6 1, jl_8 35 2, jl_6 5 1])
noncomputable def hc_112 : List AC := [ac_533, .inl (9, [(6, 2, 0), (8, 18, 0)]), ac_534, .inl (1, [(6, 2, 0), (8, 37, 0)]), am_4, am_6]
noncomputable def gi_535 : GI := jl_n [jl_z 19, gp_199, jl_m 1 4]
noncomputable def hq_509 : HP := [(false, ac_533), (false, .inl (9, [(6, 2, 0), (8, 18, 0)])), (false, ac_534), (false, .inl (1, [(6, 2, 0), (8, 37, 0)])), (false, am_4), (false, am_6)]
noncomputable def con_948 : Con2 := ((yX11_beats, cX11_beats, 1, (some .int)), (5, 114), ([(6, 0, 0)], gi_534, hc_112, []), [((1, 38, 0), gi_535, hq_509, [], [1])])
theorem hd_948 : con_948.1 = (yX11_beats, cX11_beats, 1, (some .int)) := rfl
theorem ck_RX11_222_947 : COK2 RX11 vwCl gTbl 222 0 con_947 := ⟨wd_916, wd_132, mh_X1_manOverAll, .inr (.inr ⟨rfl, wd_913, wd_914, wd_915, ⟨_, rfl, pd_X1_manOverAll⟩, 1, _, TX1, 2, rfl, rfl⟩)⟩
noncomputable def ct_948 : CTB2 := [(1, 219, 0, con_671, [0, 1, 2]), (11, 222, 0, con_947, [3, 2, 4, 5])]
noncomputable def cu_948 : List CUT2 := []
theorem ch_948 : staG tb_X11_beats 1 bt_RX11 [] ct_948 [] [] cu_948 10 con_948 = true := by decide +kernel
theorem cto_948 (l : Launch) : CTOK2 l RX11 vwCl gTbl ct_948 := ct2_cons (vl_671 l) ck_RX11_219_671 (ct2_cons (vl_947 l) ck_RX11_222_947 (ct2_nil))
theorem vl_948 (l : Launch) : Vld2 l vwCl gTbl con_948 := conR_ok3 gT_all (hd_948) rfl pn_RX11 tk_X11_beats bo_RX11 xo_RX11 (cto_948 l) ch_948 cut_nil
/-- RookHustingModel men -/
noncomputable def gi_536 : GI := jl_n [gp_297, gp_216]
noncomputable def gi_537 : GI := jl_n [gp_297, gp_146]
noncomputable def con_949 : Con2 := ((yX12_men, cX12_men, 1, (some .int)), (0, 0), ([(6, 0, 0)], gi_536, [ac_435, ac_436], []), [((1, 51, 0), gi_537, [(false, ac_435), (false, ac_436)], [], [1])])
theorem hd_949 : con_949.1 = (yX12_men, cX12_men, 1, (some .int)) := rfl
noncomputable def cu_949 : List CUT2 := []
theorem ch_949 : staG tb_X12_men 1 bt_RX12 [] ct_2 [] [] cu_949 7 con_949 = true := by decide +kernel
theorem vl_949 (l : Launch) : Vld2 l vwCl gTbl con_949 := conR_ok3 gT_all (hd_949) rfl pn_RX12 tk_X12_men bo_RX12 xo_RX12 (cto_2 l) ch_949 cut_nil
/-- RookHustingModel isOver -/
noncomputable def gi_538 : GI := jl_n [gp_163, gp_166]
noncomputable def con_950 : Con2 := ((yX12_isOver, cX12_isOver, 3, (some .boolean)), (2, 49), ([(6, 0, 0), (1, 1, 0), (1, 2, 0)], gi_303, [ac_439, ac_440], []), [((0, 0, 0), gi_538, [(false, ac_439), (false, ac_440)], [], [1]), ((0, 1, 0), gi_538, [(false, ac_439), (false, ac_440)], [], [1])])
theorem hd_950 : con_950.1 = (yX12_isOver, cX12_isOver, 3, (some .boolean)) := rfl
noncomputable def ct_950 : CTB2 := [(3, 287, 0, con_944, [0, 1]), (9, 287, 0, con_944, [0, 1])]
noncomputable def cu_950 : List CUT2 := []
theorem ch_950 : staG tb_X12_isOver 1 bt_RX12 [] ct_950 [] [] cu_950 14 con_950 = true := by decide +kernel
theorem cto_950 (l : Launch) : CTOK2 l RX12 vwCl gTbl ct_950 := ct2_cons (vl_944 l) ck_RX12_287_944 (ct2_cons (vl_944 l) ck_RX12_287_944 (ct2_nil))
theorem vl_950 (l : Launch) : Vld2 l vwCl gTbl con_950 := conR_ok3 gT_all (hd_950) rfl pn_RX12 tk_X12_isOver bo_RX12 xo_RX12 (cto_950 l) ch_950 cut_nil
/-- RookHustingModel beats -/
noncomputable def gi_539 : GI := jl_n [gp_164, jl_m 1 4]
noncomputable def con_951 : Con2 := ((yX12_beats, cX12_beats, 4, (some .int)), (3, 71), ([(6, 0, 0)], gi_298, [ac_435, ac_436], []), [((1, 69, 0), gi_539, [(false, ac_435), (false, ac_436)], [], [1])])
theorem hd_951 : con_951.1 = (yX12_beats, cX12_beats, 4, (some .int)) := rfl
theorem ck_RX12_290_950 : COK2 RX12 vwCl gTbl 290 0 con_950 := ⟨wd_1764, wd_137, mh_X12_isOver, .inr (.inr ⟨rfl, wd_1761, wd_1763, wd_84, ⟨_, rfl, pd_X12_isOver⟩, 12, _, TX12, 45, rfl, rfl⟩)⟩
theorem ck_RX12_95_949 : COK2 RX12 vwCl gTbl 95 0 con_949 := ⟨wd_1672, wd_137, mh_X12_men, .inr (.inr ⟨rfl, wd_1669, wd_1671, wd_69, ⟨_, rfl, pd_X12_men⟩, 12, _, TX12, 45, rfl, rfl⟩)⟩
noncomputable def ct_951 : CTB2 := [(1, 99, 0, con_678, [0, 1]), (14, 95, 0, con_659, [0, 1]), (26, 95, 0, con_949, [0, 1]), (44, 290, 0, con_950, [0, 1])]
noncomputable def gi_540 : GI := jl_n [jl_z 46, gp_204, jl_i 0 5]
noncomputable def gi_541 : GI := jl_n [gp_297, gp_218, jl_i 0 4, jl_i 0 1, jl_i 0 5]
noncomputable def cu_951 : List CUT2 := [((12, [lq 0 6 0, lq 1 1 70], [], gi_540, [(false, ac_435), (false, ac_436)]), [], ([(70, (-7))], 41)), ((24, [lq 0 6 0, lq 1 1 70, lq 2 1 71, lq 3 1 72], [], gi_541, [(false, ac_435), (false, ac_436)]), [], ([(70, (-7)), (72, (-1))], 40))]
theorem ch_951 : staG tb_X12_beats 1 bt_RX12 [] ct_951 [] [] cu_951 22 con_951 = true := by decide +kernel
theorem cc_951 : cu_951.all (cutG tb_X12_beats 1 bt_RX12 [] ct_951 [] [] cu_951 22 con_951) = true := by decide +kernel
theorem cto_951 (l : Launch) : CTOK2 l RX12 vwCl gTbl ct_951 := ct2_cons (vl_678 l) ck_RX12_99_678 (ct2_cons (vl_659 l) ck_RX12_95_659 (ct2_cons (vl_949 l) ck_RX12_95_949 (ct2_cons (vl_950 l) ck_RX12_290_950 (ct2_nil))))
theorem vl_951 (l : Launch) : Vld2 l vwCl gTbl con_951 := conR_ok3 gT_all (hd_951) rfl pn_RX12 tk_X12_beats bo_RX12 xo_RX12 (cto_951 l) ch_951 (cut_all cc_951)
/-- RookHusting$Election isRing -/
noncomputable def gi_542 : GI := jl_n [jl_z 1, jl_r 3 (jl_i 0 4), gp_196]
noncomputable def ac_535 : AC := .inl (4, jl_n [jl_8 13 7, jl_1 14 1, jl_8 19 5, jl_6 4 1, jl_8 22 2, jl_6 3 1])
noncomputable def hc_113 : List AC := [.inl (1, [(6, 1, 0), (8, 5, 0)]), ac_535, am_4, am_6]
noncomputable def gi_543 : GI := jl_n [jl_z 1, jl_r 3 (jl_i 0 4), gp_195, jl_z 10]
noncomputable def hq_510 : HP := [(false, .inl (1, [(6, 1, 0), (8, 5, 0)])), (false, ac_535), (false, am_4), (false, am_6)]
noncomputable def con_952 : Con2 := ((yX1_isRing, cX1_isRing, 4, (some .boolean)), (4, 91), ([(6, 0, 0), (1, 1, 0), (1, 2, 0), (1, 3, 0)], gi_542, hc_113, []), [((0, 0, 0), gi_543, hq_510, [], [1]), ((0, 1, 0), gi_543, hq_510, [], [1])])
theorem hd_952 : con_952.1 = (yX1_isRing, cX1_isRing, 4, (some .boolean)) := rfl
noncomputable def ct_952 : CTB2 := [(3, 78, 0, con_946, [0, 1, 2, 3]), (12, 78, 0, con_946, [0, 1, 2, 3]), (21, 78, 0, con_946, [0, 1, 2, 3])]
noncomputable def cu_952 : List CUT2 := []
theorem ch_952 : staG tb_X1_isRing 1 bt_RX1 [] ct_952 [] [] cu_952 20 con_952 = true := by decide +kernel
theorem cto_952 (l : Launch) : CTOK2 l RX1 vwCl gTbl ct_952 := ct2_cons (vl_946 l) ck_RX1_78_946 (ct2_cons (vl_946 l) ck_RX1_78_946 (ct2_cons (vl_946 l) ck_RX1_78_946 (ct2_nil)))
theorem vl_952 (l : Launch) : Vld2 l vwCl gTbl con_952 := conR_ok3 gT_all (hd_952) rfl pn_RX1 tk_X1_isRing bo_RX1 xo_RX1 (cto_952 l) ch_952 cut_nil
/-- RookHusting$Election countRings -/
noncomputable def gi_544 : GI := jl_n [jl_z 9, gp_214, jl_t]
noncomputable def con_953 : Con2 := ((yX1_countRings, cX1_countRings, 5, (some .int)), (5, 114), ([(6, 0, 0)], gi_530, hc_111, []), [((1, 20, 0), gi_544, hq_508, [], [1])])
theorem hd_953 : con_953.1 = (yX1_countRings, cX1_countRings, 5, (some .int)) := rfl
theorem ck_RX1_81_952 : COK2 RX1 vwCl gTbl 81 0 con_952 := ⟨wd_933, wd_132, mh_X1_isRing, .inr (.inr ⟨rfl, wd_930, wd_932, wd_26, ⟨_, rfl, pd_X1_isRing⟩, 1, _, TX1, 2, rfl, rfl⟩)⟩
noncomputable def ct_953 : CTB2 := [(52, 81, 0, con_952, [0, 1, 2, 3]), (63, 81, 0, con_952, [0, 1, 2, 3])]
noncomputable def gi_545 : GI := jl_n [jl_z 9, gp_12, jl_z 10, gp_207]
noncomputable def gi_546 : GI := jl_n [jl_z 9, jl_i 1 5, jl_i 0 7, jl_z 10, gp_298, jl_i 1 5]
noncomputable def gi_547 : GI := jl_n [jl_z 9, jl_i 2 5, jl_i 0 7, jl_z 10, gp_298, jl_i 1 4, jl_i 2 5]
noncomputable def cu_953 : List CUT2 := [((4, [lq 0 6 0, lq 1 1 21, lq 2 1 22], [], gi_545, hq_508), [], ([(22, (-26))], 155)), ((19, [lq 0 6 0, lq 1 1 21, lq 2 1 22, lq 3 1 23], [], gi_546, hq_508), [], ([(22, (-26)), (23, (-5))], 159)), ((35, [lq 0 6 0, lq 1 1 21, lq 2 1 22, lq 3 1 23, lq 4 1 24], [], gi_547, hq_508), [], ([(22, (-26)), (23, (-5)), (24, (-1))], 160))]
theorem ch_953 : staG tb_X1_countRings 1 bt_RX1 [] ct_953 [] [] cu_953 23 con_953 = true := by decide +kernel
theorem cc_953 : cu_953.all (cutG tb_X1_countRings 1 bt_RX1 [] ct_953 [] [] cu_953 23 con_953) = true := by decide +kernel
theorem cto_953 (l : Launch) : CTOK2 l RX1 vwCl gTbl ct_953 := ct2_cons (vl_952 l) ck_RX1_81_952 (ct2_cons (vl_952 l) ck_RX1_81_952 (ct2_nil))
theorem vl_953 (l : Launch) : Vld2 l vwCl gTbl con_953 := conR_ok3 gT_all (hd_953) rfl pn_RX1 tk_X1_countRings bo_RX1 xo_RX1 (cto_953 l) ch_953 (cut_all cc_953)
/-- RookHusting rings -/
noncomputable def gi_548 : GI := jl_n [jl_z 19, gp_199, jl_t]
noncomputable def con_954 : Con2 := ((yX11_rings, cX11_rings, 1, (some .int)), (6, 138), ([(6, 0, 0)], gi_534, hc_112, []), [((1, 38, 0), gi_548, hq_509, [], [1])])
theorem hd_954 : con_954.1 = (yX11_rings, cX11_rings, 1, (some .int)) := rfl
theorem ck_RX11_226_953 : COK2 RX11 vwCl gTbl 226 0 con_953 := ⟨wd_929, wd_132, mh_X1_countRings, .inr (.inr ⟨rfl, wd_926, wd_927, wd_928, ⟨_, rfl, pd_X1_countRings⟩, 1, _, TX1, 2, rfl, rfl⟩)⟩
noncomputable def ct_954 : CTB2 := [(1, 219, 0, con_671, [0, 1, 2]), (11, 226, 0, con_953, [3, 2, 4, 5])]
noncomputable def cu_954 : List CUT2 := []
theorem ch_954 : staG tb_X11_rings 1 bt_RX11 [] ct_954 [] [] cu_954 10 con_954 = true := by decide +kernel
theorem cto_954 (l : Launch) : CTOK2 l RX11 vwCl gTbl ct_954 := ct2_cons (vl_671 l) ck_RX11_219_671 (ct2_cons (vl_953 l) ck_RX11_226_953 (ct2_nil))
theorem vl_954 (l : Launch) : Vld2 l vwCl gTbl con_954 := conR_ok3 gT_all (hd_954) rfl pn_RX11 tk_X11_rings bo_RX11 xo_RX11 (cto_954 l) ch_954 cut_nil
/-- RookHustingModel men -/
noncomputable def gi_549 : GI := jl_n [jl_z 46, gp_111, jl_i 2 5, gp_216]
noncomputable def gi_550 : GI := jl_n [jl_z 46, gp_111, jl_i 2 5, gp_146]
noncomputable def con_955 : Con2 := ((yX12_men, cX12_men, 1, (some .int)), (0, 0), ([(6, 0, 0)], gi_549, [ac_435, ac_436], []), [((1, 51, 0), gi_550, [(false, ac_435), (false, ac_436)], [], [1])])
theorem hd_955 : con_955.1 = (yX12_men, cX12_men, 1, (some .int)) := rfl
noncomputable def cu_955 : List CUT2 := []
theorem ch_955 : staG tb_X12_men 1 bt_RX12 [] ct_2 [] [] cu_955 7 con_955 = true := by decide +kernel
theorem vl_955 (l : Launch) : Vld2 l vwCl gTbl con_955 := conR_ok3 gT_all (hd_955) rfl pn_RX12 tk_X12_men bo_RX12 xo_RX12 (cto_2 l) ch_955 cut_nil
/-- RookHustingModel isRing -/
noncomputable def gi_551 : GI := jl_n [gp_198, gp_165]
noncomputable def gi_552 : GI := jl_n [gp_198, gp_166]
noncomputable def con_956 : Con2 := ((yX12_isRing, cX12_isRing, 4, (some .boolean)), (3, 71), ([(6, 0, 0), (1, 1, 0), (1, 2, 0), (1, 3, 0)], gi_551, [ac_531, ac_461], []), [((0, 0, 0), gi_552, [(false, ac_531), (false, ac_461)], [], [1]), ((0, 1, 0), gi_552, [(false, ac_531), (false, ac_461)], [], [1])])
theorem hd_956 : con_956.1 = (yX12_isRing, cX12_isRing, 4, (some .boolean)) := rfl
noncomputable def ct_956 : CTB2 := [(3, 290, 0, con_950, [0, 1]), (12, 290, 0, con_950, [0, 1]), (21, 290, 0, con_950, [0, 1]), (30, 290, 0, con_950, [0, 1]), (39, 290, 0, con_950, [0, 1]), (48, 290, 0, con_950, [0, 1])]
noncomputable def cu_956 : List CUT2 := []
theorem ch_956 : staG tb_X12_isRing 1 bt_RX12 [] ct_956 [] [] cu_956 35 con_956 = true := by decide +kernel
theorem cto_956 (l : Launch) : CTOK2 l RX12 vwCl gTbl ct_956 := ct2_cons (vl_950 l) ck_RX12_290_950 (ct2_cons (vl_950 l) ck_RX12_290_950 (ct2_cons (vl_950 l) ck_RX12_290_950 (ct2_cons (vl_950 l) ck_RX12_290_950 (ct2_cons (vl_950 l) ck_RX12_290_950 (ct2_cons (vl_950 l) ck_RX12_290_950 (ct2_nil))))))
theorem vl_956 (l : Launch) : Vld2 l vwCl gTbl con_956 := conR_ok3 gT_all (hd_956) rfl pn_RX12 tk_X12_isRing bo_RX12 xo_RX12 (cto_956 l) ch_956 cut_nil
/-- RookHustingModel rings -/
noncomputable def gi_553 : GI := jl_n [gp_164, jl_t]
noncomputable def con_957 : Con2 := ((yX12_rings, cX12_rings, 5, (some .int)), (4, 94), ([(6, 0, 0)], gi_298, [ac_435, ac_436], []), [((1, 69, 0), gi_553, [(false, ac_435), (false, ac_436)], [], [1])])
theorem hd_957 : con_957.1 = (yX12_rings, cX12_rings, 5, (some .int)) := rfl
theorem ck_RX12_294_956 : COK2 RX12 vwCl gTbl 294 0 con_956 := ⟨wd_1772, wd_137, mh_X12_isRing, .inr (.inr ⟨rfl, wd_1769, wd_1771, wd_85, ⟨_, rfl, pd_X12_isRing⟩, 12, _, TX12, 45, rfl, rfl⟩)⟩
theorem ck_RX12_95_955 : COK2 RX12 vwCl gTbl 95 0 con_955 := ⟨wd_1672, wd_137, mh_X12_men, .inr (.inr ⟨rfl, wd_1669, wd_1671, wd_69, ⟨_, rfl, pd_X12_men⟩, 12, _, TX12, 45, rfl, rfl⟩)⟩
noncomputable def ct_957 : CTB2 := [(1, 99, 0, con_678, [0, 1]), (16, 95, 0, con_659, [0, 1]), (28, 95, 0, con_949, [0, 1]), (42, 95, 0, con_955, [0, 1]), (54, 294, 0, con_956, [0, 1])]
noncomputable def gi_554 : GI := jl_n [jl_z 46, gp_204, gp_207]
noncomputable def gi_555 : GI := jl_n [gp_297, gp_218, gp_298, jl_i 1 5]
noncomputable def gi_556 : GI := jl_n [jl_z 46, gp_111, jl_i 2 5, gp_218, gp_298, jl_i 1 4, jl_i 2 5]
noncomputable def cu_957 : List CUT2 := [((14, [lq 0 6 0, lq 1 1 70, lq 2 1 71], [], gi_554, [(false, ac_435), (false, ac_436)]), [], ([(71, (-26))], 155)), ((26, [lq 0 6 0, lq 1 1 70, lq 2 1 71, lq 3 1 72], [], gi_555, [(false, ac_435), (false, ac_436)]), [], ([(71, (-26)), (72, (-5))], 159)), ((39, [lq 0 6 0, lq 1 1 70, lq 2 1 71, lq 3 1 72, lq 4 1 73], [], gi_556, [(false, ac_435), (false, ac_436)]), [], ([(71, (-26)), (72, (-5)), (73, (-1))], 160))]
theorem ch_957 : staG tb_X12_rings 1 bt_RX12 [] ct_957 [] [] cu_957 20 con_957 = true := by decide +kernel
theorem cc_957 : cu_957.all (cutG tb_X12_rings 1 bt_RX12 [] ct_957 [] [] cu_957 20 con_957) = true := by decide +kernel
theorem cto_957 (l : Launch) : CTOK2 l RX12 vwCl gTbl ct_957 := ct2_cons (vl_678 l) ck_RX12_99_678 (ct2_cons (vl_659 l) ck_RX12_95_659 (ct2_cons (vl_949 l) ck_RX12_95_949 (ct2_cons (vl_955 l) ck_RX12_95_955 (ct2_cons (vl_956 l) ck_RX12_294_956 (ct2_nil)))))
theorem vl_957 (l : Launch) : Vld2 l vwCl gTbl con_957 := conR_ok3 gT_all (hd_957) rfl pn_RX12 tk_X12_rings bo_RX12 xo_RX12 (cto_957 l) ch_957 (cut_all cc_957)
/-- RookHusting$Election hatsOf -/
noncomputable def gi_557 : GI := jl_n [gp_7, gp_196]
noncomputable def ac_536 : AC := .inl (4, jl_n [jl_8 11 7, jl_1 12 1, vp_89])
noncomputable def hc_114 : List AC := [.inl (1, [(6, 1, 0), (8, 3, 0)]), ac_536, am_6]
noncomputable def gi_558 : GI := jl_n [gp_7, gp_197]
noncomputable def hq_511 : HP := [(false, .inl (1, [(6, 1, 0), (8, 3, 0)])), (false, ac_536), (false, am_6)]
noncomputable def con_958 : Con2 := ((yX1_hatsOf, cX1_hatsOf, 4, (some .int)), (1, 21), ([(6, 0, 0), (1, 1, 0)], gi_557, hc_114, []), [((1, 21, 0), gi_558, hq_511, [], [1])])
theorem hd_958 : con_958.1 = (yX1_hatsOf, cX1_hatsOf, 4, (some .int)) := rfl
theorem ck_RX1_45_899 : COK2 RX1 vwCl gTbl 45 2 con_899 := ⟨wd_682, wd_125, mh_X11_hasBit, .inr (.inl ⟨rfl, by decide +kernel, wd_681, pd_X11_hasBit⟩)⟩
noncomputable def ct_958 : CTB2 := [(17, 45, 2, con_899, [])]
noncomputable def gi_559 : GI := jl_n [gp_7, gp_195, jl_z 11, gp_212]
noncomputable def cu_958 : List CUT2 := [((4, [lq 0 6 0, lq 1 1 1, lq 2 1 23, lq 3 1 24], [], gi_559, hq_511), [], ([(24, (-1))], 7))]
theorem ch_958 : staG tb_X1_hatsOf 1 bt_RX1 [] ct_958 [] [] cu_958 22 con_958 = true := by decide +kernel
theorem cc_958 : cu_958.all (cutG tb_X1_hatsOf 1 bt_RX1 [] ct_958 [] [] cu_958 22 con_958) = true := by decide +kernel
theorem cto_958 (l : Launch) : CTOK2 l RX1 vwCl gTbl ct_958 := ct2_cons (vl_899 l) ck_RX1_45_899 (ct2_nil)
theorem vl_958 (l : Launch) : Vld2 l vwCl gTbl con_958 := conR_ok3 gT_all (hd_958) rfl pn_RX1 tk_X1_hatsOf bo_RX1 xo_RX1 (cto_958 l) ch_958 (cut_all cc_958)
/-- RookHusting$Election winnerOfAll -/
noncomputable def gi_560 : GI := jl_n [gp_7, gp_302]
noncomputable def ac_537 : AC := .inl (4, jl_n [jl_8 6 2, jl_1 7 1, jl_8 10 3, jl_1 12 2, jl_8 17 5, jl_6 4 1, jl_8 20 2, jl_6 3 1])
noncomputable def hc_115 : List AC := [.inl (1, [(6, 1, 0), (8, 3, 0)]), ac_537, am_4, am_6]
noncomputable def gi_561 : GI := jl_n [gp_7, gp_302, jl_m 0 4]
noncomputable def hq_512 : HP := [(false, .inl (1, [(6, 1, 0), (8, 3, 0)])), (false, ac_537), (false, am_4), (false, am_6)]
noncomputable def con_959 : Con2 := ((yX1_winnerOfAll, cX1_winnerOfAll, 2, (some .int)), (4, 106), ([(6, 0, 0), (1, 1, 0)], gi_560, hc_115, []), [((1, 21, 0), gi_561, hq_512, [], [1])])
theorem hd_959 : con_959.1 = (yX1_winnerOfAll, cX1_winnerOfAll, 2, (some .int)) := rfl
noncomputable def ct_959 : CTB2 := [(9, 57, 0, con_862, [0, 1]), (20, 64, 0, con_699, [0, 2, 1, 3])]
noncomputable def cu_959 : List CUT2 := []
theorem ch_959 : staG tb_X1_winnerOfAll 1 bt_RX1 [] ct_959 [] [] cu_959 14 con_959 = true := by decide +kernel
theorem cto_959 (l : Launch) : CTOK2 l RX1 vwCl gTbl ct_959 := ct2_cons (vl_862 l) ck_RX1_57_862 (ct2_cons (vl_699 l) ck_RX1_64_699 (ct2_nil))
theorem vl_959 (l : Launch) : Vld2 l vwCl gTbl con_959 := conR_ok3 gT_all (hd_959) rfl pn_RX1 tk_X1_winnerOfAll bo_RX1 xo_RX1 (cto_959 l) ch_959 cut_nil
/-- RookHusting$Election fewestAway -/
noncomputable def gi_562 : GI := jl_n [gp_52, gp_302]
noncomputable def ac_538 : AC := .inl (4, jl_n [jl_8 6 2, jl_1 7 1, jl_8 10 3, jl_1 12 2, vp_88, jl_8 20 2, jl_6 4 1])
noncomputable def hc_116 : List AC := [.inl (1, [(6, 1, 0), (8, 3, 0)]), ac_538, am_6, am_4]
noncomputable def gi_563 : GI := jl_n [gp_52, gp_302, jl_t]
noncomputable def hq_513 : HP := [(false, .inl (1, [(6, 1, 0), (8, 3, 0)])), (false, ac_538), (false, am_6), (false, am_4)]
noncomputable def con_960 : Con2 := ((yX1_fewestAway, cX1_fewestAway, 5, (some .int)), (5, 127), ([(6, 0, 0), (1, 1, 0)], gi_562, hc_116, []), [((1, 21, 0), gi_563, hq_513, [], [1])])
theorem hd_960 : con_960.1 = (yX1_fewestAway, cX1_fewestAway, 5, (some .int)) := rfl
theorem ck_RX1_87_959 : COK2 RX1 vwCl gTbl 87 0 con_959 := ⟨wd_949, wd_132, mh_X1_winnerOfAll, .inr (.inr ⟨rfl, wd_946, wd_948, wd_28, ⟨_, rfl, pd_X1_winnerOfAll⟩, 1, _, TX1, 2, rfl, rfl⟩)⟩
theorem ck_RX1_84_958 : COK2 RX1 vwCl gTbl 84 0 con_958 := ⟨wd_945, wd_132, mh_X1_hatsOf, .inr (.inr ⟨rfl, wd_942, wd_944, wd_27, ⟨_, rfl, pd_X1_hatsOf⟩, 1, _, TX1, 2, rfl, rfl⟩)⟩
noncomputable def ct_960 : CTB2 := [(19, 84, 0, con_958, [0, 1, 2]), (37, 87, 0, con_959, [0, 1, 3, 2])]
noncomputable def gi_564 : GI := jl_n [gp_52, gp_304, jl_t, jl_i 0 128]
noncomputable def cu_960 : List CUT2 := [((4, [lq 0 6 0, lq 1 1 1, lq 2 1 23, lq 3 1 24], [], gi_564, hq_513), [], ([(24, (-1))], 128))]
theorem ch_960 : staG tb_X1_fewestAway 1 bt_RX1 [] ct_960 [] [] cu_960 29 con_960 = true := by decide +kernel
theorem cc_960 : cu_960.all (cutG tb_X1_fewestAway 1 bt_RX1 [] ct_960 [] [] cu_960 29 con_960) = true := by decide +kernel
theorem cto_960 (l : Launch) : CTOK2 l RX1 vwCl gTbl ct_960 := ct2_cons (vl_958 l) ck_RX1_84_958 (ct2_cons (vl_959 l) ck_RX1_87_959 (ct2_nil))
theorem vl_960 (l : Launch) : Vld2 l vwCl gTbl con_960 := conR_ok3 gT_all (hd_960) rfl pn_RX1 tk_X1_fewestAway bo_RX1 xo_RX1 (cto_960 l) ch_960 (cut_all cc_960)
/-- RookHusting least -/
noncomputable def gi_565 : GI := jl_n [gp_229, gp_303]
noncomputable def ac_539 : AC := .inl (11, jl_n [vp_60, jl_6 4 1, jl_8 18 10])
noncomputable def ac_540 : AC := .inl (4, jl_n [vp_61, jl_8 26 3, jl_1 28 2, jl_8 33 5, jl_6 5 1, jl_8 36 2, jl_6 6 1])
noncomputable def hc_117 : List AC := [ac_539, .inl (9, [(6, 2, 0), (8, 19, 0)]), ac_540, .inl (1, [(6, 2, 0), (8, 38, 0)]), am_6, am_4]
noncomputable def gi_566 : GI := jl_n [gp_229, gp_303, jl_t]
noncomputable def hq_514 : HP := [(false, ac_539), (false, .inl (9, [(6, 2, 0), (8, 19, 0)])), (false, ac_540), (false, .inl (1, [(6, 2, 0), (8, 38, 0)])), (false, am_6), (false, am_4)]
noncomputable def con_961 : Con2 := ((yX11_least, cX11_least, 2, (some .int)), (6, 151), ([(6, 0, 0), (1, 1, 0)], gi_565, hc_117, []), [((1, 39, 0), gi_566, hq_514, [], [1])])
theorem hd_961 : con_961.1 = (yX11_least, cX11_least, 2, (some .int)) := rfl
theorem ck_RX11_229_960 : COK2 RX11 vwCl gTbl 229 0 con_960 := ⟨wd_941, wd_132, mh_X1_fewestAway, .inr (.inr ⟨rfl, wd_938, wd_939, wd_940, ⟨_, rfl, pd_X1_fewestAway⟩, 1, _, TX1, 2, rfl, rfl⟩)⟩
noncomputable def ct_961 : CTB2 := [(2, 156, 0, con_657, [0, 1, 2]), (13, 229, 0, con_960, [3, 2, 4, 5])]
noncomputable def cu_961 : List CUT2 := []
theorem ch_961 : staG tb_X11_least 1 bt_RX11 [] ct_961 [] [] cu_961 12 con_961 = true := by decide +kernel
theorem cto_961 (l : Launch) : CTOK2 l RX11 vwCl gTbl ct_961 := ct2_cons (vl_657 l) ck_RX11_156_657 (ct2_cons (vl_960 l) ck_RX11_229_960 (ct2_nil))
theorem vl_961 (l : Launch) : Vld2 l vwCl gTbl con_961 := conR_ok3 gT_all (hd_961) rfl pn_RX11 tk_X11_least bo_RX11 xo_RX11 (cto_961 l) ch_961 cut_nil
/-- RookHustingModel hatsIn -/
noncomputable def gi_567 : GI := jl_n [gp_179, jl_t]
noncomputable def con_962 : Con2 := ((yX12_hatsIn, cX12_hatsIn, 4, (some .int)), (1, 21), ([(6, 0, 0), (1, 1, 0)], gi_316, [ac_437, ac_438], []), [((1, 70, 0), gi_567, [(false, ac_437), (false, ac_438)], [], [1])])
theorem hd_962 : con_962.1 = (yX12_hatsIn, cX12_hatsIn, 4, (some .int)) := rfl
noncomputable def ct_962 : CTB2 := [(18, 199, 1, con_394, []), (27, 243, 0, con_666, [0, 1])]
noncomputable def gi_568 : GI := jl_n [gp_7, gp_292, jl_z 16, gp_212]
noncomputable def cu_962 : List CUT2 := [((4, [lq 0 6 0, lq 1 1 1, lq 2 1 72, lq 3 1 73], [], gi_568, [(false, ac_437), (false, ac_438)]), [], ([(73, (-1))], 7))]
theorem ch_962 : staG tb_X12_hatsIn 1 bt_RX12 [] ct_962 [] [] cu_962 23 con_962 = true := by decide +kernel
theorem cc_962 : cu_962.all (cutG tb_X12_hatsIn 1 bt_RX12 [] ct_962 [] [] cu_962 23 con_962) = true := by decide +kernel
theorem cto_962 (l : Launch) : CTOK2 l RX12 vwCl gTbl ct_962 := ct2_cons (vl_394 l) ck_RX12_199_394 (ct2_cons (vl_666 l) ck_RX12_243_666 (ct2_nil))
theorem vl_962 (l : Launch) : Vld2 l vwCl gTbl con_962 := conR_ok3 gT_all (hd_962) rfl pn_RX12 tk_X12_hatsIn bo_RX12 xo_RX12 (cto_962 l) ch_962 (cut_all cc_962)
/-- RookHustingModel least -/
noncomputable def hc_118 : List AC := [ac_469, ac_438, am_8, am_5]
noncomputable def gi_569 : GI := jl_n [gp_240, gp_305]
noncomputable def ac_541 : AC := .inl (12, jl_n [vp_65, jl_8 47 27])
noncomputable def hq_515 : HP := [(true, ac_541), (false, ac_438), (true, am_8), (true, am_5)]
noncomputable def con_963 : Con2 := ((yX12_least, cX12_least, 3, (some .int)), (5, 121), ([(6, 0, 0), (1, 1, 0)], gi_431, hc_118, []), [((1, 70, 0), gi_569, hq_515, [], tg_1)])
theorem hd_963 : con_963.1 = (yX12_least, cX12_least, 3, (some .int)) := rfl
theorem ck_RX12_298_962 : COK2 RX12 vwCl gTbl 298 0 con_962 := ⟨wd_1781, wd_137, mh_X12_hatsIn, .inr (.inr ⟨rfl, wd_1778, wd_1780, wd_86, ⟨_, rfl, pd_X12_hatsIn⟩, 12, _, TX12, 45, rfl, rfl⟩)⟩
noncomputable def ct_963 : CTB2 := [(2, 236, 0, con_660, [0, 1]), (12, 249, 0, con_669, [0, 1, 2, 3]), (45, 298, 0, con_962, [0, 1]), (54, 269, 0, con_702, [0, 1]), (54, 269, 0, con_797, [0, 1]), (54, 269, 0, con_828, [0, 1]), (54, 269, 0, con_844, [0, 1]), (54, 269, 0, con_852, [0, 1]), (63, 277, 0, con_763, [0, 1, 2, 3]), (63, 277, 0, con_811, [0, 1, 2, 3]), (63, 277, 0, con_835, [0, 1, 2, 3]), (63, 277, 0, con_847, [0, 1, 2, 3]), (63, 277, 0, con_854, [0, 1, 2, 3]), (75, 298, 0, con_962, [0, 1])]
noncomputable def gi_570 : GI := jl_n [gp_306, jl_i 5 5, gp_307]
noncomputable def ac_542 : AC := .inl (12, jl_n [vp_58, jl_1 91 1, jl_8 47 27])
noncomputable def hq_516 : HP := [(true, ac_542), (false, ac_438), (true, am_8), (true, am_5)]
noncomputable def gi_571 : GI := jl_n [gp_306, jl_i 4 4, gp_307]
noncomputable def gi_572 : GI := jl_n [gp_306, jl_i 3 3, gp_307]
noncomputable def gi_573 : GI := jl_n [gp_306, jl_i 2 2, gp_307]
noncomputable def gi_574 : GI := jl_n [gp_306, jl_i 1 1, gp_307]
noncomputable def cu_963 : List CUT2 := [((24, [lq 0 6 0, lq 1 1 1, lq 2 1 72], [], gi_570, hq_516), [], ([(90, (-1))], 128)), ((24, [lq 0 6 0, lq 1 1 1, lq 2 1 72], [], gi_571, hq_516), [], ([(90, (-1))], 128)), ((24, [lq 0 6 0, lq 1 1 1, lq 2 1 72], [], gi_572, hq_516), [], ([(90, (-1))], 128)), ((24, [lq 0 6 0, lq 1 1 1, lq 2 1 72], [], gi_573, hq_516), [], ([(90, (-1))], 128)), ((24, [lq 0 6 0, lq 1 1 1, lq 2 1 72], [], gi_574, hq_516), [], ([(90, (-1))], 128))]
theorem ch_963 : staG tb_X12_least 1 bt_RX12 [] ct_963 [(11, [(1, (2, 1, 5), 0, 0)])] [] cu_963 40 con_963 = true := by decide +kernel
theorem cc_963 : cu_963.all (cutG tb_X12_least 1 bt_RX12 [] ct_963 [(11, [(1, (2, 1, 5), 0, 0)])] [] cu_963 40 con_963) = true := by decide +kernel
theorem cto_963 (l : Launch) : CTOK2 l RX12 vwCl gTbl ct_963 := ct2_cons (vl_660 l) ck_RX12_236_660 (ct2_cons (vl_669 l) ck_RX12_249_669 (ct2_cons (vl_962 l) ck_RX12_298_962 (ct2_cons (vl_702 l) ck_RX12_269_702 (ct2_cons (vl_797 l) ck_RX12_269_797 (ct2_cons (vl_828 l) ck_RX12_269_828 (ct2_cons (vl_844 l) ck_RX12_269_844 (ct2_cons (vl_852 l) ck_RX12_269_852 (ct2_cons (vl_763 l) ck_RX12_277_763 (ct2_cons (vl_811 l) ck_RX12_277_811 (ct2_cons (vl_835 l) ck_RX12_277_835 (ct2_cons (vl_847 l) ck_RX12_277_847 (ct2_cons (vl_854 l) ck_RX12_277_854 (ct2_cons (vl_962 l) ck_RX12_298_962 (ct2_nil))))))))))))))
theorem vl_963 (l : Launch) : Vld2 l vwCl gTbl con_963 := conR_ok3 gT_all (hd_963) rfl pn_RX12 tk_X12_least bo_RX12 xo_RX12 (cto_963 l) ch_963 (cut_all cc_963)
/-- RookHusting$Election hatsFor -/
noncomputable def ac_543 : AC := .inl (4, jl_n [jl_8 15 7, jl_1 16 1, jl_8 21 5, jl_6 4 1, jl_8 25 3])
noncomputable def hc_119 : List AC := [.inl (1, [(6, 2, 0), (6, 1, 0)]), am_4, ac_543, am_6]
noncomputable def hq_517 : HP := [(false, .inl (1, [(6, 2, 0), (6, 1, 0)])), (false, am_4), (false, ac_543), (false, am_6)]
noncomputable def con_964 : Con2 := ((yX1_hatsFor, cX1_hatsFor, 13, (some .int)), (1, 20), ([(6, 0, 0), (6, 1, 0), (1, 2, 0), (1, 3, 0), (1, 4, 0), (1, 5, 0)], gi_342, hc_119, []), [((1, 25, 0), gi_343, hq_517, [], [1])])
theorem hd_964 : con_964.1 = (yX1_hatsFor, cX1_hatsFor, 13, (some .int)) := rfl
noncomputable def cu_964 : List CUT2 := [((26, [lq 0 6 0, lq 1 6 1, lq 2 1 2, lq 3 1 28, lq 4 1 4, lq 5 1 5, lq 6 1 31, lq 7 1 32, lq 8 1 33, lq 9 1 34], [], gi_344, hq_517), [], ([(34, (-1))], 7))]
theorem ch_964 : staG tb_X1_hatsFor 1 bt_RX1 [] ct_676 [] [] cu_964 54 con_964 = true := by decide +kernel
theorem cc_964 : cu_964.all (cutG tb_X1_hatsFor 1 bt_RX1 [] ct_676 [] [] cu_964 54 con_964) = true := by decide +kernel
theorem vl_964 (l : Launch) : Vld2 l vwCl gTbl con_964 := conR_ok3 gT_all (hd_964) rfl pn_RX1 tk_X1_hatsFor bo_RX1 xo_RX1 (cto_676 l) ch_964 (cut_all cc_964)
/-- RookHusting$Election firstOfMost -/
noncomputable def ac_544 : AC := .inl (4, jl_n [jl_8 13 6, jl_1 15 2, jl_8 20 5, jl_6 4 1, jl_8 24 3])
noncomputable def hc_120 : List AC := [.inl (1, [(6, 2, 0), (6, 1, 0)]), am_4, ac_544, am_6]
noncomputable def hq_518 : HP := [(false, .inl (1, [(6, 2, 0), (6, 1, 0)])), (false, am_4), (false, ac_544), (false, am_6)]
noncomputable def con_965 : Con2 := ((yX1_firstOfMost, cX1_firstOfMost, 9, (some .int)), (2, 52), ([(6, 0, 0), (6, 1, 0), (1, 2, 0), (1, 3, 0), (1, 4, 0)], gi_373, hc_120, []), [((1, 24, 0), gi_374, hq_518, [], [1])])
theorem hd_965 : con_965.1 = (yX1_firstOfMost, cX1_firstOfMost, 9, (some .int)) := rfl
theorem ck_RX1_49_964 : COK2 RX1 vwCl gTbl 49 0 con_964 := ⟨wd_803, wd_132, mh_X1_hatsFor, .inr (.inr ⟨rfl, wd_824, wd_801, wd_802, ⟨_, rfl, pd_X1_hatsFor⟩, 1, _, TX1, 2, rfl, rfl⟩)⟩
noncomputable def ct_965 : CTB2 := [(24, 45, 2, con_696, []), (38, 49, 0, con_964, [0, 1, 2, 3])]
noncomputable def cu_965 : List CUT2 := [((9, [lq 0 6 0, lq 1 6 1, lq 2 1 2, lq 3 1 3, lq 4 1 4, lq 5 1 29, lq 6 1 30, lq 7 1 31], [], gi_375, hq_518), [], ([(31, (-1))], 5))]
theorem ch_965 : staG tb_X1_firstOfMost 1 bt_RX1 [] ct_965 [] [] cu_965 29 con_965 = true := by decide +kernel
theorem cc_965 : cu_965.all (cutG tb_X1_firstOfMost 1 bt_RX1 [] ct_965 [] [] cu_965 29 con_965) = true := by decide +kernel
theorem cto_965 (l : Launch) : CTOK2 l RX1 vwCl gTbl ct_965 := ct2_cons (vl_696 l) ck_RX1_45_696 (ct2_cons (vl_964 l) ck_RX1_49_964 (ct2_nil))
theorem vl_965 (l : Launch) : Vld2 l vwCl gTbl con_965 := conR_ok3 gT_all (hd_965) rfl pn_RX1 tk_X1_firstOfMost bo_RX1 xo_RX1 (cto_965 l) ch_965 (cut_all cc_965)
/-- RookHusting$Election lastOfFewest -/
noncomputable def ac_545 : AC := .inl (4, jl_n [jl_8 12 6, jl_1 14 2, jl_8 19 5, jl_6 4 1, jl_8 23 3])
noncomputable def hc_121 : List AC := [.inl (1, [(6, 2, 0), (6, 1, 0)]), am_4, ac_545, am_6]
noncomputable def hq_519 : HP := [(false, .inl (1, [(6, 2, 0), (6, 1, 0)])), (false, am_4), (false, ac_545), (false, am_6)]
noncomputable def con_966 : Con2 := ((yX1_lastOfFewest, cX1_lastOfFewest, 8, (some .int)), (2, 52), ([(6, 0, 0), (6, 1, 0), (1, 2, 0), (1, 3, 0)], gi_376, hc_121, []), [((1, 23, 0), gi_377, hq_519, [], [1])])
theorem hd_966 : con_966.1 = (yX1_lastOfFewest, cX1_lastOfFewest, 8, (some .int)) := rfl
noncomputable def ct_966 : CTB2 := [(25, 45, 2, con_696, []), (38, 49, 0, con_964, [0, 1, 2, 3])]
noncomputable def cu_966 : List CUT2 := [((10, [lq 0 6 0, lq 1 6 1, lq 2 1 2, lq 3 1 3, lq 4 1 27, lq 5 1 28, lq 6 1 29], [], gi_378, hq_519), [], ([(29, (-1))], 5))]
theorem ch_966 : staG tb_X1_lastOfFewest 1 bt_RX1 [] ct_966 [] [] cu_966 29 con_966 = true := by decide +kernel
theorem cc_966 : cu_966.all (cutG tb_X1_lastOfFewest 1 bt_RX1 [] ct_966 [] [] cu_966 29 con_966) = true := by decide +kernel
theorem cto_966 (l : Launch) : CTOK2 l RX1 vwCl gTbl ct_966 := ct2_cons (vl_696 l) ck_RX1_45_696 (ct2_cons (vl_964 l) ck_RX1_49_964 (ct2_nil))
theorem vl_966 (l : Launch) : Vld2 l vwCl gTbl con_966 := conR_ok3 gT_all (hd_966) rfl pn_RX1 tk_X1_lastOfFewest bo_RX1 xo_RX1 (cto_966 l) ch_966 (cut_all cc_966)
/-- RookHusting$Election winner -/
noncomputable def con_967 : Con2 := ((yX1_winner, cX1_winner, 7, (some .int)), (3, 80), ([(6, 0, 0), (6, 1, 0), (1, 2, 0), (1, 3, 0), (1, 4, 0)], gi_373, hc_120, []), [((1, 24, 0), gi_374, hq_518, [], [1])])
theorem hd_967 : con_967.1 = (yX1_winner, cX1_winner, 7, (some .int)) := rfl
theorem ck_RX1_38_965 : COK2 RX1 vwCl gTbl 38 0 con_965 := ⟨wd_828, wd_132, mh_X1_firstOfMost, .inr (.inr ⟨rfl, wd_825, wd_827, wd_17, ⟨_, rfl, pd_X1_firstOfMost⟩, 1, _, TX1, 2, rfl, rfl⟩)⟩
theorem ck_RX1_34_966 : COK2 RX1 vwCl gTbl 34 0 con_966 := ⟨wd_821, wd_132, mh_X1_lastOfFewest, .inr (.inr ⟨rfl, wd_818, wd_820, wd_16, ⟨_, rfl, pd_X1_lastOfFewest⟩, 1, _, TX1, 2, rfl, rfl⟩)⟩
noncomputable def ct_967 : CTB2 := [(19, 19, 1, con_675, []), (35, 34, 0, con_966, [0, 1, 2, 3]), (57, 38, 0, con_965, [0, 1, 2, 3])]
noncomputable def cu_967 : List CUT2 := [((11, [lq 0 6 0, lq 1 6 1, lq 2 1 2, lq 3 0 2, lq 4 1 4, lq 5 1 29, lq 6 1 30], [], gi_379, hq_518), [], ([(30, (-1))], 5))]
theorem ch_967 : staG tb_X1_winner 1 bt_RX1 [] ct_967 [] [] cu_967 24 con_967 = true := by decide +kernel
theorem cc_967 : cu_967.all (cutG tb_X1_winner 1 bt_RX1 [] ct_967 [] [] cu_967 24 con_967) = true := by decide +kernel
theorem cto_967 (l : Launch) : CTOK2 l RX1 vwCl gTbl ct_967 := ct2_cons (vl_675 l) ck_RX1_19_675 (ct2_cons (vl_966 l) ck_RX1_34_966 (ct2_cons (vl_965 l) ck_RX1_38_965 (ct2_nil)))
theorem vl_967 (l : Launch) : Vld2 l vwCl gTbl con_967 := conR_ok3 gT_all (hd_967) rfl pn_RX1 tk_X1_winner bo_RX1 xo_RX1 (cto_967 l) ch_967 (cut_all cc_967)
/-- RookHusting$Election gainsBehind -/
noncomputable def gi_575 : GI := jl_n [gp_182, jl_m 0 4, gp_308, jl_z 9]
noncomputable def ac_546 : AC := .inl (4, jl_n [jl_8 9 2, jl_1 10 1, jl_8 13 3, jl_1 15 2, jl_8 20 5, jl_6 4 1, jl_8 23 2, jl_6 5 1])
noncomputable def hc_122 : List AC := [.inl (1, [(6, 1, 0), (6, 2, 0)]), ac_546, am_4, am_6, am_4]
noncomputable def gi_576 : GI := jl_n [gp_182, jl_m 0 4, gp_308, jl_z 10]
noncomputable def hq_520 : HP := [(false, .inl (1, [(6, 1, 0), (6, 2, 0)])), (false, ac_546), (false, am_4), (false, am_6), (false, am_4)]
noncomputable def gi_577 : GI := jl_n [gp_309, gp_308, jl_z 10]
noncomputable def con_1010 : Con2 := ((yX1_gainsBehind, cX1_gainsBehind, 7, (some .boolean)), (4, 106), ([(6, 0, 0), (1, 1, 0), (1, 2, 0), (1, 3, 0), (0, 5, 0)], gi_575, hc_122, []), [((0, 0, 0), gi_576, hq_520, [], [1]), ((0, 1, 0), gi_577, hq_520, [], [1])])
theorem hd_1010 : con_1010.1 = (yX1_gainsBehind, cX1_gainsBehind, 7, (some .boolean)) := rfl
theorem ck_RX1_64_967 : COK2 RX1 vwCl gTbl 64 0 con_967 := ⟨wd_817, wd_132, mh_X1_winner, .inr (.inr ⟨rfl, wd_841, wd_815, wd_816, ⟨_, rfl, pd_X1_winner⟩, 1, _, TX1, 2, rfl, rfl⟩)⟩
noncomputable def ct_1010 : CTB2 := [(6, 57, 0, con_862, [0, 1]), (17, 64, 0, con_967, [0, 2, 1, 3]), (40, 70, 0, con_940, [0, 1, 4])]
noncomputable def cu_1010 : List CUT2 := []
theorem ch_1010 : staG tb_X1_gainsBehind 1 bt_RX1 [] ct_1010 [] [] cu_1010 30 con_1010 = true := by decide +kernel
theorem cto_1010 (l : Launch) : CTOK2 l RX1 vwCl gTbl ct_1010 := ct2_cons (vl_862 l) ck_RX1_57_862 (ct2_cons (vl_967 l) ck_RX1_64_967 (ct2_cons (vl_940 l) ck_RX1_70_940 (ct2_nil)))
theorem vl_1010 (l : Launch) : Vld2 l vwCl gTbl con_1010 := conR_ok3 gT_all (hd_1010) rfl pn_RX1 tk_X1_gainsBehind bo_RX1 xo_RX1 (cto_1010 l) ch_1010 cut_nil
/-- RookHusting$Election gainsBehind -/
noncomputable def hq_521 : HP := [(false, .inl (1, [(6, 1, 0), (6, 2, 0)])), (false, ac_546), (true, am_4), (false, am_6), (false, am_4)]
noncomputable def con_1011 : Con2 := ((yX1_gainsBehind, cX1_gainsBehind, 7, (some .boolean)), (5, 132), ([(6, 0, 0), (1, 1, 0), (1, 2, 0), (1, 3, 0), (0, 4, 0)], gi_575, hc_122, []), [((0, 0, 0), gi_576, hq_521, [], [1]), ((0, 1, 0), gi_577, hq_521, [], [1])])
theorem hd_1011 : con_1011.1 = (yX1_gainsBehind, cX1_gainsBehind, 7, (some .boolean)) := rfl
theorem ck_RX1_96_1010 : COK2 RX1 vwCl gTbl 96 0 con_1010 := ⟨wd_966, wd_132, mh_X1_gainsBehind, .inr (.inr ⟨rfl, wd_963, wd_965, wd_30, ⟨_, rfl, pd_X1_gainsBehind⟩, 1, _, TX1, 2, rfl, rfl⟩)⟩
noncomputable def ct_1011 : CTB2 := [(6, 57, 0, con_862, [0, 1]), (17, 64, 0, con_967, [0, 2, 1, 3]), (40, 70, 0, con_940, [0, 1, 4]), (74, 45, 2, con_696, []), (105, 96, 0, con_1010, [0, 1, 2, 3, 4])]
noncomputable def gi_578 : GI := jl_n [gp_309, gp_308, jl_z 14, jl_i 0 4, jl_i 0 5]
noncomputable def cu_1011 : List CUT2 := [((59, [lq 0 6 0, lq 1 1 1, lq 2 1 2, lq 3 1 3, lq 4 0 4, lq 5 1 29, lq 6 1 30], [], gi_578, hq_521), [], ([(30, (-1))], 5))]
theorem ch_1011 : staG tb_X1_gainsBehind 1 bt_RX1 [] ct_1011 [] [] cu_1011 45 con_1011 = true := by decide +kernel
theorem cc_1011 : cu_1011.all (cutG tb_X1_gainsBehind 1 bt_RX1 [] ct_1011 [] [] cu_1011 45 con_1011) = true := by decide +kernel
theorem cto_1011 (l : Launch) : CTOK2 l RX1 vwCl gTbl ct_1011 := ct2_cons (vl_862 l) ck_RX1_57_862 (ct2_cons (vl_967 l) ck_RX1_64_967 (ct2_cons (vl_940 l) ck_RX1_70_940 (ct2_cons (vl_696 l) ck_RX1_45_696 (ct2_cons (vl_1010 l) ck_RX1_96_1010 (ct2_nil)))))
theorem vl_1011 (l : Launch) : Vld2 l vwCl gTbl con_1011 := conR_ok3 gT_all (hd_1011) rfl pn_RX1 tk_X1_gainsBehind bo_RX1 xo_RX1 (cto_1011 l) ch_1011 (cut_all cc_1011)
/-- RookHusting$Election gainsBehind -/
noncomputable def con_1012 : Con2 := ((yX1_gainsBehind, cX1_gainsBehind, 7, (some .boolean)), (6, 158), ([(6, 0, 0), (1, 1, 0), (1, 2, 0), (1, 3, 0), (0, 3, 0)], gi_575, hc_122, []), [((0, 0, 0), gi_576, hq_521, [], [1]), ((0, 1, 0), gi_577, hq_521, [], [1])])
theorem hd_1012 : con_1012.1 = (yX1_gainsBehind, cX1_gainsBehind, 7, (some .boolean)) := rfl
theorem ck_RX1_96_1011 : COK2 RX1 vwCl gTbl 96 0 con_1011 := ⟨wd_966, wd_132, mh_X1_gainsBehind, .inr (.inr ⟨rfl, wd_963, wd_965, wd_30, ⟨_, rfl, pd_X1_gainsBehind⟩, 1, _, TX1, 2, rfl, rfl⟩)⟩
noncomputable def ct_1012 : CTB2 := [(6, 57, 0, con_862, [0, 1]), (17, 64, 0, con_967, [0, 2, 1, 3]), (40, 70, 0, con_940, [0, 1, 4]), (74, 45, 2, con_696, []), (105, 96, 0, con_1011, [0, 1, 2, 3, 4])]
noncomputable def cu_1012 : List CUT2 := [((59, [lq 0 6 0, lq 1 1 1, lq 2 1 2, lq 3 1 3, lq 4 0 3, lq 5 1 29, lq 6 1 30], [], gi_578, hq_521), [], ([(30, (-1))], 5))]
theorem ch_1012 : staG tb_X1_gainsBehind 1 bt_RX1 [] ct_1012 [] [] cu_1012 45 con_1012 = true := by decide +kernel
theorem cc_1012 : cu_1012.all (cutG tb_X1_gainsBehind 1 bt_RX1 [] ct_1012 [] [] cu_1012 45 con_1012) = true := by decide +kernel
theorem cto_1012 (l : Launch) : CTOK2 l RX1 vwCl gTbl ct_1012 := ct2_cons (vl_862 l) ck_RX1_57_862 (ct2_cons (vl_967 l) ck_RX1_64_967 (ct2_cons (vl_940 l) ck_RX1_70_940 (ct2_cons (vl_696 l) ck_RX1_45_696 (ct2_cons (vl_1011 l) ck_RX1_96_1011 (ct2_nil)))))
theorem vl_1012 (l : Launch) : Vld2 l vwCl gTbl con_1012 := conR_ok3 gT_all (hd_1012) rfl pn_RX1 tk_X1_gainsBehind bo_RX1 xo_RX1 (cto_1012 l) ch_1012 (cut_all cc_1012)
/-- RookHusting$Election gainsBehind -/
noncomputable def con_1013 : Con2 := ((yX1_gainsBehind, cX1_gainsBehind, 7, (some .boolean)), (7, 184), ([(6, 0, 0), (1, 1, 0), (1, 2, 0), (1, 3, 0), (0, 2, 0)], gi_575, hc_122, []), [((0, 0, 0), gi_576, hq_521, [], [1]), ((0, 1, 0), gi_577, hq_521, [], [1])])
theorem hd_1013 : con_1013.1 = (yX1_gainsBehind, cX1_gainsBehind, 7, (some .boolean)) := rfl
theorem ck_RX1_96_1012 : COK2 RX1 vwCl gTbl 96 0 con_1012 := ⟨wd_966, wd_132, mh_X1_gainsBehind, .inr (.inr ⟨rfl, wd_963, wd_965, wd_30, ⟨_, rfl, pd_X1_gainsBehind⟩, 1, _, TX1, 2, rfl, rfl⟩)⟩
noncomputable def ct_1013 : CTB2 := [(6, 57, 0, con_862, [0, 1]), (17, 64, 0, con_967, [0, 2, 1, 3]), (40, 70, 0, con_940, [0, 1, 4]), (74, 45, 2, con_696, []), (105, 96, 0, con_1012, [0, 1, 2, 3, 4])]
noncomputable def cu_1013 : List CUT2 := [((59, [lq 0 6 0, lq 1 1 1, lq 2 1 2, lq 3 1 3, lq 4 0 2, lq 5 1 29, lq 6 1 30], [], gi_578, hq_521), [], ([(30, (-1))], 5))]
theorem ch_1013 : staG tb_X1_gainsBehind 1 bt_RX1 [] ct_1013 [] [] cu_1013 45 con_1013 = true := by decide +kernel
theorem cc_1013 : cu_1013.all (cutG tb_X1_gainsBehind 1 bt_RX1 [] ct_1013 [] [] cu_1013 45 con_1013) = true := by decide +kernel
theorem cto_1013 (l : Launch) : CTOK2 l RX1 vwCl gTbl ct_1013 := ct2_cons (vl_862 l) ck_RX1_57_862 (ct2_cons (vl_967 l) ck_RX1_64_967 (ct2_cons (vl_940 l) ck_RX1_70_940 (ct2_cons (vl_696 l) ck_RX1_45_696 (ct2_cons (vl_1012 l) ck_RX1_96_1012 (ct2_nil)))))
theorem vl_1013 (l : Launch) : Vld2 l vwCl gTbl con_1013 := conR_ok3 gT_all (hd_1013) rfl pn_RX1 tk_X1_gainsBehind bo_RX1 xo_RX1 (cto_1013 l) ch_1013 (cut_all cc_1013)
/-- RookHusting$Election gainsBehind -/
noncomputable def con_1014 : Con2 := ((yX1_gainsBehind, cX1_gainsBehind, 7, (some .boolean)), (8, 210), ([(6, 0, 0), (1, 1, 0), (1, 2, 0), (1, 3, 0), (0, 1, 0)], gi_575, hc_122, []), [((0, 0, 0), gi_576, hq_521, [], [1]), ((0, 1, 0), gi_577, hq_521, [], [1])])
theorem hd_1014 : con_1014.1 = (yX1_gainsBehind, cX1_gainsBehind, 7, (some .boolean)) := rfl
theorem ck_RX1_96_1013 : COK2 RX1 vwCl gTbl 96 0 con_1013 := ⟨wd_966, wd_132, mh_X1_gainsBehind, .inr (.inr ⟨rfl, wd_963, wd_965, wd_30, ⟨_, rfl, pd_X1_gainsBehind⟩, 1, _, TX1, 2, rfl, rfl⟩)⟩
noncomputable def ct_1014 : CTB2 := [(6, 57, 0, con_862, [0, 1]), (17, 64, 0, con_967, [0, 2, 1, 3]), (40, 70, 0, con_940, [0, 1, 4]), (74, 45, 2, con_696, []), (105, 96, 0, con_1013, [0, 1, 2, 3, 4])]
noncomputable def cu_1014 : List CUT2 := [((59, [lq 0 6 0, lq 1 1 1, lq 2 1 2, lq 3 1 3, lq 4 0 1, lq 5 1 29, lq 6 1 30], [], gi_578, hq_521), [], ([(30, (-1))], 5))]
theorem ch_1014 : staG tb_X1_gainsBehind 1 bt_RX1 [] ct_1014 [] [] cu_1014 45 con_1014 = true := by decide +kernel
theorem cc_1014 : cu_1014.all (cutG tb_X1_gainsBehind 1 bt_RX1 [] ct_1014 [] [] cu_1014 45 con_1014) = true := by decide +kernel
theorem cto_1014 (l : Launch) : CTOK2 l RX1 vwCl gTbl ct_1014 := ct2_cons (vl_862 l) ck_RX1_57_862 (ct2_cons (vl_967 l) ck_RX1_64_967 (ct2_cons (vl_940 l) ck_RX1_70_940 (ct2_cons (vl_696 l) ck_RX1_45_696 (ct2_cons (vl_1013 l) ck_RX1_96_1013 (ct2_nil)))))
theorem vl_1014 (l : Launch) : Vld2 l vwCl gTbl con_1014 := conR_ok3 gT_all (hd_1014) rfl pn_RX1 tk_X1_gainsBehind bo_RX1 xo_RX1 (cto_1014 l) ch_1014 (cut_all cc_1014)
/-- RookHusting$Election gainsBehind -/
noncomputable def con_1015 : Con2 := ((yX1_gainsBehind, cX1_gainsBehind, 7, (some .boolean)), (9, 236), ([(6, 0, 0), (1, 1, 0), (1, 2, 0), (1, 3, 0), (0, 0, 0)], gi_575, hc_122, []), [((0, 0, 0), gi_576, hq_521, [], [1]), ((0, 1, 0), gi_577, hq_521, [], [1])])
theorem hd_1015 : con_1015.1 = (yX1_gainsBehind, cX1_gainsBehind, 7, (some .boolean)) := rfl
theorem ck_RX1_96_1014 : COK2 RX1 vwCl gTbl 96 0 con_1014 := ⟨wd_966, wd_132, mh_X1_gainsBehind, .inr (.inr ⟨rfl, wd_963, wd_965, wd_30, ⟨_, rfl, pd_X1_gainsBehind⟩, 1, _, TX1, 2, rfl, rfl⟩)⟩
noncomputable def ct_1015 : CTB2 := [(6, 57, 0, con_862, [0, 1]), (17, 64, 0, con_967, [0, 2, 1, 3]), (40, 70, 0, con_940, [0, 1, 4]), (74, 45, 2, con_696, []), (105, 96, 0, con_1014, [0, 1, 2, 3, 4])]
noncomputable def cu_1015 : List CUT2 := [((59, [lq 0 6 0, lq 1 1 1, lq 2 1 2, lq 3 1 3, lq 4 0 0, lq 5 1 29, lq 6 1 30], [], gi_578, hq_521), [], ([(30, (-1))], 5))]
theorem ch_1015 : staG tb_X1_gainsBehind 1 bt_RX1 [] ct_1015 [] [] cu_1015 45 con_1015 = true := by decide +kernel
theorem cc_1015 : cu_1015.all (cutG tb_X1_gainsBehind 1 bt_RX1 [] ct_1015 [] [] cu_1015 45 con_1015) = true := by decide +kernel
theorem cto_1015 (l : Launch) : CTOK2 l RX1 vwCl gTbl ct_1015 := ct2_cons (vl_862 l) ck_RX1_57_862 (ct2_cons (vl_967 l) ck_RX1_64_967 (ct2_cons (vl_940 l) ck_RX1_70_940 (ct2_cons (vl_696 l) ck_RX1_45_696 (ct2_cons (vl_1014 l) ck_RX1_96_1014 (ct2_nil)))))
theorem vl_1015 (l : Launch) : Vld2 l vwCl gTbl con_1015 := conR_ok3 gT_all (hd_1015) rfl pn_RX1 tk_X1_gainsBehind bo_RX1 xo_RX1 (cto_1015 l) ch_1015 (cut_all cc_1015)
/-- RookHusting$Election isGainer -/
noncomputable def gi_579 : GI := jl_n [gp_182, gp_302]
noncomputable def ac_547 : AC := .inl (4, jl_n [jl_8 6 2, jl_1 7 1, jl_8 10 3, jl_1 12 2, jl_8 17 5, jl_6 5 1, jl_8 20 2, jl_6 4 1])
noncomputable def hc_123 : List AC := [.inl (1, [(6, 1, 0), (6, 2, 0)]), ac_547, am_4, am_4, am_6]
noncomputable def gi_580 : GI := jl_n [gp_182, gp_301, jl_z 10]
noncomputable def hq_522 : HP := [(false, .inl (1, [(6, 1, 0), (6, 2, 0)])), (false, ac_547), (true, am_4), (false, am_4), (false, am_6)]
noncomputable def con_1016 : Con2 := ((yX1_isGainer, cX1_isGainer, 3, (some .boolean)), (10, 262), ([(6, 0, 0), (1, 1, 0)], gi_579, hc_123, []), [((0, 0, 0), gi_580, hq_522, [], [1]), ((0, 1, 0), gi_580, hq_522, [], [1])])
theorem hd_1016 : con_1016.1 = (yX1_isGainer, cX1_isGainer, 3, (some .boolean)) := rfl
theorem ck_RX1_96_1015 : COK2 RX1 vwCl gTbl 96 0 con_1015 := ⟨wd_966, wd_132, mh_X1_gainsBehind, .inr (.inr ⟨rfl, wd_963, wd_965, wd_30, ⟨_, rfl, pd_X1_gainsBehind⟩, 1, _, TX1, 2, rfl, rfl⟩)⟩
noncomputable def ct_1016 : CTB2 := [(46, 87, 0, con_959, [0, 1, 3, 4]), (51, 96, 0, con_1015, [0, 1, 2, 4, 3])]
noncomputable def gi_581 : GI := jl_n [gp_182, gp_304, jl_i 0 5]
noncomputable def cu_1016 : List CUT2 := [((20, [lq 0 6 0, lq 1 1 1, lq 2 1 23], [], gi_581, hq_522), [], ([(23, (-1))], 5))]
theorem ch_1016 : staG tb_X1_isGainer 1 bt_RX1 [] ct_1016 [] [] cu_1016 17 con_1016 = true := by decide +kernel
theorem cc_1016 : cu_1016.all (cutG tb_X1_isGainer 1 bt_RX1 [] ct_1016 [] [] cu_1016 17 con_1016) = true := by decide +kernel
theorem cto_1016 (l : Launch) : CTOK2 l RX1 vwCl gTbl ct_1016 := ct2_cons (vl_959 l) ck_RX1_87_959 (ct2_cons (vl_1015 l) ck_RX1_96_1015 (ct2_nil))
theorem vl_1016 (l : Launch) : Vld2 l vwCl gTbl con_1016 := conR_ok3 gT_all (hd_1016) rfl pn_RX1 tk_X1_isGainer bo_RX1 xo_RX1 (cto_1016 l) ch_1016 (cut_all cc_1016)
/-- RookHusting learnPlain -/
noncomputable def gi_582 : GI := jl_n [gp_310, jl_t, gp_304]
noncomputable def ac_548 : AC := .inl (11, jl_n [vp_90, jl_1 17 2])
noncomputable def ac_549 : AC := .inl (4, jl_n [jl_8 21 2, vp_11, vp_87, jl_6 7 1, jl_8 35 2, jl_6 6 1])
noncomputable def hc_124 : List AC := [ac_548, .inl (9, [(6, 2, 0), (8, 18, 0)]), ac_549, .inl (1, [(6, 2, 0), (6, 4, 0)]), am_4, am_4, am_6]
noncomputable def gi_583 : GI := jl_n [gp_310, jl_t, gp_301, jl_z 26, jl_t]
noncomputable def ac_550 : AC := .inl (11, jl_n [vp_90, jl_c 1, jl_1 54 1])
noncomputable def hq_523 : HP := [(true, ac_550), (false, .inl (9, [(6, 2, 0), (8, 18, 0)])), (false, ac_549), (false, .inl (1, [(6, 2, 0), (6, 4, 0)])), (true, am_4), (false, am_4), (false, am_6)]
noncomputable def con_1017 : Con2 := ((yX11_learnPlain, cX11_learnPlain, 2, none), (11, 284), ([(6, 0, 0)], gi_582, hc_124, []), [((9, 0, 0), gi_583, hq_523, [], tg_16)])
theorem hd_1017 : con_1017.1 = (yX11_learnPlain, cX11_learnPlain, 2, none) := rfl
theorem ck_RX11_470_1016 : COK2 RX11 vwCl gTbl 470 0 con_1016 := ⟨wd_961, wd_132, mh_X1_isGainer, .inr (.inr ⟨rfl, wd_958, wd_959, wd_960, ⟨_, rfl, pd_X1_isGainer⟩, 1, _, TX1, 2, rfl, rfl⟩)⟩
noncomputable def ct_1017 : CTB2 := [(34, 470, 0, con_1016, [3, 2, 4, 5, 6])]
noncomputable def gi_584 : GI := jl_n [gp_174, gp_301, jl_z 12, jl_i 0 7, gp_254]
noncomputable def ac_551 : AC := .inl (11, jl_n [vp_90, jl_c 0, jl_1 56 1])
noncomputable def hq_524 : HP := [(true, ac_551), (false, .inl (9, [(6, 2, 0), (8, 18, 0)])), (false, ac_549), (false, .inl (1, [(6, 2, 0), (6, 4, 0)])), (true, am_4), (false, am_4), (false, am_6)]
noncomputable def cu_1017 : List CUT2 := [((15, [lq 0 6 0, lq 1 1 39], [], gi_584, hq_524), [], ([(39, (-1))], 7))]
theorem ch_1017 : staG tb_X11_learnPlain 1 bt_RX11 [] ct_1017 [] [] cu_1017 24 con_1017 = true := by decide +kernel
theorem cc_1017 : cu_1017.all (cutG tb_X11_learnPlain 1 bt_RX11 [] ct_1017 [] [] cu_1017 24 con_1017) = true := by decide +kernel
theorem cto_1017 (l : Launch) : CTOK2 l RX11 vwCl gTbl ct_1017 := ct2_cons (vl_1016 l) ck_RX11_470_1016 (ct2_nil)
theorem vl_1017 (l : Launch) : Vld2 l vwCl gTbl con_1017 := conR_ok3 gT_all (hd_1017) rfl pn_RX11 tk_X11_learnPlain bo_RX11 xo_RX11 (cto_1017 l) ch_1017 (cut_all cc_1017)
/-- RookHusting gains -/
noncomputable def gi_585 : GI := jl_n [gp_7, gp_311, gp_304]
noncomputable def ac_552 : AC := .inl (11, jl_n [vp_60, jl_6 4 1, jl_8 16 8, jl_1 18 2])
noncomputable def ac_553 : AC := .inl (4, jl_n [vp_61, jl_8 26 3, jl_1 28 2, jl_8 33 5, jl_6 7 1, jl_8 36 2, jl_6 6 1])
noncomputable def hc_125 : List AC := [ac_552, .inl (9, [(6, 2, 0), (8, 19, 0)]), ac_553, .inl (1, [(6, 2, 0), (6, 4, 0)]), am_4, am_4, am_6]
noncomputable def gi_586 : GI := jl_n [gp_7, gp_311, gp_304, jl_m 1 1, gp_311]
noncomputable def ac_554 : AC := .inl (11, jl_n [vp_60, jl_6 4 1, jl_8 16 8, jl_1 56 2])
noncomputable def hq_525 : HP := [(true, ac_554), (false, .inl (9, [(6, 2, 0), (8, 19, 0)])), (false, ac_553), (false, .inl (1, [(6, 2, 0), (6, 4, 0)])), (true, am_4), (false, am_4), (false, am_6)]
noncomputable def con_1018 : Con2 := ((yX11_gains, cX11_gains, 2, (some .int)), (12, 305), ([(6, 0, 0), (1, 1, 0)], gi_585, hc_125, []), [((1, 39, 0), gi_586, hq_525, [], tg_2)])
theorem hd_1018 : con_1018.1 = (yX11_gains, cX11_gains, 2, (some .int)) := rfl
theorem ck_RX11_183_899 : COK2 RX11 vwCl gTbl 183 1 con_899 := ⟨wd_682, wd_125, mh_X11_hasBit, .inl ⟨rfl, wd_799, wd_681, pd_X11_hasBit⟩⟩
theorem ck_RX11_232_1017 : COK2 RX11 vwCl gTbl 232 0 con_1017 := ⟨wd_957, wd_125, mh_X11_learnPlain, .inr (.inr ⟨rfl, wd_954, wd_956, wd_29, ⟨_, rfl, pd_X11_learnPlain⟩, 11, _, TX11, 16, rfl, rfl⟩)⟩
noncomputable def ct_1018 : CTB2 := [(2, 165, 0, con_662, [0, 1, 2]), (12, 232, 0, con_1017, [0, 1, 2, 3, 4, 5, 6]), (20, 183, 1, con_899, [])]
noncomputable def cu_1018 : List CUT2 := []
theorem ch_1018 : staG tb_X11_gains 1 bt_RX11 [] ct_1018 [] [] cu_1018 16 con_1018 = true := by decide +kernel
theorem cto_1018 (l : Launch) : CTOK2 l RX11 vwCl gTbl ct_1018 := ct2_cons (vl_662 l) ck_RX11_165_662 (ct2_cons (vl_1017 l) ck_RX11_232_1017 (ct2_cons (vl_899 l) ck_RX11_183_899 (ct2_nil)))
theorem vl_1018 (l : Launch) : Vld2 l vwCl gTbl con_1018 := conR_ok3 gT_all (hd_1018) rfl pn_RX11 tk_X11_gains bo_RX11 xo_RX11 (cto_1018 l) ch_1018 cut_nil
/-- RookHustingModel doesGain -/
noncomputable def gi_587 : GI := jl_n [gp_309, jl_i 0 3124, gp_185, gp_215, gp_216]
noncomputable def ac_555 : AC := .inl (12, jl_n [vp_91, jl_8 20 13, jl_6 4 2, jl_1 23 1, jl_8 50 27])
noncomputable def ac_556 : AC := .inr (1, jl_n [js_1 55 5, jl_x (1, (0, 5, 0)), sp_130])
noncomputable def hc_126 : List AC := [ac_555, ac_556, am_5, am_8]
noncomputable def gi_588 : GI := jl_n [gp_309, jl_i 0 3124, gp_185, gp_215, gp_146]
noncomputable def hq_526 : HP := [(false, ac_555), (false, ac_556), (false, am_5), (true, am_8)]
noncomputable def con_1019 : Con2 := ((yX12_doesGain, cX12_doesGain, 9, (some .boolean)), (5, 121), ([(6, 0, 0), (1, 1, 0), (1, 2, 0), (1, 3, 0), (0, 0, 0)], gi_587, hc_126, []), [((0, 0, 0), gi_588, hq_526, [], [1]), ((0, 1, 0), gi_588, hq_526, [], [1])])
theorem hd_1019 : con_1019.1 = (yX12_doesGain, cX12_doesGain, 9, (some .boolean)) := rfl
noncomputable def ct_1019 : CTB2 := [(85, 269, 0, con_702, [0, 1]), (94, 277, 0, con_763, [0, 1, 3, 2]), (110, 283, 0, con_943, [0, 1])]
noncomputable def cu_1019 : List CUT2 := []
theorem ch_1019 : staG tb_X12_doesGain 1 bt_RX12 [] ct_1019 [] [] cu_1019 37 con_1019 = true := by decide +kernel
theorem cto_1019 (l : Launch) : CTOK2 l RX12 vwCl gTbl ct_1019 := ct2_cons (vl_702 l) ck_RX12_269_702 (ct2_cons (vl_763 l) ck_RX12_277_763 (ct2_cons (vl_943 l) ck_RX12_283_943 (ct2_nil)))
theorem vl_1019 (l : Launch) : Vld2 l vwCl gTbl con_1019 := conR_ok3 gT_all (hd_1019) rfl pn_RX12 tk_X12_doesGain bo_RX12 xo_RX12 (cto_1019 l) ch_1019 cut_nil
/-- RookHustingModel doesGain -/
noncomputable def ac_557 : AC := .inr (1, jl_n [js_1 55 5, jl_x (1, (0, 4, 0)), sp_130])
noncomputable def hc_127 : List AC := [ac_555, ac_557, am_5, am_8]
noncomputable def hq_527 : HP := [(false, ac_555), (false, ac_557), (false, am_5), (true, am_8)]
noncomputable def con_1020 : Con2 := ((yX12_doesGain, cX12_doesGain, 9, (some .boolean)), (5, 121), ([(6, 0, 0), (1, 1, 0), (1, 2, 0), (1, 3, 0), (0, 0, 0)], gi_587, hc_127, []), [((0, 0, 0), gi_588, hq_527, [], [1]), ((0, 1, 0), gi_588, hq_527, [], [1])])
theorem hd_1020 : con_1020.1 = (yX12_doesGain, cX12_doesGain, 9, (some .boolean)) := rfl
noncomputable def ct_1020 : CTB2 := [(85, 269, 0, con_797, [0, 1]), (94, 277, 0, con_811, [0, 1, 3, 2]), (110, 283, 0, con_943, [0, 1])]
noncomputable def cu_1020 : List CUT2 := []
theorem ch_1020 : staG tb_X12_doesGain 1 bt_RX12 [] ct_1020 [] [] cu_1020 37 con_1020 = true := by decide +kernel
theorem cto_1020 (l : Launch) : CTOK2 l RX12 vwCl gTbl ct_1020 := ct2_cons (vl_797 l) ck_RX12_269_797 (ct2_cons (vl_811 l) ck_RX12_277_811 (ct2_cons (vl_943 l) ck_RX12_283_943 (ct2_nil)))
theorem vl_1020 (l : Launch) : Vld2 l vwCl gTbl con_1020 := conR_ok3 gT_all (hd_1020) rfl pn_RX12 tk_X12_doesGain bo_RX12 xo_RX12 (cto_1020 l) ch_1020 cut_nil
/-- RookHustingModel doesGain -/
noncomputable def ac_558 : AC := .inr (1, jl_n [js_1 55 5, jl_x (1, (0, 3, 0)), sp_130])
noncomputable def hc_128 : List AC := [ac_555, ac_558, am_5, am_8]
noncomputable def hq_528 : HP := [(false, ac_555), (false, ac_558), (false, am_5), (true, am_8)]
noncomputable def con_1021 : Con2 := ((yX12_doesGain, cX12_doesGain, 9, (some .boolean)), (5, 121), ([(6, 0, 0), (1, 1, 0), (1, 2, 0), (1, 3, 0), (0, 0, 0)], gi_587, hc_128, []), [((0, 0, 0), gi_588, hq_528, [], [1]), ((0, 1, 0), gi_588, hq_528, [], [1])])
theorem hd_1021 : con_1021.1 = (yX12_doesGain, cX12_doesGain, 9, (some .boolean)) := rfl
noncomputable def ct_1021 : CTB2 := [(85, 269, 0, con_828, [0, 1]), (94, 277, 0, con_835, [0, 1, 3, 2]), (110, 283, 0, con_943, [0, 1])]
noncomputable def cu_1021 : List CUT2 := []
theorem ch_1021 : staG tb_X12_doesGain 1 bt_RX12 [] ct_1021 [] [] cu_1021 37 con_1021 = true := by decide +kernel
theorem cto_1021 (l : Launch) : CTOK2 l RX12 vwCl gTbl ct_1021 := ct2_cons (vl_828 l) ck_RX12_269_828 (ct2_cons (vl_835 l) ck_RX12_277_835 (ct2_cons (vl_943 l) ck_RX12_283_943 (ct2_nil)))
theorem vl_1021 (l : Launch) : Vld2 l vwCl gTbl con_1021 := conR_ok3 gT_all (hd_1021) rfl pn_RX12 tk_X12_doesGain bo_RX12 xo_RX12 (cto_1021 l) ch_1021 cut_nil
/-- RookHustingModel doesGain -/
noncomputable def ac_559 : AC := .inr (1, jl_n [js_1 55 5, jl_x (1, (0, 2, 0)), sp_130])
noncomputable def hc_129 : List AC := [ac_555, ac_559, am_5, am_8]
noncomputable def hq_529 : HP := [(false, ac_555), (false, ac_559), (false, am_5), (true, am_8)]
noncomputable def con_1022 : Con2 := ((yX12_doesGain, cX12_doesGain, 9, (some .boolean)), (5, 121), ([(6, 0, 0), (1, 1, 0), (1, 2, 0), (1, 3, 0), (0, 0, 0)], gi_587, hc_129, []), [((0, 0, 0), gi_588, hq_529, [], [1]), ((0, 1, 0), gi_588, hq_529, [], [1])])
theorem hd_1022 : con_1022.1 = (yX12_doesGain, cX12_doesGain, 9, (some .boolean)) := rfl
noncomputable def ct_1022 : CTB2 := [(85, 269, 0, con_844, [0, 1]), (94, 277, 0, con_847, [0, 1, 3, 2]), (110, 283, 0, con_943, [0, 1])]
noncomputable def cu_1022 : List CUT2 := []
theorem ch_1022 : staG tb_X12_doesGain 1 bt_RX12 [] ct_1022 [] [] cu_1022 37 con_1022 = true := by decide +kernel
theorem cto_1022 (l : Launch) : CTOK2 l RX12 vwCl gTbl ct_1022 := ct2_cons (vl_844 l) ck_RX12_269_844 (ct2_cons (vl_847 l) ck_RX12_277_847 (ct2_cons (vl_943 l) ck_RX12_283_943 (ct2_nil)))
theorem vl_1022 (l : Launch) : Vld2 l vwCl gTbl con_1022 := conR_ok3 gT_all (hd_1022) rfl pn_RX12 tk_X12_doesGain bo_RX12 xo_RX12 (cto_1022 l) ch_1022 cut_nil
/-- RookHustingModel doesGain -/
noncomputable def ac_560 : AC := .inr (1, jl_n [js_1 55 5, jl_x (1, (0, 1, 0)), sp_130])
noncomputable def hc_130 : List AC := [ac_555, ac_560, am_5, am_8]
noncomputable def hq_530 : HP := [(false, ac_555), (false, ac_560), (false, am_5), (true, am_8)]
noncomputable def con_1023 : Con2 := ((yX12_doesGain, cX12_doesGain, 9, (some .boolean)), (5, 121), ([(6, 0, 0), (1, 1, 0), (1, 2, 0), (1, 3, 0), (0, 0, 0)], gi_587, hc_130, []), [((0, 0, 0), gi_588, hq_530, [], [1]), ((0, 1, 0), gi_588, hq_530, [], [1])])
theorem hd_1023 : con_1023.1 = (yX12_doesGain, cX12_doesGain, 9, (some .boolean)) := rfl
noncomputable def ct_1023 : CTB2 := [(85, 269, 0, con_852, [0, 1]), (94, 277, 0, con_854, [0, 1, 3, 2]), (110, 283, 0, con_943, [0, 1])]
noncomputable def cu_1023 : List CUT2 := []
theorem ch_1023 : staG tb_X12_doesGain 1 bt_RX12 [] ct_1023 [] [] cu_1023 37 con_1023 = true := by decide +kernel
theorem cto_1023 (l : Launch) : CTOK2 l RX12 vwCl gTbl ct_1023 := ct2_cons (vl_852 l) ck_RX12_269_852 (ct2_cons (vl_854 l) ck_RX12_277_854 (ct2_cons (vl_943 l) ck_RX12_283_943 (ct2_nil)))
theorem vl_1023 (l : Launch) : Vld2 l vwCl gTbl con_1023 := conR_ok3 gT_all (hd_1023) rfl pn_RX12 tk_X12_doesGain bo_RX12 xo_RX12 (cto_1023 l) ch_1023 cut_nil
/-- RookHustingModel doesGain -/
noncomputable def ac_561 : AC := .inr (1, jl_n [js_1 55 5, jl_x (1, (0, 0, 0)), sp_130])
noncomputable def hc_131 : List AC := [ac_555, ac_561, am_5, am_8]
noncomputable def hq_531 : HP := [(false, ac_555), (false, ac_561), (false, am_5), (true, am_8)]
noncomputable def con_1024 : Con2 := ((yX12_doesGain, cX12_doesGain, 9, (some .boolean)), (5, 121), ([(6, 0, 0), (1, 1, 0), (1, 2, 0), (1, 3, 0), (0, 0, 0)], gi_587, hc_131, []), [((0, 0, 0), gi_588, hq_531, [], [1]), ((0, 1, 0), gi_588, hq_531, [], [1])])
theorem hd_1024 : con_1024.1 = (yX12_doesGain, cX12_doesGain, 9, (some .boolean)) := rfl
noncomputable def ct_1024 : CTB2 := [(85, 269, 0, con_857, [0, 1]), (94, 277, 0, con_860, [0, 1, 3, 2]), (110, 283, 0, con_943, [0, 1])]
noncomputable def cu_1024 : List CUT2 := []
theorem ch_1024 : staG tb_X12_doesGain 1 bt_RX12 [] ct_1024 [] [] cu_1024 37 con_1024 = true := by decide +kernel
theorem cto_1024 (l : Launch) : CTOK2 l RX12 vwCl gTbl ct_1024 := ct2_cons (vl_857 l) ck_RX12_269_857 (ct2_cons (vl_860 l) ck_RX12_277_860 (ct2_cons (vl_943 l) ck_RX12_283_943 (ct2_nil)))
theorem vl_1024 (l : Launch) : Vld2 l vwCl gTbl con_1024 := conR_ok3 gT_all (hd_1024) rfl pn_RX12 tk_X12_doesGain bo_RX12 xo_RX12 (cto_1024 l) ch_1024 cut_nil
/-- RookHustingModel doesGain -/
noncomputable def hq_532 : HP := [(false, ac_555), (false, ac_556), (true, am_5), (true, am_8)]
noncomputable def con_1025 : Con2 := ((yX12_doesGain, cX12_doesGain, 9, (some .boolean)), (5, 121), ([(6, 0, 0), (1, 1, 0), (1, 2, 0), (1, 3, 0), (0, 1, 0)], gi_587, hc_126, []), [((0, 0, 0), gi_588, hq_532, [], [1]), ((0, 1, 0), gi_588, hq_532, [], [1])])
theorem hd_1025 : con_1025.1 = (yX12_doesGain, cX12_doesGain, 9, (some .boolean)) := rfl
noncomputable def ct_1025 : CTB2 := [(19, 95, 0, con_701, [0, 1]), (29, 199, 1, con_394, []), (63, 95, 0, con_701, [0, 1]), (85, 269, 0, con_702, [0, 1]), (94, 277, 0, con_763, [0, 1, 3, 2]), (110, 283, 0, con_943, [0, 1])]
noncomputable def cu_1025 : List CUT2 := []
theorem ch_1025 : staG tb_X12_doesGain 1 bt_RX12 [] ct_1025 [] [] cu_1025 72 con_1025 = true := by decide +kernel
theorem cto_1025 (l : Launch) : CTOK2 l RX12 vwCl gTbl ct_1025 := ct2_cons (vl_701 l) ck_RX12_95_701 (ct2_cons (vl_394 l) ck_RX12_199_394 (ct2_cons (vl_701 l) ck_RX12_95_701 (ct2_cons (vl_702 l) ck_RX12_269_702 (ct2_cons (vl_763 l) ck_RX12_277_763 (ct2_cons (vl_943 l) ck_RX12_283_943 (ct2_nil))))))
theorem vl_1025 (l : Launch) : Vld2 l vwCl gTbl con_1025 := conR_ok3 gT_all (hd_1025) rfl pn_RX12 tk_X12_doesGain bo_RX12 xo_RX12 (cto_1025 l) ch_1025 cut_nil
/-- RookHustingModel doesGain -/
noncomputable def hq_533 : HP := [(false, ac_555), (false, ac_557), (true, am_5), (true, am_8)]
noncomputable def con_1026 : Con2 := ((yX12_doesGain, cX12_doesGain, 9, (some .boolean)), (5, 121), ([(6, 0, 0), (1, 1, 0), (1, 2, 0), (1, 3, 0), (0, 1, 0)], gi_587, hc_127, []), [((0, 0, 0), gi_588, hq_533, [], [1]), ((0, 1, 0), gi_588, hq_533, [], [1])])
theorem hd_1026 : con_1026.1 = (yX12_doesGain, cX12_doesGain, 9, (some .boolean)) := rfl
noncomputable def ct_1026 : CTB2 := [(19, 95, 0, con_796, [0, 1]), (29, 199, 1, con_394, []), (63, 95, 0, con_796, [0, 1]), (85, 269, 0, con_797, [0, 1]), (94, 277, 0, con_811, [0, 1, 3, 2]), (110, 283, 0, con_943, [0, 1])]
noncomputable def cu_1026 : List CUT2 := []
theorem ch_1026 : staG tb_X12_doesGain 1 bt_RX12 [] ct_1026 [] [] cu_1026 72 con_1026 = true := by decide +kernel
theorem cto_1026 (l : Launch) : CTOK2 l RX12 vwCl gTbl ct_1026 := ct2_cons (vl_796 l) ck_RX12_95_796 (ct2_cons (vl_394 l) ck_RX12_199_394 (ct2_cons (vl_796 l) ck_RX12_95_796 (ct2_cons (vl_797 l) ck_RX12_269_797 (ct2_cons (vl_811 l) ck_RX12_277_811 (ct2_cons (vl_943 l) ck_RX12_283_943 (ct2_nil))))))
theorem vl_1026 (l : Launch) : Vld2 l vwCl gTbl con_1026 := conR_ok3 gT_all (hd_1026) rfl pn_RX12 tk_X12_doesGain bo_RX12 xo_RX12 (cto_1026 l) ch_1026 cut_nil
/-- RookHustingModel doesGain -/
noncomputable def hq_534 : HP := [(false, ac_555), (false, ac_558), (true, am_5), (true, am_8)]
noncomputable def con_1027 : Con2 := ((yX12_doesGain, cX12_doesGain, 9, (some .boolean)), (5, 121), ([(6, 0, 0), (1, 1, 0), (1, 2, 0), (1, 3, 0), (0, 1, 0)], gi_587, hc_128, []), [((0, 0, 0), gi_588, hq_534, [], [1]), ((0, 1, 0), gi_588, hq_534, [], [1])])
theorem hd_1027 : con_1027.1 = (yX12_doesGain, cX12_doesGain, 9, (some .boolean)) := rfl
noncomputable def ct_1027 : CTB2 := [(19, 95, 0, con_827, [0, 1]), (29, 199, 1, con_394, []), (63, 95, 0, con_827, [0, 1]), (85, 269, 0, con_828, [0, 1]), (94, 277, 0, con_835, [0, 1, 3, 2]), (110, 283, 0, con_943, [0, 1])]
noncomputable def cu_1027 : List CUT2 := []
theorem ch_1027 : staG tb_X12_doesGain 1 bt_RX12 [] ct_1027 [] [] cu_1027 72 con_1027 = true := by decide +kernel
theorem cto_1027 (l : Launch) : CTOK2 l RX12 vwCl gTbl ct_1027 := ct2_cons (vl_827 l) ck_RX12_95_827 (ct2_cons (vl_394 l) ck_RX12_199_394 (ct2_cons (vl_827 l) ck_RX12_95_827 (ct2_cons (vl_828 l) ck_RX12_269_828 (ct2_cons (vl_835 l) ck_RX12_277_835 (ct2_cons (vl_943 l) ck_RX12_283_943 (ct2_nil))))))
theorem vl_1027 (l : Launch) : Vld2 l vwCl gTbl con_1027 := conR_ok3 gT_all (hd_1027) rfl pn_RX12 tk_X12_doesGain bo_RX12 xo_RX12 (cto_1027 l) ch_1027 cut_nil
/-- RookHustingModel doesGain -/
noncomputable def hq_535 : HP := [(false, ac_555), (false, ac_559), (true, am_5), (true, am_8)]
noncomputable def con_1028 : Con2 := ((yX12_doesGain, cX12_doesGain, 9, (some .boolean)), (5, 121), ([(6, 0, 0), (1, 1, 0), (1, 2, 0), (1, 3, 0), (0, 1, 0)], gi_587, hc_129, []), [((0, 0, 0), gi_588, hq_535, [], [1]), ((0, 1, 0), gi_588, hq_535, [], [1])])
theorem hd_1028 : con_1028.1 = (yX12_doesGain, cX12_doesGain, 9, (some .boolean)) := rfl
noncomputable def ct_1028 : CTB2 := [(19, 95, 0, con_843, [0, 1]), (29, 199, 1, con_394, []), (63, 95, 0, con_843, [0, 1]), (85, 269, 0, con_844, [0, 1]), (94, 277, 0, con_847, [0, 1, 3, 2]), (110, 283, 0, con_943, [0, 1])]
noncomputable def cu_1028 : List CUT2 := []
theorem ch_1028 : staG tb_X12_doesGain 1 bt_RX12 [] ct_1028 [] [] cu_1028 72 con_1028 = true := by decide +kernel
theorem cto_1028 (l : Launch) : CTOK2 l RX12 vwCl gTbl ct_1028 := ct2_cons (vl_843 l) ck_RX12_95_843 (ct2_cons (vl_394 l) ck_RX12_199_394 (ct2_cons (vl_843 l) ck_RX12_95_843 (ct2_cons (vl_844 l) ck_RX12_269_844 (ct2_cons (vl_847 l) ck_RX12_277_847 (ct2_cons (vl_943 l) ck_RX12_283_943 (ct2_nil))))))
theorem vl_1028 (l : Launch) : Vld2 l vwCl gTbl con_1028 := conR_ok3 gT_all (hd_1028) rfl pn_RX12 tk_X12_doesGain bo_RX12 xo_RX12 (cto_1028 l) ch_1028 cut_nil
/-- RookHustingModel doesGain -/
noncomputable def hq_536 : HP := [(false, ac_555), (false, ac_560), (true, am_5), (true, am_8)]
noncomputable def con_1029 : Con2 := ((yX12_doesGain, cX12_doesGain, 9, (some .boolean)), (5, 121), ([(6, 0, 0), (1, 1, 0), (1, 2, 0), (1, 3, 0), (0, 1, 0)], gi_587, hc_130, []), [((0, 0, 0), gi_588, hq_536, [], [1]), ((0, 1, 0), gi_588, hq_536, [], [1])])
theorem hd_1029 : con_1029.1 = (yX12_doesGain, cX12_doesGain, 9, (some .boolean)) := rfl
noncomputable def ct_1029 : CTB2 := [(19, 95, 0, con_851, [0, 1]), (29, 199, 1, con_393, []), (63, 95, 0, con_851, [0, 1]), (85, 269, 0, con_852, [0, 1]), (94, 277, 0, con_854, [0, 1, 3, 2]), (110, 283, 0, con_943, [0, 1])]
noncomputable def cu_1029 : List CUT2 := []
theorem ch_1029 : staG tb_X12_doesGain 1 bt_RX12 [] ct_1029 [] [] cu_1029 72 con_1029 = true := by decide +kernel
theorem cto_1029 (l : Launch) : CTOK2 l RX12 vwCl gTbl ct_1029 := ct2_cons (vl_851 l) ck_RX12_95_851 (ct2_cons (vl_393 l) ck_RX12_199_393 (ct2_cons (vl_851 l) ck_RX12_95_851 (ct2_cons (vl_852 l) ck_RX12_269_852 (ct2_cons (vl_854 l) ck_RX12_277_854 (ct2_cons (vl_943 l) ck_RX12_283_943 (ct2_nil))))))
theorem vl_1029 (l : Launch) : Vld2 l vwCl gTbl con_1029 := conR_ok3 gT_all (hd_1029) rfl pn_RX12 tk_X12_doesGain bo_RX12 xo_RX12 (cto_1029 l) ch_1029 cut_nil
/-- RookHustingModel doesGain -/
noncomputable def con_1030 : Con2 := ((yX12_doesGain, cX12_doesGain, 9, (some .boolean)), (5, 121), ([(6, 0, 0), (1, 1, 0), (1, 2, 0), (1, 3, 0), (0, 2, 0)], gi_587, hc_129, []), [((0, 0, 0), gi_588, hq_535, [], [1]), ((0, 1, 0), gi_588, hq_535, [], [1])])
theorem hd_1030 : con_1030.1 = (yX12_doesGain, cX12_doesGain, 9, (some .boolean)) := rfl
noncomputable def cu_1030 : List CUT2 := []
theorem ch_1030 : staG tb_X12_doesGain 1 bt_RX12 [] ct_1028 [] [] cu_1030 107 con_1030 = true := by decide +kernel
theorem vl_1030 (l : Launch) : Vld2 l vwCl gTbl con_1030 := conR_ok3 gT_all (hd_1030) rfl pn_RX12 tk_X12_doesGain bo_RX12 xo_RX12 (cto_1028 l) ch_1030 cut_nil
/-- RookHustingModel doesGain -/
noncomputable def con_1031 : Con2 := ((yX12_doesGain, cX12_doesGain, 9, (some .boolean)), (5, 121), ([(6, 0, 0), (1, 1, 0), (1, 2, 0), (1, 3, 0), (0, 2, 0)], gi_587, hc_128, []), [((0, 0, 0), gi_588, hq_534, [], [1]), ((0, 1, 0), gi_588, hq_534, [], [1])])
theorem hd_1031 : con_1031.1 = (yX12_doesGain, cX12_doesGain, 9, (some .boolean)) := rfl
noncomputable def cu_1031 : List CUT2 := []
theorem ch_1031 : staG tb_X12_doesGain 1 bt_RX12 [] ct_1027 [] [] cu_1031 107 con_1031 = true := by decide +kernel
theorem vl_1031 (l : Launch) : Vld2 l vwCl gTbl con_1031 := conR_ok3 gT_all (hd_1031) rfl pn_RX12 tk_X12_doesGain bo_RX12 xo_RX12 (cto_1027 l) ch_1031 cut_nil
/-- RookHustingModel doesGain -/
noncomputable def con_1032 : Con2 := ((yX12_doesGain, cX12_doesGain, 9, (some .boolean)), (5, 121), ([(6, 0, 0), (1, 1, 0), (1, 2, 0), (1, 3, 0), (0, 2, 0)], gi_587, hc_127, []), [((0, 0, 0), gi_588, hq_533, [], [1]), ((0, 1, 0), gi_588, hq_533, [], [1])])
theorem hd_1032 : con_1032.1 = (yX12_doesGain, cX12_doesGain, 9, (some .boolean)) := rfl
noncomputable def cu_1032 : List CUT2 := []
theorem ch_1032 : staG tb_X12_doesGain 1 bt_RX12 [] ct_1026 [] [] cu_1032 107 con_1032 = true := by decide +kernel
theorem vl_1032 (l : Launch) : Vld2 l vwCl gTbl con_1032 := conR_ok3 gT_all (hd_1032) rfl pn_RX12 tk_X12_doesGain bo_RX12 xo_RX12 (cto_1026 l) ch_1032 cut_nil
/-- RookHustingModel doesGain -/
noncomputable def con_1033 : Con2 := ((yX12_doesGain, cX12_doesGain, 9, (some .boolean)), (5, 121), ([(6, 0, 0), (1, 1, 0), (1, 2, 0), (1, 3, 0), (0, 2, 0)], gi_587, hc_126, []), [((0, 0, 0), gi_588, hq_532, [], [1]), ((0, 1, 0), gi_588, hq_532, [], [1])])
theorem hd_1033 : con_1033.1 = (yX12_doesGain, cX12_doesGain, 9, (some .boolean)) := rfl
noncomputable def cu_1033 : List CUT2 := []
theorem ch_1033 : staG tb_X12_doesGain 1 bt_RX12 [] ct_1025 [] [] cu_1033 107 con_1033 = true := by decide +kernel
theorem vl_1033 (l : Launch) : Vld2 l vwCl gTbl con_1033 := conR_ok3 gT_all (hd_1033) rfl pn_RX12 tk_X12_doesGain bo_RX12 xo_RX12 (cto_1025 l) ch_1033 cut_nil
/-- RookHustingModel doesGain -/
noncomputable def con_1034 : Con2 := ((yX12_doesGain, cX12_doesGain, 9, (some .boolean)), (5, 121), ([(6, 0, 0), (1, 1, 0), (1, 2, 0), (1, 3, 0), (0, 3, 0)], gi_587, hc_128, []), [((0, 0, 0), gi_588, hq_534, [], [1]), ((0, 1, 0), gi_588, hq_534, [], [1])])
theorem hd_1034 : con_1034.1 = (yX12_doesGain, cX12_doesGain, 9, (some .boolean)) := rfl
noncomputable def cu_1034 : List CUT2 := []
theorem ch_1034 : staG tb_X12_doesGain 1 bt_RX12 [] ct_1027 [] [] cu_1034 142 con_1034 = true := by decide +kernel
theorem vl_1034 (l : Launch) : Vld2 l vwCl gTbl con_1034 := conR_ok3 gT_all (hd_1034) rfl pn_RX12 tk_X12_doesGain bo_RX12 xo_RX12 (cto_1027 l) ch_1034 cut_nil
/-- RookHustingModel doesGain -/
noncomputable def con_1035 : Con2 := ((yX12_doesGain, cX12_doesGain, 9, (some .boolean)), (5, 121), ([(6, 0, 0), (1, 1, 0), (1, 2, 0), (1, 3, 0), (0, 3, 0)], gi_587, hc_127, []), [((0, 0, 0), gi_588, hq_533, [], [1]), ((0, 1, 0), gi_588, hq_533, [], [1])])
theorem hd_1035 : con_1035.1 = (yX12_doesGain, cX12_doesGain, 9, (some .boolean)) := rfl
noncomputable def cu_1035 : List CUT2 := []
theorem ch_1035 : staG tb_X12_doesGain 1 bt_RX12 [] ct_1026 [] [] cu_1035 142 con_1035 = true := by decide +kernel
theorem vl_1035 (l : Launch) : Vld2 l vwCl gTbl con_1035 := conR_ok3 gT_all (hd_1035) rfl pn_RX12 tk_X12_doesGain bo_RX12 xo_RX12 (cto_1026 l) ch_1035 cut_nil
/-- RookHustingModel doesGain -/
noncomputable def con_1036 : Con2 := ((yX12_doesGain, cX12_doesGain, 9, (some .boolean)), (5, 121), ([(6, 0, 0), (1, 1, 0), (1, 2, 0), (1, 3, 0), (0, 3, 0)], gi_587, hc_126, []), [((0, 0, 0), gi_588, hq_532, [], [1]), ((0, 1, 0), gi_588, hq_532, [], [1])])
theorem hd_1036 : con_1036.1 = (yX12_doesGain, cX12_doesGain, 9, (some .boolean)) := rfl
noncomputable def cu_1036 : List CUT2 := []
theorem ch_1036 : staG tb_X12_doesGain 1 bt_RX12 [] ct_1025 [] [] cu_1036 142 con_1036 = true := by decide +kernel
theorem vl_1036 (l : Launch) : Vld2 l vwCl gTbl con_1036 := conR_ok3 gT_all (hd_1036) rfl pn_RX12 tk_X12_doesGain bo_RX12 xo_RX12 (cto_1025 l) ch_1036 cut_nil
