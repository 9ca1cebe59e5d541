/-! ===== contracts, 26 ===== -/
/-- RookHustingModel isAhead -/
noncomputable def gi_757 : GI := jl_n [gp_228, jl_z 45, gp_365, gp_204]
noncomputable def con_1124 : Con2 := ((yX12_isAhead, cX12_isAhead, 3, (some .boolean)), (1, 25), ([(6, 0, 0), (4, 1, 0)], gi_301, [ac_437, ac_438], []), [((0, 0, 0), gi_302, [(false, ac_437), (false, ac_438)], [], [1]), ((0, 1, 0), gi_757, [(false, ac_437), (false, ac_438)], [], [1])])
theorem hd_1124 : con_1124.1 = (yX12_isAhead, cX12_isAhead, 3, (some .boolean)) := rfl
theorem ck_RX12_91_1123 : COK2 RX12 vwCl gTbl 91 1 con_1123 := ⟨wd_1544, wd_137, mh_X12_in, .inl ⟨rfl, wd_1542, wd_1543, pd_X12_in⟩⟩
noncomputable def ct_1124 : CTB2 := [(1, 99, 0, con_673, [0, 1]), (10, 103, 0, con_1100, [0, 1]), (16, 91, 1, con_1123, [])]
noncomputable def cu_1124 : List CUT2 := []
theorem ch_1124 : staG tb_X12_isAhead 1 bt_RX12 [] ct_1124 [] [] cu_1124 17 con_1124 = true := by decide +kernel
theorem cto_1124 (l : Launch) : CTOK2 l RX12 vwCl gTbl ct_1124 := ct2_cons (vl_673 l) ck_RX12_99_673 (ct2_cons (vl_1100 l) ck_RX12_103_1100 (ct2_cons (vl_1123 l) ck_RX12_91_1123 (ct2_nil)))
theorem vl_1124 (l : Launch) : Vld2 l vwCl gTbl con_1124 := conR_ok3 gT_all (hd_1124) rfl pn_RX12 tk_X12_isAhead bo_RX12 xo_RX12 (cto_1124 l) ch_1124 cut_nil
/-- RookHustingModel asksAhead -/
noncomputable def gi_758 : GI := jl_n [gp_228, gp_288, gp_365, gp_203, jl_z 60]
noncomputable def con_1125 : Con2 := ((yX12_asksAhead, cX12_asksAhead, 2, (some .boolean)), (9, 208), ([(6, 0, 0), (1, 1, 0)], gi_508, hc_148, []), [((0, 0, 0), gi_744, hq_567, [], tg_1), ((0, 1, 0), gi_758, hq_567, [], tg_1)])
theorem hd_1125 : con_1125.1 = (yX12_asksAhead, cX12_asksAhead, 2, (some .boolean)) := rfl
theorem ck_RX12_372_1124 : COK2 RX12 vwCl gTbl 372 0 con_1124 := ⟨wd_1922, wd_137, mh_X12_isAhead, .inr (.inr ⟨rfl, wd_1919, wd_1921, wd_103, ⟨_, rfl, pd_X12_isAhead⟩, 12, _, TX12, 45, rfl, rfl⟩)⟩
noncomputable def ct_1125 : CTB2 := [(1, 366, 0, con_1109, [0, 1, 2, 3, 4, 5, 6, 7, 8, 9, 10, 11, 12]), (8, 372, 0, con_1124, [0, 1])]
noncomputable def cu_1125 : List CUT2 := []
theorem ch_1125 : staG tb_X12_asksAhead 1 bt_RX12 [] ct_1125 [] [] cu_1125 10 con_1125 = true := by decide +kernel
theorem cto_1125 (l : Launch) : CTOK2 l RX12 vwCl gTbl ct_1125 := ct2_cons (vl_1109 l) ck_RX12_366_1109 (ct2_cons (vl_1124 l) ck_RX12_372_1124 (ct2_nil))
theorem vl_1125 (l : Launch) : Vld2 l vwCl gTbl con_1125 := conR_ok3 gT_all (hd_1125) rfl pn_RX12 tk_X12_asksAhead bo_RX12 xo_RX12 (cto_1125 l) ch_1125 cut_nil
/-- RookHustingModel eaten -/
noncomputable def con_1126 : Con2 := ((yX12_eaten, cX12_eaten, 3, (some .int)), (10, 229), ([(6, 0, 0), (1, 1, 0), (1, 2, 0)], gi_746, hc_149, []), [((1, 71, 0), gi_747, hq_568, [], tg_1)])
theorem hd_1126 : con_1126.1 = (yX12_eaten, cX12_eaten, 3, (some .int)) := rfl
theorem ck_RX12_381_1125 : COK2 RX12 vwCl gTbl 381 0 con_1125 := ⟨wd_1918, wd_137, mh_X12_asksAhead, .inr (.inr ⟨rfl, wd_1915, wd_1917, wd_102, ⟨_, rfl, pd_X12_asksAhead⟩, 12, _, TX12, 45, rfl, rfl⟩)⟩
noncomputable def ct_1126 : CTB2 := [(2, 381, 0, con_1125, [0, 1, 2, 3, 4, 5, 6, 7, 8, 9, 10, 11, 12]), (11, 109, 0, con_647, [0, 1])]
noncomputable def cu_1126 : List CUT2 := []
theorem ch_1126 : staG tb_X12_eaten 1 bt_RX12 [] ct_1126 [] [] cu_1126 21 con_1126 = true := by decide +kernel
theorem cto_1126 (l : Launch) : CTOK2 l RX12 vwCl gTbl ct_1126 := ct2_cons (vl_1125 l) ck_RX12_381_1125 (ct2_cons (vl_647 l) ck_RX12_109_647 (ct2_nil))
theorem vl_1126 (l : Launch) : Vld2 l vwCl gTbl con_1126 := conR_ok3 gT_all (hd_1126) rfl pn_RX12 tk_X12_eaten bo_RX12 xo_RX12 (cto_1126 l) ch_1126 cut_nil
/-- RookHusting cellNow -/
noncomputable def ac_635 : AC := .inl (3, jl_n [vp_124, jl_6 2 1, jl_6 22 1, jl_1 118 2])
noncomputable def hc_156 : List AC := [ac_592, am_9, .inl (9, [(6, 4, 0), (6, 12, 0)]), .inl (7, [(6, 5, 0), (6, 6, 0), (6, 7, 0), (1, 25, 0)]), ac_629, am_3, am_1, am_1, am_1, .inl (1, [(6, 4, 0), (8, 44, 0)]), am_5, am_7, .inl (0, [(1, 45, 0), (6, 13, 0), (6, 14, 0), (6, 15, 0)]), ac_594, am_12, ac_595, ac_635, am_4, am_0, am_11, am_0, am_1, am_0, am_4, am_10, am_0, am_0]
noncomputable def gi_759 : GI := jl_n [gp_363, gp_342, jl_m 0 4, gp_272]
noncomputable def ac_636 : AC := .inl (3, jl_n [vp_124, jl_6 2 1, jl_6 22 1, jl_1 148 2])
noncomputable def hq_576 : HP := [(true, ac_597), (true, am_9), (false, .inl (9, [(6, 4, 0), (6, 12, 0)])), (true, .inl (7, [(6, 5, 0), (6, 6, 0), (6, 7, 0), (1, 138, 0)])), (false, ac_629), (true, am_3), (true, am_1), (true, am_1), (false, am_1), (false, .inl (1, [(6, 4, 0), (8, 44, 0)])), (false, am_5), (false, am_7), (false, .inl (0, [(1, 45, 0), (6, 13, 0), (6, 14, 0), (6, 15, 0)])), (false, ac_594), (false, am_12), (false, ac_595), (true, ac_636), (false, am_4), (true, am_0), (false, am_11), (true, am_0), (true, am_1), (true, am_0), (false, am_4), (false, am_10), (true, am_0), (true, am_0)]
noncomputable def con_1127 : Con2 := ((yX11_cellNow, cX11_cellNow, 4, (some .int)), (6, 151), ([(6, 0, 0), (6, 1, 0), (1, 2, 0), (1, 3, 0)], gi_751, hc_156, rq_4), [((1, 118, 0), gi_759, hq_576, [], tg_15)])
theorem hd_1127 : con_1127.1 = (yX11_cellNow, cX11_cellNow, 4, (some .int)) := rfl
noncomputable def ct_1127 : CTB2 := [(1, 208, 0, con_900, [0, 2, 3, 4, 5, 6, 7, 8, 9, 10, 11, 12, 13, 14, 15, 16, 17, 18, 19, 20, 21, 22, 23, 24, 25, 26, 1])]
noncomputable def cu_1127 : List CUT2 := []
theorem ch_1127 : staG tb_X11_cellNow 1 bt_RX11 [] ct_1127 [] [] cu_1127 12 con_1127 = true := by decide +kernel
theorem cto_1127 (l : Launch) : CTOK2 l RX11 vwCl gTbl ct_1127 := ct2_cons (vl_900 l) ck_RX11_208_900 (ct2_nil)
theorem vl_1127 (l : Launch) : Vld2 l vwCl gTbl con_1127 := conR_ok3 gT_all (hd_1127) rfl pn_RX11 tk_X11_cellNow bo_RX11 xo_RX11 (cto_1127 l) ch_1127 cut_nil
/-- RookHusting flies -/
noncomputable def ac_637 : AC := .inl (3, jl_n [vp_124, jl_6 5 1, jl_6 22 1, jl_1 47 2])
noncomputable def hc_157 : List AC := [ac_599, .inl (9, [(6, 2, 0), (6, 13, 0)]), ac_632, ac_637, am_9, .inl (7, [(6, 6, 0), (6, 7, 0), (6, 8, 0), (1, 50, 0)]), am_3, am_1, am_1, am_1, .inl (1, [(6, 2, 0), (8, 52, 0)]), am_5, am_7, .inl (0, [(1, 53, 0), (6, 14, 0), (6, 15, 0), (6, 16, 0)]), ac_602, am_12, ac_603, am_4, am_0, am_11, am_0, am_1, am_0, am_4, am_10, am_0, am_0]
noncomputable def gi_760 : GI := jl_n [gp_364, gp_349, jl_m 1 4, gp_352]
noncomputable def ac_638 : AC := .inl (3, jl_n [vp_124, jl_6 5 1, jl_6 22 1, jl_1 143 2])
noncomputable def hq_577 : HP := [(true, ac_604), (false, .inl (9, [(6, 2, 0), (6, 13, 0)])), (false, ac_632), (true, ac_638), (true, am_9), (true, .inl (7, [(6, 6, 0), (6, 7, 0), (6, 8, 0), (1, 146, 0)])), (true, am_3), (true, am_1), (true, am_1), (false, am_1), (false, .inl (1, [(6, 2, 0), (8, 52, 0)])), (false, am_5), (false, am_7), (false, .inl (0, [(1, 53, 0), (6, 14, 0), (6, 15, 0), (6, 16, 0)])), (false, ac_602), (false, am_12), (false, ac_603), (false, am_4), (true, am_0), (false, am_11), (true, am_0), (true, am_1), (true, am_0), (false, am_4), (false, am_10), (true, am_0), (true, am_0)]
noncomputable def con_1128 : Con2 := ((yX11_flies, cX11_flies, 3, (some .int)), (7, 174), ([(6, 0, 0), (1, 1, 0), (1, 2, 0)], gi_753, hc_157, rq_5), [((1, 117, 0), gi_760, hq_577, [], tg_15)])
theorem hd_1128 : con_1128.1 = (yX11_flies, cX11_flies, 3, (some .int)) := rfl
theorem ck_RX11_266_1127 : COK2 RX11 vwCl gTbl 266 0 con_1127 := ⟨wd_1023, wd_125, mh_X11_cellNow, .inr (.inr ⟨rfl, wd_1020, wd_1022, wd_32, ⟨_, rfl, pd_X11_cellNow⟩, 11, _, TX11, 16, rfl, rfl⟩)⟩
noncomputable def ct_1128 : CTB2 := [(2, 139, 0, con_643, [0, 1, 2]), (10, 272, 0, con_1120, [0, 1, 2]), (26, 266, 0, con_1127, [0, 4, 1, 5, 2, 6, 7, 8, 9, 10, 11, 12, 13, 14, 15, 16, 3, 17, 18, 19, 20, 21, 22, 23, 24, 25, 26])]
noncomputable def cu_1128 : List CUT2 := []
theorem ch_1128 : staG tb_X11_flies 1 bt_RX11 [] ct_1128 [] [] cu_1128 19 con_1128 = true := by decide +kernel
theorem cto_1128 (l : Launch) : CTOK2 l RX11 vwCl gTbl ct_1128 := ct2_cons (vl_643 l) ck_RX11_139_643 (ct2_cons (vl_1120 l) ck_RX11_272_1120 (ct2_cons (vl_1127 l) ck_RX11_266_1127 (ct2_nil)))
theorem vl_1128 (l : Launch) : Vld2 l vwCl gTbl con_1128 := conR_ok3 gT_all (hd_1128) rfl pn_RX11 tk_X11_flies bo_RX11 xo_RX11 (cto_1128 l) ch_1128 cut_nil
/-- RookHustingModel flies -/
noncomputable def gi_761 : GI := jl_n [gp_362, jl_m 1 4, jl_z 45]
noncomputable def con_1129 : Con2 := ((yX12_flies, cX12_flies, 3, (some .int)), (10, 229), ([(6, 0, 0), (1, 1, 0), (1, 2, 0)], gi_746, hc_149, []), [((1, 71, 0), gi_761, hq_568, [], tg_1)])
theorem hd_1129 : con_1129.1 = (yX12_flies, cX12_flies, 3, (some .int)) := rfl
noncomputable def cu_1129 : List CUT2 := []
theorem ch_1129 : staG tb_X12_flies 1 bt_RX12 [] ct_1126 [] [] cu_1129 21 con_1129 = true := by decide +kernel
theorem vl_1129 (l : Launch) : Vld2 l vwCl gTbl con_1129 := conR_ok3 gT_all (hd_1129) rfl pn_RX12 tk_X12_flies bo_RX12 xo_RX12 (cto_1126 l) ch_1129 cut_nil
/-- RookHusting$Harvest sumOf -/
noncomputable def gi_762 : GI := jl_n [gp_359, gp_249]
noncomputable def ac_639 : AC := .inl (3, jl_n [vp_39, jl_8 10 4, vp_67])
noncomputable def gi_763 : GI := jl_n [gp_359, gp_250, gp_7]
noncomputable def hq_578 : HP := [(false, ac_639), (false, am_0)]
noncomputable def con_1130 : Con2 := ((yX3_sumOf, cX3_sumOf, 5, (some .int)), (0, 0), ([(6, 0, 0), (6, 1, 0), (1, 2, 0)], gi_762, [ac_639, am_0], []), [((1, 12, 0), gi_763, hq_578, [], [1])])
theorem hd_1130 : con_1130.1 = (yX3_sumOf, cX3_sumOf, 5, (some .int)) := rfl
noncomputable def gi_764 : GI := jl_n [gp_359, gp_250, gp_366]
noncomputable def cu_1130 : List CUT2 := [((5, [lq 0 6 0, lq 1 6 1, lq 2 1 2, lq 3 1 15, lq 4 1 16], [], gi_764, hq_578), [], ([(16, (-1))], 5))]
theorem ch_1130 : staG tb_X3_sumOf 1 bt_RX3 [] ct_863 [] [] cu_1130 19 con_1130 = true := by decide +kernel
theorem cc_1130 : cu_1130.all (cutG tb_X3_sumOf 1 bt_RX3 [] ct_863 [] [] cu_1130 19 con_1130) = true := by decide +kernel
theorem vl_1130 (l : Launch) : Vld2 l vwCl gTbl con_1130 := conR_ok3 gT_all (hd_1130) rfl pn_RX3 tk_X3_sumOf bo_RX3 xo_RX3 (cto_863 l) ch_1130 (cut_all cc_1130)
/-- RookHusting sumNow -/
noncomputable def gi_765 : GI := jl_n [gp_359, gp_342]
noncomputable def ac_640 : AC := .inl (11, jl_n [vp_34, jl_8 8 2, vp_94, jl_8 11 1, jl_6 17 1, jl_8 16 4, vp_102])
noncomputable def ac_641 : AC := .inl (4, jl_n [vp_125, vp_96, vp_97, jl_8 41 2, jl_6 11 1])
noncomputable def ac_642 : AC := .inr (1, jl_n [js_1 78 30])
noncomputable def ac_643 : AC := .inr (1, jl_n [js_1 108 30])
noncomputable def ac_644 : AC := .inl (3, jl_n [vp_119, jl_1 117 2])
noncomputable def hc_158 : List AC := [ac_640, am_0, .inl (9, [(6, 4, 0), (6, 12, 0)]), .inl (7, [(6, 5, 0), (6, 6, 0), (6, 7, 0), (1, 24, 0)]), ac_641, am_3, am_1, am_1, am_1, .inl (1, [(6, 4, 0), (8, 43, 0)]), am_5, am_7, .inl (0, [(1, 44, 0), (6, 13, 0), (6, 14, 0), (6, 15, 0)]), ac_642, am_12, ac_643, ac_644, am_4, am_0, am_11, am_1, am_0, am_4, am_10, am_0, am_0, am_9]
noncomputable def rq_6 : RLs := [([(48, 12), (78, (-1))], 4), ([(49, 12), (79, (-1))], 4), ([(50, 12), (80, (-1))], 4), ([(51, 12), (81, (-1))], 4), ([(52, 12), (82, (-1))], 4), ([(53, 12), (83, (-1))], 4), ([(54, 12), (84, (-1))], 4), ([(55, 12), (85, (-1))], 4), ([(56, 12), (86, (-1))], 4), ([(57, 12), (87, (-1))], 4), ([(58, 12), (88, (-1))], 4), ([(59, 12), (89, (-1))], 4), ([(60, 12), (90, (-1))], 4), ([(61, 12), (91, (-1))], 4), ([(62, 12), (92, (-1))], 4), ([(63, 12), (93, (-1))], 4), ([(64, 12), (94, (-1))], 4), ([(65, 12), (95, (-1))], 4), ([(66, 12), (96, (-1))], 4), ([(67, 12), (97, (-1))], 4), ([(68, 12), (98, (-1))], 4), ([(69, 12), (99, (-1))], 4), ([(70, 12), (100, (-1))], 4), ([(71, 12), (101, (-1))], 4), ([(72, 12), (102, (-1))], 4), ([(73, 12), (103, (-1))], 4), ([(74, 12), (104, (-1))], 4), ([(75, 12), (105, (-1))], 4), ([(76, 12), (106, (-1))], 4), ([(77, 12), (107, (-1))], 4)]
noncomputable def gi_766 : GI := jl_n [gp_359, gp_343]
noncomputable def ac_645 : AC := .inl (11, jl_n [vp_34, jl_8 8 2, vp_94, jl_8 11 1, jl_6 17 1, jl_8 16 4, jl_c 1, jl_8 19 2])
noncomputable def ac_646 : AC := .inl (3, jl_n [vp_119, jl_1 147 2])
noncomputable def hq_579 : HP := [(true, ac_645), (true, am_0), (false, .inl (9, [(6, 4, 0), (6, 12, 0)])), (true, .inl (7, [(6, 5, 0), (6, 6, 0), (6, 7, 0), (1, 137, 0)])), (false, ac_641), (true, am_3), (true, am_1), (true, am_1), (false, am_1), (false, .inl (1, [(6, 4, 0), (8, 43, 0)])), (false, am_5), (false, am_7), (false, .inl (0, [(1, 44, 0), (6, 13, 0), (6, 14, 0), (6, 15, 0)])), (false, ac_642), (false, am_12), (false, ac_643), (true, ac_646), (false, am_4), (true, am_0), (false, am_11), (true, am_1), (true, am_0), (false, am_4), (false, am_10), (true, am_0), (true, am_0), (true, am_9)]
noncomputable def con_1131 : Con2 := ((yX11_sumNow, cX11_sumNow, 3, (some .int)), (6, 151), ([(6, 0, 0), (6, 1, 0), (1, 2, 0)], gi_765, hc_158, rq_6), [((1, 117, 0), gi_766, hq_579, [], tg_15)])
theorem hd_1131 : con_1131.1 = (yX11_sumNow, cX11_sumNow, 3, (some .int)) := rfl
theorem ck_RX11_300_1130 : COK2 RX11 vwCl gTbl 300 0 con_1130 := ⟨wd_1055, wd_134, mh_X3_sumOf, .inr (.inr ⟨rfl, wd_1052, wd_1053, wd_1054, ⟨_, rfl, pd_X3_sumOf⟩, 3, _, TX3, 9, rfl, rfl⟩)⟩
noncomputable def ct_1131 : CTB2 := [(1, 208, 0, con_900, [0, 2, 3, 4, 5, 6, 7, 8, 9, 10, 11, 12, 13, 14, 15, 16, 17, 18, 19, 1, 20, 21, 22, 23, 24, 25, 26]), (10, 300, 0, con_1130, [16, 1])]
noncomputable def cu_1131 : List CUT2 := []
theorem ch_1131 : staG tb_X11_sumNow 1 bt_RX11 [] ct_1131 [] [] cu_1131 10 con_1131 = true := by decide +kernel
theorem cto_1131 (l : Launch) : CTOK2 l RX11 vwCl gTbl ct_1131 := ct2_cons (vl_900 l) ck_RX11_208_900 (ct2_cons (vl_1130 l) ck_RX11_300_1130 (ct2_nil))
theorem vl_1131 (l : Launch) : Vld2 l vwCl gTbl con_1131 := conR_ok3 gT_all (hd_1131) rfl pn_RX11 tk_X11_sumNow bo_RX11 xo_RX11 (cto_1131 l) ch_1131 cut_nil
/-- RookHusting all -/
noncomputable def gi_767 : GI := jl_n [gp_7, gp_350]
noncomputable def ac_647 : AC := .inl (11, jl_n [vp_61, vp_101, jl_8 10 1, jl_6 4 1, jl_8 15 4, vp_82])
noncomputable def ac_648 : AC := .inl (4, jl_n [jl_1 23 3, vp_65, vp_107, vp_126])
noncomputable def ac_649 : AC := .inl (3, jl_n [vp_120, jl_1 46 2])
noncomputable def ac_650 : AC := .inr (1, jl_n [js_1 86 30])
noncomputable def ac_651 : AC := .inr (1, jl_n [js_1 116 30])
noncomputable def hc_159 : List AC := [ac_647, .inl (9, [(6, 2, 0), (6, 13, 0)]), ac_648, ac_649, am_0, .inl (7, [(6, 6, 0), (6, 7, 0), (6, 8, 0), (1, 49, 0)]), am_3, am_1, am_1, am_1, .inl (1, [(6, 2, 0), (8, 51, 0)]), am_5, am_7, .inl (0, [(1, 52, 0), (6, 14, 0), (6, 15, 0), (6, 16, 0)]), ac_650, am_12, ac_651, am_4, am_0, am_11, am_1, am_0, am_4, am_10, am_0, am_0, am_9]
noncomputable def rq_7 : RLs := [([(56, 12), (86, (-1))], 4), ([(57, 12), (87, (-1))], 4), ([(58, 12), (88, (-1))], 4), ([(59, 12), (89, (-1))], 4), ([(60, 12), (90, (-1))], 4), ([(61, 12), (91, (-1))], 4), ([(62, 12), (92, (-1))], 4), ([(63, 12), (93, (-1))], 4), ([(64, 12), (94, (-1))], 4), ([(65, 12), (95, (-1))], 4), ([(66, 12), (96, (-1))], 4), ([(67, 12), (97, (-1))], 4), ([(68, 12), (98, (-1))], 4), ([(69, 12), (99, (-1))], 4), ([(70, 12), (100, (-1))], 4), ([(71, 12), (101, (-1))], 4), ([(72, 12), (102, (-1))], 4), ([(73, 12), (103, (-1))], 4), ([(74, 12), (104, (-1))], 4), ([(75, 12), (105, (-1))], 4), ([(76, 12), (106, (-1))], 4), ([(77, 12), (107, (-1))], 4), ([(78, 12), (108, (-1))], 4), ([(79, 12), (109, (-1))], 4), ([(80, 12), (110, (-1))], 4), ([(81, 12), (111, (-1))], 4), ([(82, 12), (112, (-1))], 4), ([(83, 12), (113, (-1))], 4), ([(84, 12), (114, (-1))], 4), ([(85, 12), (115, (-1))], 4)]
noncomputable def gi_768 : GI := jl_n [gp_7, gp_350, gp_353]
noncomputable def ac_652 : AC := .inl (11, jl_n [vp_61, vp_101, jl_8 10 1, jl_6 4 1, jl_8 15 4, jl_1 131 1, jl_8 18 2])
noncomputable def ac_653 : AC := .inl (3, jl_n [vp_120, jl_1 142 2])
noncomputable def hq_580 : HP := [(true, ac_652), (false, .inl (9, [(6, 2, 0), (6, 13, 0)])), (false, ac_648), (true, ac_653), (true, am_0), (true, .inl (7, [(6, 6, 0), (6, 7, 0), (6, 8, 0), (1, 145, 0)])), (true, am_3), (true, am_1), (true, am_1), (false, am_1), (false, .inl (1, [(6, 2, 0), (8, 51, 0)])), (false, am_5), (false, am_7), (false, .inl (0, [(1, 52, 0), (6, 14, 0), (6, 15, 0), (6, 16, 0)])), (false, ac_650), (false, am_12), (false, ac_651), (false, am_4), (true, am_0), (false, am_11), (true, am_1), (true, am_0), (false, am_4), (false, am_10), (true, am_0), (true, am_0), (true, am_9)]
noncomputable def con_1132 : Con2 := ((yX11_all, cX11_all, 2, (some .int)), (7, 173), ([(6, 0, 0), (1, 1, 0)], gi_767, hc_159, rq_7), [((1, 116, 0), gi_768, hq_580, [], tg_15)])
theorem hd_1132 : con_1132.1 = (yX11_all, cX11_all, 2, (some .int)) := rfl
theorem ck_RX11_281_1131 : COK2 RX11 vwCl gTbl 281 0 con_1131 := ⟨wd_1051, wd_125, mh_X11_sumNow, .inr (.inr ⟨rfl, wd_1048, wd_1050, wd_34, ⟨_, rfl, pd_X11_sumNow⟩, 11, _, TX11, 16, rfl, rfl⟩)⟩
noncomputable def ct_1132 : CTB2 := [(2, 260, 0, con_1097, [0, 1, 2]), (17, 281, 0, con_1131, [0, 4, 1, 5, 2, 6, 7, 8, 9, 10, 11, 12, 13, 14, 15, 16, 3, 17, 18, 19, 20, 21, 22, 23, 24, 25, 26])]
noncomputable def cu_1132 : List CUT2 := []
theorem ch_1132 : staG tb_X11_all 1 bt_RX11 [] ct_1132 [] [] cu_1132 14 con_1132 = true := by decide +kernel
theorem cto_1132 (l : Launch) : CTOK2 l RX11 vwCl gTbl ct_1132 := ct2_cons (vl_1097 l) ck_RX11_260_1097 (ct2_cons (vl_1131 l) ck_RX11_281_1131 (ct2_nil))
theorem vl_1132 (l : Launch) : Vld2 l vwCl gTbl con_1132 := conR_ok3 gT_all (hd_1132) rfl pn_RX11 tk_X11_all bo_RX11 xo_RX11 (cto_1132 l) ch_1132 cut_nil
/-- RookHustingModel allCorn -/
noncomputable def gi_769 : GI := jl_n [gp_340, gp_164]
noncomputable def ac_654 : AC := .inl (12, jl_n [vp_37, jl_8 29 25, jl_6 3 1, jl_8 47 17])
noncomputable def hc_160 : List AC := [ac_654, ac_438, am_0]
noncomputable def gi_770 : GI := jl_n [gp_340, gp_164, jl_t]
noncomputable def hq_581 : HP := [(false, ac_654), (false, ac_438), (false, am_0)]
noncomputable def con_1133 : Con2 := ((yX12_allCorn, cX12_allCorn, 4, (some .int)), (1, 20), ([(6, 0, 0), (1, 1, 0)], gi_769, hc_160, []), [((1, 70, 0), gi_770, hq_581, [], [1])])
theorem hd_1133 : con_1133.1 = (yX12_allCorn, cX12_allCorn, 4, (some .int)) := rfl
noncomputable def ct_1133 : CTB2 := [(6, 106, 0, con_646, [0, 1])]
noncomputable def gi_771 : GI := jl_n [gp_340, gp_165, jl_z 16, gp_208]
noncomputable def cu_1133 : List CUT2 := [((4, [lq 0 6 0, lq 1 1 1, lq 2 1 72, lq 3 1 73], [], gi_771, hq_581), [], ([(73, (-1))], 5))]
theorem ch_1133 : staG tb_X12_allCorn 1 bt_RX12 [] ct_1133 [] [] cu_1133 20 con_1133 = true := by decide +kernel
theorem cc_1133 : cu_1133.all (cutG tb_X12_allCorn 1 bt_RX12 [] ct_1133 [] [] cu_1133 20 con_1133) = true := by decide +kernel
theorem cto_1133 (l : Launch) : CTOK2 l RX12 vwCl gTbl ct_1133 := ct2_cons (vl_646 l) ck_RX12_106_646 (ct2_nil)
theorem vl_1133 (l : Launch) : Vld2 l vwCl gTbl con_1133 := conR_ok3 gT_all (hd_1133) rfl pn_RX12 tk_X12_allCorn bo_RX12 xo_RX12 (cto_1133 l) ch_1133 (cut_all cc_1133)
/-- RookHustingModel all -/
noncomputable def gi_772 : GI := jl_n [gp_294, gp_176]
noncomputable def con_1134 : Con2 := ((yX12_all, cX12_all, 2, (some .int)), (10, 229), ([(6, 0, 0), (1, 1, 0)], gi_508, hc_148, []), [((1, 70, 0), gi_772, hq_567, [], tg_1)])
theorem hd_1134 : con_1134.1 = (yX12_all, cX12_all, 2, (some .int)) := rfl
theorem ck_RX12_375_1133 : COK2 RX12 vwCl gTbl 375 0 con_1133 := ⟨wd_1934, wd_137, mh_X12_allCorn, .inr (.inr ⟨rfl, wd_1931, wd_1933, wd_104, ⟨_, rfl, pd_X12_allCorn⟩, 12, _, TX12, 45, rfl, rfl⟩)⟩
noncomputable def ct_1134 : CTB2 := [(2, 378, 0, con_1112, [0, 1, 2, 3, 4, 5, 6, 7, 8, 9, 10, 11, 12]), (10, 375, 0, con_1133, [0, 1, 7])]
noncomputable def cu_1134 : List CUT2 := []
theorem ch_1134 : staG tb_X12_all 1 bt_RX12 [] ct_1134 [] [] cu_1134 11 con_1134 = true := by decide +kernel
theorem cto_1134 (l : Launch) : CTOK2 l RX12 vwCl gTbl ct_1134 := ct2_cons (vl_1112 l) ck_RX12_378_1112 (ct2_cons (vl_1133 l) ck_RX12_375_1133 (ct2_nil))
theorem vl_1134 (l : Launch) : Vld2 l vwCl gTbl con_1134 := conR_ok3 gT_all (hd_1134) rfl pn_RX12 tk_X12_all bo_RX12 xo_RX12 (cto_1134 l) ch_1134 cut_nil
/-- RookHusting$Harvest fieldOfMost -/
noncomputable def ac_655 : AC := .inl (3, jl_n [vp_41, jl_8 10 5, vp_67])
noncomputable def gi_773 : GI := jl_n [gp_359, gp_249, jl_m 0 4]
noncomputable def hq_582 : HP := [(false, ac_655), (false, am_0)]
noncomputable def con_1135 : Con2 := ((yX3_fieldOfMost, cX3_fieldOfMost, 5, (some .int)), (0, 0), ([(6, 0, 0), (6, 1, 0), (1, 2, 0)], gi_762, [ac_655, am_0], []), [((1, 12, 0), gi_773, hq_582, [], [1])])
theorem hd_1135 : con_1135.1 = (yX3_fieldOfMost, cX3_fieldOfMost, 5, (some .int)) := rfl
noncomputable def gi_774 : GI := jl_n [gp_359, gp_250, jl_z 4, gp_225]
noncomputable def cu_1135 : List CUT2 := [((5, [lq 0 6 0, lq 1 6 1, lq 2 1 2, lq 3 1 15, lq 4 1 16], [], gi_774, hq_582), [], ([(16, (-1))], 5))]
theorem ch_1135 : staG tb_X3_fieldOfMost 1 bt_RX3 [] ct_863 [] [] cu_1135 29 con_1135 = true := by decide +kernel
theorem cc_1135 : cu_1135.all (cutG tb_X3_fieldOfMost 1 bt_RX3 [] ct_863 [] [] cu_1135 29 con_1135) = true := by decide +kernel
theorem vl_1135 (l : Launch) : Vld2 l vwCl gTbl con_1135 := conR_ok3 gT_all (hd_1135) rfl pn_RX3 tk_X3_fieldOfMost bo_RX3 xo_RX3 (cto_863 l) ch_1135 (cut_all cc_1135)
/-- RookHusting mostNow -/
noncomputable def ac_656 : AC := .inl (4, jl_n [vp_125, vp_115, vp_97, jl_8 41 2, jl_6 11 1])
noncomputable def ac_657 : AC := .inl (3, jl_n [vp_116, jl_1 117 2])
noncomputable def hc_161 : List AC := [ac_640, am_0, .inl (9, [(6, 4, 0), (6, 12, 0)]), .inl (7, [(6, 5, 0), (6, 6, 0), (6, 7, 0), (1, 24, 0)]), ac_656, am_3, am_1, am_1, am_1, .inl (1, [(6, 4, 0), (8, 43, 0)]), am_5, am_7, .inl (0, [(1, 44, 0), (6, 13, 0), (6, 14, 0), (6, 15, 0)]), ac_642, am_12, ac_643, ac_657, am_4, am_11, am_0, am_1, am_0, am_4, am_10, am_0, am_0, am_9]
noncomputable def gi_775 : GI := jl_n [gp_359, gp_342, jl_m 0 4, gp_272]
noncomputable def ac_658 : AC := .inl (3, jl_n [vp_116, jl_1 147 2])
noncomputable def hq_583 : HP := [(true, ac_645), (true, am_0), (false, .inl (9, [(6, 4, 0), (6, 12, 0)])), (true, .inl (7, [(6, 5, 0), (6, 6, 0), (6, 7, 0), (1, 137, 0)])), (false, ac_656), (true, am_3), (true, am_1), (true, am_1), (false, am_1), (false, .inl (1, [(6, 4, 0), (8, 43, 0)])), (false, am_5), (false, am_7), (false, .inl (0, [(1, 44, 0), (6, 13, 0), (6, 14, 0), (6, 15, 0)])), (false, ac_642), (false, am_12), (false, ac_643), (true, ac_658), (false, am_4), (false, am_11), (true, am_0), (true, am_1), (true, am_0), (false, am_4), (false, am_10), (true, am_0), (true, am_0), (true, am_9)]
noncomputable def con_1136 : Con2 := ((yX11_mostNow, cX11_mostNow, 3, (some .int)), (6, 151), ([(6, 0, 0), (6, 1, 0), (1, 2, 0)], gi_765, hc_161, rq_6), [((1, 117, 0), gi_775, hq_583, [], tg_15)])
theorem hd_1136 : con_1136.1 = (yX11_mostNow, cX11_mostNow, 3, (some .int)) := rfl
theorem ck_RX11_464_1135 : COK2 RX11 vwCl gTbl 464 0 con_1135 := ⟨wd_1067, wd_134, mh_X3_fieldOfMost, .inr (.inr ⟨rfl, wd_1064, wd_1065, wd_1066, ⟨_, rfl, pd_X3_fieldOfMost⟩, 3, _, TX3, 9, rfl, rfl⟩)⟩
noncomputable def ct_1136 : CTB2 := [(1, 208, 0, con_900, [0, 2, 3, 4, 5, 6, 7, 8, 9, 10, 11, 12, 13, 14, 15, 16, 17, 1, 18, 19, 20, 21, 22, 23, 24, 25, 26]), (10, 464, 0, con_1135, [16, 1])]
noncomputable def cu_1136 : List CUT2 := []
theorem ch_1136 : staG tb_X11_mostNow 1 bt_RX11 [] ct_1136 [] [] cu_1136 10 con_1136 = true := by decide +kernel
theorem cto_1136 (l : Launch) : CTOK2 l RX11 vwCl gTbl ct_1136 := ct2_cons (vl_900 l) ck_RX11_208_900 (ct2_cons (vl_1135 l) ck_RX11_464_1135 (ct2_nil))
theorem vl_1136 (l : Launch) : Vld2 l vwCl gTbl con_1136 := conR_ok3 gT_all (hd_1136) rfl pn_RX11 tk_X11_mostNow bo_RX11 xo_RX11 (cto_1136 l) ch_1136 cut_nil
/-- RookHusting black -/
noncomputable def ac_659 : AC := .inl (4, jl_n [jl_1 23 3, vp_65, vp_115, jl_6 10 1, vp_106, vp_126])
noncomputable def ac_660 : AC := .inl (3, jl_n [vp_117, jl_1 46 2])
noncomputable def hc_162 : List AC := [ac_647, .inl (9, [(6, 2, 0), (6, 13, 0)]), ac_659, ac_660, am_0, .inl (7, [(6, 6, 0), (6, 7, 0), (6, 8, 0), (1, 49, 0)]), am_3, am_1, am_1, am_1, .inl (1, [(6, 2, 0), (8, 51, 0)]), am_5, am_7, .inl (0, [(1, 52, 0), (6, 14, 0), (6, 15, 0), (6, 16, 0)]), ac_650, am_12, ac_651, am_4, am_11, am_0, am_1, am_0, am_4, am_10, am_0, am_0, am_9]
noncomputable def gi_776 : GI := jl_n [gp_7, gp_350, jl_m 1 4, gp_352]
noncomputable def ac_661 : AC := .inl (3, jl_n [vp_117, jl_1 142 2])
noncomputable def hq_584 : HP := [(true, ac_652), (false, .inl (9, [(6, 2, 0), (6, 13, 0)])), (false, ac_659), (true, ac_661), (true, am_0), (true, .inl (7, [(6, 6, 0), (6, 7, 0), (6, 8, 0), (1, 145, 0)])), (true, am_3), (true, am_1), (true, am_1), (false, am_1), (false, .inl (1, [(6, 2, 0), (8, 51, 0)])), (false, am_5), (false, am_7), (false, .inl (0, [(1, 52, 0), (6, 14, 0), (6, 15, 0), (6, 16, 0)])), (false, ac_650), (false, am_12), (false, ac_651), (false, am_4), (false, am_11), (true, am_0), (true, am_1), (true, am_0), (false, am_4), (false, am_10), (true, am_0), (true, am_0), (true, am_9)]
noncomputable def con_1137 : Con2 := ((yX11_black, cX11_black, 2, (some .int)), (7, 173), ([(6, 0, 0), (1, 1, 0)], gi_767, hc_162, rq_7), [((1, 116, 0), gi_776, hq_584, [], tg_15)])
theorem hd_1137 : con_1137.1 = (yX11_black, cX11_black, 2, (some .int)) := rfl
theorem ck_RX11_285_1136 : COK2 RX11 vwCl gTbl 285 0 con_1136 := ⟨wd_1063, wd_125, mh_X11_mostNow, .inr (.inr ⟨rfl, wd_1060, wd_1062, wd_35, ⟨_, rfl, pd_X11_mostNow⟩, 11, _, TX11, 16, rfl, rfl⟩)⟩
noncomputable def ct_1137 : CTB2 := [(2, 260, 0, con_1097, [0, 1, 2]), (17, 285, 0, con_1136, [0, 4, 1, 5, 2, 6, 7, 8, 9, 10, 11, 12, 13, 14, 15, 16, 3, 17, 18, 19, 20, 21, 22, 23, 24, 25, 26])]
noncomputable def cu_1137 : List CUT2 := []
theorem ch_1137 : staG tb_X11_black 1 bt_RX11 [] ct_1137 [] [] cu_1137 14 con_1137 = true := by decide +kernel
theorem cto_1137 (l : Launch) : CTOK2 l RX11 vwCl gTbl ct_1137 := ct2_cons (vl_1097 l) ck_RX11_260_1097 (ct2_cons (vl_1136 l) ck_RX11_285_1136 (ct2_nil))
theorem vl_1137 (l : Launch) : Vld2 l vwCl gTbl con_1137 := conR_ok3 gT_all (hd_1137) rfl pn_RX11 tk_X11_black bo_RX11 xo_RX11 (cto_1137 l) ch_1137 cut_nil
/-- RookHustingModel black -/
noncomputable def con_1138 : Con2 := ((yX12_black, cX12_black, 4, (some .int)), (10, 229), ([(6, 0, 0), (1, 1, 0)], gi_508, hc_148, []), [((1, 70, 0), gi_509, hq_567, [], tg_1)])
theorem hd_1138 : con_1138.1 = (yX12_black, cX12_black, 4, (some .int)) := rfl
noncomputable def ct_1138 : CTB2 := [(2, 378, 0, con_1112, [0, 1, 2, 3, 4, 5, 6, 7, 8, 9, 10, 11, 12]), (17, 106, 0, con_646, [0, 1])]
noncomputable def gi_777 : GI := jl_n [gp_340, gp_288, gp_15, gp_203, jl_z 16, jl_m 0 4, gp_290]
noncomputable def cu_1138 : List CUT2 := [((15, [lq 0 6 0, lq 1 1 1, lq 2 1 72, lq 3 1 73], [], gi_777, hq_567), [], ([(73, (-1))], 5))]
theorem ch_1138 : staG tb_X12_black 1 bt_RX12 [] ct_1138 [] [] cu_1138 31 con_1138 = true := by decide +kernel
theorem cc_1138 : cu_1138.all (cutG tb_X12_black 1 bt_RX12 [] ct_1138 [] [] cu_1138 31 con_1138) = true := by decide +kernel
theorem cto_1138 (l : Launch) : CTOK2 l RX12 vwCl gTbl ct_1138 := ct2_cons (vl_1112 l) ck_RX12_378_1112 (ct2_cons (vl_646 l) ck_RX12_106_646 (ct2_nil))
theorem vl_1138 (l : Launch) : Vld2 l vwCl gTbl con_1138 := conR_ok3 gT_all (hd_1138) rfl pn_RX12 tk_X12_black bo_RX12 xo_RX12 (cto_1138 l) ch_1138 (cut_all cc_1138)
/-- RookHusting$Harvest firstZero -/
noncomputable def gi_778 : GI := jl_n [gp_23, gp_367]
noncomputable def ac_662 : AC := .inl (3, jl_n [jl_6 2 1, jl_8 11 7, jl_1 12 1])
noncomputable def gi_779 : GI := jl_n [gp_23, gp_367, jl_m 0 16]
noncomputable def hq_585 : HP := [(false, ac_662), (false, am_0)]
noncomputable def con_1139 : Con2 := ((yX3_firstZero, cX3_firstZero, 4, (some .int)), (0, 0), ([(6, 0, 0), (6, 1, 0), (1, 2, 0)], gi_778, [ac_662, am_0], []), [((1, 12, 0), gi_779, hq_585, [], [1])])
theorem hd_1139 : con_1139.1 = (yX3_firstZero, cX3_firstZero, 4, (some .int)) := rfl
noncomputable def gi_780 : GI := jl_n [gp_23, gp_367, jl_z 3, jl_i 0 17]
noncomputable def cu_1139 : List CUT2 := [((2, [lq 0 6 0, lq 1 6 1, lq 2 1 2, lq 3 1 15], [], gi_780, hq_585), [], ([(15, (-1))], 17))]
theorem ch_1139 : staG tb_X3_firstZero 1 bt_RX3 [] ct_863 [] [] cu_1139 17 con_1139 = true := by decide +kernel
theorem cc_1139 : cu_1139.all (cutG tb_X3_firstZero 1 bt_RX3 [] ct_863 [] [] cu_1139 17 con_1139) = true := by decide +kernel
theorem vl_1139 (l : Launch) : Vld2 l vwCl gTbl con_1139 := conR_ok3 gT_all (hd_1139) rfl pn_RX3 tk_X3_firstZero bo_RX3 xo_RX3 (cto_863 l) ch_1139 (cut_all cc_1139)
/-- RookHusting firstZeroNow -/
noncomputable def gi_781 : GI := jl_n [gp_369]
noncomputable def ac_663 : AC := .inl (3, jl_n [vp_100, jl_1 117 2])
noncomputable def hc_163 : List AC := [ac_640, am_0, .inl (9, [(6, 4, 0), (6, 12, 0)]), .inl (7, [(6, 5, 0), (6, 6, 0), (6, 7, 0), (1, 24, 0)]), ac_641, am_3, am_1, am_1, am_1, .inl (1, [(6, 4, 0), (8, 43, 0)]), am_5, am_7, .inl (0, [(1, 44, 0), (6, 13, 0), (6, 14, 0), (6, 15, 0)]), ac_642, am_12, ac_643, ac_663, am_4, am_0, am_11, am_0, am_1, am_4, am_10, am_0, am_0, am_9]
noncomputable def gi_782 : GI := jl_n [gp_369, jl_m 0 16, gp_272]
noncomputable def ac_664 : AC := .inl (3, jl_n [vp_100, jl_1 147 2])
noncomputable def hq_586 : HP := [(true, ac_645), (true, am_0), (false, .inl (9, [(6, 4, 0), (6, 12, 0)])), (true, .inl (7, [(6, 5, 0), (6, 6, 0), (6, 7, 0), (1, 137, 0)])), (false, ac_641), (true, am_3), (true, am_1), (true, am_1), (false, am_1), (false, .inl (1, [(6, 4, 0), (8, 43, 0)])), (false, am_5), (false, am_7), (false, .inl (0, [(1, 44, 0), (6, 13, 0), (6, 14, 0), (6, 15, 0)])), (false, ac_642), (false, am_12), (false, ac_643), (true, ac_664), (false, am_4), (true, am_0), (false, am_11), (true, am_0), (true, am_1), (false, am_4), (false, am_10), (true, am_0), (true, am_0), (true, am_9)]
noncomputable def con_1140 : Con2 := ((yX11_firstZeroNow, cX11_firstZeroNow, 3, (some .int)), (6, 151), ([(6, 0, 0), (6, 1, 0), (1, 2, 0)], gi_781, hc_163, rq_6), [((1, 117, 0), gi_782, hq_586, [], tg_15)])
theorem hd_1140 : con_1140.1 = (yX11_firstZeroNow, cX11_firstZeroNow, 3, (some .int)) := rfl
theorem ck_RX11_467_1139 : COK2 RX11 vwCl gTbl 467 0 con_1139 := ⟨wd_1083, wd_134, mh_X3_firstZero, .inr (.inr ⟨rfl, wd_1080, wd_1081, wd_1082, ⟨_, rfl, pd_X3_firstZero⟩, 3, _, TX3, 9, rfl, rfl⟩)⟩
noncomputable def ct_1140 : CTB2 := [(1, 208, 0, con_900, [0, 2, 3, 4, 5, 6, 7, 8, 9, 10, 11, 12, 13, 14, 15, 16, 17, 18, 19, 20, 21, 1, 22, 23, 24, 25, 26]), (10, 467, 0, con_1139, [16, 1])]
noncomputable def cu_1140 : List CUT2 := []
theorem ch_1140 : staG tb_X11_firstZeroNow 1 bt_RX11 [] ct_1140 [] [] cu_1140 10 con_1140 = true := by decide +kernel
theorem cto_1140 (l : Launch) : CTOK2 l RX11 vwCl gTbl ct_1140 := ct2_cons (vl_900 l) ck_RX11_208_900 (ct2_cons (vl_1139 l) ck_RX11_467_1139 (ct2_nil))
theorem vl_1140 (l : Launch) : Vld2 l vwCl gTbl con_1140 := conR_ok3 gT_all (hd_1140) rfl pn_RX11 tk_X11_firstZeroNow bo_RX11 xo_RX11 (cto_1140 l) ch_1140 cut_nil
/-- RookHusting shoulder -/
noncomputable def gi_783 : GI := jl_n [gp_275, gp_349]
noncomputable def ac_665 : AC := .inl (4, jl_n [vp_83, vp_107, vp_126])
noncomputable def ac_666 : AC := .inl (3, jl_n [vp_108, jl_1 46 2])
noncomputable def hc_164 : List AC := [ac_647, .inl (9, [(6, 2, 0), (6, 13, 0)]), ac_665, ac_666, am_0, .inl (7, [(6, 6, 0), (6, 7, 0), (6, 8, 0), (1, 49, 0)]), am_3, am_1, am_1, am_1, .inl (1, [(6, 2, 0), (8, 51, 0)]), am_5, am_7, .inl (0, [(1, 52, 0), (6, 14, 0), (6, 15, 0), (6, 16, 0)]), ac_650, am_12, ac_651, am_4, am_0, am_11, am_0, am_1, am_4, am_10, am_0, am_0, am_9]
noncomputable def gi_784 : GI := jl_n [gp_275, gp_349, jl_m 1 16, gp_352]
noncomputable def ac_667 : AC := .inl (3, jl_n [vp_108, jl_1 142 2])
noncomputable def hq_587 : HP := [(true, ac_652), (false, .inl (9, [(6, 2, 0), (6, 13, 0)])), (false, ac_665), (true, ac_667), (true, am_0), (true, .inl (7, [(6, 6, 0), (6, 7, 0), (6, 8, 0), (1, 145, 0)])), (true, am_3), (true, am_1), (true, am_1), (false, am_1), (false, .inl (1, [(6, 2, 0), (8, 51, 0)])), (false, am_5), (false, am_7), (false, .inl (0, [(1, 52, 0), (6, 14, 0), (6, 15, 0), (6, 16, 0)])), (false, ac_650), (false, am_12), (false, ac_651), (false, am_4), (true, am_0), (false, am_11), (true, am_0), (true, am_1), (false, am_4), (false, am_10), (true, am_0), (true, am_0), (true, am_9)]
noncomputable def con_1141 : Con2 := ((yX11_shoulder, cX11_shoulder, 2, (some .int)), (7, 173), ([(6, 0, 0), (1, 1, 0)], gi_783, hc_164, rq_7), [((1, 116, 0), gi_784, hq_587, [], tg_15)])
theorem hd_1141 : con_1141.1 = (yX11_shoulder, cX11_shoulder, 2, (some .int)) := rfl
theorem ck_RX11_288_1140 : COK2 RX11 vwCl gTbl 288 0 con_1140 := ⟨wd_1079, wd_125, mh_X11_firstZeroNow, .inr (.inr ⟨rfl, wd_1076, wd_1078, wd_36, ⟨_, rfl, pd_X11_firstZeroNow⟩, 11, _, TX11, 16, rfl, rfl⟩)⟩
noncomputable def ct_1141 : CTB2 := [(2, 139, 0, con_643, [0, 1, 2]), (17, 288, 0, con_1140, [0, 4, 1, 5, 2, 6, 7, 8, 9, 10, 11, 12, 13, 14, 15, 16, 3, 17, 18, 19, 20, 21, 22, 23, 24, 25, 26])]
noncomputable def cu_1141 : List CUT2 := []
theorem ch_1141 : staG tb_X11_shoulder 1 bt_RX11 [] ct_1141 [] [] cu_1141 14 con_1141 = true := by decide +kernel
theorem cto_1141 (l : Launch) : CTOK2 l RX11 vwCl gTbl ct_1141 := ct2_cons (vl_643 l) ck_RX11_139_643 (ct2_cons (vl_1140 l) ck_RX11_288_1140 (ct2_nil))
theorem vl_1141 (l : Launch) : Vld2 l vwCl gTbl con_1141 := conR_ok3 gT_all (hd_1141) rfl pn_RX11 tk_X11_shoulder bo_RX11 xo_RX11 (cto_1141 l) ch_1141 cut_nil
/-- RookHustingModel asksField -/
noncomputable def gi_785 : GI := jl_n [gp_371, jl_z 60]
noncomputable def con_1142 : Con2 := ((yX12_asksField, cX12_asksField, 2, (some .boolean)), (9, 208), ([(6, 0, 0), (1, 1, 0)], gi_508, hc_148, []), [((0, 0, 0), gi_744, hq_567, [], tg_1), ((0, 1, 0), gi_785, hq_567, [], tg_1)])
theorem hd_1142 : con_1142.1 = (yX12_asksField, cX12_asksField, 2, (some .boolean)) := rfl
noncomputable def ct_1142 : CTB2 := [(1, 366, 0, con_1109, [0, 1, 2, 3, 4, 5, 6, 7, 8, 9, 10, 11, 12]), (8, 109, 0, con_647, [0, 1])]
noncomputable def cu_1142 : List CUT2 := []
theorem ch_1142 : staG tb_X12_asksField 1 bt_RX12 [] ct_1142 [] [] cu_1142 10 con_1142 = true := by decide +kernel
theorem cto_1142 (l : Launch) : CTOK2 l RX12 vwCl gTbl ct_1142 := ct2_cons (vl_1109 l) ck_RX12_366_1109 (ct2_cons (vl_647 l) ck_RX12_109_647 (ct2_nil))
theorem vl_1142 (l : Launch) : Vld2 l vwCl gTbl con_1142 := conR_ok3 gT_all (hd_1142) rfl pn_RX12 tk_X12_asksField bo_RX12 xo_RX12 (cto_1142 l) ch_1142 cut_nil
/-- RookHustingModel shoulder -/
noncomputable def gi_786 : GI := jl_n [gp_294, jl_m 1 16, jl_z 45]
noncomputable def con_1143 : Con2 := ((yX12_shoulder, cX12_shoulder, 3, (some .int)), (10, 229), ([(6, 0, 0), (1, 1, 0)], gi_508, hc_148, []), [((1, 70, 0), gi_786, hq_567, [], tg_1)])
theorem hd_1143 : con_1143.1 = (yX12_shoulder, cX12_shoulder, 3, (some .int)) := rfl
theorem ck_RX12_384_1142 : COK2 RX12 vwCl gTbl 384 0 con_1142 := ⟨wd_1946, wd_137, mh_X12_asksField, .inr (.inr ⟨rfl, wd_1943, wd_1945, wd_105, ⟨_, rfl, pd_X12_asksField⟩, 12, _, TX12, 45, rfl, rfl⟩)⟩
noncomputable def ct_1143 : CTB2 := [(2, 384, 0, con_1142, [0, 1, 2, 3, 4, 5, 6, 7, 8, 9, 10, 11, 12]), (15, 103, 0, con_1100, [0, 1])]
noncomputable def gi_787 : GI := jl_n [gp_371, jl_z 16, jl_i 0 17, jl_z 45]
noncomputable def cu_1143 : List CUT2 := [((13, [lq 0 6 0, lq 1 1 1, lq 2 1 72], [], gi_787, hq_567), [], ([(72, (-1))], 17))]
theorem ch_1143 : staG tb_X12_shoulder 1 bt_RX12 [] ct_1143 [] [] cu_1143 18 con_1143 = true := by decide +kernel
theorem cc_1143 : cu_1143.all (cutG tb_X12_shoulder 1 bt_RX12 [] ct_1143 [] [] cu_1143 18 con_1143) = true := by decide +kernel
theorem cto_1143 (l : Launch) : CTOK2 l RX12 vwCl gTbl ct_1143 := ct2_cons (vl_1142 l) ck_RX12_384_1142 (ct2_cons (vl_1100 l) ck_RX12_103_1100 (ct2_nil))
theorem vl_1143 (l : Launch) : Vld2 l vwCl gTbl con_1143 := conR_ok3 gT_all (hd_1143) rfl pn_RX12 tk_X12_shoulder bo_RX12 xo_RX12 (cto_1143 l) ch_1143 (cut_all cc_1143)
/-- RookHusting$Harvest firstZero -/
noncomputable def ac_668 : AC := .inl (3, jl_n [vp_39, jl_8 11 5, jl_1 12 1])
noncomputable def hq_588 : HP := [(false, ac_668), (false, am_0)]
noncomputable def con_1144 : Con2 := ((yX3_firstZero, cX3_firstZero, 4, (some .int)), (0, 0), ([(6, 0, 0), (6, 1, 0), (1, 2, 0)], gi_778, [ac_668, am_0], []), [((1, 12, 0), gi_779, hq_588, [], [1])])
theorem hd_1144 : con_1144.1 = (yX3_firstZero, cX3_firstZero, 4, (some .int)) := rfl
noncomputable def cu_1144 : List CUT2 := [((2, [lq 0 6 0, lq 1 6 1, lq 2 1 2, lq 3 1 15], [], gi_780, hq_588), [], ([(15, (-1))], 17))]
theorem ch_1144 : staG tb_X3_firstZero 1 bt_RX3 [] ct_863 [] [] cu_1144 17 con_1144 = true := by decide +kernel
theorem cc_1144 : cu_1144.all (cutG tb_X3_firstZero 1 bt_RX3 [] ct_863 [] [] cu_1144 17 con_1144) = true := by decide +kernel
theorem vl_1144 (l : Launch) : Vld2 l vwCl gTbl con_1144 := conR_ok3 gT_all (hd_1144) rfl pn_RX3 tk_X3_firstZero bo_RX3 xo_RX3 (cto_863 l) ch_1144 (cut_all cc_1144)
/-- RookHusting firstZeroNow -/
noncomputable def con_1145 : Con2 := ((yX11_firstZeroNow, cX11_firstZeroNow, 3, (some .int)), (6, 151), ([(6, 0, 0), (6, 1, 0), (1, 2, 0)], gi_781, hc_158, rq_6), [((1, 117, 0), gi_782, hq_579, [], tg_15)])
theorem hd_1145 : con_1145.1 = (yX11_firstZeroNow, cX11_firstZeroNow, 3, (some .int)) := rfl
theorem ck_RX11_467_1144 : COK2 RX11 vwCl gTbl 467 0 con_1144 := ⟨wd_1083, wd_134, mh_X3_firstZero, .inr (.inr ⟨rfl, wd_1080, wd_1081, wd_1082, ⟨_, rfl, pd_X3_firstZero⟩, 3, _, TX3, 9, rfl, rfl⟩)⟩
noncomputable def ct_1145 : CTB2 := [(1, 208, 0, con_900, [0, 2, 3, 4, 5, 6, 7, 8, 9, 10, 11, 12, 13, 14, 15, 16, 17, 18, 19, 1, 20, 21, 22, 23, 24, 25, 26]), (10, 467, 0, con_1144, [16, 1])]
noncomputable def cu_1145 : List CUT2 := []
theorem ch_1145 : staG tb_X11_firstZeroNow 1 bt_RX11 [] ct_1145 [] [] cu_1145 10 con_1145 = true := by decide +kernel
theorem cto_1145 (l : Launch) : CTOK2 l RX11 vwCl gTbl ct_1145 := ct2_cons (vl_900 l) ck_RX11_208_900 (ct2_cons (vl_1144 l) ck_RX11_467_1144 (ct2_nil))
theorem vl_1145 (l : Launch) : Vld2 l vwCl gTbl con_1145 := conR_ok3 gT_all (hd_1145) rfl pn_RX11 tk_X11_firstZeroNow bo_RX11 xo_RX11 (cto_1145 l) ch_1145 cut_nil
/-- RookHusting bare -/
noncomputable def hc_165 : List AC := [ac_647, .inl (9, [(6, 2, 0), (6, 13, 0)]), ac_665, ac_649, am_0, .inl (7, [(6, 6, 0), (6, 7, 0), (6, 8, 0), (1, 49, 0)]), am_3, am_1, am_1, am_1, .inl (1, [(6, 2, 0), (8, 51, 0)]), am_5, am_7, .inl (0, [(1, 52, 0), (6, 14, 0), (6, 15, 0), (6, 16, 0)]), ac_650, am_12, ac_651, am_4, am_0, am_11, am_1, am_0, am_4, am_10, am_0, am_0, am_9]
noncomputable def hq_589 : HP := [(true, ac_652), (false, .inl (9, [(6, 2, 0), (6, 13, 0)])), (false, ac_665), (true, ac_653), (true, am_0), (true, .inl (7, [(6, 6, 0), (6, 7, 0), (6, 8, 0), (1, 145, 0)])), (true, am_3), (true, am_1), (true, am_1), (false, am_1), (false, .inl (1, [(6, 2, 0), (8, 51, 0)])), (false, am_5), (false, am_7), (false, .inl (0, [(1, 52, 0), (6, 14, 0), (6, 15, 0), (6, 16, 0)])), (false, ac_650), (false, am_12), (false, ac_651), (false, am_4), (true, am_0), (false, am_11), (true, am_1), (true, am_0), (false, am_4), (false, am_10), (true, am_0), (true, am_0), (true, am_9)]
noncomputable def con_1146 : Con2 := ((yX11_bare, cX11_bare, 2, (some .int)), (7, 173), ([(6, 0, 0), (1, 1, 0)], gi_783, hc_165, rq_7), [((1, 116, 0), gi_784, hq_589, [], tg_15)])
theorem hd_1146 : con_1146.1 = (yX11_bare, cX11_bare, 2, (some .int)) := rfl
theorem ck_RX11_288_1145 : COK2 RX11 vwCl gTbl 288 0 con_1145 := ⟨wd_1079, wd_125, mh_X11_firstZeroNow, .inr (.inr ⟨rfl, wd_1076, wd_1078, wd_36, ⟨_, rfl, pd_X11_firstZeroNow⟩, 11, _, TX11, 16, rfl, rfl⟩)⟩
noncomputable def ct_1146 : CTB2 := [(2, 139, 0, con_643, [0, 1, 2]), (17, 288, 0, con_1145, [0, 4, 1, 5, 2, 6, 7, 8, 9, 10, 11, 12, 13, 14, 15, 16, 3, 17, 18, 19, 20, 21, 22, 23, 24, 25, 26])]
noncomputable def cu_1146 : List CUT2 := []
theorem ch_1146 : staG tb_X11_bare 1 bt_RX11 [] ct_1146 [] [] cu_1146 14 con_1146 = true := by decide +kernel
theorem cto_1146 (l : Launch) : CTOK2 l RX11 vwCl gTbl ct_1146 := ct2_cons (vl_643 l) ck_RX11_139_643 (ct2_cons (vl_1145 l) ck_RX11_288_1145 (ct2_nil))
theorem vl_1146 (l : Launch) : Vld2 l vwCl gTbl con_1146 := conR_ok3 gT_all (hd_1146) rfl pn_RX11 tk_X11_bare bo_RX11 xo_RX11 (cto_1146 l) ch_1146 cut_nil
/-- RookHustingModel bare -/
noncomputable def con_1147 : Con2 := ((yX12_bare, cX12_bare, 3, (some .int)), (10, 229), ([(6, 0, 0), (1, 1, 0)], gi_508, hc_148, []), [((1, 70, 0), gi_786, hq_567, [], tg_1)])
theorem hd_1147 : con_1147.1 = (yX12_bare, cX12_bare, 3, (some .int)) := rfl
noncomputable def cu_1147 : List CUT2 := [((13, [lq 0 6 0, lq 1 1 1, lq 2 1 72], [], gi_787, hq_567), [], ([(72, (-1))], 17))]
theorem ch_1147 : staG tb_X12_bare 1 bt_RX12 [] ct_1143 [] [] cu_1147 18 con_1147 = true := by decide +kernel
theorem cc_1147 : cu_1147.all (cutG tb_X12_bare 1 bt_RX12 [] ct_1143 [] [] cu_1147 18 con_1147) = true := by decide +kernel
theorem vl_1147 (l : Launch) : Vld2 l vwCl gTbl con_1147 := conR_ok3 gT_all (hd_1147) rfl pn_RX12 tk_X12_bare bo_RX12 xo_RX12 (cto_1143 l) ch_1147 (cut_all cc_1147)
/-- RookHusting$Harvest daysEaten -/
noncomputable def gi_788 : GI := jl_n [gp_52, gp_367]
noncomputable def ac_669 : AC := .inl (3, jl_n [jl_8 5 3, jl_6 2 1, jl_8 10 4, jl_1 11 1])
noncomputable def gi_789 : GI := jl_n [gp_52, gp_367, jl_t]
noncomputable def hq_590 : HP := [(false, ac_669), (false, am_0)]
noncomputable def con_1152 : Con2 := ((yX3_daysEaten, cX3_daysEaten, 4, (some .int)), (0, 0), ([(6, 0, 0), (1, 1, 0)], gi_788, [ac_669, am_0], []), [((1, 11, 0), gi_789, hq_590, [], [1])])
theorem hd_1152 : con_1152.1 = (yX3_daysEaten, cX3_daysEaten, 4, (some .int)) := rfl
noncomputable def gi_790 : GI := jl_n [gp_52, jl_z 8, gp_372, gp_339]
noncomputable def cu_1152 : List CUT2 := [((4, [lq 0 6 0, lq 1 1 1, lq 2 1 13, lq 3 1 14], [], gi_790, hq_590), [], ([(14, (-1))], 16))]
theorem ch_1152 : staG tb_X3_daysEaten 1 bt_RX3 [] ct_863 [] [] cu_1152 19 con_1152 = true := by decide +kernel
theorem cc_1152 : cu_1152.all (cutG tb_X3_daysEaten 1 bt_RX3 [] ct_863 [] [] cu_1152 19 con_1152) = true := by decide +kernel
theorem vl_1152 (l : Launch) : Vld2 l vwCl gTbl con_1152 := conR_ok3 gT_all (hd_1152) rfl pn_RX3 tk_X3_daysEaten bo_RX3 xo_RX3 (cto_863 l) ch_1152 (cut_all cc_1152)
/-- RookHusting kept -/
noncomputable def gi_791 : GI := jl_n [gp_374]
noncomputable def ac_670 : AC := .inl (11, jl_n [vp_127, vp_72, vp_73])
noncomputable def ac_671 : AC := .inl (4, jl_n [jl_1 22 3, jl_8 23 1, vp_109, vp_75, jl_8 35 2, jl_6 10 1])
noncomputable def hc_166 : List AC := [ac_670, .inl (9, [(6, 2, 0), (6, 11, 0)]), ac_671, .inl (7, [(6, 4, 0), (6, 5, 0), (6, 6, 0), (1, 39, 0)]), am_3, am_1, am_1, am_1, .inl (1, [(6, 2, 0), (8, 41, 0)]), am_5, am_7, .inl (0, [(1, 42, 0), (6, 12, 0), (6, 13, 0), (6, 14, 0)]), ac_508, am_12, ac_509, ac_510, am_4, am_0, am_11, am_0, am_1, am_0, am_4, am_10, am_0, am_0, am_9]
noncomputable def gi_792 : GI := jl_n [gp_374, gp_375]
noncomputable def ac_672 : AC := .inl (11, jl_n [vp_127, vp_72, jl_1 130 1, jl_8 17 2])
noncomputable def ac_673 : AC := .inl (3, jl_n [vp_78, jl_1 145 2])
noncomputable def hq_591 : HP := [(true, ac_672), (false, .inl (9, [(6, 2, 0), (6, 11, 0)])), (false, ac_671), (true, .inl (7, [(6, 4, 0), (6, 5, 0), (6, 6, 0), (1, 135, 0)])), (true, am_3), (true, am_1), (true, am_1), (false, am_1), (false, .inl (1, [(6, 2, 0), (8, 41, 0)])), (false, am_5), (false, am_7), (false, .inl (0, [(1, 42, 0), (6, 12, 0), (6, 13, 0), (6, 14, 0)])), (false, ac_508), (false, am_12), (false, ac_509), (true, ac_673), (false, am_4), (true, am_0), (false, am_11), (true, am_0), (true, am_1), (true, am_0), (false, am_4), (false, am_10), (true, am_0), (true, am_0), (true, am_9)]
noncomputable def con_1153 : Con2 := ((yX11_kept, cX11_kept, 3, (some .int)), (6, 151), ([(6, 0, 0)], gi_791, hc_166, rq_2), [((1, 115, 0), gi_792, hq_591, [], tg_15)])
theorem hd_1153 : con_1153.1 = (yX11_kept, cX11_kept, 3, (some .int)) := rfl
theorem ck_RX11_294_1152 : COK2 RX11 vwCl gTbl 294 0 con_1152 := ⟨wd_1095, wd_134, mh_X3_daysEaten, .inr (.inr ⟨rfl, wd_1092, wd_1093, wd_1094, ⟨_, rfl, pd_X3_daysEaten⟩, 3, _, TX3, 9, rfl, rfl⟩)⟩
noncomputable def ct_1153 : CTB2 := [(1, 219, 0, con_667, [0, 1, 2]), (11, 208, 0, con_900, [0, 1, 3, 2, 4, 5, 6, 7, 8, 9, 10, 11, 12, 13, 14, 15, 16, 17, 18, 19, 20, 21, 22, 23, 24, 25, 26]), (37, 294, 0, con_1152, [15, 24])]
noncomputable def gi_793 : GI := jl_n [gp_376, gp_279, gp_7, jl_i 0 5, gp_272]
noncomputable def ac_674 : AC := .inl (11, jl_n [vp_127, vp_72, jl_c 1, jl_8 17 2])
noncomputable def ac_675 : AC := .inl (3, jl_n [vp_78, jl_1 147 2])
noncomputable def hq_592 : HP := [(true, ac_674), (false, .inl (9, [(6, 2, 0), (6, 11, 0)])), (false, ac_671), (true, .inl (7, [(6, 4, 0), (6, 5, 0), (6, 6, 0), (1, 137, 0)])), (true, am_3), (true, am_1), (true, am_1), (false, am_1), (false, .inl (1, [(6, 2, 0), (8, 41, 0)])), (false, am_5), (false, am_7), (false, .inl (0, [(1, 42, 0), (6, 12, 0), (6, 13, 0), (6, 14, 0)])), (false, ac_508), (false, am_12), (false, ac_509), (true, ac_675), (false, am_4), (true, am_0), (false, am_11), (true, am_0), (true, am_1), (true, am_0), (false, am_4), (false, am_10), (true, am_0), (true, am_0), (true, am_9)]
noncomputable def cu_1153 : List CUT2 := [((18, [lq 0 6 0, lq 1 1 116, lq 2 1 117], [], gi_793, hq_592), rq_2, ([(117, (-1))], 5))]
theorem ch_1153 : staG tb_X11_kept 1 bt_RX11 [] ct_1153 [] [] cu_1153 22 con_1153 = true := by decide +kernel
theorem cc_1153 : cu_1153.all (cutG tb_X11_kept 1 bt_RX11 [] ct_1153 [] [] cu_1153 22 con_1153) = true := by decide +kernel
theorem cto_1153 (l : Launch) : CTOK2 l RX11 vwCl gTbl ct_1153 := ct2_cons (vl_667 l) ck_RX11_219_667 (ct2_cons (vl_900 l) ck_RX11_208_900 (ct2_cons (vl_1152 l) ck_RX11_294_1152 (ct2_nil)))
theorem vl_1153 (l : Launch) : Vld2 l vwCl gTbl con_1153 := conR_ok3 gT_all (hd_1153) rfl pn_RX11 tk_X11_kept bo_RX11 xo_RX11 (cto_1153 l) ch_1153 (cut_all cc_1153)
/-- RookHustingModel kept -/
noncomputable def gi_794 : GI := jl_n [gp_293, gp_176]
noncomputable def con_1154 : Con2 := ((yX12_kept, cX12_kept, 3, (some .int)), (9, 208), ([(6, 0, 0)], gi_505, hc_147, []), [((1, 69, 0), gi_794, hq_566, [], tg_1)])
theorem hd_1154 : con_1154.1 = (yX12_kept, cX12_kept, 3, (some .int)) := rfl
noncomputable def ct_1154 : CTB2 := [(1, 366, 0, con_1109, [0, 1, 2, 3, 4, 5, 6, 7, 8, 9, 10, 11, 12]), (16, 106, 0, con_646, [0, 1]), (29, 103, 0, con_1100, [0, 1])]
noncomputable def gi_795 : GI := jl_n [gp_377, gp_208, jl_z 45]
noncomputable def cu_1154 : List CUT2 := [((14, [lq 0 6 0, lq 1 1 70, lq 2 1 71], [], gi_795, hq_566), [], ([(71, (-1))], 5))]
theorem ch_1154 : staG tb_X12_kept 1 bt_RX12 [] ct_1154 [] [] cu_1154 30 con_1154 = true := by decide +kernel
theorem cc_1154 : cu_1154.all (cutG tb_X12_kept 1 bt_RX12 [] ct_1154 [] [] cu_1154 30 con_1154) = true := by decide +kernel
theorem cto_1154 (l : Launch) : CTOK2 l RX12 vwCl gTbl ct_1154 := ct2_cons (vl_1109 l) ck_RX12_366_1109 (ct2_cons (vl_646 l) ck_RX12_106_646 (ct2_cons (vl_1100 l) ck_RX12_103_1100 (ct2_nil)))
theorem vl_1154 (l : Launch) : Vld2 l vwCl gTbl con_1154 := conR_ok3 gT_all (hd_1154) rfl pn_RX12 tk_X12_kept bo_RX12 xo_RX12 (cto_1154 l) ch_1154 (cut_all cc_1154)
/-- RookHusting$Harvest sumOf -/
noncomputable def gi_796 : GI := jl_n [jl_z 2, jl_i 1 15, gp_249]
noncomputable def ac_676 : AC := .inl (3, jl_n [jl_8 6 3, jl_6 2 1, jl_8 10 3, vp_67])
noncomputable def gi_797 : GI := jl_n [jl_z 2, jl_i 1 15, gp_250, gp_7]
noncomputable def hq_593 : HP := [(false, ac_676), (false, am_0)]
noncomputable def con_1175 : Con2 := ((yX3_sumOf, cX3_sumOf, 5, (some .int)), (0, 0), ([(6, 0, 0), (6, 1, 0), (1, 2, 0)], gi_796, [ac_676, am_0], []), [((1, 12, 0), gi_797, hq_593, [], [1])])
theorem hd_1175 : con_1175.1 = (yX3_sumOf, cX3_sumOf, 5, (some .int)) := rfl
noncomputable def gi_798 : GI := jl_n [jl_z 2, jl_i 1 15, gp_250, gp_366]
noncomputable def cu_1175 : List CUT2 := [((5, [lq 0 6 0, lq 1 6 1, lq 2 1 2, lq 3 1 15, lq 4 1 16], [], gi_798, hq_593), [], ([(16, (-1))], 5))]
theorem ch_1175 : staG tb_X3_sumOf 1 bt_RX3 [] ct_863 [] [] cu_1175 19 con_1175 = true := by decide +kernel
theorem cc_1175 : cu_1175.all (cutG tb_X3_sumOf 1 bt_RX3 [] ct_863 [] [] cu_1175 19 con_1175) = true := by decide +kernel
theorem vl_1175 (l : Launch) : Vld2 l vwCl gTbl con_1175 := conR_ok3 gT_all (hd_1175) rfl pn_RX3 tk_X3_sumOf bo_RX3 xo_RX3 (cto_863 l) ch_1175 (cut_all cc_1175)
/-- RookHusting$Harvest sumOf -/
noncomputable def gi_799 : GI := jl_n [gp_252, gp_249]
noncomputable def gi_800 : GI := jl_n [gp_253, gp_7]
noncomputable def con_1177 : Con2 := ((yX3_sumOf, cX3_sumOf, 5, (some .int)), (0, 0), ([(6, 0, 0), (6, 1, 0), (1, 2, 0)], gi_799, [ac_676, am_0], []), [((1, 12, 0), gi_800, hq_593, [], [1])])
theorem hd_1177 : con_1177.1 = (yX3_sumOf, cX3_sumOf, 5, (some .int)) := rfl
noncomputable def gi_801 : GI := jl_n [gp_253, gp_366]
noncomputable def cu_1177 : List CUT2 := [((5, [lq 0 6 0, lq 1 6 1, lq 2 1 2, lq 3 1 15, lq 4 1 16], [], gi_801, hq_593), [], ([(16, (-1))], 5))]
theorem ch_1177 : staG tb_X3_sumOf 1 bt_RX3 [] ct_863 [] [] cu_1177 19 con_1177 = true := by decide +kernel
theorem cc_1177 : cu_1177.all (cutG tb_X3_sumOf 1 bt_RX3 [] ct_863 [] [] cu_1177 19 con_1177) = true := by decide +kernel
theorem vl_1177 (l : Launch) : Vld2 l vwCl gTbl con_1177 := conR_ok3 gT_all (hd_1177) rfl pn_RX3 tk_X3_sumOf bo_RX3 xo_RX3 (cto_863 l) ch_1177 (cut_all cc_1177)
/-- RookHusting worst -/
noncomputable def gi_802 : GI := jl_n [gp_374, jl_m 1 15, gp_281]
noncomputable def con_1178 : Con2 := ((yX11_worst, cX11_worst, 3, (some .int)), (6, 151), ([(6, 0, 0)], gi_791, hc_166, rq_2), [((1, 115, 0), gi_802, hq_591, [], tg_15)])
theorem hd_1178 : con_1178.1 = (yX11_worst, cX11_worst, 3, (some .int)) := rfl
theorem ck_RX11_300_1177 : COK2 RX11 vwCl gTbl 300 0 con_1177 := ⟨wd_1055, wd_134, mh_X3_sumOf, .inr (.inr ⟨rfl, wd_1052, wd_1053, wd_1054, ⟨_, rfl, pd_X3_sumOf⟩, 3, _, TX3, 9, rfl, rfl⟩)⟩
theorem ck_RX11_300_1175 : COK2 RX11 vwCl gTbl 300 0 con_1175 := ⟨wd_1055, wd_134, mh_X3_sumOf, .inr (.inr ⟨rfl, wd_1052, wd_1053, wd_1054, ⟨_, rfl, pd_X3_sumOf⟩, 3, _, TX3, 9, rfl, rfl⟩)⟩
noncomputable def ct_1178 : CTB2 := [(1, 219, 0, con_667, [0, 1, 2]), (11, 208, 0, con_900, [0, 1, 3, 2, 4, 5, 6, 7, 8, 9, 10, 11, 12, 13, 14, 15, 16, 17, 18, 19, 20, 21, 22, 23, 24, 25, 26]), (44, 300, 0, con_1175, [15, 24]), (59, 300, 0, con_1177, [15, 24])]
noncomputable def gi_803 : GI := jl_n [gp_376, gp_279, gp_228, jl_i 1 16, gp_272]
noncomputable def cu_1178 : List CUT2 := [((18, [lq 0 6 0, lq 1 1 116, lq 2 1 117], [], gi_803, hq_592), rq_2, ([(117, (-1))], 16))]
theorem ch_1178 : staG tb_X11_worst 1 bt_RX11 [] ct_1178 [] [] cu_1178 28 con_1178 = true := by decide +kernel
theorem cc_1178 : cu_1178.all (cutG tb_X11_worst 1 bt_RX11 [] ct_1178 [] [] cu_1178 28 con_1178) = true := by decide +kernel
theorem cto_1178 (l : Launch) : CTOK2 l RX11 vwCl gTbl ct_1178 := ct2_cons (vl_667 l) ck_RX11_219_667 (ct2_cons (vl_900 l) ck_RX11_208_900 (ct2_cons (vl_1175 l) ck_RX11_300_1175 (ct2_cons (vl_1177 l) ck_RX11_300_1177 (ct2_nil))))
theorem vl_1178 (l : Launch) : Vld2 l vwCl gTbl con_1178 := conR_ok3 gT_all (hd_1178) rfl pn_RX11 tk_X11_worst bo_RX11 xo_RX11 (cto_1178 l) ch_1178 (cut_all cc_1178)
/-- RookHustingModel worst -/
noncomputable def gi_804 : GI := jl_n [gp_293, jl_m 1 15, jl_z 45]
noncomputable def con_1179 : Con2 := ((yX12_worst, cX12_worst, 3, (some .int)), (9, 208), ([(6, 0, 0)], gi_505, hc_147, []), [((1, 69, 0), gi_804, hq_566, [], tg_1)])
theorem hd_1179 : con_1179.1 = (yX12_worst, cX12_worst, 3, (some .int)) := rfl
noncomputable def ct_1179 : CTB2 := [(1, 366, 0, con_1109, [0, 1, 2, 3, 4, 5, 6, 7, 8, 9, 10, 11, 12]), (16, 103, 0, con_1100, [0, 1]), (24, 375, 0, con_1133, [0, 1, 7]), (31, 375, 0, con_1133, [0, 1, 7]), (37, 375, 0, con_1133, [0, 1, 7]), (44, 375, 0, con_1133, [0, 1, 7])]
noncomputable def gi_805 : GI := jl_n [gp_377, jl_i 0 15, jl_i 1 16, jl_z 45]
noncomputable def cu_1179 : List CUT2 := [((14, [lq 0 6 0, lq 1 1 70, lq 2 1 71], [], gi_805, hq_566), [], ([(71, (-1))], 16))]
theorem ch_1179 : staG tb_X12_worst 1 bt_RX12 [] ct_1179 [] [] cu_1179 31 con_1179 = true := by decide +kernel
theorem cc_1179 : cu_1179.all (cutG tb_X12_worst 1 bt_RX12 [] ct_1179 [] [] cu_1179 31 con_1179) = true := by decide +kernel
theorem cto_1179 (l : Launch) : CTOK2 l RX12 vwCl gTbl ct_1179 := ct2_cons (vl_1109 l) ck_RX12_366_1109 (ct2_cons (vl_1100 l) ck_RX12_103_1100 (ct2_cons (vl_1133 l) ck_RX12_375_1133 (ct2_cons (vl_1133 l) ck_RX12_375_1133 (ct2_cons (vl_1133 l) ck_RX12_375_1133 (ct2_cons (vl_1133 l) ck_RX12_375_1133 (ct2_nil))))))
theorem vl_1179 (l : Launch) : Vld2 l vwCl gTbl con_1179 := conR_ok3 gT_all (hd_1179) rfl pn_RX12 tk_X12_worst bo_RX12 xo_RX12 (cto_1179 l) ch_1179 (cut_all cc_1179)
/-- RookHusting$Election hatsFirst -/
noncomputable def gi_806 : GI := jl_n [gp_52, gp_197]
noncomputable def ac_677 : AC := .inl (4, jl_n [jl_8 11 7, jl_1 12 1, jl_8 17 5, jl_6 4 1, jl_8 20 2, jl_6 3 1])
noncomputable def hc_167 : List AC := [.inl (1, [(6, 1, 0), (8, 3, 0)]), ac_677, am_5, am_7]
noncomputable def gi_807 : GI := jl_n [gp_52, gp_198]
noncomputable def hq_594 : HP := [(false, .inl (1, [(6, 1, 0), (8, 3, 0)])), (false, ac_677), (false, am_5), (false, am_7)]
noncomputable def con_1180 : Con2 := ((yX1_hatsFirst, cX1_hatsFirst, 4, (some .int)), (0, 0), ([(6, 0, 0), (1, 1, 0)], gi_806, hc_167, []), [((1, 21, 0), gi_807, hq_594, [], [1])])
theorem hd_1180 : con_1180.1 = (yX1_hatsFirst, cX1_hatsFirst, 4, (some .int)) := rfl
noncomputable def gi_808 : GI := jl_n [gp_52, gp_196, jl_z 11, gp_213]
noncomputable def cu_1180 : List CUT2 := [((4, [lq 0 6 0, lq 1 1 1, lq 2 1 23, lq 3 1 24], [], gi_808, hq_594), [], ([(24, (-1))], 7))]
theorem ch_1180 : staG tb_X1_hatsFirst 1 bt_RX1 [] ct_852 [] [] cu_1180 28 con_1180 = true := by decide +kernel
theorem cc_1180 : cu_1180.all (cutG tb_X1_hatsFirst 1 bt_RX1 [] ct_852 [] [] cu_1180 28 con_1180) = true := by decide +kernel
theorem vl_1180 (l : Launch) : Vld2 l vwCl gTbl con_1180 := conR_ok3 gT_all (hd_1180) rfl pn_RX1 tk_X1_hatsFirst bo_RX1 xo_RX1 (cto_852 l) ch_1180 (cut_all cc_1180)
/-- RookHusting loved -/
noncomputable def gi_809 : GI := jl_n [gp_7, gp_297]
noncomputable def ac_678 : AC := .inl (4, jl_n [jl_8 26 6, jl_1 28 2, jl_8 33 5, jl_6 6 1, jl_8 36 2, jl_6 5 1])
noncomputable def hc_168 : List AC := [ac_539, .inl (9, [(6, 2, 0), (8, 19, 0)]), ac_678, .inl (1, [(6, 2, 0), (8, 38, 0)]), am_5, am_7]
noncomputable def gi_810 : GI := jl_n [gp_7, gp_297, jl_t]
noncomputable def hq_595 : HP := [(false, ac_539), (false, .inl (9, [(6, 2, 0), (8, 19, 0)])), (false, ac_678), (false, .inl (1, [(6, 2, 0), (8, 38, 0)])), (false, am_5), (false, am_7)]
noncomputable def con_1181 : Con2 := ((yX11_loved, cX11_loved, 2, (some .int)), (1, 23), ([(6, 0, 0), (1, 1, 0)], gi_809, hc_168, []), [((1, 39, 0), gi_810, hq_595, [], [1])])
theorem hd_1181 : con_1181.1 = (yX11_loved, cX11_loved, 2, (some .int)) := rfl
theorem ck_RX11_251_1180 : COK2 RX11 vwCl gTbl 251 0 con_1180 := ⟨wd_995, wd_132, mh_X1_hatsFirst, .inr (.inr ⟨rfl, wd_992, wd_993, wd_994, ⟨_, rfl, pd_X1_hatsFirst⟩, 1, _, TX1, 2, rfl, rfl⟩)⟩
noncomputable def ct_1181 : CTB2 := [(2, 156, 0, con_653, [0, 1, 2]), (13, 251, 0, con_1180, [3, 2, 4, 5])]
noncomputable def cu_1181 : List CUT2 := []
theorem ch_1181 : staG tb_X11_loved 1 bt_RX11 [] ct_1181 [] [] cu_1181 12 con_1181 = true := by decide +kernel
theorem cto_1181 (l : Launch) : CTOK2 l RX11 vwCl gTbl ct_1181 := ct2_cons (vl_653 l) ck_RX11_156_653 (ct2_cons (vl_1180 l) ck_RX11_251_1180 (ct2_nil))
theorem vl_1181 (l : Launch) : Vld2 l vwCl gTbl con_1181 := conR_ok3 gT_all (hd_1181) rfl pn_RX11 tk_X11_loved bo_RX11 xo_RX11 (cto_1181 l) ch_1181 cut_nil
/-- RookHustingModel loved -/
noncomputable def con_1182 : Con2 := ((yX12_loved, cX12_loved, 4, (some .int)), (2, 46), ([(6, 0, 0), (1, 1, 0)], gi_317, [ac_437, ac_438], []), [((1, 70, 0), gi_568, [(false, ac_437), (false, ac_438)], [], [1])])
theorem hd_1182 : con_1182.1 = (yX12_loved, cX12_loved, 4, (some .int)) := rfl
noncomputable def ct_1182 : CTB2 := [(2, 236, 0, con_656, [0, 1]), (64, 243, 0, con_662, [0, 1])]
noncomputable def gi_811 : GI := jl_n [gp_52, jl_z 45, gp_140, gp_295, gp_213]
noncomputable def cu_1182 : List CUT2 := [((15, [lq 0 6 0, lq 1 1 1, lq 2 1 72, lq 3 1 73], [], gi_811, [(false, ac_437), (false, ac_438)]), [], ([(73, (-1))], 7))]
theorem ch_1182 : staG tb_X12_loved 1 bt_RX12 [] ct_1182 [] [] cu_1182 41 con_1182 = true := by decide +kernel
theorem cc_1182 : cu_1182.all (cutG tb_X12_loved 1 bt_RX12 [] ct_1182 [] [] cu_1182 41 con_1182) = true := by decide +kernel
theorem cto_1182 (l : Launch) : CTOK2 l RX12 vwCl gTbl ct_1182 := ct2_cons (vl_656 l) ck_RX12_236_656 (ct2_cons (vl_662 l) ck_RX12_243_662 (ct2_nil))
theorem vl_1182 (l : Launch) : Vld2 l vwCl gTbl con_1182 := conR_ok3 gT_all (hd_1182) rfl pn_RX12 tk_X12_loved bo_RX12 xo_RX12 (cto_1182 l) ch_1182 (cut_all cc_1182)
/-- RookHusting$Election hatsWithout -/
noncomputable def con_1183 : Con2 := ((yX1_hatsWithout, cX1_hatsWithout, 4, (some .int)), (0, 0), ([(6, 0, 0), (1, 1, 0)], gi_806, hc_167, []), [((1, 21, 0), gi_807, hq_594, [], [1])])
theorem hd_1183 : con_1183.1 = (yX1_hatsWithout, cX1_hatsWithout, 4, (some .int)) := rfl
noncomputable def cu_1183 : List CUT2 := [((4, [lq 0 6 0, lq 1 1 1, lq 2 1 23, lq 3 1 24], [], gi_808, hq_594), [], ([(24, (-1))], 7))]
theorem ch_1183 : staG tb_X1_hatsWithout 1 bt_RX1 [] ct_852 [] [] cu_1183 29 con_1183 = true := by decide +kernel
theorem cc_1183 : cu_1183.all (cutG tb_X1_hatsWithout 1 bt_RX1 [] ct_852 [] [] cu_1183 29 con_1183) = true := by decide +kernel
theorem vl_1183 (l : Launch) : Vld2 l vwCl gTbl con_1183 := conR_ok3 gT_all (hd_1183) rfl pn_RX1 tk_X1_hatsWithout bo_RX1 xo_RX1 (cto_852 l) ch_1183 (cut_all cc_1183)
/-- RookHusting shunned -/
noncomputable def con_1184 : Con2 := ((yX11_shunned, cX11_shunned, 2, (some .int)), (1, 23), ([(6, 0, 0), (1, 1, 0)], gi_809, hc_168, []), [((1, 39, 0), gi_810, hq_595, [], [1])])
theorem hd_1184 : con_1184.1 = (yX11_shunned, cX11_shunned, 2, (some .int)) := rfl
theorem ck_RX11_254_1183 : COK2 RX11 vwCl gTbl 254 0 con_1183 := ⟨wd_1003, wd_132, mh_X1_hatsWithout, .inr (.inr ⟨rfl, wd_1000, wd_1001, wd_1002, ⟨_, rfl, pd_X1_hatsWithout⟩, 1, _, TX1, 2, rfl, rfl⟩)⟩
noncomputable def ct_1184 : CTB2 := [(2, 156, 0, con_653, [0, 1, 2]), (13, 254, 0, con_1183, [3, 2, 4, 5])]
noncomputable def cu_1184 : List CUT2 := []
theorem ch_1184 : staG tb_X11_shunned 1 bt_RX11 [] ct_1184 [] [] cu_1184 12 con_1184 = true := by decide +kernel
theorem cto_1184 (l : Launch) : CTOK2 l RX11 vwCl gTbl ct_1184 := ct2_cons (vl_653 l) ck_RX11_156_653 (ct2_cons (vl_1183 l) ck_RX11_254_1183 (ct2_nil))
theorem vl_1184 (l : Launch) : Vld2 l vwCl gTbl con_1184 := conR_ok3 gT_all (hd_1184) rfl pn_RX11 tk_X11_shunned bo_RX11 xo_RX11 (cto_1184 l) ch_1184 cut_nil
/-- RookHustingModel shunned -/
noncomputable def con_1185 : Con2 := ((yX12_shunned, cX12_shunned, 4, (some .int)), (2, 46), ([(6, 0, 0), (1, 1, 0)], gi_317, [ac_437, ac_438], []), [((1, 70, 0), gi_568, [(false, ac_437), (false, ac_438)], [], [1])])
theorem hd_1185 : con_1185.1 = (yX12_shunned, cX12_shunned, 4, (some .int)) := rfl
noncomputable def ct_1185 : CTB2 := [(2, 236, 0, con_656, [0, 1]), (31, 283, 0, con_912, [0, 1]), (43, 243, 0, con_662, [0, 1])]
noncomputable def cu_1185 : List CUT2 := [((15, [lq 0 6 0, lq 1 1 1, lq 2 1 72, lq 3 1 73], [], gi_811, [(false, ac_437), (false, ac_438)]), [], ([(73, (-1))], 7))]
theorem ch_1185 : staG tb_X12_shunned 1 bt_RX12 [] ct_1185 [] [] cu_1185 23 con_1185 = true := by decide +kernel
theorem cc_1185 : cu_1185.all (cutG tb_X12_shunned 1 bt_RX12 [] ct_1185 [] [] cu_1185 23 con_1185) = true := by decide +kernel
theorem cto_1185 (l : Launch) : CTOK2 l RX12 vwCl gTbl ct_1185 := ct2_cons (vl_656 l) ck_RX12_236_656 (ct2_cons (vl_912 l) ck_RX12_283_912 (ct2_cons (vl_662 l) ck_RX12_243_662 (ct2_nil)))
theorem vl_1185 (l : Launch) : Vld2 l vwCl gTbl con_1185 := conR_ok3 gT_all (hd_1185) rfl pn_RX12 tk_X12_shunned bo_RX12 xo_RX12 (cto_1185 l) ch_1185 (cut_all cc_1185)
/-- RookHusting$Election swingVoters -/
noncomputable def gi_812 : GI := jl_n [jl_z 5, gp_304, jl_z 9]
noncomputable def ac_679 : AC := .inl (4, jl_n [jl_8 5 2, jl_1 6 1, jl_8 9 3, jl_1 11 2, jl_8 16 5, jl_6 4 1, jl_8 19 2, jl_6 3 1])
noncomputable def hc_169 : List AC := [.inl (1, [(6, 1, 0), (8, 2, 0)]), ac_679, am_5, am_7]
noncomputable def gi_813 : GI := jl_n [jl_z 5, gp_304, jl_z 9, jl_t]
noncomputable def hq_596 : HP := [(false, .inl (1, [(6, 1, 0), (8, 2, 0)])), (false, ac_679), (false, am_5), (false, am_7)]
noncomputable def con_1186 : Con2 := ((yX1_swingVoters, cX1_swingVoters, 4, (some .int)), (5, 127), ([(6, 0, 0)], gi_812, hc_169, []), [((1, 20, 0), gi_813, hq_596, [], [1])])
theorem hd_1186 : con_1186.1 = (yX1_swingVoters, cX1_swingVoters, 4, (some .int)) := rfl
noncomputable def ct_1186 : CTB2 := [(4, 87, 0, con_928, [0, 1, 2, 3]), (25, 87, 0, con_928, [0, 1, 2, 3])]
noncomputable def gi_814 : GI := jl_n [jl_z 5, gp_304, jl_z 10, jl_t, jl_m 0 4, jl_i 0 7]
noncomputable def cu_1186 : List CUT2 := [((10, [lq 0 6 0, lq 1 1 21, lq 2 1 22, lq 3 1 23], [], gi_814, hq_596), [], ([(23, (-1))], 7))]
theorem ch_1186 : staG tb_X1_swingVoters 1 bt_RX1 [] ct_1186 [] [] cu_1186 23 con_1186 = true := by decide +kernel
theorem cc_1186 : cu_1186.all (cutG tb_X1_swingVoters 1 bt_RX1 [] ct_1186 [] [] cu_1186 23 con_1186) = true := by decide +kernel
theorem cto_1186 (l : Launch) : CTOK2 l RX1 vwCl gTbl ct_1186 := ct2_cons (vl_928 l) ck_RX1_87_928 (ct2_cons (vl_928 l) ck_RX1_87_928 (ct2_nil))
theorem vl_1186 (l : Launch) : Vld2 l vwCl gTbl con_1186 := conR_ok3 gT_all (hd_1186) rfl pn_RX1 tk_X1_swingVoters bo_RX1 xo_RX1 (cto_1186 l) ch_1186 (cut_all cc_1186)
/-- RookHusting swings -/
noncomputable def gi_815 : GI := jl_n [jl_z 19, gp_328]
noncomputable def ac_680 : AC := .inl (4, jl_n [jl_1 20 1, jl_8 21 1, vp_11, vp_89, jl_6 6 1, jl_8 35 2, jl_6 5 1])
noncomputable def hc_170 : List AC := [ac_533, .inl (9, [(6, 2, 0), (8, 18, 0)]), ac_680, .inl (1, [(6, 2, 0), (8, 37, 0)]), am_5, am_7]
noncomputable def gi_816 : GI := jl_n [jl_z 19, gp_328, jl_t]
noncomputable def hq_597 : HP := [(false, ac_533), (false, .inl (9, [(6, 2, 0), (8, 18, 0)])), (false, ac_680), (false, .inl (1, [(6, 2, 0), (8, 37, 0)])), (false, am_5), (false, am_7)]
noncomputable def con_1187 : Con2 := ((yX11_swings, cX11_swings, 1, (some .int)), (6, 150), ([(6, 0, 0)], gi_815, hc_170, []), [((1, 38, 0), gi_816, hq_597, [], [1])])
theorem hd_1187 : con_1187.1 = (yX11_swings, cX11_swings, 1, (some .int)) := rfl
theorem ck_RX11_257_1186 : COK2 RX11 vwCl gTbl 257 0 con_1186 := ⟨wd_1011, wd_132, mh_X1_swingVoters, .inr (.inr ⟨rfl, wd_1008, wd_1009, wd_1010, ⟨_, rfl, pd_X1_swingVoters⟩, 1, _, TX1, 2, rfl, rfl⟩)⟩
noncomputable def ct_1187 : CTB2 := [(1, 219, 0, con_667, [0, 1, 2]), (11, 257, 0, con_1186, [3, 2, 4, 5])]
noncomputable def cu_1187 : List CUT2 := []
theorem ch_1187 : staG tb_X11_swings 1 bt_RX11 [] ct_1187 [] [] cu_1187 10 con_1187 = true := by decide +kernel
theorem cto_1187 (l : Launch) : CTOK2 l RX11 vwCl gTbl ct_1187 := ct2_cons (vl_667 l) ck_RX11_219_667 (ct2_cons (vl_1186 l) ck_RX11_257_1186 (ct2_nil))
theorem vl_1187 (l : Launch) : Vld2 l vwCl gTbl con_1187 := conR_ok3 gT_all (hd_1187) rfl pn_RX11 tk_X11_swings bo_RX11 xo_RX11 (cto_1187 l) ch_1187 cut_nil
/-- RookHustingModel swings -/
noncomputable def con_1188 : Con2 := ((yX12_swings, cX12_swings, 4, (some .int)), (5, 121), ([(6, 0, 0)], gi_333, hc_73, []), [((1, 69, 0), gi_631, hq_539, [], tg_1)])
theorem hd_1188 : con_1188.1 = (yX12_swings, cX12_swings, 4, (some .int)) := rfl
noncomputable def ct_1188 : CTB2 := [(1, 99, 0, con_673, [0, 1]), (11, 249, 0, con_665, [0, 1, 2, 3]), (16, 269, 0, con_692, [0, 1]), (16, 269, 0, con_787, [0, 1]), (16, 269, 0, con_818, [0, 1]), (16, 269, 0, con_834, [0, 1]), (16, 269, 0, con_842, [0, 1]), (16, 269, 0, con_847, [0, 1]), (25, 277, 0, con_753, [0, 1, 2, 3]), (25, 277, 0, con_801, [0, 1, 2, 3]), (25, 277, 0, con_825, [0, 1, 2, 3]), (25, 277, 0, con_837, [0, 1, 2, 3]), (25, 277, 0, con_844, [0, 1, 2, 3]), (25, 277, 0, con_850, [0, 1, 2, 3]), (54, 269, 0, con_692, [0, 1]), (54, 269, 0, con_787, [0, 1]), (54, 269, 0, con_818, [0, 1]), (54, 269, 0, con_834, [0, 1]), (54, 269, 0, con_842, [0, 1]), (54, 269, 0, con_847, [0, 1]), (63, 277, 0, con_753, [0, 1, 2, 3]), (63, 277, 0, con_801, [0, 1, 2, 3]), (63, 277, 0, con_825, [0, 1, 2, 3]), (63, 277, 0, con_837, [0, 1, 2, 3]), (63, 277, 0, con_844, [0, 1, 2, 3]), (63, 277, 0, con_850, [0, 1, 2, 3])]
noncomputable def gi_817 : GI := jl_n [gp_378, jl_i 5 5, gp_380]
noncomputable def ac_681 : AC := .inl (12, jl_n [vp_45, jl_1 91 1, jl_8 46 27])
noncomputable def hq_598 : HP := [(true, ac_681), (false, ac_436), (true, am_8), (true, am_6)]
noncomputable def gi_818 : GI := jl_n [gp_378, jl_i 4 4, gp_380]
noncomputable def gi_819 : GI := jl_n [gp_378, jl_i 3 3, gp_380]
noncomputable def gi_820 : GI := jl_n [gp_378, jl_i 2 2, gp_380]
noncomputable def gi_821 : GI := jl_n [gp_378, jl_i 1 1, gp_380]
noncomputable def gi_822 : GI := jl_n [gp_186, gp_222, gp_379]
noncomputable def cu_1188 : List CUT2 := [((33, [lq 0 6 0, lq 1 1 70, lq 2 1 71, lq 3 1 72], [], gi_817, hq_598), [], ([(72, (-1))], 7)), ((33, [lq 0 6 0, lq 1 1 70, lq 2 1 71, lq 3 1 72], [], gi_818, hq_598), [], ([(72, (-1))], 7)), ((33, [lq 0 6 0, lq 1 1 70, lq 2 1 71, lq 3 1 72], [], gi_819, hq_598), [], ([(72, (-1))], 7)), ((33, [lq 0 6 0, lq 1 1 70, lq 2 1 71, lq 3 1 72], [], gi_820, hq_598), [], ([(72, (-1))], 7)), ((33, [lq 0 6 0, lq 1 1 70, lq 2 1 71, lq 3 1 72], [], gi_821, hq_598), [], ([(72, (-1))], 7)), ((33, [lq 0 6 0, lq 1 1 70, lq 2 1 71, lq 3 1 72], [], gi_822, hq_598), [], ([(72, (-1))], 7))]
theorem ch_1188 : staG tb_X12_swings 1 bt_RX12 [] ct_1188 [(10, [(1, (2, 1, 5), 0, 0)])] [] cu_1188 33 con_1188 = true := by decide +kernel
theorem cc_1188 : cu_1188.all (cutG tb_X12_swings 1 bt_RX12 [] ct_1188 [(10, [(1, (2, 1, 5), 0, 0)])] [] cu_1188 33 con_1188) = true := by decide +kernel
theorem cto_1188 (l : Launch) : CTOK2 l RX12 vwCl gTbl ct_1188 := ct2_cons (vl_673 l) ck_RX12_99_673 (ct2_cons (vl_665 l) ck_RX12_249_665 (ct2_cons (vl_692 l) ck_RX12_269_692 (ct2_cons (vl_787 l) ck_RX12_269_787 (ct2_cons (vl_818 l) ck_RX12_269_818 (ct2_cons (vl_834 l) ck_RX12_269_834 (ct2_cons (vl_842 l) ck_RX12_269_842 (ct2_cons (vl_847 l) ck_RX12_269_847 (ct2_cons (vl_753 l) ck_RX12_277_753 (ct2_cons (vl_801 l) ck_RX12_277_801 (ct2_cons (vl_825 l) ck_RX12_277_825 (ct2_cons (vl_837 l) ck_RX12_277_837 (ct2_cons (vl_844 l) ck_RX12_277_844 (ct2_cons (vl_850 l) ck_RX12_277_850 (ct2_cons (vl_692 l) ck_RX12_269_692 (ct2_cons (vl_787 l) ck_RX12_269_787 (ct2_cons (vl_818 l) ck_RX12_269_818 (ct2_cons (vl_834 l) ck_RX12_269_834 (ct2_cons (vl_842 l) ck_RX12_269_842 (ct2_cons (vl_847 l) ck_RX12_269_847 (ct2_cons (vl_753 l) ck_RX12_277_753 (ct2_cons (vl_801 l) ck_RX12_277_801 (ct2_cons (vl_825 l) ck_RX12_277_825 (ct2_cons (vl_837 l) ck_RX12_277_837 (ct2_cons (vl_844 l) ck_RX12_277_844 (ct2_cons (vl_850 l) ck_RX12_277_850 (ct2_nil))))))))))))))))))))))))))
theorem vl_1188 (l : Launch) : Vld2 l vwCl gTbl con_1188 := conR_ok3 gT_all (hd_1188) rfl pn_RX12 tk_X12_swings bo_RX12 xo_RX12 (cto_1188 l) ch_1188 (cut_all cc_1188)
/-- RookHusting tired -/
noncomputable def ac_682 : AC := .inl (4, jl_n [jl_8 26 6, jl_1 27 1, jl_8 31 4, jl_6 5 2, jl_8 37 4])
noncomputable def hc_171 : List AC := [ac_431, .inl (9, [(6, 2, 0), (8, 19, 0)]), ac_682, am_4, am_10]
noncomputable def gi_823 : GI := jl_n [gp_7, gp_178, jl_m 1 48]
noncomputable def hq_599 : HP := [(false, ac_431), (false, .inl (9, [(6, 2, 0), (8, 19, 0)])), (false, ac_682), (false, am_4), (false, am_10)]
noncomputable def con_1189 : Con2 := ((yX11_tired, cX11_tired, 4, (some .int)), (1, 21), ([(6, 0, 0), (1, 1, 0)], gi_312, hc_171, []), [((1, 37, 0), gi_823, hq_599, [], [1])])
theorem hd_1189 : con_1189.1 = (yX11_tired, cX11_tired, 4, (some .int)) := rfl
noncomputable def ct_1189 : CTB2 := [(2, 156, 0, con_653, [0, 1, 2])]
noncomputable def cu_1189 : List CUT2 := []
theorem ch_1189 : staG tb_X11_tired 1 bt_RX11 [] ct_1189 [] [] cu_1189 32 con_1189 = true := by decide +kernel
theorem cto_1189 (l : Launch) : CTOK2 l RX11 vwCl gTbl ct_1189 := ct2_cons (vl_653 l) ck_RX11_156_653 (ct2_nil)
theorem vl_1189 (l : Launch) : Vld2 l vwCl gTbl con_1189 := conR_ok3 gT_all (hd_1189) rfl pn_RX11 tk_X11_tired bo_RX11 xo_RX11 (cto_1189 l) ch_1189 cut_nil
/-- RookHustingModel tired -/
noncomputable def gi_824 : GI := jl_n [gp_180, jl_m 1 79]
noncomputable def con_1190 : Con2 := ((yX12_tired, cX12_tired, 4, (some .int)), (2, 46), ([(6, 0, 0), (1, 1, 0)], gi_317, [ac_437, ac_438], []), [((1, 70, 0), gi_824, [(false, ac_437), (false, ac_438)], [], [1])])
theorem hd_1190 : con_1190.1 = (yX12_tired, cX12_tired, 4, (some .int)) := rfl
noncomputable def ct_1190 : CTB2 := [(2, 236, 0, con_656, [0, 1])]
noncomputable def cu_1190 : List CUT2 := []
theorem ch_1190 : staG tb_X12_tired 1 bt_RX12 [] ct_1190 [] [] cu_1190 38 con_1190 = true := by decide +kernel
theorem cto_1190 (l : Launch) : CTOK2 l RX12 vwCl gTbl ct_1190 := ct2_cons (vl_656 l) ck_RX12_236_656 (ct2_nil)
theorem vl_1190 (l : Launch) : Vld2 l vwCl gTbl con_1190 := conR_ok3 gT_all (hd_1190) rfl pn_RX12 tk_X12_tired bo_RX12 xo_RX12 (cto_1190 l) ch_1190 cut_nil
/-- RookHusting guards -/
noncomputable def con_1191 : Con2 := ((yX11_guards, cX11_guards, 3, (some .int)), (6, 151), ([(6, 0, 0)], gi_791, hc_166, rq_2), [((1, 115, 0), gi_792, hq_591, [], tg_15)])
theorem hd_1191 : con_1191.1 = (yX11_guards, cX11_guards, 3, (some .int)) := rfl
noncomputable def ct_1191 : CTB2 := [(1, 219, 0, con_667, [0, 1, 2]), (11, 208, 0, con_900, [0, 1, 3, 2, 4, 5, 6, 7, 8, 9, 10, 11, 12, 13, 14, 15, 16, 17, 18, 19, 20, 21, 22, 23, 24, 25, 26]), (37, 211, 0, con_858, [3, 4])]
noncomputable def cu_1191 : List CUT2 := [((18, [lq 0 6 0, lq 1 1 116, lq 2 1 117], [], gi_793, hq_592), rq_2, ([(117, (-1))], 5))]
theorem ch_1191 : staG tb_X11_guards 1 bt_RX11 [] ct_1191 [] [] cu_1191 23 con_1191 = true := by decide +kernel
theorem cc_1191 : cu_1191.all (cutG tb_X11_guards 1 bt_RX11 [] ct_1191 [] [] cu_1191 23 con_1191) = true := by decide +kernel
theorem cto_1191 (l : Launch) : CTOK2 l RX11 vwCl gTbl ct_1191 := ct2_cons (vl_667 l) ck_RX11_219_667 (ct2_cons (vl_900 l) ck_RX11_208_900 (ct2_cons (vl_858 l) ck_RX11_211_858 (ct2_nil)))
theorem vl_1191 (l : Launch) : Vld2 l vwCl gTbl con_1191 := conR_ok3 gT_all (hd_1191) rfl pn_RX11 tk_X11_guards bo_RX11 xo_RX11 (cto_1191 l) ch_1191 (cut_all cc_1191)
/-- RookHustingModel guards -/
noncomputable def con_1192 : Con2 := ((yX12_guards, cX12_guards, 3, (some .int)), (8, 188), ([(6, 0, 0)], gi_505, hc_107, []), [((1, 69, 0), gi_794, hq_504, [], tg_1)])
theorem hd_1192 : con_1192.1 = (yX12_guards, cX12_guards, 3, (some .int)) := rfl
noncomputable def ct_1192 : CTB2 := [(1, 345, 0, con_905, [0, 1, 2, 3, 4, 5, 6]), (5, 99, 0, con_673, [0, 1]), (20, 106, 0, con_646, [0, 1])]
noncomputable def cu_1192 : List CUT2 := [((18, [lq 0 6 0, lq 1 1 70, lq 2 1 71], [], gi_795, hq_504), [], ([(71, (-1))], 5))]
theorem ch_1192 : staG tb_X12_guards 1 bt_RX12 [] ct_1192 [] [] cu_1192 24 con_1192 = true := by decide +kernel
theorem cc_1192 : cu_1192.all (cutG tb_X12_guards 1 bt_RX12 [] ct_1192 [] [] cu_1192 24 con_1192) = true := by decide +kernel
theorem cto_1192 (l : Launch) : CTOK2 l RX12 vwCl gTbl ct_1192 := ct2_cons (vl_905 l) ck_RX12_345_905 (ct2_cons (vl_673 l) ck_RX12_99_673 (ct2_cons (vl_646 l) ck_RX12_106_646 (ct2_nil)))
theorem vl_1192 (l : Launch) : Vld2 l vwCl gTbl con_1192 := conR_ok3 gT_all (hd_1192) rfl pn_RX12 tk_X12_guards bo_RX12 xo_RX12 (cto_1192 l) ch_1192 (cut_all cc_1192)
/-- RookHusting eats -/
noncomputable def ac_683 : AC := .inl (11, jl_n [vp_61, vp_128, jl_8 10 1, jl_6 5 1, jl_8 15 4, vp_82])
noncomputable def ac_684 : AC := .inl (4, jl_n [vp_83, jl_6 4 1, jl_6 19 1, jl_6 11 1, jl_6 24 2, jl_6 14 1, jl_8 36 2, jl_6 13 1])
noncomputable def ac_685 : AC := .inl (3, jl_n [jl_6 22 1, jl_6 20 1, jl_6 6 1, vp_76, jl_1 46 2])
noncomputable def hc_172 : List AC := [ac_683, .inl (9, [(6, 2, 0), (6, 14, 0)]), ac_684, am_11, ac_685, am_0, .inl (7, [(6, 7, 0), (6, 8, 0), (6, 9, 0), (1, 49, 0)]), am_3, am_1, am_1, am_1, .inl (1, [(6, 2, 0), (8, 51, 0)]), am_5, am_7, .inl (0, [(1, 52, 0), (6, 15, 0), (6, 16, 0), (6, 17, 0)]), ac_650, am_12, ac_651, am_4, am_0, am_1, am_0, am_4, am_10, am_0, am_0, am_9]
noncomputable def gi_825 : GI := jl_n [gp_275, gp_349, gp_353]
noncomputable def ac_686 : AC := .inl (11, jl_n [vp_61, vp_128, jl_8 10 1, jl_6 5 1, jl_8 15 4, jl_1 131 1, jl_8 18 2])
noncomputable def ac_687 : AC := .inl (3, jl_n [jl_6 22 1, jl_6 20 1, jl_6 6 1, vp_76, jl_1 142 2])
noncomputable def hq_600 : HP := [(true, ac_686), (false, .inl (9, [(6, 2, 0), (6, 14, 0)])), (false, ac_684), (false, am_11), (true, ac_687), (true, am_0), (true, .inl (7, [(6, 7, 0), (6, 8, 0), (6, 9, 0), (1, 145, 0)])), (true, am_3), (true, am_1), (true, am_1), (false, am_1), (false, .inl (1, [(6, 2, 0), (8, 51, 0)])), (false, am_5), (false, am_7), (false, .inl (0, [(1, 52, 0), (6, 15, 0), (6, 16, 0), (6, 17, 0)])), (false, ac_650), (false, am_12), (false, ac_651), (false, am_4), (true, am_0), (true, am_1), (true, am_0), (false, am_4), (false, am_10), (true, am_0), (true, am_0), (true, am_9)]
noncomputable def con_1193 : Con2 := ((yX11_eats, cX11_eats, 2, (some .int)), (7, 174), ([(6, 0, 0), (1, 1, 0)], gi_783, hc_172, rq_7), [((1, 116, 0), gi_825, hq_600, [], tg_15)])
theorem hd_1193 : con_1193.1 = (yX11_eats, cX11_eats, 2, (some .int)) := rfl
noncomputable def ct_1193 : CTB2 := [(2, 139, 0, con_643, [0, 1, 2]), (42, 266, 0, con_1117, [0, 5, 1, 6, 2, 7, 8, 9, 10, 11, 12, 13, 14, 15, 16, 17, 4, 18, 19, 3, 20, 21, 22, 23, 24, 25, 26])]
noncomputable def cu_1193 : List CUT2 := []
theorem ch_1193 : staG tb_X11_eats 1 bt_RX11 [] ct_1193 [] [] cu_1193 24 con_1193 = true := by decide +kernel
theorem cto_1193 (l : Launch) : CTOK2 l RX11 vwCl gTbl ct_1193 := ct2_cons (vl_643 l) ck_RX11_139_643 (ct2_cons (vl_1117 l) ck_RX11_266_1117 (ct2_nil))
theorem vl_1193 (l : Launch) : Vld2 l vwCl gTbl con_1193 := conR_ok3 gT_all (hd_1193) rfl pn_RX11 tk_X11_eats bo_RX11 xo_RX11 (cto_1193 l) ch_1193 cut_nil
/-- RookHustingModel eats -/
noncomputable def con_1194 : Con2 := ((yX12_eats, cX12_eats, 2, (some .int)), (10, 229), ([(6, 0, 0), (1, 1, 0)], gi_508, hc_148, []), [((1, 70, 0), gi_772, hq_567, [], tg_1)])
theorem hd_1194 : con_1194.1 = (yX12_eats, cX12_eats, 2, (some .int)) := rfl
noncomputable def ct_1194 : CTB2 := [(2, 384, 0, con_1142, [0, 1, 2, 3, 4, 5, 6, 7, 8, 9, 10, 11, 12]), (20, 103, 0, con_1100, [0, 1])]
noncomputable def cu_1194 : List CUT2 := []
theorem ch_1194 : staG tb_X12_eats 1 bt_RX12 [] ct_1194 [] [] cu_1194 22 con_1194 = true := by decide +kernel
theorem cto_1194 (l : Launch) : CTOK2 l RX12 vwCl gTbl ct_1194 := ct2_cons (vl_1142 l) ck_RX12_384_1142 (ct2_cons (vl_1100 l) ck_RX12_103_1100 (ct2_nil))
theorem vl_1194 (l : Launch) : Vld2 l vwCl gTbl con_1194 := conR_ok3 gT_all (hd_1194) rfl pn_RX12 tk_X12_eats bo_RX12 xo_RX12 (cto_1194 l) ch_1194 cut_nil
/-- RookHusting quiet -/
noncomputable def gi_826 : GI := jl_n [gp_280, gp_375]
noncomputable def con_1195 : Con2 := ((yX11_quiet, cX11_quiet, 4, (some .int)), (6, 151), ([(6, 0, 0), (1, 1, 0)], gi_494, hc_104, rq_3), [((1, 116, 0), gi_826, hq_498, [], tg_15)])
theorem hd_1195 : con_1195.1 = (yX11_quiet, cX11_quiet, 4, (some .int)) := rfl
noncomputable def ct_1195 : CTB2 := [(2, 272, 0, con_1120, [0, 1, 2]), (12, 208, 0, con_900, [0, 1, 3, 2, 4, 5, 6, 7, 8, 9, 10, 11, 12, 13, 14, 15, 16, 17, 18, 19, 20, 21, 22, 23, 24, 25, 26])]
noncomputable def gi_827 : GI := jl_n [gp_228, gp_274, gp_117, gp_212, gp_381, gp_194, jl_i 0 5, gp_272]
noncomputable def ac_688 : AC := .inl (11, jl_n [vp_80, vp_81, jl_8 15 4, jl_c 1, jl_8 18 2])
noncomputable def ac_689 : AC := .inl (3, jl_n [vp_78, jl_1 149 2])
noncomputable def hq_601 : HP := [(true, ac_688), (false, .inl (9, [(6, 2, 0), (6, 11, 0)])), (false, ac_514), (true, .inl (7, [(6, 4, 0), (6, 5, 0), (6, 6, 0), (1, 139, 0)])), (true, am_3), (true, am_1), (true, am_1), (false, am_1), (false, .inl (1, [(6, 2, 0), (8, 42, 0)])), (false, am_5), (false, am_7), (false, .inl (0, [(1, 43, 0), (6, 12, 0), (6, 13, 0), (6, 14, 0)])), (false, ac_515), (false, am_12), (false, ac_516), (true, ac_689), (false, am_4), (true, am_0), (false, am_11), (true, am_0), (true, am_1), (true, am_0), (false, am_4), (false, am_10), (true, am_0), (true, am_0), (true, am_9)]
noncomputable def cu_1195 : List CUT2 := [((19, [lq 0 6 0, lq 1 1 1, lq 2 1 118, lq 3 1 119], [], gi_827, hq_601), rq_3, ([(119, (-1))], 5))]
theorem ch_1195 : staG tb_X11_quiet 1 bt_RX11 [] ct_1195 [] [] cu_1195 27 con_1195 = true := by decide +kernel
theorem cc_1195 : cu_1195.all (cutG tb_X11_quiet 1 bt_RX11 [] ct_1195 [] [] cu_1195 27 con_1195) = true := by decide +kernel
theorem cto_1195 (l : Launch) : CTOK2 l RX11 vwCl gTbl ct_1195 := ct2_cons (vl_1120 l) ck_RX11_272_1120 (ct2_cons (vl_900 l) ck_RX11_208_900 (ct2_nil))
theorem vl_1195 (l : Launch) : Vld2 l vwCl gTbl con_1195 := conR_ok3 gT_all (hd_1195) rfl pn_RX11 tk_X11_quiet bo_RX11 xo_RX11 (cto_1195 l) ch_1195 (cut_all cc_1195)
/-- RookHustingModel quiet -/
noncomputable def con_1196 : Con2 := ((yX12_quiet, cX12_quiet, 4, (some .int)), (10, 229), ([(6, 0, 0), (1, 1, 0)], gi_508, hc_148, []), [((1, 70, 0), gi_772, hq_567, [], tg_1)])
theorem hd_1196 : con_1196.1 = (yX12_quiet, cX12_quiet, 4, (some .int)) := rfl
noncomputable def ct_1196 : CTB2 := [(2, 381, 0, con_1125, [0, 1, 2, 3, 4, 5, 6, 7, 8, 9, 10, 11, 12]), (17, 106, 0, con_646, [0, 1])]
noncomputable def gi_828 : GI := jl_n [gp_228, gp_288, gp_365, gp_203, jl_z 16, gp_208, jl_z 45]
noncomputable def cu_1196 : List CUT2 := [((15, [lq 0 6 0, lq 1 1 1, lq 2 1 72, lq 3 1 73], [], gi_828, hq_567), [], ([(73, (-1))], 5))]
theorem ch_1196 : staG tb_X12_quiet 1 bt_RX12 [] ct_1196 [] [] cu_1196 25 con_1196 = true := by decide +kernel
theorem cc_1196 : cu_1196.all (cutG tb_X12_quiet 1 bt_RX12 [] ct_1196 [] [] cu_1196 25 con_1196) = true := by decide +kernel
theorem cto_1196 (l : Launch) : CTOK2 l RX12 vwCl gTbl ct_1196 := ct2_cons (vl_1125 l) ck_RX12_381_1125 (ct2_cons (vl_646 l) ck_RX12_106_646 (ct2_nil))
theorem vl_1196 (l : Launch) : Vld2 l vwCl gTbl con_1196 := conR_ok3 gT_all (hd_1196) rfl pn_RX12 tk_X12_quiet bo_RX12 xo_RX12 (cto_1196 l) ch_1196 (cut_all cc_1196)
/-- RookHusting peace -/
noncomputable def gi_829 : GI := jl_n [gp_374, jl_m 1 2147483647, gp_281]
noncomputable def con_1197 : Con2 := ((yX11_peace, cX11_peace, 4, (some .int)), (6, 151), ([(6, 0, 0)], gi_791, hc_166, rq_2), [((1, 115, 0), gi_829, hq_591, [], tg_15)])
theorem hd_1197 : con_1197.1 = (yX11_peace, cX11_peace, 4, (some .int)) := rfl
noncomputable def ct_1197 : CTB2 := [(1, 219, 0, con_667, [0, 1, 2]), (11, 208, 0, con_900, [0, 1, 3, 2, 4, 5, 6, 7, 8, 9, 10, 11, 12, 13, 14, 15, 16, 17, 18, 19, 20, 21, 22, 23, 24, 25, 26]), (46, 300, 0, con_1177, [15, 24])]
noncomputable def gi_830 : GI := jl_n [gp_376, gp_279, gp_382, gp_339, gp_272]
noncomputable def ac_690 : AC := .inl (3, jl_n [vp_78, jl_1 148 2])
noncomputable def hq_602 : HP := [(true, ac_674), (false, .inl (9, [(6, 2, 0), (6, 11, 0)])), (false, ac_671), (true, .inl (7, [(6, 4, 0), (6, 5, 0), (6, 6, 0), (1, 138, 0)])), (true, am_3), (true, am_1), (true, am_1), (false, am_1), (false, .inl (1, [(6, 2, 0), (8, 41, 0)])), (false, am_5), (false, am_7), (false, .inl (0, [(1, 42, 0), (6, 12, 0), (6, 13, 0), (6, 14, 0)])), (false, ac_508), (false, am_12), (false, ac_509), (true, ac_690), (false, am_4), (true, am_0), (false, am_11), (true, am_0), (true, am_1), (true, am_0), (false, am_4), (false, am_10), (true, am_0), (true, am_0), (true, am_9)]
noncomputable def cu_1197 : List CUT2 := [((20, [lq 0 6 0, lq 1 1 116, lq 2 1 117, lq 3 1 118], [], gi_830, hq_602), rq_2, ([(118, (-1))], 16))]
theorem ch_1197 : staG tb_X11_peace 1 bt_RX11 [] ct_1197 [] [] cu_1197 28 con_1197 = true := by decide +kernel
theorem cc_1197 : cu_1197.all (cutG tb_X11_peace 1 bt_RX11 [] ct_1197 [] [] cu_1197 28 con_1197) = true := by decide +kernel
theorem cto_1197 (l : Launch) : CTOK2 l RX11 vwCl gTbl ct_1197 := ct2_cons (vl_667 l) ck_RX11_219_667 (ct2_cons (vl_900 l) ck_RX11_208_900 (ct2_cons (vl_1177 l) ck_RX11_300_1177 (ct2_nil)))
theorem vl_1197 (l : Launch) : Vld2 l vwCl gTbl con_1197 := conR_ok3 gT_all (hd_1197) rfl pn_RX11 tk_X11_peace bo_RX11 xo_RX11 (cto_1197 l) ch_1197 (cut_all cc_1197)
/-- RookHustingModel peace -/
noncomputable def gi_831 : GI := jl_n [gp_293, jl_m 1 2147483647, jl_z 45]
noncomputable def con_1198 : Con2 := ((yX12_peace, cX12_peace, 4, (some .int)), (9, 208), ([(6, 0, 0)], gi_505, hc_147, []), [((1, 69, 0), gi_831, hq_566, [], tg_1)])
theorem hd_1198 : con_1198.1 = (yX12_peace, cX12_peace, 4, (some .int)) := rfl
noncomputable def ct_1198 : CTB2 := [(1, 366, 0, con_1109, [0, 1, 2, 3, 4, 5, 6, 7, 8, 9, 10, 11, 12]), (18, 103, 0, con_1100, [0, 1]), (26, 375, 0, con_1133, [0, 1, 7]), (33, 375, 0, con_1133, [0, 1, 7])]
noncomputable def gi_832 : GI := jl_n [gp_377, jl_i 0 2147483647, gp_339, jl_z 45]
noncomputable def cu_1198 : List CUT2 := [((16, [lq 0 6 0, lq 1 1 70, lq 2 1 71, lq 3 1 72], [], gi_832, hq_566), [], ([(72, (-1))], 16))]
theorem ch_1198 : staG tb_X12_peace 1 bt_RX12 [] ct_1198 [] [] cu_1198 27 con_1198 = true := by decide +kernel
theorem cc_1198 : cu_1198.all (cutG tb_X12_peace 1 bt_RX12 [] ct_1198 [] [] cu_1198 27 con_1198) = true := by decide +kernel
theorem cto_1198 (l : Launch) : CTOK2 l RX12 vwCl gTbl ct_1198 := ct2_cons (vl_1109 l) ck_RX12_366_1109 (ct2_cons (vl_1100 l) ck_RX12_103_1100 (ct2_cons (vl_1133 l) ck_RX12_375_1133 (ct2_cons (vl_1133 l) ck_RX12_375_1133 (ct2_nil))))
theorem vl_1198 (l : Launch) : Vld2 l vwCl gTbl con_1198 := conR_ok3 gT_all (hd_1198) rfl pn_RX12 tk_X12_peace bo_RX12 xo_RX12 (cto_1198 l) ch_1198 (cut_all cc_1198)
/-- RookHusting bold -/
noncomputable def con_1199 : Con2 := ((yX11_bold, cX11_bold, 2, (some .int)), (6, 151), ([(6, 0, 0), (1, 1, 0)], gi_494, hc_104, rq_3), [((1, 116, 0), gi_826, hq_498, [], tg_15)])
theorem hd_1199 : con_1199.1 = (yX11_bold, cX11_bold, 2, (some .int)) := rfl
noncomputable def ct_1199 : CTB2 := [(2, 139, 0, con_643, [0, 1, 2]), (12, 208, 0, con_900, [0, 1, 3, 2, 4, 5, 6, 7, 8, 9, 10, 11, 12, 13, 14, 15, 16, 17, 18, 19, 20, 21, 22, 23, 24, 25, 26]), (20, 294, 0, con_1152, [15, 24])]
noncomputable def cu_1199 : List CUT2 := []
theorem ch_1199 : staG tb_X11_bold 1 bt_RX11 [] ct_1199 [] [] cu_1199 13 con_1199 = true := by decide +kernel
theorem cto_1199 (l : Launch) : CTOK2 l RX11 vwCl gTbl ct_1199 := ct2_cons (vl_643 l) ck_RX11_139_643 (ct2_cons (vl_900 l) ck_RX11_208_900 (ct2_cons (vl_1152 l) ck_RX11_294_1152 (ct2_nil)))
theorem vl_1199 (l : Launch) : Vld2 l vwCl gTbl con_1199 := conR_ok3 gT_all (hd_1199) rfl pn_RX11 tk_X11_bold bo_RX11 xo_RX11 (cto_1199 l) ch_1199 cut_nil
/-- RookHustingModel bold -/
noncomputable def con_1200 : Con2 := ((yX12_bold, cX12_bold, 4, (some .int)), (10, 229), ([(6, 0, 0), (1, 1, 0)], gi_508, hc_148, []), [((1, 70, 0), gi_772, hq_567, [], tg_1)])
theorem hd_1200 : con_1200.1 = (yX12_bold, cX12_bold, 4, (some .int)) := rfl
noncomputable def ct_1200 : CTB2 := [(2, 384, 0, con_1142, [0, 1, 2, 3, 4, 5, 6, 7, 8, 9, 10, 11, 12]), (17, 103, 0, con_1100, [0, 1])]
noncomputable def gi_833 : GI := jl_n [gp_371, gp_175, jl_i 0 16, jl_z 45]
noncomputable def cu_1200 : List CUT2 := [((15, [lq 0 6 0, lq 1 1 1, lq 2 1 72, lq 3 1 73], [], gi_833, hq_567), [], ([(73, (-1))], 16))]
theorem ch_1200 : staG tb_X12_bold 1 bt_RX12 [] ct_1200 [] [] cu_1200 23 con_1200 = true := by decide +kernel
theorem cc_1200 : cu_1200.all (cutG tb_X12_bold 1 bt_RX12 [] ct_1200 [] [] cu_1200 23 con_1200) = true := by decide +kernel
theorem cto_1200 (l : Launch) : CTOK2 l RX12 vwCl gTbl ct_1200 := ct2_cons (vl_1142 l) ck_RX12_384_1142 (ct2_cons (vl_1100 l) ck_RX12_103_1100 (ct2_nil))
theorem vl_1200 (l : Launch) : Vld2 l vwCl gTbl con_1200 := conR_ok3 gT_all (hd_1200) rfl pn_RX12 tk_X12_bold bo_RX12 xo_RX12 (cto_1200 l) ch_1200 (cut_all cc_1200)
/-- RookHusting$Harvest mostRooks -/
noncomputable def ac_691 : AC := .inl (3, jl_n [vp_37, jl_8 10 6, jl_1 11 1])
noncomputable def gi_834 : GI := jl_n [gp_52, gp_367, jl_i 0 2147483647]
noncomputable def hq_603 : HP := [(false, ac_691), (false, am_0)]
noncomputable def con_1201 : Con2 := ((yX3_mostRooks, cX3_mostRooks, 4, (some .int)), (1, 13), ([(6, 0, 0), (1, 1, 0)], gi_788, [ac_691, am_0], []), [((1, 11, 0), gi_834, hq_603, [], [1])])
theorem hd_1201 : con_1201.1 = (yX3_mostRooks, cX3_mostRooks, 4, (some .int)) := rfl
noncomputable def gi_835 : GI := jl_n [gp_52, jl_z 8, gp_372, jl_i 0 2147483647, jl_i 0 17]
noncomputable def cu_1201 : List CUT2 := [((4, [lq 0 6 0, lq 1 1 1, lq 2 1 13, lq 3 1 14], [], gi_835, hq_603), [], ([(14, (-1))], 17))]
theorem ch_1201 : staG tb_X3_mostRooks 1 bt_RX3 [] ct_863 [] [] cu_1201 20 con_1201 = true := by decide +kernel
theorem cc_1201 : cu_1201.all (cutG tb_X3_mostRooks 1 bt_RX3 [] ct_863 [] [] cu_1201 20 con_1201) = true := by decide +kernel
theorem vl_1201 (l : Launch) : Vld2 l vwCl gTbl con_1201 := conR_ok3 gT_all (hd_1201) rfl pn_RX3 tk_X3_mostRooks bo_RX3 xo_RX3 (cto_863 l) ch_1201 (cut_all cc_1201)
/-- RookHusting most -/
noncomputable def gi_836 : GI := jl_n [gp_280, jl_m 1 2147483647, gp_281]
noncomputable def con_1202 : Con2 := ((yX11_most, cX11_most, 2, (some .int)), (6, 151), ([(6, 0, 0), (1, 1, 0)], gi_494, hc_104, rq_3), [((1, 116, 0), gi_836, hq_498, [], tg_15)])
theorem hd_1202 : con_1202.1 = (yX11_most, cX11_most, 2, (some .int)) := rfl
theorem ck_RX11_311_1201 : COK2 RX11 vwCl gTbl 311 0 con_1201 := ⟨wd_1132, wd_134, mh_X3_mostRooks, .inr (.inr ⟨rfl, wd_1129, wd_1130, wd_1131, ⟨_, rfl, pd_X3_mostRooks⟩, 3, _, TX3, 9, rfl, rfl⟩)⟩
noncomputable def ct_1202 : CTB2 := [(2, 139, 0, con_643, [0, 1, 2]), (12, 208, 0, con_900, [0, 1, 3, 2, 4, 5, 6, 7, 8, 9, 10, 11, 12, 13, 14, 15, 16, 17, 18, 19, 20, 21, 22, 23, 24, 25, 26]), (20, 311, 0, con_1201, [15, 17])]
noncomputable def cu_1202 : List CUT2 := []
theorem ch_1202 : staG tb_X11_most 1 bt_RX11 [] ct_1202 [] [] cu_1202 13 con_1202 = true := by decide +kernel
theorem cto_1202 (l : Launch) : CTOK2 l RX11 vwCl gTbl ct_1202 := ct2_cons (vl_643 l) ck_RX11_139_643 (ct2_cons (vl_900 l) ck_RX11_208_900 (ct2_cons (vl_1201 l) ck_RX11_311_1201 (ct2_nil)))
theorem vl_1202 (l : Launch) : Vld2 l vwCl gTbl con_1202 := conR_ok3 gT_all (hd_1202) rfl pn_RX11 tk_X11_most bo_RX11 xo_RX11 (cto_1202 l) ch_1202 cut_nil
/-- RookHustingModel most -/
noncomputable def gi_837 : GI := jl_n [gp_294, jl_m 1 2147483647, jl_z 45]
noncomputable def con_1203 : Con2 := ((yX12_most, cX12_most, 4, (some .int)), (10, 229), ([(6, 0, 0), (1, 1, 0)], gi_508, hc_148, []), [((1, 70, 0), gi_837, hq_567, [], tg_1)])
theorem hd_1203 : con_1203.1 = (yX12_most, cX12_most, 4, (some .int)) := rfl
noncomputable def gi_838 : GI := jl_n [gp_371, jl_z 16, jl_i 0 2147483647, jl_i 0 17, jl_z 45]
noncomputable def cu_1203 : List CUT2 := [((15, [lq 0 6 0, lq 1 1 1, lq 2 1 72, lq 3 1 73], [], gi_838, hq_567), [], ([(73, (-1))], 17))]
theorem ch_1203 : staG tb_X12_most 1 bt_RX12 [] ct_1200 [] [] cu_1203 20 con_1203 = true := by decide +kernel
theorem cc_1203 : cu_1203.all (cutG tb_X12_most 1 bt_RX12 [] ct_1200 [] [] cu_1203 20 con_1203) = true := by decide +kernel
theorem vl_1203 (l : Launch) : Vld2 l vwCl gTbl con_1203 := conR_ok3 gT_all (hd_1203) rfl pn_RX12 tk_X12_most bo_RX12 xo_RX12 (cto_1200 l) ch_1203 (cut_all cc_1203)
/-- RookHusting$Harvest sumOf -/
noncomputable def ac_692 : AC := .inl (3, jl_n [vp_24, vp_67])
noncomputable def hq_604 : HP := [(false, ac_692), (false, am_0)]
noncomputable def con_1204 : Con2 := ((yX3_sumOf, cX3_sumOf, 5, (some .int)), (0, 0), ([(6, 0, 0), (6, 1, 0), (1, 2, 0)], gi_799, [ac_692, am_0], []), [((1, 12, 0), gi_800, hq_604, [], [1])])
theorem hd_1204 : con_1204.1 = (yX3_sumOf, cX3_sumOf, 5, (some .int)) := rfl
noncomputable def cu_1204 : List CUT2 := [((5, [lq 0 6 0, lq 1 6 1, lq 2 1 2, lq 3 1 15, lq 4 1 16], [], gi_801, hq_604), [], ([(16, (-1))], 5))]
theorem ch_1204 : staG tb_X3_sumOf 1 bt_RX3 [] ct_863 [] [] cu_1204 19 con_1204 = true := by decide +kernel
theorem cc_1204 : cu_1204.all (cutG tb_X3_sumOf 1 bt_RX3 [] ct_863 [] [] cu_1204 19 con_1204) = true := by decide +kernel
theorem vl_1204 (l : Launch) : Vld2 l vwCl gTbl con_1204 := conR_ok3 gT_all (hd_1204) rfl pn_RX3 tk_X3_sumOf bo_RX3 xo_RX3 (cto_863 l) ch_1204 (cut_all cc_1204)
/-- RookHusting sumNow -/
noncomputable def gi_839 : GI := jl_n [gp_252, gp_342]
noncomputable def ac_693 : AC := .inl (4, jl_n [vp_125, vp_96, jl_6 9 1, jl_6 25 2, jl_6 12 1, jl_8 41 2, jl_6 11 1])
noncomputable def ac_694 : AC := .inl (3, jl_n [vp_129, jl_6 2 1, vp_130, jl_1 117 2])
noncomputable def hc_173 : List AC := [ac_640, am_0, .inl (9, [(6, 4, 0), (6, 12, 0)]), .inl (7, [(6, 5, 0), (6, 6, 0), (6, 7, 0), (1, 24, 0)]), ac_693, am_3, am_1, am_1, am_1, .inl (1, [(6, 4, 0), (8, 43, 0)]), am_5, am_7, .inl (0, [(1, 44, 0), (6, 13, 0), (6, 14, 0), (6, 15, 0)]), ac_642, am_12, ac_643, ac_694, am_4, am_0, am_11, am_0, am_1, am_0, am_4, am_10, am_0, am_9]
noncomputable def gi_840 : GI := jl_n [gp_252, gp_343]
noncomputable def ac_695 : AC := .inl (3, jl_n [vp_129, jl_6 2 1, vp_130, jl_1 147 2])
noncomputable def hq_605 : HP := [(true, ac_645), (true, am_0), (false, .inl (9, [(6, 4, 0), (6, 12, 0)])), (true, .inl (7, [(6, 5, 0), (6, 6, 0), (6, 7, 0), (1, 137, 0)])), (false, ac_693), (true, am_3), (true, am_1), (true, am_1), (false, am_1), (false, .inl (1, [(6, 4, 0), (8, 43, 0)])), (false, am_5), (false, am_7), (false, .inl (0, [(1, 44, 0), (6, 13, 0), (6, 14, 0), (6, 15, 0)])), (false, ac_642), (false, am_12), (false, ac_643), (true, ac_695), (false, am_4), (true, am_0), (false, am_11), (true, am_0), (true, am_1), (true, am_0), (false, am_4), (false, am_10), (true, am_0), (true, am_9)]
noncomputable def con_1205 : Con2 := ((yX11_sumNow, cX11_sumNow, 3, (some .int)), (6, 151), ([(6, 0, 0), (6, 1, 0), (1, 2, 0)], gi_839, hc_173, rq_6), [((1, 117, 0), gi_840, hq_605, [], tg_15)])
theorem hd_1205 : con_1205.1 = (yX11_sumNow, cX11_sumNow, 3, (some .int)) := rfl
theorem ck_RX11_300_1204 : COK2 RX11 vwCl gTbl 300 0 con_1204 := ⟨wd_1055, wd_134, mh_X3_sumOf, .inr (.inr ⟨rfl, wd_1052, wd_1053, wd_1054, ⟨_, rfl, pd_X3_sumOf⟩, 3, _, TX3, 9, rfl, rfl⟩)⟩
noncomputable def ct_1205 : CTB2 := [(1, 208, 0, con_900, [0, 2, 3, 4, 5, 6, 7, 8, 9, 10, 11, 12, 13, 14, 15, 16, 17, 18, 19, 20, 21, 22, 23, 24, 25, 1, 26]), (10, 300, 0, con_1204, [16, 1])]
noncomputable def cu_1205 : List CUT2 := []
theorem ch_1205 : staG tb_X11_sumNow 1 bt_RX11 [] ct_1205 [] [] cu_1205 10 con_1205 = true := by decide +kernel
theorem cto_1205 (l : Launch) : CTOK2 l RX11 vwCl gTbl ct_1205 := ct2_cons (vl_900 l) ck_RX11_208_900 (ct2_cons (vl_1204 l) ck_RX11_300_1204 (ct2_nil))
theorem vl_1205 (l : Launch) : Vld2 l vwCl gTbl con_1205 := conR_ok3 gT_all (hd_1205) rfl pn_RX11 tk_X11_sumNow bo_RX11 xo_RX11 (cto_1205 l) ch_1205 cut_nil
/-- RookHusting flown -/
noncomputable def ac_696 : AC := .inl (4, jl_n [vp_83, vp_105, jl_6 25 2, jl_6 13 1, vp_126])
noncomputable def ac_697 : AC := .inl (3, jl_n [vp_129, jl_6 5 1, vp_130, jl_1 46 2])
noncomputable def hc_174 : List AC := [ac_647, .inl (9, [(6, 2, 0), (6, 13, 0)]), ac_696, ac_697, am_0, .inl (7, [(6, 6, 0), (6, 7, 0), (6, 8, 0), (1, 49, 0)]), am_3, am_1, am_1, am_1, .inl (1, [(6, 2, 0), (8, 51, 0)]), am_5, am_7, .inl (0, [(1, 52, 0), (6, 14, 0), (6, 15, 0), (6, 16, 0)]), ac_650, am_12, ac_651, am_4, am_0, am_11, am_0, am_1, am_0, am_4, am_10, am_0, am_9]
noncomputable def ac_698 : AC := .inl (3, jl_n [vp_129, jl_6 5 1, vp_130, jl_1 142 2])
noncomputable def hq_606 : HP := [(true, ac_652), (false, .inl (9, [(6, 2, 0), (6, 13, 0)])), (false, ac_696), (true, ac_698), (true, am_0), (true, .inl (7, [(6, 6, 0), (6, 7, 0), (6, 8, 0), (1, 145, 0)])), (true, am_3), (true, am_1), (true, am_1), (false, am_1), (false, .inl (1, [(6, 2, 0), (8, 51, 0)])), (false, am_5), (false, am_7), (false, .inl (0, [(1, 52, 0), (6, 14, 0), (6, 15, 0), (6, 16, 0)])), (false, ac_650), (false, am_12), (false, ac_651), (false, am_4), (true, am_0), (false, am_11), (true, am_0), (true, am_1), (true, am_0), (false, am_4), (false, am_10), (true, am_0), (true, am_9)]
noncomputable def con_1206 : Con2 := ((yX11_flown, cX11_flown, 2, (some .int)), (7, 173), ([(6, 0, 0), (1, 1, 0)], gi_783, hc_174, rq_7), [((1, 116, 0), gi_825, hq_606, [], tg_15)])
theorem hd_1206 : con_1206.1 = (yX11_flown, cX11_flown, 2, (some .int)) := rfl
theorem ck_RX11_281_1205 : COK2 RX11 vwCl gTbl 281 0 con_1205 := ⟨wd_1051, wd_125, mh_X11_sumNow, .inr (.inr ⟨rfl, wd_1048, wd_1050, wd_34, ⟨_, rfl, pd_X11_sumNow⟩, 11, _, TX11, 16, rfl, rfl⟩)⟩
noncomputable def ct_1206 : CTB2 := [(2, 272, 0, con_1120, [0, 1, 2]), (17, 281, 0, con_1205, [0, 4, 1, 5, 2, 6, 7, 8, 9, 10, 11, 12, 13, 14, 15, 16, 3, 17, 18, 19, 20, 21, 22, 23, 24, 25, 26])]
noncomputable def cu_1206 : List CUT2 := []
theorem ch_1206 : staG tb_X11_flown 1 bt_RX11 [] ct_1206 [] [] cu_1206 14 con_1206 = true := by decide +kernel
theorem cto_1206 (l : Launch) : CTOK2 l RX11 vwCl gTbl ct_1206 := ct2_cons (vl_1120 l) ck_RX11_272_1120 (ct2_cons (vl_1205 l) ck_RX11_281_1205 (ct2_nil))
theorem vl_1206 (l : Launch) : Vld2 l vwCl gTbl con_1206 := conR_ok3 gT_all (hd_1206) rfl pn_RX11 tk_X11_flown bo_RX11 xo_RX11 (cto_1206 l) ch_1206 cut_nil
/-- RookHustingModel flown -/
noncomputable def con_1207 : Con2 := ((yX12_flown, cX12_flown, 2, (some .int)), (10, 229), ([(6, 0, 0), (1, 1, 0)], gi_508, hc_148, []), [((1, 70, 0), gi_772, hq_567, [], tg_1)])
theorem hd_1207 : con_1207.1 = (yX12_flown, cX12_flown, 2, (some .int)) := rfl
noncomputable def ct_1207 : CTB2 := [(2, 381, 0, con_1125, [0, 1, 2, 3, 4, 5, 6, 7, 8, 9, 10, 11, 12])]
noncomputable def cu_1207 : List CUT2 := []
theorem ch_1207 : staG tb_X12_flown 1 bt_RX12 [] ct_1207 [] [] cu_1207 12 con_1207 = true := by decide +kernel
theorem cto_1207 (l : Launch) : CTOK2 l RX12 vwCl gTbl ct_1207 := ct2_cons (vl_1125 l) ck_RX12_381_1125 (ct2_nil)
theorem vl_1207 (l : Launch) : Vld2 l vwCl gTbl con_1207 := conR_ok3 gT_all (hd_1207) rfl pn_RX12 tk_X12_flown bo_RX12 xo_RX12 (cto_1207 l) ch_1207 cut_nil
/-- RookHusting$Harvest fieldOfMost -/
noncomputable def con_1208 : Con2 := ((yX3_fieldOfMost, cX3_fieldOfMost, 5, (some .int)), (0, 0), ([(6, 0, 0), (6, 1, 0), (1, 2, 0)], gi_762, [ac_639, am_0], []), [((1, 12, 0), gi_773, hq_578, [], [1])])
theorem hd_1208 : con_1208.1 = (yX3_fieldOfMost, cX3_fieldOfMost, 5, (some .int)) := rfl
noncomputable def cu_1208 : List CUT2 := [((5, [lq 0 6 0, lq 1 6 1, lq 2 1 2, lq 3 1 15, lq 4 1 16], [], gi_774, hq_578), [], ([(16, (-1))], 5))]
theorem ch_1208 : staG tb_X3_fieldOfMost 1 bt_RX3 [] ct_863 [] [] cu_1208 29 con_1208 = true := by decide +kernel
theorem cc_1208 : cu_1208.all (cutG tb_X3_fieldOfMost 1 bt_RX3 [] ct_863 [] [] cu_1208 29 con_1208) = true := by decide +kernel
theorem vl_1208 (l : Launch) : Vld2 l vwCl gTbl con_1208 := conR_ok3 gT_all (hd_1208) rfl pn_RX3 tk_X3_fieldOfMost bo_RX3 xo_RX3 (cto_863 l) ch_1208 (cut_all cc_1208)
/-- RookHusting mostNow -/
noncomputable def con_1209 : Con2 := ((yX11_mostNow, cX11_mostNow, 3, (some .int)), (6, 151), ([(6, 0, 0), (6, 1, 0), (1, 2, 0)], gi_765, hc_158, rq_6), [((1, 117, 0), gi_775, hq_579, [], tg_15)])
theorem hd_1209 : con_1209.1 = (yX11_mostNow, cX11_mostNow, 3, (some .int)) := rfl
theorem ck_RX11_464_1208 : COK2 RX11 vwCl gTbl 464 0 con_1208 := ⟨wd_1067, wd_134, mh_X3_fieldOfMost, .inr (.inr ⟨rfl, wd_1064, wd_1065, wd_1066, ⟨_, rfl, pd_X3_fieldOfMost⟩, 3, _, TX3, 9, rfl, rfl⟩)⟩
noncomputable def ct_1209 : CTB2 := [(1, 208, 0, con_900, [0, 2, 3, 4, 5, 6, 7, 8, 9, 10, 11, 12, 13, 14, 15, 16, 17, 18, 19, 1, 20, 21, 22, 23, 24, 25, 26]), (10, 464, 0, con_1208, [16, 1])]
noncomputable def cu_1209 : List CUT2 := []
theorem ch_1209 : staG tb_X11_mostNow 1 bt_RX11 [] ct_1209 [] [] cu_1209 10 con_1209 = true := by decide +kernel
theorem cto_1209 (l : Launch) : CTOK2 l RX11 vwCl gTbl ct_1209 := ct2_cons (vl_900 l) ck_RX11_208_900 (ct2_cons (vl_1208 l) ck_RX11_464_1208 (ct2_nil))
theorem vl_1209 (l : Launch) : Vld2 l vwCl gTbl con_1209 := conR_ok3 gT_all (hd_1209) rfl pn_RX11 tk_X11_mostNow bo_RX11 xo_RX11 (cto_1209 l) ch_1209 cut_nil
/-- RookHusting richest -/
noncomputable def con_1210 : Con2 := ((yX11_richest, cX11_richest, 2, (some .int)), (7, 173), ([(6, 0, 0), (1, 1, 0)], gi_767, hc_159, rq_7), [((1, 116, 0), gi_776, hq_580, [], tg_15)])
theorem hd_1210 : con_1210.1 = (yX11_richest, cX11_richest, 2, (some .int)) := rfl
theorem ck_RX11_285_1209 : COK2 RX11 vwCl gTbl 285 0 con_1209 := ⟨wd_1063, wd_125, mh_X11_mostNow, .inr (.inr ⟨rfl, wd_1060, wd_1062, wd_35, ⟨_, rfl, pd_X11_mostNow⟩, 11, _, TX11, 16, rfl, rfl⟩)⟩
noncomputable def ct_1210 : CTB2 := [(2, 260, 0, con_1097, [0, 1, 2]), (17, 285, 0, con_1209, [0, 4, 1, 5, 2, 6, 7, 8, 9, 10, 11, 12, 13, 14, 15, 16, 3, 17, 18, 19, 20, 21, 22, 23, 24, 25, 26])]
noncomputable def cu_1210 : List CUT2 := []
theorem ch_1210 : staG tb_X11_richest 1 bt_RX11 [] ct_1210 [] [] cu_1210 14 con_1210 = true := by decide +kernel
theorem cto_1210 (l : Launch) : CTOK2 l RX11 vwCl gTbl ct_1210 := ct2_cons (vl_1097 l) ck_RX11_260_1097 (ct2_cons (vl_1209 l) ck_RX11_285_1209 (ct2_nil))
theorem vl_1210 (l : Launch) : Vld2 l vwCl gTbl con_1210 := conR_ok3 gT_all (hd_1210) rfl pn_RX11 tk_X11_richest bo_RX11 xo_RX11 (cto_1210 l) ch_1210 cut_nil
/-- RookHustingModel richest -/
noncomputable def con_1211 : Con2 := ((yX12_richest, cX12_richest, 4, (some .int)), (10, 229), ([(6, 0, 0), (1, 1, 0)], gi_508, hc_148, []), [((1, 70, 0), gi_509, hq_567, [], tg_1)])
theorem hd_1211 : con_1211.1 = (yX12_richest, cX12_richest, 4, (some .int)) := rfl
noncomputable def cu_1211 : List CUT2 := [((15, [lq 0 6 0, lq 1 1 1, lq 2 1 72, lq 3 1 73], [], gi_777, hq_567), [], ([(73, (-1))], 5))]
theorem ch_1211 : staG tb_X12_richest 1 bt_RX12 [] ct_1138 [] [] cu_1211 31 con_1211 = true := by decide +kernel
theorem cc_1211 : cu_1211.all (cutG tb_X12_richest 1 bt_RX12 [] ct_1138 [] [] cu_1211 31 con_1211) = true := by decide +kernel
theorem vl_1211 (l : Launch) : Vld2 l vwCl gTbl con_1211 := conR_ok3 gT_all (hd_1211) rfl pn_RX12 tk_X12_richest bo_RX12 xo_RX12 (cto_1138 l) ch_1211 (cut_all cc_1211)
/-- RookHusting$Scene copyFrom -/
noncomputable def gi_841 : GI := jl_n [jl_z 5, gp_383, jl_t]
noncomputable def hc_175 : List AC := [.inl (7, [(6, 2, 0), (6, 4, 0), (6, 6, 0), (1, 5, 0)]), .inl (7, [(6, 3, 0), (6, 5, 0), (6, 7, 0), (1, 9, 0)]), am_3, am_3, am_1, am_1, am_1, am_1]
noncomputable def gi_842 : GI := jl_n [jl_z 5, gp_383, jl_t, jl_z 4]
noncomputable def hq_607 : HP := [(true, .inl (7, [(6, 2, 0), (6, 4, 0), (6, 6, 0), (1, 9, 0)])), (false, .inl (7, [(6, 3, 0), (6, 5, 0), (6, 7, 0), (1, 9, 0)])), (true, am_3), (false, am_3), (true, am_1), (false, am_1), (true, am_1), (false, am_1)]
noncomputable def con_1212 : Con2 := ((yX7_copyFrom, cX7_copyFrom, 2, none), (1, 18), ([(6, 0, 0), (6, 1, 0)], gi_841, hc_175, []), [((9, 0, 0), gi_842, hq_607, [], [1, 1, 1, 1])])
theorem hd_1212 : con_1212.1 = (yX7_copyFrom, cX7_copyFrom, 2, none) := rfl
noncomputable def cu_1212 : List CUT2 := []
theorem ch_1212 : staG tb_X7_copyFrom 1 bt_RX7 [] ct_857 [] [] cu_1212 31 con_1212 = true := by decide +kernel
theorem vl_1212 (l : Launch) : Vld2 l vwCl gTbl con_1212 := conR_ok3 gT_all (hd_1212) rfl pn_RX7 tk_X7_copyFrom bo_RX7 xo_RX7 (cto_857 l) ch_1212 cut_nil
/-- RookHusting$PutSearch weighRow -/
noncomputable def gi_843 : GI := jl_n [jl_z 1, jl_i 0 63, gp_199, jl_z 5, gp_385, gp_351]
noncomputable def ac_699 : AC := .inl (5, jl_n [jl_6 19 1, jl_1 6 3, jl_8 7 1, vp_131])
noncomputable def ac_700 : AC := .inl (4, jl_n [jl_8 11 1, vp_19, jl_1 15 1, jl_8 18 3, vp_132, jl_8 21 1, jl_6 14 2, jl_8 27 4])
noncomputable def ac_701 : AC := .inl (3, jl_n [vp_133, jl_1 36 2])
noncomputable def hc_176 : List AC := [ac_699, ac_700, ac_701, .inl (7, [(6, 10, 0), (6, 8, 0), (6, 17, 0), (1, 39, 0)]), am_4, am_0, am_11, am_0, am_1, am_1, am_3, am_0, am_4, am_10, am_0, am_0, am_9, am_1, am_3]
noncomputable def gi_844 : GI := jl_n [jl_z 1, jl_i 0 63, gp_199, jl_z 5, gp_385, gp_346, gp_386, gp_387]
noncomputable def ac_702 : AC := .inl (5, jl_n [jl_6 19 1, jl_1 44 3, jl_8 7 1, vp_131])
noncomputable def ac_703 : AC := .inl (3, jl_n [vp_133, jl_1 56 1, jl_1 12 1])
noncomputable def hq_608 : HP := [(true, ac_702), (false, ac_700), (true, ac_703), (false, .inl (7, [(6, 10, 0), (6, 8, 0), (6, 17, 0), (1, 39, 0)])), (false, am_4), (true, am_0), (false, am_11), (true, am_0), (false, am_1), (true, am_1), (false, am_3), (true, am_0), (false, am_4), (false, am_10), (true, am_0), (true, am_0), (true, am_9), (false, am_1), (true, am_3)]
noncomputable def con_1213 : Con2 := ((yX5_weighRow, cX5_weighRow, 3, none), (3, 74), ([(6, 0, 0), (1, 1, 0)], gi_843, hc_176, []), [((9, 0, 0), gi_844, hq_608, [], tg_2)])
theorem hd_1213 : con_1213.1 = (yX5_weighRow, cX5_weighRow, 3, none) := rfl
theorem ck_RX5_85_1130 : COK2 RX5 vwCl gTbl 85 0 con_1130 := ⟨wd_1055, wd_134, mh_X3_sumOf, .inr (.inr ⟨rfl, wd_1159, wd_1053, wd_1054, ⟨_, rfl, pd_X3_sumOf⟩, 3, _, TX3, 9, rfl, rfl⟩)⟩
theorem ck_RX5_77_899 : COK2 RX5 vwCl gTbl 77 0 con_899 := ⟨wd_870, wd_134, mh_X3_passDays, .inr (.inr ⟨rfl, wd_1158, wd_868, wd_869, ⟨_, rfl, pd_X3_passDays⟩, 3, _, TX3, 9, rfl, rfl⟩)⟩
noncomputable def ct_1213 : CTB2 := [(19, 77, 0, con_899, [2, 1, 3, 4, 5, 6, 7, 8, 9, 10, 11, 12, 13, 14, 15, 16, 17]), (40, 85, 0, con_1130, [2, 7])]
noncomputable def cu_1213 : List CUT2 := []
theorem ch_1213 : staG tb_X5_weighRow 1 bt_RX5 [] ct_1213 [] [] cu_1213 46 con_1213 = true := by decide +kernel
theorem cto_1213 (l : Launch) : CTOK2 l RX5 vwCl gTbl ct_1213 := ct2_cons (vl_899 l) ck_RX5_77_899 (ct2_cons (vl_1130 l) ck_RX5_85_1130 (ct2_nil))
theorem vl_1213 (l : Launch) : Vld2 l vwCl gTbl con_1213 := conR_ok3 gT_all (hd_1213) rfl pn_RX5 tk_X5_weighRow bo_RX5 xo_RX5 (cto_1213 l) ch_1213 cut_nil
/-- RookHusting$PutSearch fillFrom -/
noncomputable def gi_845 : GI := jl_n [gp_389, gp_390, gp_351]
noncomputable def ac_704 : AC := .inl (5, jl_n [jl_6 19 1, jl_1 7 3, jl_8 8 1, vp_131])
noncomputable def ac_705 : AC := .inl (4, jl_n [jl_8 12 1, jl_1 13 1, jl_8 15 2, jl_1 16 1, jl_8 17 1, jl_1 18 1, jl_8 19 1, vp_132, jl_8 22 1, jl_6 14 2, jl_8 28 4])
noncomputable def ac_706 : AC := .inl (3, jl_n [vp_133, jl_1 37 2])
noncomputable def hc_177 : List AC := [ac_704, ac_705, ac_706, .inl (7, [(6, 10, 0), (6, 8, 0), (6, 17, 0), (1, 40, 0)]), am_4, am_0, am_11, am_0, am_1, am_1, am_3, am_0, am_4, am_10, am_0, am_0, am_9, am_1, am_3]
noncomputable def gi_846 : GI := jl_n [gp_389, gp_390, gp_346, gp_386, gp_387]
noncomputable def ac_707 : AC := .inl (5, jl_n [jl_6 19 1, jl_1 45 3, jl_8 8 1, vp_131])
noncomputable def ac_708 : AC := .inl (3, jl_n [vp_133, jl_1 57 1, jl_1 13 1])
noncomputable def hq_609 : HP := [(true, ac_707), (false, ac_705), (true, ac_708), (false, .inl (7, [(6, 10, 0), (6, 8, 0), (6, 17, 0), (1, 40, 0)])), (false, am_4), (true, am_0), (false, am_11), (true, am_0), (false, am_1), (true, am_1), (false, am_3), (true, am_0), (false, am_4), (false, am_10), (true, am_0), (true, am_0), (true, am_9), (false, am_1), (true, am_3)]
noncomputable def con_1214 : Con2 := ((yX5_fillFrom, cX5_fillFrom, 4, none), (4, 96), ([(6, 0, 0), (0, 5, 0), (1, 2, 0)], gi_845, hc_177, []), [((9, 0, 0), gi_846, hq_609, [], tg_2)])
theorem hd_1214 : con_1214.1 = (yX5_fillFrom, cX5_fillFrom, 4, none) := rfl
theorem ck_RX5_62_1213 : COK2 RX5 vwCl gTbl 62 0 con_1213 := ⟨wd_1157, wd_135, mh_X5_weighRow, .inr (.inr ⟨rfl, wd_1154, wd_1156, wd_38, ⟨_, rfl, pd_X5_weighRow⟩, 5, _, TX5, 8, rfl, rfl⟩)⟩
theorem ck_RX5_56_670 : COK2 RX5 vwCl gTbl 56 1 con_670 := ⟨wd_806, wd_144, mh_J_bitCount, .inl ⟨rfl, wd_1153, wd_805, pd_J_bitCount⟩⟩
noncomputable def ct_1214 : CTB2 := [(18, 56, 1, con_670, []), (21, 62, 0, con_1213, [0, 1, 2, 3, 4, 5, 6, 7, 8, 9, 10, 11, 12, 13, 14, 15, 16, 17, 18])]
noncomputable def cu_1214 : List CUT2 := []
theorem ch_1214 : staG tb_X5_fillFrom 1 bt_RX5 [] ct_1214 [] [] cu_1214 12 con_1214 = true := by decide +kernel
theorem cto_1214 (l : Launch) : CTOK2 l RX5 vwCl gTbl ct_1214 := ct2_cons (vl_670 l) ck_RX5_56_670 (ct2_cons (vl_1213 l) ck_RX5_62_1213 (ct2_nil))
theorem vl_1214 (l : Launch) : Vld2 l vwCl gTbl con_1214 := conR_ok3 gT_all (hd_1214) rfl pn_RX5 tk_X5_fillFrom bo_RX5 xo_RX5 (cto_1214 l) ch_1214 cut_nil
/-- RookHusting$PutSearch fillFrom -/
noncomputable def hq_610 : HP := [(true, ac_707), (false, ac_705), (true, ac_708), (false, .inl (7, [(6, 10, 0), (6, 8, 0), (6, 17, 0), (1, 40, 0)])), (false, am_4), (true, am_0), (false, am_11), (true, am_0), (false, am_1), (true, am_1), (true, am_3), (true, am_0), (false, am_4), (false, am_10), (true, am_0), (true, am_0), (true, am_9), (false, am_1), (true, am_3)]
noncomputable def con_1215 : Con2 := ((yX5_fillFrom, cX5_fillFrom, 4, none), (5, 119), ([(6, 0, 0), (0, 4, 0), (1, 2, 0)], gi_845, hc_177, []), [((9, 0, 0), gi_846, hq_610, [], tg_2)])
theorem hd_1215 : con_1215.1 = (yX5_fillFrom, cX5_fillFrom, 4, none) := rfl
theorem ck_RX5_47_1214 : COK2 RX5 vwCl gTbl 47 0 con_1214 := ⟨wd_1152, wd_135, mh_X5_fillFrom, .inr (.inr ⟨rfl, wd_1149, wd_1151, wd_37, ⟨_, rfl, pd_X5_fillFrom⟩, 5, _, TX5, 8, rfl, rfl⟩)⟩
theorem ck_RX5_70_46 : COK2 RX5 vwCl gTbl 70 2 con_46 := ⟨wd_682, wd_125, mh_X11_hasBit, .inr (.inl ⟨rfl, by decide +kernel, wd_681, pd_X11_hasBit⟩)⟩
noncomputable def ct_1215 : CTB2 := [(18, 56, 1, con_670, []), (21, 62, 0, con_1213, [0, 1, 2, 3, 4, 5, 6, 7, 8, 9, 10, 11, 12, 13, 14, 15, 16, 17, 18]), (40, 47, 0, con_1214, [0, 1, 2, 3, 4, 5, 6, 7, 8, 9, 10, 11, 12, 13, 14, 15, 16, 17, 18]), (58, 70, 2, con_46, []), (83, 47, 0, con_1214, [0, 1, 2, 3, 4, 5, 6, 7, 8, 9, 10, 11, 12, 13, 14, 15, 16, 17, 18])]
noncomputable def gi_847 : GI := jl_n [gp_389, jl_i 5 5, gp_391]
noncomputable def ac_709 : AC := .inl (5, jl_n [jl_6 19 1, jl_1 49 3, jl_8 8 1, vp_131])
noncomputable def ac_710 : AC := .inl (3, jl_n [vp_133, jl_1 61 1, jl_1 13 1])
noncomputable def hq_611 : HP := [(true, ac_709), (false, ac_705), (true, ac_710), (false, .inl (7, [(6, 10, 0), (6, 8, 0), (6, 17, 0), (1, 40, 0)])), (false, am_4), (true, am_0), (false, am_11), (true, am_0), (false, am_1), (true, am_1), (true, am_3), (true, am_0), (false, am_4), (false, am_10), (true, am_0), (true, am_0), (true, am_9), (false, am_1), (true, am_3)]
noncomputable def cu_1215 : List CUT2 := [((45, [lq 0 6 0, lq 1 0 4, lq 2 1 2, lq 3 1 44], [], gi_847, hq_611), [], ([(44, (-1))], 5))]
theorem ch_1215 : staG tb_X5_fillFrom 1 bt_RX5 [] ct_1215 [] [] cu_1215 30 con_1215 = true := by decide +kernel
theorem cc_1215 : cu_1215.all (cutG tb_X5_fillFrom 1 bt_RX5 [] ct_1215 [] [] cu_1215 30 con_1215) = true := by decide +kernel
theorem cto_1215 (l : Launch) : CTOK2 l RX5 vwCl gTbl ct_1215 := ct2_cons (vl_670 l) ck_RX5_56_670 (ct2_cons (vl_1213 l) ck_RX5_62_1213 (ct2_cons (vl_1214 l) ck_RX5_47_1214 (ct2_cons (vl_46 l) ck_RX5_70_46 (ct2_cons (vl_1214 l) ck_RX5_47_1214 (ct2_nil)))))
theorem vl_1215 (l : Launch) : Vld2 l vwCl gTbl con_1215 := conR_ok3 gT_all (hd_1215) rfl pn_RX5 tk_X5_fillFrom bo_RX5 xo_RX5 (cto_1215 l) ch_1215 (cut_all cc_1215)
/-- RookHusting$PutSearch fillFrom -/
noncomputable def con_1216 : Con2 := ((yX5_fillFrom, cX5_fillFrom, 4, none), (6, 142), ([(6, 0, 0), (0, 3, 0), (1, 2, 0)], gi_845, hc_177, []), [((9, 0, 0), gi_846, hq_610, [], tg_2)])
theorem hd_1216 : con_1216.1 = (yX5_fillFrom, cX5_fillFrom, 4, none) := rfl
theorem ck_RX5_47_1215 : COK2 RX5 vwCl gTbl 47 0 con_1215 := ⟨wd_1152, wd_135, mh_X5_fillFrom, .inr (.inr ⟨rfl, wd_1149, wd_1151, wd_37, ⟨_, rfl, pd_X5_fillFrom⟩, 5, _, TX5, 8, rfl, rfl⟩)⟩
noncomputable def ct_1216 : CTB2 := [(18, 56, 1, con_670, []), (21, 62, 0, con_1213, [0, 1, 2, 3, 4, 5, 6, 7, 8, 9, 10, 11, 12, 13, 14, 15, 16, 17, 18]), (40, 47, 0, con_1215, [0, 1, 2, 3, 4, 5, 6, 7, 8, 9, 10, 11, 12, 13, 14, 15, 16, 17, 18]), (58, 70, 2, con_46, []), (83, 47, 0, con_1215, [0, 1, 2, 3, 4, 5, 6, 7, 8, 9, 10, 11, 12, 13, 14, 15, 16, 17, 18])]
noncomputable def gi_848 : GI := jl_n [gp_389, jl_i 4 5, gp_391]
noncomputable def cu_1216 : List CUT2 := [((45, [lq 0 6 0, lq 1 0 3, lq 2 1 2, lq 3 1 44], [], gi_848, hq_611), [], ([(44, (-1))], 5))]
theorem ch_1216 : staG tb_X5_fillFrom 1 bt_RX5 [] ct_1216 [] [] cu_1216 30 con_1216 = true := by decide +kernel
theorem cc_1216 : cu_1216.all (cutG tb_X5_fillFrom 1 bt_RX5 [] ct_1216 [] [] cu_1216 30 con_1216) = true := by decide +kernel
theorem cto_1216 (l : Launch) : CTOK2 l RX5 vwCl gTbl ct_1216 := ct2_cons (vl_670 l) ck_RX5_56_670 (ct2_cons (vl_1213 l) ck_RX5_62_1213 (ct2_cons (vl_1215 l) ck_RX5_47_1215 (ct2_cons (vl_46 l) ck_RX5_70_46 (ct2_cons (vl_1215 l) ck_RX5_47_1215 (ct2_nil)))))
theorem vl_1216 (l : Launch) : Vld2 l vwCl gTbl con_1216 := conR_ok3 gT_all (hd_1216) rfl pn_RX5 tk_X5_fillFrom bo_RX5 xo_RX5 (cto_1216 l) ch_1216 (cut_all cc_1216)
/-- RookHusting$PutSearch fillFrom -/
noncomputable def con_1217 : Con2 := ((yX5_fillFrom, cX5_fillFrom, 4, none), (7, 165), ([(6, 0, 0), (0, 2, 0), (1, 2, 0)], gi_845, hc_177, []), [((9, 0, 0), gi_846, hq_610, [], tg_2)])
theorem hd_1217 : con_1217.1 = (yX5_fillFrom, cX5_fillFrom, 4, none) := rfl
theorem ck_RX5_47_1216 : COK2 RX5 vwCl gTbl 47 0 con_1216 := ⟨wd_1152, wd_135, mh_X5_fillFrom, .inr (.inr ⟨rfl, wd_1149, wd_1151, wd_37, ⟨_, rfl, pd_X5_fillFrom⟩, 5, _, TX5, 8, rfl, rfl⟩)⟩
noncomputable def ct_1217 : CTB2 := [(18, 56, 1, con_670, []), (21, 62, 0, con_1213, [0, 1, 2, 3, 4, 5, 6, 7, 8, 9, 10, 11, 12, 13, 14, 15, 16, 17, 18]), (40, 47, 0, con_1216, [0, 1, 2, 3, 4, 5, 6, 7, 8, 9, 10, 11, 12, 13, 14, 15, 16, 17, 18]), (58, 70, 2, con_46, []), (83, 47, 0, con_1216, [0, 1, 2, 3, 4, 5, 6, 7, 8, 9, 10, 11, 12, 13, 14, 15, 16, 17, 18])]
noncomputable def gi_849 : GI := jl_n [gp_389, jl_i 3 5, gp_391]
noncomputable def cu_1217 : List CUT2 := [((45, [lq 0 6 0, lq 1 0 2, lq 2 1 2, lq 3 1 44], [], gi_849, hq_611), [], ([(44, (-1))], 5))]
theorem ch_1217 : staG tb_X5_fillFrom 1 bt_RX5 [] ct_1217 [] [] cu_1217 30 con_1217 = true := by decide +kernel
theorem cc_1217 : cu_1217.all (cutG tb_X5_fillFrom 1 bt_RX5 [] ct_1217 [] [] cu_1217 30 con_1217) = true := by decide +kernel
theorem cto_1217 (l : Launch) : CTOK2 l RX5 vwCl gTbl ct_1217 := ct2_cons (vl_670 l) ck_RX5_56_670 (ct2_cons (vl_1213 l) ck_RX5_62_1213 (ct2_cons (vl_1216 l) ck_RX5_47_1216 (ct2_cons (vl_46 l) ck_RX5_70_46 (ct2_cons (vl_1216 l) ck_RX5_47_1216 (ct2_nil)))))
theorem vl_1217 (l : Launch) : Vld2 l vwCl gTbl con_1217 := conR_ok3 gT_all (hd_1217) rfl pn_RX5 tk_X5_fillFrom bo_RX5 xo_RX5 (cto_1217 l) ch_1217 (cut_all cc_1217)
/-- RookHusting$PutSearch fillFrom -/
noncomputable def con_1218 : Con2 := ((yX5_fillFrom, cX5_fillFrom, 4, none), (8, 188), ([(6, 0, 0), (0, 1, 0), (1, 2, 0)], gi_845, hc_177, []), [((9, 0, 0), gi_846, hq_610, [], tg_2)])
theorem hd_1218 : con_1218.1 = (yX5_fillFrom, cX5_fillFrom, 4, none) := rfl
theorem ck_RX5_47_1217 : COK2 RX5 vwCl gTbl 47 0 con_1217 := ⟨wd_1152, wd_135, mh_X5_fillFrom, .inr (.inr ⟨rfl, wd_1149, wd_1151, wd_37, ⟨_, rfl, pd_X5_fillFrom⟩, 5, _, TX5, 8, rfl, rfl⟩)⟩
noncomputable def ct_1218 : CTB2 := [(18, 56, 1, con_670, []), (21, 62, 0, con_1213, [0, 1, 2, 3, 4, 5, 6, 7, 8, 9, 10, 11, 12, 13, 14, 15, 16, 17, 18]), (40, 47, 0, con_1217, [0, 1, 2, 3, 4, 5, 6, 7, 8, 9, 10, 11, 12, 13, 14, 15, 16, 17, 18]), (58, 70, 2, con_46, []), (83, 47, 0, con_1217, [0, 1, 2, 3, 4, 5, 6, 7, 8, 9, 10, 11, 12, 13, 14, 15, 16, 17, 18])]
noncomputable def gi_850 : GI := jl_n [gp_389, jl_i 2 5, gp_391]
noncomputable def cu_1218 : List CUT2 := [((45, [lq 0 6 0, lq 1 0 1, lq 2 1 2, lq 3 1 44], [], gi_850, hq_611), [], ([(44, (-1))], 5))]
theorem ch_1218 : staG tb_X5_fillFrom 1 bt_RX5 [] ct_1218 [] [] cu_1218 30 con_1218 = true := by decide +kernel
theorem cc_1218 : cu_1218.all (cutG tb_X5_fillFrom 1 bt_RX5 [] ct_1218 [] [] cu_1218 30 con_1218) = true := by decide +kernel
theorem cto_1218 (l : Launch) : CTOK2 l RX5 vwCl gTbl ct_1218 := ct2_cons (vl_670 l) ck_RX5_56_670 (ct2_cons (vl_1213 l) ck_RX5_62_1213 (ct2_cons (vl_1217 l) ck_RX5_47_1217 (ct2_cons (vl_46 l) ck_RX5_70_46 (ct2_cons (vl_1217 l) ck_RX5_47_1217 (ct2_nil)))))
theorem vl_1218 (l : Launch) : Vld2 l vwCl gTbl con_1218 := conR_ok3 gT_all (hd_1218) rfl pn_RX5 tk_X5_fillFrom bo_RX5 xo_RX5 (cto_1218 l) ch_1218 (cut_all cc_1218)
/-- RookHusting$PutSearch fillFrom -/
noncomputable def con_1219 : Con2 := ((yX5_fillFrom, cX5_fillFrom, 4, none), (9, 211), ([(6, 0, 0), (0, 0, 0), (1, 2, 0)], gi_845, hc_177, []), [((9, 0, 0), gi_846, hq_610, [], tg_2)])
theorem hd_1219 : con_1219.1 = (yX5_fillFrom, cX5_fillFrom, 4, none) := rfl
theorem ck_RX5_47_1218 : COK2 RX5 vwCl gTbl 47 0 con_1218 := ⟨wd_1152, wd_135, mh_X5_fillFrom, .inr (.inr ⟨rfl, wd_1149, wd_1151, wd_37, ⟨_, rfl, pd_X5_fillFrom⟩, 5, _, TX5, 8, rfl, rfl⟩)⟩
noncomputable def ct_1219 : CTB2 := [(18, 56, 1, con_670, []), (21, 62, 0, con_1213, [0, 1, 2, 3, 4, 5, 6, 7, 8, 9, 10, 11, 12, 13, 14, 15, 16, 17, 18]), (40, 47, 0, con_1218, [0, 1, 2, 3, 4, 5, 6, 7, 8, 9, 10, 11, 12, 13, 14, 15, 16, 17, 18]), (58, 70, 2, con_46, []), (83, 47, 0, con_1218, [0, 1, 2, 3, 4, 5, 6, 7, 8, 9, 10, 11, 12, 13, 14, 15, 16, 17, 18])]
noncomputable def gi_851 : GI := jl_n [gp_388, gp_392, gp_391]
noncomputable def cu_1219 : List CUT2 := [((45, [lq 0 6 0, lq 1 0 0, lq 2 1 2, lq 3 1 44], [], gi_851, hq_611), [], ([(44, (-1))], 5))]
theorem ch_1219 : staG tb_X5_fillFrom 1 bt_RX5 [] ct_1219 [] [] cu_1219 30 con_1219 = true := by decide +kernel
theorem cc_1219 : cu_1219.all (cutG tb_X5_fillFrom 1 bt_RX5 [] ct_1219 [] [] cu_1219 30 con_1219) = true := by decide +kernel
theorem cto_1219 (l : Launch) : CTOK2 l RX5 vwCl gTbl ct_1219 := ct2_cons (vl_670 l) ck_RX5_56_670 (ct2_cons (vl_1213 l) ck_RX5_62_1213 (ct2_cons (vl_1218 l) ck_RX5_47_1218 (ct2_cons (vl_46 l) ck_RX5_70_46 (ct2_cons (vl_1218 l) ck_RX5_47_1218 (ct2_nil)))))
theorem vl_1219 (l : Launch) : Vld2 l vwCl gTbl con_1219 := conR_ok3 gT_all (hd_1219) rfl pn_RX5 tk_X5_fillFrom bo_RX5 xo_RX5 (cto_1219 l) ch_1219 (cut_all cc_1219)
/-- RookHusting$PutSearch searchFrom -/
noncomputable def gi_852 : GI := jl_n [jl_z 3, jl_r 3 (jl_t), gp_393, gp_383, gp_0, gp_372, gp_390, gp_255]
noncomputable def ac_711 : AC := .inl (5, jl_n [jl_6 23 1, jl_1 7 4, jl_6 10 1, jl_6 3 1, jl_6 11 1])
noncomputable def ac_712 : AC := .inl (4, jl_n [jl_8 19 1, jl_1 20 1, vp_62, vp_63, jl_8 26 1, jl_6 14 1, jl_6 12 1, jl_8 29 1, jl_6 19 2, jl_8 35 4])
noncomputable def ac_713 : AC := .inl (3, jl_n [jl_6 17 1, vp_7, jl_6 22 3, jl_6 16 1, jl_1 44 2])
noncomputable def hc_178 : List AC := [ac_711, .inl (7, [(6, 4, 0), (6, 6, 0), (6, 8, 0), (1, 13, 0)]), .inl (7, [(6, 3, 0), (6, 5, 0), (6, 7, 0), (1, 17, 0)]), am_3, am_3, am_1, am_1, am_1, am_1, ac_712, ac_713, am_4, am_0, am_11, am_0, am_1, am_0, am_4, am_10, am_0, am_0, am_9, am_3]
noncomputable def gi_853 : GI := jl_n [jl_z 3, jl_r 3 (jl_t), gp_393, gp_383, gp_0, gp_372, gp_390, gp_255, gp_199, jl_z 7, gp_271]
noncomputable def ac_714 : AC := .inl (5, jl_n [jl_6 23 1, jl_1 48 3, jl_c 1, jl_6 10 1, jl_6 3 1, jl_6 11 1])
noncomputable def ac_715 : AC := .inl (3, jl_n [jl_6 17 1, vp_7, jl_6 22 3, jl_6 16 1, jl_1 65 2])
noncomputable def hq_612 : HP := [(true, ac_714), (false, .inl (7, [(6, 4, 0), (6, 6, 0), (6, 8, 0), (1, 13, 0)])), (true, .inl (7, [(6, 3, 0), (6, 5, 0), (6, 7, 0), (1, 55, 0)])), (true, am_3), (false, am_3), (true, am_1), (false, am_1), (true, am_1), (false, am_1), (false, ac_712), (true, ac_715), (false, am_4), (true, am_0), (false, am_11), (true, am_0), (true, am_1), (true, am_0), (false, am_4), (false, am_10), (true, am_0), (true, am_0), (true, am_9), (true, am_3)]
noncomputable def con_1220 : Con2 := ((yX5_searchFrom, cX5_searchFrom, 2, none), (10, 234), ([(6, 0, 0), (6, 1, 0)], gi_852, hc_178, []), [((9, 0, 0), gi_853, hq_612, [], tg_17)])
theorem hd_1220 : con_1220.1 = (yX5_searchFrom, cX5_searchFrom, 2, none) := rfl
theorem ck_RX5_47_1219 : COK2 RX5 vwCl gTbl 47 0 con_1219 := ⟨wd_1152, wd_135, mh_X5_fillFrom, .inr (.inr ⟨rfl, wd_1149, wd_1151, wd_37, ⟨_, rfl, pd_X5_fillFrom⟩, 5, _, TX5, 8, rfl, rfl⟩)⟩
theorem ck_RX5_31_1212 : COK2 RX5 vwCl gTbl 31 0 con_1212 := ⟨wd_1148, wd_133, mh_X7_copyFrom, .inr (.inr ⟨rfl, wd_1145, wd_1146, wd_1147, ⟨_, rfl, pd_X7_copyFrom⟩, 7, _, TX7, 4, rfl, rfl⟩)⟩
noncomputable def ct_1220 : CTB2 := [(13, 31, 0, con_1212, [2, 1, 3, 4, 5, 6, 7, 8]), (34, 47, 0, con_1219, [0, 9, 10, 2, 11, 12, 13, 14, 5, 15, 3, 16, 17, 18, 19, 20, 21, 7, 22])]
noncomputable def cu_1220 : List CUT2 := []
theorem ch_1220 : staG tb_X5_searchFrom 1 bt_RX5 [] ct_1220 [] [] cu_1220 26 con_1220 = true := by decide +kernel
theorem cto_1220 (l : Launch) : CTOK2 l RX5 vwCl gTbl ct_1220 := ct2_cons (vl_1212 l) ck_RX5_31_1212 (ct2_cons (vl_1219 l) ck_RX5_47_1219 (ct2_nil))
theorem vl_1220 (l : Launch) : Vld2 l vwCl gTbl con_1220 := conR_ok3 gT_all (hd_1220) rfl pn_RX5 tk_X5_searchFrom bo_RX5 xo_RX5 (cto_1220 l) ch_1220 cut_nil
/-- RookHusting best -/
noncomputable def gi_854 : GI := jl_n [gp_374, gp_394]
noncomputable def ac_716 : AC := .inl (11, jl_n [vp_127, vp_135, jl_8 14 2, vp_73])
noncomputable def ac_717 : AC := .inl (5, jl_n [jl_6 41 1, jl_1 120 4, vp_136])
noncomputable def ac_718 : AC := .inl (3, jl_n [vp_137, jl_1 136 2])
noncomputable def hc_179 : List AC := [ac_716, .inl (9, [(6, 2, 0), (6, 11, 0)]), ac_671, .inl (7, [(6, 4, 0), (6, 5, 0), (6, 6, 0), (1, 39, 0)]), am_3, am_1, am_1, am_1, .inl (1, [(6, 2, 0), (8, 41, 0)]), am_5, am_7, .inl (0, [(1, 42, 0), (6, 12, 0), (6, 13, 0), (6, 14, 0)]), ac_508, am_12, ac_509, ac_510, am_4, am_0, am_11, am_0, am_1, am_0, am_4, am_10, am_0, am_0, am_9, ac_717, .inl (7, [(6, 29, 0), (6, 30, 0), (6, 31, 0), (1, 126, 0)]), am_3, am_1, am_1, ac_718, am_0, am_0, am_1, am_0, am_0, am_0, am_9, am_3]
noncomputable def gi_855 : GI := jl_n [gp_374, gp_394, gp_375, gp_394]
noncomputable def ac_719 : AC := .inl (11, jl_n [vp_127, vp_135, jl_8 14 2, jl_1 151 1, jl_8 17 2])
noncomputable def ac_720 : AC := .inl (3, jl_n [vp_78, jl_1 166 2])
noncomputable def ac_721 : AC := .inl (5, jl_n [jl_6 41 1, jl_1 171 4, vp_136])
noncomputable def ac_722 : AC := .inl (3, jl_n [vp_137, jl_1 187 2])
noncomputable def hq_613 : HP := [(true, ac_719), (false, .inl (9, [(6, 2, 0), (6, 11, 0)])), (false, ac_671), (true, .inl (7, [(6, 4, 0), (6, 5, 0), (6, 6, 0), (1, 156, 0)])), (true, am_3), (true, am_1), (true, am_1), (false, am_1), (false, .inl (1, [(6, 2, 0), (8, 41, 0)])), (false, am_5), (false, am_7), (false, .inl (0, [(1, 42, 0), (6, 12, 0), (6, 13, 0), (6, 14, 0)])), (false, ac_508), (false, am_12), (false, ac_509), (true, ac_720), (false, am_4), (true, am_0), (false, am_11), (true, am_0), (true, am_1), (true, am_0), (false, am_4), (false, am_10), (true, am_0), (true, am_0), (true, am_9), (true, ac_721), (true, .inl (7, [(6, 29, 0), (6, 30, 0), (6, 31, 0), (1, 177, 0)])), (true, am_3), (true, am_1), (true, am_1), (true, ac_722), (true, am_0), (true, am_0), (true, am_1), (true, am_0), (true, am_0), (true, am_0), (true, am_9), (true, am_3)]
noncomputable def con_1221 : Con2 := ((yX11_best, cX11_best, 1, (some .int)), (11, 255), ([(6, 0, 0)], gi_854, hc_179, rq_2), [((1, 136, 0), gi_855, hq_613, [], tg_18)])
theorem hd_1221 : con_1221.1 = (yX11_best, cX11_best, 1, (some .int)) := rfl
theorem ck_RX11_317_1220 : COK2 RX11 vwCl gTbl 317 0 con_1220 := ⟨wd_1144, wd_135, mh_X5_searchFrom, .inr (.inr ⟨rfl, wd_1141, wd_1142, wd_1143, ⟨_, rfl, pd_X5_searchFrom⟩, 5, _, TX5, 8, rfl, rfl⟩)⟩
noncomputable def ct_1221 : CTB2 := [(1, 219, 0, con_667, [0, 1, 2]), (11, 208, 0, con_900, [0, 1, 3, 2, 4, 5, 6, 7, 8, 9, 10, 11, 12, 13, 14, 15, 16, 17, 18, 19, 20, 21, 22, 23, 24, 25, 26]), (22, 317, 0, con_1220, [27, 3, 28, 29, 4, 30, 5, 31, 6, 2, 32, 16, 33, 18, 34, 35, 36, 22, 23, 37, 38, 39, 40])]
noncomputable def cu_1221 : List CUT2 := []
theorem ch_1221 : staG tb_X11_best 1 bt_RX11 [] ct_1221 [] [] cu_1221 16 con_1221 = true := by decide +kernel
theorem cto_1221 (l : Launch) : CTOK2 l RX11 vwCl gTbl ct_1221 := ct2_cons (vl_667 l) ck_RX11_219_667 (ct2_cons (vl_900 l) ck_RX11_208_900 (ct2_cons (vl_1220 l) ck_RX11_317_1220 (ct2_nil)))
theorem vl_1221 (l : Launch) : Vld2 l vwCl gTbl con_1221 := conR_ok3 gT_all (hd_1221) rfl pn_RX11 tk_X11_best bo_RX11 xo_RX11 (cto_1221 l) ch_1221 cut_nil
/-- RookHustingModel menIn -/
noncomputable def ac_723 : AC := .inl (12, jl_n [vp_138, jl_8 46 25])
noncomputable def gi_856 : GI := jl_n [gp_163, jl_m 0 16]
noncomputable def hq_614 : HP := [(false, ac_723), (false, ac_436), (false, am_3)]
noncomputable def con_1222 : Con2 := ((yX12_menIn, cX12_menIn, 3, (some .int)), (1, 22), ([(6, 0, 0)], gi_299, [ac_723, ac_436, am_3], []), [((1, 69, 0), gi_856, hq_614, [], [1])])
theorem hd_1222 : con_1222.1 = (yX12_menIn, cX12_menIn, 3, (some .int)) := rfl
noncomputable def ct_1222 : CTB2 := [(6, 106, 0, con_646, [0, 1]), (32, 199, 1, con_390, []), (59, 252, 1, con_678, [])]
noncomputable def gi_857 : GI := jl_n [jl_z 46, gp_125, gp_208]
noncomputable def cu_1222 : List CUT2 := [((4, [lq 0 6 0, lq 1 1 70, lq 2 1 71], [], gi_857, hq_614), [], ([(71, (-1))], 5))]
theorem ch_1222 : staG tb_X12_menIn 1 bt_RX12 [] ct_1222 [] [] cu_1222 32 con_1222 = true := by decide +kernel
theorem cc_1222 : cu_1222.all (cutG tb_X12_menIn 1 bt_RX12 [] ct_1222 [] [] cu_1222 32 con_1222) = true := by decide +kernel
theorem cto_1222 (l : Launch) : CTOK2 l RX12 vwCl gTbl ct_1222 := ct2_cons (vl_646 l) ck_RX12_106_646 (ct2_cons (vl_390 l) ck_RX12_199_390 (ct2_cons (vl_678 l) ck_RX12_252_678 (ct2_nil)))
theorem vl_1222 (l : Launch) : Vld2 l vwCl gTbl con_1222 := conR_ok3 gT_all (hd_1222) rfl pn_RX12 tk_X12_menIn bo_RX12 xo_RX12 (cto_1222 l) ch_1222 (cut_all cc_1222)
/-- RookHustingModel allLast -/
noncomputable def ac_724 : AC := .inl (12, jl_n [vp_40, jl_8 28 25, jl_6 3 1, jl_8 46 17])
noncomputable def hc_180 : List AC := [ac_724, ac_436, am_0]
noncomputable def hq_615 : HP := [(false, ac_724), (false, ac_436), (false, am_0)]
noncomputable def con_1223 : Con2 := ((yX12_allLast, cX12_allLast, 1, (some .int)), (2, 43), ([(6, 0, 0)], gi_299, hc_180, []), [((1, 69, 0), gi_554, hq_615, [], [1])])
theorem hd_1223 : con_1223.1 = (yX12_allLast, cX12_allLast, 1, (some .int)) := rfl
noncomputable def ct_1223 : CTB2 := [(2, 103, 0, con_1100, [0, 1]), (5, 375, 0, con_1133, [0, 1, 2])]
noncomputable def cu_1223 : List CUT2 := []
theorem ch_1223 : staG tb_X12_allLast 1 bt_RX12 [] ct_1223 [] [] cu_1223 7 con_1223 = true := by decide +kernel
theorem cto_1223 (l : Launch) : CTOK2 l RX12 vwCl gTbl ct_1223 := ct2_cons (vl_1100 l) ck_RX12_103_1100 (ct2_cons (vl_1133 l) ck_RX12_375_1133 (ct2_nil))
theorem vl_1223 (l : Launch) : Vld2 l vwCl gTbl con_1223 := conR_ok3 gT_all (hd_1223) rfl pn_RX12 tk_X12_allLast bo_RX12 xo_RX12 (cto_1223 l) ch_1223 cut_nil
/-- RookHustingModel tryRow -/
noncomputable def gi_858 : GI := jl_n [gp_283, gp_396, gp_124]
noncomputable def ac_725 : AC := .inl (12, jl_n [vp_138, jl_6 6 1, jl_1 26 4, vp_132, jl_6 4 1, vp_111, jl_6 11 1, jl_1 36 3, jl_8 46 10])
noncomputable def hc_181 : List AC := [ac_725, ac_436, am_3, am_0, am_0, am_1, am_0, am_13, am_14, am_15, am_3]
noncomputable def gi_859 : GI := jl_n [gp_283, gp_396, gp_123, jl_z 46, gp_395]
noncomputable def ac_726 : AC := .inl (12, jl_n [vp_138, jl_6 6 1, jl_1 26 4, vp_132, jl_6 4 1, vp_111, jl_6 11 1, jl_1 104 3, jl_8 46 10])
noncomputable def hq_616 : HP := [(true, ac_726), (false, ac_436), (false, am_3), (true, am_0), (true, am_0), (false, am_1), (true, am_0), (true, am_13), (true, am_14), (true, am_15), (true, am_3)]
noncomputable def con_1224 : Con2 := ((yX12_tryRow, cX12_tryRow, 4, none), (4, 97), ([(6, 0, 0)], gi_858, hc_181, []), [((9, 0, 0), gi_859, hq_616, [], tg_10)])
theorem hd_1224 : con_1224.1 = (yX12_tryRow, cX12_tryRow, 4, none) := rfl
theorem ck_RX12_390_1223 : COK2 RX12 vwCl gTbl 390 0 con_1223 := ⟨wd_2006, wd_137, mh_X12_allLast, .inr (.inr ⟨rfl, wd_2003, wd_2005, wd_109, ⟨_, rfl, pd_X12_allLast⟩, 12, _, TX12, 45, rfl, rfl⟩)⟩
theorem ck_RX12_387_1222 : COK2 RX12 vwCl gTbl 387 0 con_1222 := ⟨wd_2002, wd_137, mh_X12_menIn, .inr (.inr ⟨rfl, wd_1999, wd_2001, wd_108, ⟨_, rfl, pd_X12_menIn⟩, 12, _, TX12, 45, rfl, rfl⟩)⟩
noncomputable def ct_1224 : CTB2 := [(1, 387, 0, con_1222, [0, 1, 2]), (12, 363, 0, con_1108, [0, 1, 3, 4, 2, 5, 6, 7, 8, 9]), (16, 390, 0, con_1223, [0, 1, 3])]
noncomputable def gi_860 : GI := jl_n [gp_283, jl_z 7, jl_m 2147483647 2147483646, jl_r 2 (jl_t), jl_z 10, gp_125, jl_i 0 16, jl_m 2147483646 2147483647, gp_290]
noncomputable def ac_727 : AC := .inl (12, jl_n [vp_138, jl_6 6 1, jl_1 26 4, vp_132, jl_6 4 1, vp_111, jl_6 11 1, jl_1 34 1, jl_c 0, jl_c 1000000000, jl_8 46 10])
noncomputable def hq_617 : HP := [(true, ac_727), (false, ac_436), (false, am_3), (true, am_0), (true, am_0), (false, am_1), (true, am_0), (true, am_13), (true, am_14), (true, am_15), (true, am_3)]
noncomputable def cu_1224 : List CUT2 := [((42, [lq 0 6 0, lq 1 1 70, lq 2 1 71, lq 3 1 72], [], gi_860, hq_617), [], ([(72, (-1))], 5))]
theorem ch_1224 : staG tb_X12_tryRow 1 bt_RX12 [] ct_1224 [] [] cu_1224 46 con_1224 = true := by decide +kernel
theorem cc_1224 : cu_1224.all (cutG tb_X12_tryRow 1 bt_RX12 [] ct_1224 [] [] cu_1224 46 con_1224) = true := by decide +kernel
theorem cto_1224 (l : Launch) : CTOK2 l RX12 vwCl gTbl ct_1224 := ct2_cons (vl_1222 l) ck_RX12_387_1222 (ct2_cons (vl_1108 l) ck_RX12_363_1108 (ct2_cons (vl_1223 l) ck_RX12_390_1223 (ct2_nil)))
theorem vl_1224 (l : Launch) : Vld2 l vwCl gTbl con_1224 := conR_ok3 gT_all (hd_1224) rfl pn_RX12 tk_X12_tryRow bo_RX12 xo_RX12 (cto_1224 l) ch_1224 (cut_all cc_1224)
/-- RookHustingModel fields -/
noncomputable def gi_861 : GI := jl_n [gp_397, jl_z 1, gp_398]
noncomputable def ac_728 : AC := .inr (1, jl_n [js_1 49 3, jl_x (1, (0, 5, 0)), sp_132])
noncomputable def gi_862 : GI := jl_n [gp_397, jl_z 1, gp_13, gp_127]
noncomputable def con_1225 : Con2 := ((yX12_fields, cX12_fields, 1, (some .int)), (0, 0), ([(6, 0, 0)], gi_861, [ac_435, ac_728], []), [((0, 5, 0), gi_862, [(false, ac_435), (false, ac_728)], [], [1])])
theorem hd_1225 : con_1225.1 = (yX12_fields, cX12_fields, 1, (some .int)) := rfl
noncomputable def cu_1225 : List CUT2 := []
theorem ch_1225 : staG tb_X12_fields 1 bt_RX12 [] ct_2 [] [] cu_1225 7 con_1225 = true := by decide +kernel
theorem vl_1225 (l : Launch) : Vld2 l vwCl gTbl con_1225 := conR_ok3 gT_all (hd_1225) rfl pn_RX12 tk_X12_fields bo_RX12 xo_RX12 (cto_2 l) ch_1225 cut_nil
/-- RookHustingModel fields -/
noncomputable def ac_729 : AC := .inr (1, jl_n [js_1 49 3, jl_x (1, (0, 4, 0)), sp_132])
noncomputable def con_1226 : Con2 := ((yX12_fields, cX12_fields, 1, (some .int)), (0, 0), ([(6, 0, 0)], gi_861, [ac_435, ac_729], []), [((0, 4, 0), gi_862, [(false, ac_435), (false, ac_729)], [], [1])])
theorem hd_1226 : con_1226.1 = (yX12_fields, cX12_fields, 1, (some .int)) := rfl
noncomputable def cu_1226 : List CUT2 := []
theorem ch_1226 : staG tb_X12_fields 1 bt_RX12 [] ct_2 [] [] cu_1226 7 con_1226 = true := by decide +kernel
theorem vl_1226 (l : Launch) : Vld2 l vwCl gTbl con_1226 := conR_ok3 gT_all (hd_1226) rfl pn_RX12 tk_X12_fields bo_RX12 xo_RX12 (cto_2 l) ch_1226 cut_nil
/-- RookHustingModel fields -/
noncomputable def ac_730 : AC := .inr (1, jl_n [js_1 49 3, jl_x (1, (0, 3, 0)), sp_132])
noncomputable def con_1227 : Con2 := ((yX12_fields, cX12_fields, 1, (some .int)), (0, 0), ([(6, 0, 0)], gi_861, [ac_435, ac_730], []), [((0, 3, 0), gi_862, [(false, ac_435), (false, ac_730)], [], [1])])
theorem hd_1227 : con_1227.1 = (yX12_fields, cX12_fields, 1, (some .int)) := rfl
noncomputable def cu_1227 : List CUT2 := []
theorem ch_1227 : staG tb_X12_fields 1 bt_RX12 [] ct_2 [] [] cu_1227 7 con_1227 = true := by decide +kernel
theorem vl_1227 (l : Launch) : Vld2 l vwCl gTbl con_1227 := conR_ok3 gT_all (hd_1227) rfl pn_RX12 tk_X12_fields bo_RX12 xo_RX12 (cto_2 l) ch_1227 cut_nil
/-- RookHustingModel fields -/
noncomputable def ac_731 : AC := .inr (1, jl_n [js_1 49 3, jl_x (1, (0, 2, 0)), sp_132])
noncomputable def con_1228 : Con2 := ((yX12_fields, cX12_fields, 1, (some .int)), (0, 0), ([(6, 0, 0)], gi_861, [ac_435, ac_731], []), [((0, 2, 0), gi_862, [(false, ac_435), (false, ac_731)], [], [1])])
theorem hd_1228 : con_1228.1 = (yX12_fields, cX12_fields, 1, (some .int)) := rfl
noncomputable def cu_1228 : List CUT2 := []
theorem ch_1228 : staG tb_X12_fields 1 bt_RX12 [] ct_2 [] [] cu_1228 7 con_1228 = true := by decide +kernel
theorem vl_1228 (l : Launch) : Vld2 l vwCl gTbl con_1228 := conR_ok3 gT_all (hd_1228) rfl pn_RX12 tk_X12_fields bo_RX12 xo_RX12 (cto_2 l) ch_1228 cut_nil
/-- RookHustingModel fields -/
noncomputable def ac_732 : AC := .inr (1, jl_n [js_1 49 3, jl_x (1, (0, 1, 0)), sp_132])
noncomputable def con_1229 : Con2 := ((yX12_fields, cX12_fields, 1, (some .int)), (0, 0), ([(6, 0, 0)], gi_861, [ac_435, ac_732], []), [((0, 1, 0), gi_862, [(false, ac_435), (false, ac_732)], [], [1])])
theorem hd_1229 : con_1229.1 = (yX12_fields, cX12_fields, 1, (some .int)) := rfl
noncomputable def cu_1229 : List CUT2 := []
theorem ch_1229 : staG tb_X12_fields 1 bt_RX12 [] ct_2 [] [] cu_1229 7 con_1229 = true := by decide +kernel
theorem vl_1229 (l : Launch) : Vld2 l vwCl gTbl con_1229 := conR_ok3 gT_all (hd_1229) rfl pn_RX12 tk_X12_fields bo_RX12 xo_RX12 (cto_2 l) ch_1229 cut_nil
/-- RookHustingModel fields -/
noncomputable def ac_733 : AC := .inr (1, jl_n [js_1 49 3, jl_x (1, (0, 0, 0)), sp_132])
noncomputable def con_1230 : Con2 := ((yX12_fields, cX12_fields, 1, (some .int)), (0, 0), ([(6, 0, 0)], gi_861, [ac_435, ac_733], []), [((0, 0, 0), gi_862, [(false, ac_435), (false, ac_733)], [], [1])])
theorem hd_1230 : con_1230.1 = (yX12_fields, cX12_fields, 1, (some .int)) := rfl
noncomputable def cu_1230 : List CUT2 := []
theorem ch_1230 : staG tb_X12_fields 1 bt_RX12 [] ct_2 [] [] cu_1230 7 con_1230 = true := by decide +kernel
theorem vl_1230 (l : Launch) : Vld2 l vwCl gTbl con_1230 := conR_ok3 gT_all (hd_1230) rfl pn_RX12 tk_X12_fields bo_RX12 xo_RX12 (cto_2 l) ch_1230 cut_nil
/-- RookHustingModel nextRow -/
noncomputable def gi_863 : GI := jl_n [gp_163, jl_r 5 (jl_m 0 4)]
noncomputable def ac_734 : AC := .inr (1, jl_n [js_1 74 5])
noncomputable def gi_864 : GI := jl_n [gp_397, jl_z 1, gp_399, jl_z 1]
noncomputable def gi_865 : GI := jl_n [gp_397, jl_i 1 1, gp_400]
noncomputable def ac_735 : AC := .inr (1, jl_n [jl_x (1, (0, (-1), 0)), js_1 74 4])
noncomputable def gi_866 : GI := jl_n [gp_397, jl_i 2 2, gp_400]
noncomputable def ac_736 : AC := .inr (1, jl_n [sp_133, js_1 74 3])
noncomputable def gi_867 : GI := jl_n [gp_401, gp_400]
noncomputable def ac_737 : AC := .inr (1, jl_n [sp_134, js_1 74 2])
noncomputable def gi_868 : GI := jl_n [gp_402, gp_400]
noncomputable def ac_738 : AC := .inr (1, jl_n [sp_133, sp_133, js_1 74 1])
noncomputable def gi_869 : GI := jl_n [gp_403, gp_400]
noncomputable def ac_739 : AC := .inr (1, jl_n [sp_133, sp_134])
noncomputable def gi_870 : GI := jl_n [gp_397, jl_i 1 1, gp_405]
noncomputable def ac_740 : AC := .inr (1, jl_n [jl_x (1, (1, 69, 1)), js_1 74 4])
noncomputable def gi_871 : GI := jl_n [gp_397, jl_i 2 2, gp_405]
noncomputable def ac_741 : AC := .inr (1, jl_n [jl_x (1, (1, 69, 1)), jl_x (1, (0, (-1), 0)), js_1 74 3])
noncomputable def gi_872 : GI := jl_n [gp_401, gp_405]
noncomputable def ac_742 : AC := .inr (1, jl_n [jl_x (1, (1, 69, 1)), sp_133, js_1 74 2])
noncomputable def gi_873 : GI := jl_n [gp_402, gp_405]
noncomputable def ac_743 : AC := .inr (1, jl_n [jl_x (1, (1, 69, 1)), sp_134, js_1 74 1])
noncomputable def gi_874 : GI := jl_n [gp_403, gp_405]
noncomputable def ac_744 : AC := .inr (1, jl_n [jl_x (1, (1, 69, 1)), sp_133, sp_133])
noncomputable def gi_875 : GI := jl_n [gp_397, jl_i 2 2, gp_406]
noncomputable def ac_745 : AC := .inr (1, jl_n [sp_135, js_1 74 3])
noncomputable def gi_876 : GI := jl_n [gp_401, gp_406]
noncomputable def ac_746 : AC := .inr (1, jl_n [sp_135, jl_x (1, (0, (-1), 0)), js_1 74 2])
noncomputable def gi_877 : GI := jl_n [gp_402, gp_406]
noncomputable def ac_747 : AC := .inr (1, jl_n [sp_135, sp_133, js_1 74 1])
noncomputable def gi_878 : GI := jl_n [gp_403, gp_406]
noncomputable def ac_748 : AC := .inr (1, jl_n [sp_135, sp_134])
noncomputable def gi_879 : GI := jl_n [gp_401, gp_404, jl_r 2 (jl_m 0 4), jl_m 0 3, jl_r 2 (jl_m 0 4), jl_z 6]
noncomputable def ac_749 : AC := .inr (1, jl_n [js_1 71 2, jl_x (1, (1, 71, 1)), js_1 74 2])
noncomputable def gi_880 : GI := jl_n [gp_402, gp_404, jl_r 2 (jl_m 0 4), jl_m 0 3, jl_r 2 (jl_m 0 4), jl_z 6]
noncomputable def ac_750 : AC := .inr (1, jl_n [js_1 71 2, jl_x (1, (1, 71, 1)), jl_x (1, (0, (-1), 0)), js_1 74 1])
noncomputable def gi_881 : GI := jl_n [gp_403, gp_404, jl_r 2 (jl_m 0 4), jl_m 0 3, jl_r 2 (jl_m 0 4), jl_z 6]
noncomputable def ac_751 : AC := .inr (1, jl_n [js_1 71 2, jl_x (1, (1, 71, 1)), sp_133])
noncomputable def gi_882 : GI := jl_n [gp_402, gp_404, jl_r 3 (jl_m 0 4), jl_m 0 3, jl_m 0 4, jl_z 6]
noncomputable def ac_752 : AC := .inr (1, jl_n [js_1 72 3, jl_x (1, (1, 72, 1)), js_1 74 1])
noncomputable def gi_883 : GI := jl_n [gp_403, gp_404, jl_r 3 (jl_m 0 4), jl_m 0 3, jl_m 0 4, jl_z 6]
noncomputable def ac_753 : AC := .inr (1, jl_n [js_1 72 3, jl_x (1, (1, 72, 1)), jl_x (1, (0, (-1), 0))])
noncomputable def gi_884 : GI := jl_n [gp_403, gp_404, jl_r 4 (jl_m 0 4), jl_m 0 3, jl_z 6]
noncomputable def ac_754 : AC := .inr (1, jl_n [js_1 73 4, jl_x (1, (1, 73, 1))])
noncomputable def con_1231 : Con2 := ((yX12_nextRow, cX12_nextRow, 2, (some .boolean)), (1, 20), ([(6, 0, 0)], gi_863, [ac_723, ac_436, ac_734], []), [((0, 0, 0), gi_864, [(false, ac_723), (false, ac_436), (false, ac_734)], [], [1]), ((0, 0, 0), gi_865, [(false, ac_723), (false, ac_436), (true, ac_735)], [], [1, 1, 1, 1, 1, 1]), ((0, 0, 0), gi_866, [(false, ac_723), (false, ac_436), (true, ac_736)], [], [1, 1, 1, 1, 1, 1]), ((0, 0, 0), gi_867, [(false, ac_723), (false, ac_436), (true, ac_737)], [], [1, 1, 1, 1, 1, 1]), ((0, 0, 0), gi_868, [(false, ac_723), (false, ac_436), (true, ac_738)], [], [1, 1, 1, 1, 1, 1]), ((0, 0, 0), gi_869, [(false, ac_723), (false, ac_436), (true, ac_739)], [], [1, 1, 1, 1, 1, 1]), ((0, 1, 0), gi_870, [(false, ac_723), (false, ac_436), (true, ac_740)], [], [1, 1, 1, 1, 1, 1]), ((0, 1, 0), gi_871, [(false, ac_723), (false, ac_436), (true, ac_741)], [], [1, 1, 1, 1, 1, 1]), ((0, 1, 0), gi_872, [(false, ac_723), (false, ac_436), (true, ac_742)], [], [1, 1, 1, 1, 1, 1]), ((0, 1, 0), gi_873, [(false, ac_723), (false, ac_436), (true, ac_743)], [], [1, 1, 1, 1, 1, 1]), ((0, 1, 0), gi_874, [(false, ac_723), (false, ac_436), (true, ac_744)], [], [1, 1, 1, 1, 1, 1]), ((0, 1, 0), gi_875, [(false, ac_723), (false, ac_436), (true, ac_745)], [], [1, 1, 1, 1, 1, 1]), ((0, 1, 0), gi_876, [(false, ac_723), (false, ac_436), (true, ac_746)], [], [1, 1, 1, 1, 1, 1]), ((0, 1, 0), gi_877, [(false, ac_723), (false, ac_436), (true, ac_747)], [], [1, 1, 1, 1, 1, 1]), ((0, 1, 0), gi_878, [(false, ac_723), (false, ac_436), (true, ac_748)], [], [1, 1, 1, 1, 1, 1]), ((0, 1, 0), gi_879, [(false, ac_723), (false, ac_436), (true, ac_749)], [], [1, 1, 1, 1, 1, 1]), ((0, 1, 0), gi_880, [(false, ac_723), (false, ac_436), (true, ac_750)], [], [1, 1, 1, 1, 1, 1]), ((0, 1, 0), gi_881, [(false, ac_723), (false, ac_436), (true, ac_751)], [], [1, 1, 1, 1, 1, 1]), ((0, 1, 0), gi_882, [(false, ac_723), (false, ac_436), (true, ac_752)], [], [1, 1, 1, 1, 1, 1]), ((0, 1, 0), gi_883, [(false, ac_723), (false, ac_436), (true, ac_753)], [], [1, 1, 1, 1, 1, 1]), ((0, 1, 0), gi_884, [(false, ac_723), (false, ac_436), (true, ac_754)], [], [1, 1, 1, 1, 1, 1])])
theorem hd_1231 : con_1231.1 = (yX12_nextRow, cX12_nextRow, 2, (some .boolean)) := rfl
theorem ck_RX12_106_1230 : COK2 RX12 vwCl gTbl 106 0 con_1230 := ⟨wd_1660, wd_137, mh_X12_fields, .inr (.inr ⟨rfl, wd_1657, wd_1659, wd_67, ⟨_, rfl, pd_X12_fields⟩, 12, _, TX12, 45, rfl, rfl⟩)⟩
theorem ck_RX12_106_1229 : COK2 RX12 vwCl gTbl 106 0 con_1229 := ⟨wd_1660, wd_137, mh_X12_fields, .inr (.inr ⟨rfl, wd_1657, wd_1659, wd_67, ⟨_, rfl, pd_X12_fields⟩, 12, _, TX12, 45, rfl, rfl⟩)⟩
theorem ck_RX12_106_1228 : COK2 RX12 vwCl gTbl 106 0 con_1228 := ⟨wd_1660, wd_137, mh_X12_fields, .inr (.inr ⟨rfl, wd_1657, wd_1659, wd_67, ⟨_, rfl, pd_X12_fields⟩, 12, _, TX12, 45, rfl, rfl⟩)⟩
theorem ck_RX12_106_1227 : COK2 RX12 vwCl gTbl 106 0 con_1227 := ⟨wd_1660, wd_137, mh_X12_fields, .inr (.inr ⟨rfl, wd_1657, wd_1659, wd_67, ⟨_, rfl, pd_X12_fields⟩, 12, _, TX12, 45, rfl, rfl⟩)⟩
theorem ck_RX12_106_1226 : COK2 RX12 vwCl gTbl 106 0 con_1226 := ⟨wd_1660, wd_137, mh_X12_fields, .inr (.inr ⟨rfl, wd_1657, wd_1659, wd_67, ⟨_, rfl, pd_X12_fields⟩, 12, _, TX12, 45, rfl, rfl⟩)⟩
theorem ck_RX12_106_1225 : COK2 RX12 vwCl gTbl 106 0 con_1225 := ⟨wd_1660, wd_137, mh_X12_fields, .inr (.inr ⟨rfl, wd_1657, wd_1659, wd_67, ⟨_, rfl, pd_X12_fields⟩, 12, _, TX12, 45, rfl, rfl⟩)⟩
noncomputable def ct_1231 : CTB2 := [(1, 106, 0, con_1225, [0, 1]), (1, 106, 0, con_1226, [0, 1]), (1, 106, 0, con_1227, [0, 1]), (1, 106, 0, con_1228, [0, 1]), (1, 106, 0, con_1229, [0, 1]), (1, 106, 0, con_1230, [0, 1]), (18, 95, 0, con_655, [0, 1])]
noncomputable def cu_1231 : List CUT2 := []
theorem ch_1231 : staG tb_X12_nextRow 1 bt_RX12 [] ct_1231 [(0, [(1, (2, 1, 3), 0, 0)])] [] cu_1231 101 con_1231 = true := by decide +kernel
theorem cto_1231 (l : Launch) : CTOK2 l RX12 vwCl gTbl ct_1231 := ct2_cons (vl_1225 l) ck_RX12_106_1225 (ct2_cons (vl_1226 l) ck_RX12_106_1226 (ct2_cons (vl_1227 l) ck_RX12_106_1227 (ct2_cons (vl_1228 l) ck_RX12_106_1228 (ct2_cons (vl_1229 l) ck_RX12_106_1229 (ct2_cons (vl_1230 l) ck_RX12_106_1230 (ct2_cons (vl_655 l) ck_RX12_95_655 (ct2_nil)))))))
theorem vl_1231 (l : Launch) : Vld2 l vwCl gTbl con_1231 := conR_ok3 gT_all (hd_1231) rfl pn_RX12 tk_X12_nextRow bo_RX12 xo_RX12 (cto_1231 l) ch_1231 cut_nil
