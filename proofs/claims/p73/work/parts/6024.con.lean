/-! ===== contracts, 24 ===== -/
/-- RookHusting$Harvest frighten -/
noncomputable def gi_474 : GI := jl_n [jl_z 3, gp_251, jl_z 22]
noncomputable def ac_497 : AC := .inl (3, jl_n [jl_6 7 1, jl_8 10 5, jl_6 5 1, jl_1 12 1, jl_8 13 1])
noncomputable def ac_498 : AC := .inl (4, jl_n [jl_8 24 11, jl_6 9 2, jl_8 30 4])
noncomputable def hc_99 : List AC := [ac_497, ac_498, .inl (7, [(6, 5, 0), (6, 3, 0), (8, 32, 0), (8, 33, 0)]), am_1, am_1, am_3, am_0, am_4, am_10]
noncomputable def hq_491 : HP := [(false, ac_497), (false, ac_498), (false, .inl (7, [(6, 5, 0), (6, 3, 0), (8, 32, 0), (8, 33, 0)])), (false, am_1), (true, am_1), (false, am_3), (true, am_0), (false, am_4), (false, am_10)]
noncomputable def con_883 : Con2 := ((yX3_frighten, cX3_frighten, 8, none), (1, 21), ([(6, 0, 0), (6, 1, 0), (6, 2, 0), (1, 3, 0)], gi_474, hc_99, []), [((9, 0, 0), gi_474, hq_491, [], [])])
theorem hd_883 : con_883.1 = (yX3_frighten, cX3_frighten, 8, none) := rfl
theorem ck_RX3_58_46 : COK2 RX3 vwCl gTbl 58 2 con_46 := ⟨wd_682, wd_125, mh_X11_hasBit, .inr (.inl ⟨rfl, by decide +kernel, wd_681, pd_X11_hasBit⟩)⟩
noncomputable def ct_883 : CTB2 := [(24, 58, 2, con_46, [])]
noncomputable def gi_475 : GI := jl_n [jl_z 3, gp_251, gp_181, jl_i 0 5]
noncomputable def cu_883 : List CUT2 := [((3, [lq 0 6 0, lq 1 6 1, lq 2 6 2, lq 3 1 37, lq 4 1 38], [], gi_475, hq_491), [], ([(38, (-1))], 5))]
theorem ch_883 : staG tb_X3_frighten 1 bt_RX3 [] ct_883 [] [] cu_883 66 con_883 = true := by decide +kernel
theorem cc_883 : cu_883.all (cutG tb_X3_frighten 1 bt_RX3 [] ct_883 [] [] cu_883 66 con_883) = true := by decide +kernel
theorem cto_883 (l : Launch) : CTOK2 l RX3 vwCl gTbl ct_883 := ct2_cons (vl_46 l) ck_RX3_58_46 (ct2_nil)
theorem vl_883 (l : Launch) : Vld2 l vwCl gTbl con_883 := conR_ok3 gT_all (hd_883) rfl pn_RX3 tk_X3_frighten bo_RX3 xo_RX3 (cto_883 l) ch_883 (cut_all cc_883)
/-- RookHusting$Harvest beginNextDay -/
noncomputable def gi_476 : GI := jl_n [gp_229, gp_249]
noncomputable def ac_499 : AC := .inl (3, jl_n [jl_8 3 1, jl_6 6 5, jl_8 9 1, jl_1 10 1, jl_8 11 1])
noncomputable def hc_100 : List AC := [ac_499, am_0, am_0, am_0, am_0, am_9]
noncomputable def hq_492 : HP := [(false, ac_499), (true, am_0), (true, am_0), (true, am_0), (true, am_0), (true, am_9)]
noncomputable def con_884 : Con2 := ((yX3_beginNextDay, cX3_beginNextDay, 4, none), (0, 0), ([(6, 0, 0), (1, 1, 0)], gi_476, hc_100, []), [((9, 0, 0), gi_476, hq_492, [], [])])
theorem hd_884 : con_884.1 = (yX3_beginNextDay, cX3_beginNextDay, 4, none) := rfl
noncomputable def gi_477 : GI := jl_n [jl_z 1, gp_251, jl_z 3, jl_i 0 5]
noncomputable def cu_884 : List CUT2 := [((2, [lq 0 6 0, lq 1 1 1, lq 2 1 13], [], gi_477, hq_492), [], ([(13, (-1))], 5))]
theorem ch_884 : staG tb_X3_beginNextDay 1 bt_RX3 [] ct_863 [] [] cu_884 50 con_884 = true := by decide +kernel
theorem cc_884 : cu_884.all (cutG tb_X3_beginNextDay 1 bt_RX3 [] ct_863 [] [] cu_884 50 con_884) = true := by decide +kernel
theorem vl_884 (l : Launch) : Vld2 l vwCl gTbl con_884 := conR_ok3 gT_all (hd_884) rfl pn_RX3 tk_X3_beginNextDay bo_RX3 xo_RX3 (cto_863 l) ch_884 (cut_all cc_884)
/-- RookHusting$Harvest eatAndFly -/
noncomputable def gi_478 : GI := jl_n [jl_z 2, gp_251, jl_z 5]
noncomputable def ac_500 : AC := .inl (3, jl_n [vp_44, jl_6 6 2, vp_68, jl_8 10 1, vp_67])
noncomputable def hc_101 : List AC := [ac_500, .inl (7, [(8, 12, 0), (8, 13, 0), (6, 6, 0), (8, 15, 0)]), am_0, am_0, am_0, am_0, am_1, am_9, am_0]
noncomputable def hq_493 : HP := [(false, ac_500), (false, .inl (7, [(8, 12, 0), (8, 13, 0), (6, 6, 0), (8, 15, 0)])), (true, am_0), (false, am_0), (true, am_0), (true, am_0), (false, am_1), (true, am_9), (true, am_0)]
noncomputable def con_885 : Con2 := ((yX3_eatAndFly, cX3_eatAndFly, 7, none), (1, 24), ([(6, 0, 0), (6, 1, 0), (1, 2, 0)], gi_478, hc_101, []), [((9, 0, 0), gi_478, hq_493, [], [])])
theorem hd_885 : con_885.1 = (yX3_eatAndFly, cX3_eatAndFly, 7, none) := rfl
theorem ck_RX3_90_863 : COK2 RX3 vwCl gTbl 90 0 con_863 := ⟨wd_891, wd_134, mh_X3_leastFeared, .inr (.inr ⟨rfl, wd_888, wd_890, wd_23, ⟨_, rfl, pd_X3_leastFeared⟩, 3, _, TX3, 9, rfl, rfl⟩)⟩
noncomputable def ct_885 : CTB2 := [(96, 90, 0, con_863, [0, 3])]
noncomputable def gi_479 : GI := jl_n [jl_z 2, gp_251, jl_z 8, jl_i 0 5]
noncomputable def cu_885 : List CUT2 := [((2, [lq 0 6 0, lq 1 6 1, lq 2 1 2, lq 3 1 19], [], gi_479, hq_493), [], ([(19, (-1))], 5))]
theorem ch_885 : staG tb_X3_eatAndFly 1 bt_RX3 [] ct_885 [] [] cu_885 101 con_885 = true := by decide +kernel
theorem cc_885 : cu_885.all (cutG tb_X3_eatAndFly 1 bt_RX3 [] ct_885 [] [] cu_885 101 con_885) = true := by decide +kernel
theorem cto_885 (l : Launch) : CTOK2 l RX3 vwCl gTbl ct_885 := ct2_cons (vl_863 l) ck_RX3_90_863 (ct2_nil)
theorem vl_885 (l : Launch) : Vld2 l vwCl gTbl con_885 := conR_ok3 gT_all (hd_885) rfl pn_RX3 tk_X3_eatAndFly bo_RX3 xo_RX3 (cto_885 l) ch_885 (cut_all cc_885)
/-- RookHusting$Harvest frighten -/
noncomputable def gi_480 : GI := jl_n [jl_z 3, jl_i 0 15, gp_250, jl_z 22]
noncomputable def con_895 : Con2 := ((yX3_frighten, cX3_frighten, 8, none), (1, 21), ([(6, 0, 0), (6, 1, 0), (6, 2, 0), (1, 3, 0)], gi_480, hc_99, []), [((9, 0, 0), gi_480, hq_491, [], [])])
theorem hd_895 : con_895.1 = (yX3_frighten, cX3_frighten, 8, none) := rfl
noncomputable def gi_481 : GI := jl_n [jl_z 3, jl_i 0 15, gp_250, jl_z 25, jl_i 0 15, jl_i 0 5]
noncomputable def cu_895 : List CUT2 := [((3, [lq 0 6 0, lq 1 6 1, lq 2 6 2, lq 3 1 37, lq 4 1 38], [], gi_481, hq_491), [], ([(38, (-1))], 5))]
theorem ch_895 : staG tb_X3_frighten 1 bt_RX3 [] ct_883 [] [] cu_895 66 con_895 = true := by decide +kernel
theorem cc_895 : cu_895.all (cutG tb_X3_frighten 1 bt_RX3 [] ct_883 [] [] cu_895 66 con_895) = true := by decide +kernel
theorem vl_895 (l : Launch) : Vld2 l vwCl gTbl con_895 := conR_ok3 gT_all (hd_895) rfl pn_RX3 tk_X3_frighten bo_RX3 xo_RX3 (cto_883 l) ch_895 (cut_all cc_895)
/-- RookHusting$Harvest beginNextDay -/
noncomputable def gi_482 : GI := jl_n [gp_228, gp_249]
noncomputable def con_896 : Con2 := ((yX3_beginNextDay, cX3_beginNextDay, 4, none), (0, 0), ([(6, 0, 0), (1, 1, 0)], gi_482, hc_100, []), [((9, 0, 0), gi_482, hq_492, [], [])])
theorem hd_896 : con_896.1 = (yX3_beginNextDay, cX3_beginNextDay, 4, none) := rfl
noncomputable def gi_483 : GI := jl_n [gp_228, gp_250, jl_z 3, jl_i 0 5]
noncomputable def cu_896 : List CUT2 := [((2, [lq 0 6 0, lq 1 1 1, lq 2 1 13], [], gi_483, hq_492), [], ([(13, (-1))], 5))]
theorem ch_896 : staG tb_X3_beginNextDay 1 bt_RX3 [] ct_863 [] [] cu_896 50 con_896 = true := by decide +kernel
theorem cc_896 : cu_896.all (cutG tb_X3_beginNextDay 1 bt_RX3 [] ct_863 [] [] cu_896 50 con_896) = true := by decide +kernel
theorem vl_896 (l : Launch) : Vld2 l vwCl gTbl con_896 := conR_ok3 gT_all (hd_896) rfl pn_RX3 tk_X3_beginNextDay bo_RX3 xo_RX3 (cto_863 l) ch_896 (cut_all cc_896)
/-- RookHusting$Harvest eatAndFly -/
noncomputable def gi_484 : GI := jl_n [gp_253, jl_z 5]
noncomputable def con_897 : Con2 := ((yX3_eatAndFly, cX3_eatAndFly, 7, none), (1, 24), ([(6, 0, 0), (6, 1, 0), (1, 2, 0)], gi_484, hc_101, []), [((9, 0, 0), gi_484, hq_493, [], [])])
theorem hd_897 : con_897.1 = (yX3_eatAndFly, cX3_eatAndFly, 7, none) := rfl
noncomputable def gi_485 : GI := jl_n [gp_253, jl_z 8, jl_i 0 5]
noncomputable def cu_897 : List CUT2 := [((2, [lq 0 6 0, lq 1 6 1, lq 2 1 2, lq 3 1 19], [], gi_485, hq_493), [], ([(19, (-1))], 5))]
theorem ch_897 : staG tb_X3_eatAndFly 1 bt_RX3 [] ct_885 [] [] cu_897 101 con_897 = true := by decide +kernel
theorem cc_897 : cu_897.all (cutG tb_X3_eatAndFly 1 bt_RX3 [] ct_885 [] [] cu_897 101 con_897) = true := by decide +kernel
theorem vl_897 (l : Launch) : Vld2 l vwCl gTbl con_897 := conR_ok3 gT_all (hd_897) rfl pn_RX3 tk_X3_eatAndFly bo_RX3 xo_RX3 (cto_885 l) ch_897 (cut_all cc_897)
/-- RookHusting$Harvest frighten -/
noncomputable def gi_486 : GI := jl_n [gp_254, gp_250, jl_z 22]
noncomputable def con_898 : Con2 := ((yX3_frighten, cX3_frighten, 8, none), (1, 21), ([(6, 0, 0), (6, 1, 0), (6, 2, 0), (1, 3, 0)], gi_486, hc_99, []), [((9, 0, 0), gi_486, hq_491, [], [])])
theorem hd_898 : con_898.1 = (yX3_frighten, cX3_frighten, 8, none) := rfl
noncomputable def gi_487 : GI := jl_n [gp_254, gp_250, jl_z 25, jl_i 0 16, jl_i 0 5]
noncomputable def cu_898 : List CUT2 := [((3, [lq 0 6 0, lq 1 6 1, lq 2 6 2, lq 3 1 37, lq 4 1 38], [], gi_487, hq_491), [], ([(38, (-1))], 5))]
theorem ch_898 : staG tb_X3_frighten 1 bt_RX3 [] ct_883 [] [] cu_898 66 con_898 = true := by decide +kernel
theorem cc_898 : cu_898.all (cutG tb_X3_frighten 1 bt_RX3 [] ct_883 [] [] cu_898 66 con_898) = true := by decide +kernel
theorem vl_898 (l : Launch) : Vld2 l vwCl gTbl con_898 := conR_ok3 gT_all (hd_898) rfl pn_RX3 tk_X3_frighten bo_RX3 xo_RX3 (cto_883 l) ch_898 (cut_all cc_898)
/-- RookHusting$Harvest passDays -/
noncomputable def gi_488 : GI := jl_n [gp_254, gp_260]
noncomputable def ac_501 : AC := .inl (3, jl_n [vp_69, jl_1 13 2])
noncomputable def ac_502 : AC := .inl (4, jl_n [jl_8 17 4, jl_1 18 1, jl_8 21 3, jl_6 6 1, jl_6 4 1, jl_8 24 1, jl_6 13 2, jl_8 30 4])
noncomputable def hc_102 : List AC := [ac_501, ac_502, .inl (7, [(6, 9, 0), (6, 7, 0), (6, 16, 0), (1, 33, 0)]), am_4, am_0, am_11, am_0, am_1, am_1, am_3, am_0, am_4, am_10, am_0, am_0, am_9, am_1]
noncomputable def gi_489 : GI := jl_n [gp_254, gp_258, jl_z 15, gp_261, gp_112]
noncomputable def ac_503 : AC := .inl (3, jl_n [vp_69, jl_1 42 1, jl_1 4 1])
noncomputable def hq_494 : HP := [(true, ac_503), (false, ac_502), (false, .inl (7, [(6, 9, 0), (6, 7, 0), (6, 16, 0), (1, 33, 0)])), (false, am_4), (true, am_0), (false, am_11), (true, am_0), (false, am_1), (true, am_1), (false, am_3), (true, am_0), (false, am_4), (false, am_10), (true, am_0), (true, am_0), (true, am_9), (false, am_1)]
noncomputable def con_899 : Con2 := ((yX3_passDays, cX3_passDays, 5, none), (2, 50), ([(6, 0, 0), (6, 1, 0), (6, 2, 0), (1, 3, 0)], gi_488, hc_102, []), [((9, 0, 0), gi_489, hq_494, [], tg_13)])
theorem hd_899 : con_899.1 = (yX3_passDays, cX3_passDays, 5, none) := rfl
theorem ck_RX3_45_898 : COK2 RX3 vwCl gTbl 45 0 con_898 := ⟨wd_874, wd_134, mh_X3_frighten, .inr (.inr ⟨rfl, wd_871, wd_873, wd_20, ⟨_, rfl, pd_X3_frighten⟩, 3, _, TX3, 9, rfl, rfl⟩)⟩
theorem ck_RX3_62_897 : COK2 RX3 vwCl gTbl 62 0 con_897 := ⟨wd_886, wd_134, mh_X3_eatAndFly, .inr (.inr ⟨rfl, wd_883, wd_885, wd_22, ⟨_, rfl, pd_X3_eatAndFly⟩, 3, _, TX3, 9, rfl, rfl⟩)⟩
theorem ck_RX3_49_896 : COK2 RX3 vwCl gTbl 49 0 con_896 := ⟨wd_882, wd_134, mh_X3_beginNextDay, .inr (.inr ⟨rfl, wd_879, wd_881, wd_21, ⟨_, rfl, pd_X3_beginNextDay⟩, 3, _, TX3, 9, rfl, rfl⟩)⟩
theorem ck_RX3_45_895 : COK2 RX3 vwCl gTbl 45 0 con_895 := ⟨wd_874, wd_134, mh_X3_frighten, .inr (.inr ⟨rfl, wd_871, wd_873, wd_20, ⟨_, rfl, pd_X3_frighten⟩, 3, _, TX3, 9, rfl, rfl⟩)⟩
noncomputable def ct_899 : CTB2 := [(79, 45, 0, con_895, [0, 1, 2, 7, 8, 9, 10, 11, 12]), (85, 49, 0, con_896, [0, 4, 6, 13, 14, 15]), (94, 58, 2, con_46, []), (104, 62, 0, con_897, [0, 2, 4, 10, 6, 13, 16, 15, 14]), (117, 45, 0, con_898, [0, 1, 2, 7, 8, 9, 10, 11, 12])]
noncomputable def gi_490 : GI := jl_n [gp_254, gp_260, gp_257, jl_z 9]
noncomputable def ac_504 : AC := .inl (3, jl_n [vp_69, jl_1 18 1, jl_1 4 1])
noncomputable def hq_495 : HP := [(true, ac_504), (false, ac_502), (false, .inl (7, [(6, 9, 0), (6, 7, 0), (6, 16, 0), (1, 33, 0)])), (false, am_4), (true, am_0), (false, am_11), (true, am_0), (false, am_1), (false, am_1), (false, am_3), (false, am_0), (false, am_4), (false, am_10), (false, am_0), (false, am_0), (false, am_9), (false, am_1)]
noncomputable def gi_491 : GI := jl_n [gp_254, gp_260, jl_z 4, jl_i 0 16, gp_249]
noncomputable def ac_505 : AC := .inl (3, jl_n [vp_69, jl_1 47 1, jl_1 4 1])
noncomputable def hq_496 : HP := [(true, ac_505), (false, ac_502), (false, .inl (7, [(6, 9, 0), (6, 7, 0), (6, 16, 0), (1, 33, 0)])), (false, am_4), (true, am_0), (false, am_11), (true, am_0), (false, am_1), (true, am_1), (false, am_3), (true, am_0), (false, am_4), (false, am_10), (true, am_0), (true, am_0), (true, am_9), (false, am_1)]
noncomputable def cu_899 : List CUT2 := [((16, [lq 0 6 0, lq 1 6 1, lq 2 6 2, lq 3 1 3, lq 4 1 38], [], gi_490, hq_495), [], ([(38, (-1))], 22)), ((68, [lq 0 6 0, lq 1 6 1, lq 2 6 2, lq 3 1 3, lq 4 1 38], [], gi_491, hq_496), [], ([(38, (-1))], 16))]
theorem ch_899 : staG tb_X3_passDays 1 bt_RX3 [] ct_899 [] [] cu_899 29 con_899 = true := by decide +kernel
theorem cc_899 : cu_899.all (cutG tb_X3_passDays 1 bt_RX3 [] ct_899 [] [] cu_899 29 con_899) = true := by decide +kernel
theorem cto_899 (l : Launch) : CTOK2 l RX3 vwCl gTbl ct_899 := ct2_cons (vl_895 l) ck_RX3_45_895 (ct2_cons (vl_896 l) ck_RX3_49_896 (ct2_cons (vl_46 l) ck_RX3_58_46 (ct2_cons (vl_897 l) ck_RX3_62_897 (ct2_cons (vl_898 l) ck_RX3_45_898 (ct2_nil)))))
theorem vl_899 (l : Launch) : Vld2 l vwCl gTbl con_899 := conR_ok3 gT_all (hd_899) rfl pn_RX3 tk_X3_passDays bo_RX3 xo_RX3 (cto_899 l) ch_899 (cut_all cc_899)
/-- RookHusting settle -/
noncomputable def gi_492 : GI := jl_n [gp_262, gp_270]
noncomputable def ac_506 : AC := .inl (11, jl_n [vp_70, vp_71, vp_72, vp_73])
noncomputable def ac_507 : AC := .inl (4, jl_n [jl_8 24 1, jl_1 26 2, jl_8 27 1, jl_1 28 1, jl_8 29 1, jl_1 31 2, vp_75, jl_8 39 2, jl_6 10 1])
noncomputable def ac_508 : AC := .inr (1, jl_n [js_1 76 30])
noncomputable def ac_509 : AC := .inr (1, jl_n [js_1 106 30])
noncomputable def ac_510 : AC := .inl (3, jl_n [vp_78, jl_1 115 2])
noncomputable def hc_103 : List AC := [ac_506, .inl (9, [(6, 3, 0), (6, 11, 0)]), .inl (7, [(6, 4, 0), (6, 5, 0), (6, 6, 0), (1, 22, 0)]), ac_507, am_3, am_1, am_1, am_1, .inl (1, [(6, 3, 0), (8, 41, 0)]), am_5, am_7, .inl (0, [(1, 42, 0), (6, 12, 0), (6, 13, 0), (6, 14, 0)]), ac_508, am_12, ac_509, ac_510, am_4, am_0, am_11, am_0, am_1, am_0, am_4, am_10, am_0, am_0, am_9]
noncomputable def rq_2 : RLs := [([(46, 12), (76, (-1))], 4), ([(47, 12), (77, (-1))], 4), ([(48, 12), (78, (-1))], 4), ([(49, 12), (79, (-1))], 4), ([(50, 12), (80, (-1))], 4), ([(51, 12), (81, (-1))], 4), ([(52, 12), (82, (-1))], 4), ([(53, 12), (83, (-1))], 4), ([(54, 12), (84, (-1))], 4), ([(55, 12), (85, (-1))], 4), ([(56, 12), (86, (-1))], 4), ([(57, 12), (87, (-1))], 4), ([(58, 12), (88, (-1))], 4), ([(59, 12), (89, (-1))], 4), ([(60, 12), (90, (-1))], 4), ([(61, 12), (91, (-1))], 4), ([(62, 12), (92, (-1))], 4), ([(63, 12), (93, (-1))], 4), ([(64, 12), (94, (-1))], 4), ([(65, 12), (95, (-1))], 4), ([(66, 12), (96, (-1))], 4), ([(67, 12), (97, (-1))], 4), ([(68, 12), (98, (-1))], 4), ([(69, 12), (99, (-1))], 4), ([(70, 12), (100, (-1))], 4), ([(71, 12), (101, (-1))], 4), ([(72, 12), (102, (-1))], 4), ([(73, 12), (103, (-1))], 4), ([(74, 12), (104, (-1))], 4), ([(75, 12), (105, (-1))], 4)]
noncomputable def gi_493 : GI := jl_n [gp_262, gp_270, gp_272]
noncomputable def ac_511 : AC := .inl (11, jl_n [vp_70, vp_71, vp_72, jl_c 1, jl_8 17 2])
noncomputable def ac_512 : AC := .inl (3, jl_n [vp_78, jl_1 144 2])
noncomputable def hq_497 : HP := [(true, ac_511), (false, .inl (9, [(6, 3, 0), (6, 11, 0)])), (true, .inl (7, [(6, 4, 0), (6, 5, 0), (6, 6, 0), (1, 134, 0)])), (false, ac_507), (true, am_3), (true, am_1), (true, am_1), (false, am_1), (false, .inl (1, [(6, 3, 0), (8, 41, 0)])), (false, am_5), (false, am_7), (false, .inl (0, [(1, 42, 0), (6, 12, 0), (6, 13, 0), (6, 14, 0)])), (false, ac_508), (false, am_12), (false, ac_509), (true, ac_512), (false, am_4), (true, am_0), (false, am_11), (true, am_0), (true, am_1), (true, am_0), (false, am_4), (false, am_10), (true, am_0), (true, am_0), (true, am_9)]
noncomputable def con_900 : Con2 := ((yX11_settle, cX11_settle, 1, none), (5, 131), ([(6, 0, 0)], gi_492, hc_103, rq_2), [((9, 0, 0), gi_493, hq_497, [], tg_14)])
theorem hd_900 : con_900.1 = (yX11_settle, cX11_settle, 1, none) := rfl
theorem ck_RX11_372_899 : COK2 RX11 vwCl gTbl 372 0 con_899 := ⟨wd_870, wd_134, mh_X3_passDays, .inr (.inr ⟨rfl, wd_867, wd_868, wd_869, ⟨_, rfl, pd_X3_passDays⟩, 3, _, TX3, 9, rfl, rfl⟩)⟩
theorem ck_RX11_460_860 : COK2 RX11 vwCl gTbl 460 0 con_860 := ⟨wd_858, wd_130, mh_X0_playOn, .inr (.inr ⟨rfl, wd_855, wd_856, wd_857, ⟨_, rfl, pd_X0_playOn⟩, 0, _, TX0, 4, rfl, rfl⟩)⟩
theorem ck_RX11_458_857 : COK2 RX11 vwCl gTbl 458 0 con_857 := ⟨wd_853, wd_133, mh_X7_begin, .inr (.inr ⟨rfl, wd_850, wd_851, wd_852, ⟨_, rfl, pd_X7_begin⟩, 7, _, TX7, 4, rfl, rfl⟩)⟩
noncomputable def ct_900 : CTB2 := [(19, 458, 0, con_857, [2, 3, 4, 5, 6, 7]), (43, 204, 0, con_853, [8, 4, 3, 9, 10]), (58, 460, 0, con_860, [11, 2, 12, 13, 5, 14, 4]), (86, 372, 0, con_899, [15, 3, 2, 16, 17, 18, 19, 5, 20, 4, 21, 22, 23, 24, 25, 26, 6])]
noncomputable def cu_900 : List CUT2 := []
theorem ch_900 : staG tb_X11_settle 1 bt_RX11 [] ct_900 [] [] cu_900 44 con_900 = true := by decide +kernel
theorem cto_900 (l : Launch) : CTOK2 l RX11 vwCl gTbl ct_900 := ct2_cons (vl_857 l) ck_RX11_458_857 (ct2_cons (vl_853 l) ck_RX11_204_853 (ct2_cons (vl_860 l) ck_RX11_460_860 (ct2_cons (vl_899 l) ck_RX11_372_899 (ct2_nil))))
theorem vl_900 (l : Launch) : Vld2 l vwCl gTbl con_900 := conR_ok3 gT_all (hd_900) rfl pn_RX11 tk_X11_settle bo_RX11 xo_RX11 (cto_900 l) ch_900 cut_nil
/-- RookHusting stands -/
noncomputable def gi_494 : GI := jl_n [gp_280]
noncomputable def ac_513 : AC := .inl (11, jl_n [vp_80, vp_81, jl_8 15 4, vp_82])
noncomputable def ac_514 : AC := .inl (4, jl_n [vp_83, vp_75, jl_8 36 2, jl_6 10 1])
noncomputable def ac_515 : AC := .inr (1, jl_n [js_1 77 30])
noncomputable def ac_516 : AC := .inr (1, jl_n [js_1 107 30])
noncomputable def ac_517 : AC := .inl (3, jl_n [vp_78, jl_1 116 2])
noncomputable def hc_104 : List AC := [ac_513, .inl (9, [(6, 2, 0), (6, 11, 0)]), ac_514, .inl (7, [(6, 4, 0), (6, 5, 0), (6, 6, 0), (1, 40, 0)]), am_3, am_1, am_1, am_1, .inl (1, [(6, 2, 0), (8, 42, 0)]), am_5, am_7, .inl (0, [(1, 43, 0), (6, 12, 0), (6, 13, 0), (6, 14, 0)]), ac_515, am_12, ac_516, ac_517, am_4, am_0, am_11, am_0, am_1, am_0, am_4, am_10, am_0, am_0, am_9]
noncomputable def rq_3 : RLs := [([(47, 12), (77, (-1))], 4), ([(48, 12), (78, (-1))], 4), ([(49, 12), (79, (-1))], 4), ([(50, 12), (80, (-1))], 4), ([(51, 12), (81, (-1))], 4), ([(52, 12), (82, (-1))], 4), ([(53, 12), (83, (-1))], 4), ([(54, 12), (84, (-1))], 4), ([(55, 12), (85, (-1))], 4), ([(56, 12), (86, (-1))], 4), ([(57, 12), (87, (-1))], 4), ([(58, 12), (88, (-1))], 4), ([(59, 12), (89, (-1))], 4), ([(60, 12), (90, (-1))], 4), ([(61, 12), (91, (-1))], 4), ([(62, 12), (92, (-1))], 4), ([(63, 12), (93, (-1))], 4), ([(64, 12), (94, (-1))], 4), ([(65, 12), (95, (-1))], 4), ([(66, 12), (96, (-1))], 4), ([(67, 12), (97, (-1))], 4), ([(68, 12), (98, (-1))], 4), ([(69, 12), (99, (-1))], 4), ([(70, 12), (100, (-1))], 4), ([(71, 12), (101, (-1))], 4), ([(72, 12), (102, (-1))], 4), ([(73, 12), (103, (-1))], 4), ([(74, 12), (104, (-1))], 4), ([(75, 12), (105, (-1))], 4), ([(76, 12), (106, (-1))], 4)]
noncomputable def gi_495 : GI := jl_n [gp_280, jl_m 1 4, gp_281]
noncomputable def ac_518 : AC := .inl (11, jl_n [vp_80, vp_81, jl_8 15 4, jl_1 131 1, jl_8 18 2])
noncomputable def ac_519 : AC := .inl (3, jl_n [vp_78, jl_1 146 2])
noncomputable def hq_498 : HP := [(true, ac_518), (false, .inl (9, [(6, 2, 0), (6, 11, 0)])), (false, ac_514), (true, .inl (7, [(6, 4, 0), (6, 5, 0), (6, 6, 0), (1, 136, 0)])), (true, am_3), (true, am_1), (true, am_1), (false, am_1), (false, .inl (1, [(6, 2, 0), (8, 42, 0)])), (false, am_5), (false, am_7), (false, .inl (0, [(1, 43, 0), (6, 12, 0), (6, 13, 0), (6, 14, 0)])), (false, ac_515), (false, am_12), (false, ac_516), (true, ac_519), (false, am_4), (true, am_0), (false, am_11), (true, am_0), (true, am_1), (true, am_0), (false, am_4), (false, am_10), (true, am_0), (true, am_0), (true, am_9)]
noncomputable def con_901 : Con2 := ((yX11_stands, cX11_stands, 2, (some .int)), (6, 151), ([(6, 0, 0), (1, 1, 0)], gi_494, hc_104, rq_3), [((1, 116, 0), gi_495, hq_498, [], tg_15)])
theorem hd_901 : con_901.1 = (yX11_stands, cX11_stands, 2, (some .int)) := rfl
theorem ck_RX11_208_900 : COK2 RX11 vwCl gTbl 208 0 con_900 := ⟨wd_849, wd_125, mh_X11_settle, .inr (.inr ⟨rfl, wd_846, wd_848, wd_19, ⟨_, rfl, pd_X11_settle⟩, 11, _, TX11, 16, rfl, rfl⟩)⟩
noncomputable def ct_901 : CTB2 := [(2, 139, 0, con_643, [0, 1, 2]), (12, 208, 0, con_900, [0, 1, 3, 2, 4, 5, 6, 7, 8, 9, 10, 11, 12, 13, 14, 15, 16, 17, 18, 19, 20, 21, 22, 23, 24, 25, 26])]
noncomputable def cu_901 : List CUT2 := []
theorem ch_901 : staG tb_X11_stands 1 bt_RX11 [] ct_901 [] [] cu_901 14 con_901 = true := by decide +kernel
theorem cto_901 (l : Launch) : CTOK2 l RX11 vwCl gTbl ct_901 := ct2_cons (vl_643 l) ck_RX11_139_643 (ct2_cons (vl_900 l) ck_RX11_208_900 (ct2_nil))
theorem vl_901 (l : Launch) : Vld2 l vwCl gTbl con_901 := conR_ok3 gT_all (hd_901) rfl pn_RX11 tk_X11_stands bo_RX11 xo_RX11 (cto_901 l) ch_901 cut_nil
/-- RookHustingModel speeches -/
noncomputable def gi_496 : GI := jl_n [gp_284, gp_124]
noncomputable def ac_520 : AC := .inl (12, jl_n [jl_8 2 1, jl_6 3 1, jl_8 21 18, jl_6 2 1, jl_1 26 4, jl_8 46 20])
noncomputable def hc_105 : List AC := [ac_520, am_1, ac_436]
noncomputable def gi_497 : GI := jl_n [gp_284, gp_187]
noncomputable def ac_521 : AC := .inl (12, jl_n [jl_8 2 1, jl_6 3 1, jl_8 21 18, jl_6 2 1, jl_c 0, vp_84, jl_8 46 20])
noncomputable def hq_499 : HP := [(true, ac_521), (true, am_1), (false, ac_436)]
noncomputable def con_902 : Con2 := ((yX12_speeches, cX12_speeches, 3, none), (0, 0), ([(6, 0, 0)], gi_496, hc_105, []), [((9, 0, 0), gi_497, hq_499, [], tg_10)])
theorem hd_902 : con_902.1 = (yX12_speeches, cX12_speeches, 3, none) := rfl
noncomputable def gi_498 : GI := jl_n [gp_285, jl_i 0 5]
noncomputable def hq_500 : HP := [(false, ac_520), (true, am_1), (false, ac_436)]
noncomputable def gi_499 : GI := jl_n [gp_285, jl_i 0 30, jl_z 45]
noncomputable def cu_902 : List CUT2 := [((2, [lq 0 6 0, lq 1 1 70], [], gi_498, hq_500), [], ([(70, (-1))], 36)), ((42, [lq 0 6 0, lq 1 1 70], [], gi_499, hq_499), [], ([(70, (-1))], 30))]
theorem ch_902 : staG tb_X12_speeches 1 bt_RX12 [] ct_2 [(62, [(3, (0, 0, 0), 0, 0)])] [] cu_902 37 con_902 = true := by decide +kernel
theorem cc_902 : cu_902.all (cutG tb_X12_speeches 1 bt_RX12 [] ct_2 [(62, [(3, (0, 0, 0), 0, 0)])] [] cu_902 37 con_902) = true := by decide +kernel
theorem vl_902 (l : Launch) : Vld2 l vwCl gTbl con_902 := conR_ok3 gT_all (hd_902) rfl pn_RX12 tk_X12_speeches bo_RX12 xo_RX12 (cto_2 l) ch_902 (cut_all cc_902)
/-- RookHustingModel asElected -/
noncomputable def gi_500 : GI := jl_n [gp_211, gp_289]
noncomputable def ac_522 : AC := .inl (12, jl_n [vp_60, jl_6 7 3, jl_1 27 4, jl_8 47 20])
noncomputable def hc_106 : List AC := [ac_522, ac_438, am_8, am_6, am_3, am_3, am_1]
noncomputable def gi_501 : GI := jl_n [gp_211, gp_288, gp_187]
noncomputable def ac_523 : AC := .inl (12, jl_n [vp_58, vp_86, vp_84, jl_8 47 20])
noncomputable def hq_501 : HP := [(true, ac_523), (false, ac_438), (true, am_8), (true, am_6), (true, am_3), (true, am_3), (true, am_1)]
noncomputable def con_903 : Con2 := ((yX12_asElected, cX12_asElected, 3, none), (6, 144), ([(6, 0, 0), (1, 1, 0)], gi_500, hc_106, []), [((9, 0, 0), gi_501, hq_501, [], tg_10)])
theorem hd_903 : con_903.1 = (yX12_asElected, cX12_asElected, 3, none) := rfl
theorem ck_RX12_335_902 : COK2 RX12 vwCl gTbl 335 0 con_902 := ⟨wd_1845, wd_137, mh_X12_speeches, .inr (.inr ⟨rfl, wd_1842, wd_1844, wd_91, ⟨_, rfl, pd_X12_speeches⟩, 12, _, TX12, 45, rfl, rfl⟩)⟩
noncomputable def ct_903 : CTB2 := [(1, 249, 0, con_665, [0, 1, 2, 3]), (6, 280, 0, con_855, [0, 1, 2, 3, 4]), (23, 106, 0, con_646, [0, 1]), (47, 335, 0, con_902, [0, 6, 1])]
noncomputable def gi_502 : GI := jl_n [gp_211, gp_288, gp_123, jl_z 16, gp_290]
noncomputable def ac_524 : AC := .inl (12, jl_n [vp_58, vp_85, jl_1 27 4, jl_8 47 20])
noncomputable def hq_502 : HP := [(true, ac_524), (false, ac_438), (true, am_8), (true, am_6), (true, am_3), (true, am_3), (false, am_1)]
noncomputable def cu_903 : List CUT2 := [((11, [lq 0 6 0, lq 1 1 1, lq 2 1 72], [], gi_502, hq_502), [], ([(72, (-1))], 5))]
theorem ch_903 : staG tb_X12_asElected 1 bt_RX12 [] ct_903 [] [] cu_903 21 con_903 = true := by decide +kernel
theorem cc_903 : cu_903.all (cutG tb_X12_asElected 1 bt_RX12 [] ct_903 [] [] cu_903 21 con_903) = true := by decide +kernel
theorem cto_903 (l : Launch) : CTOK2 l RX12 vwCl gTbl ct_903 := ct2_cons (vl_665 l) ck_RX12_249_665 (ct2_cons (vl_855 l) ck_RX12_280_855 (ct2_cons (vl_646 l) ck_RX12_106_646 (ct2_cons (vl_902 l) ck_RX12_335_902 (ct2_nil))))
theorem vl_903 (l : Launch) : Vld2 l vwCl gTbl con_903 := conR_ok3 gT_all (hd_903) rfl pn_RX12 tk_X12_asElected bo_RX12 xo_RX12 (cto_903 l) ch_903 (cut_all cc_903)
/-- RookHustingModel putMan -/
noncomputable def gi_503 : GI := jl_n [gp_52, jl_m 0 4, gp_164]
noncomputable def ac_525 : AC := .inl (12, jl_n [vp_41, jl_8 22 17, jl_6 3 1, jl_8 48 25])
noncomputable def hq_503 : HP := [(false, ac_525), (false, ac_440), (true, am_3)]
noncomputable def con_904 : Con2 := ((yX12_putMan, cX12_putMan, 4, none), (1, 20), ([(6, 0, 0), (1, 1, 0), (1, 2, 0)], gi_503, [ac_525, ac_440, am_3], []), [((9, 0, 0), gi_503, hq_503, [], [])])
theorem hd_904 : con_904.1 = (yX12_putMan, cX12_putMan, 4, none) := rfl
noncomputable def ct_904 : CTB2 := [(4, 106, 0, con_646, [0, 1])]
noncomputable def gi_504 : GI := jl_n [gp_52, jl_m 0 4, jl_z 45, gp_224, jl_i 0 5]
noncomputable def cu_904 : List CUT2 := [((2, [lq 0 6 0, lq 1 1 1, lq 2 1 2, lq 3 1 74], [], gi_504, hq_503), [], ([(74, (-1))], 5))]
theorem ch_904 : staG tb_X12_putMan 1 bt_RX12 [] ct_904 [] [] cu_904 23 con_904 = true := by decide +kernel
theorem cc_904 : cu_904.all (cutG tb_X12_putMan 1 bt_RX12 [] ct_904 [] [] cu_904 23 con_904) = true := by decide +kernel
theorem cto_904 (l : Launch) : CTOK2 l RX12 vwCl gTbl ct_904 := ct2_cons (vl_646 l) ck_RX12_106_646 (ct2_nil)
theorem vl_904 (l : Launch) : Vld2 l vwCl gTbl con_904 := conR_ok3 gT_all (hd_904) rfl pn_RX12 tk_X12_putMan bo_RX12 xo_RX12 (cto_904 l) ch_904 (cut_all cc_904)
/-- RookHustingModel asItIs -/
noncomputable def gi_505 : GI := jl_n [gp_293]
noncomputable def ac_526 : AC := .inl (12, jl_n [vp_46, jl_6 7 3, jl_1 26 4, jl_8 46 20])
noncomputable def hc_107 : List AC := [ac_526, ac_436, am_8, am_6, am_3, am_3, am_1]
noncomputable def gi_506 : GI := jl_n [gp_292, gp_187]
noncomputable def ac_527 : AC := .inl (12, jl_n [vp_87, vp_84, jl_8 46 20])
noncomputable def hq_504 : HP := [(true, ac_527), (false, ac_436), (true, am_8), (true, am_6), (true, am_3), (true, am_3), (true, am_1)]
noncomputable def con_905 : Con2 := ((yX12_asItIs, cX12_asItIs, 3, none), (7, 166), ([(6, 0, 0)], gi_505, hc_107, []), [((9, 0, 0), gi_506, hq_504, [], tg_10)])
theorem hd_905 : con_905.1 = (yX12_asItIs, cX12_asItIs, 3, none) := rfl
theorem ck_RX12_341_904 : COK2 RX12 vwCl gTbl 341 0 con_904 := ⟨wd_1849, wd_137, mh_X12_putMan, .inr (.inr ⟨rfl, wd_1846, wd_1848, wd_92, ⟨_, rfl, pd_X12_putMan⟩, 12, _, TX12, 45, rfl, rfl⟩)⟩
theorem ck_RX12_338_903 : COK2 RX12 vwCl gTbl 338 0 con_903 := ⟨wd_1841, wd_137, mh_X12_asElected, .inr (.inr ⟨rfl, wd_1838, wd_1840, wd_90, ⟨_, rfl, pd_X12_asElected⟩, 12, _, TX12, 45, rfl, rfl⟩)⟩
noncomputable def ct_905 : CTB2 := [(7, 338, 0, con_903, [0, 1, 2, 3, 4, 5, 6]), (51, 341, 0, con_904, [0, 1, 5])]
noncomputable def gi_507 : GI := jl_n [gp_292, gp_125, jl_i 0 30, jl_z 45]
noncomputable def cu_905 : List CUT2 := [((12, [lq 0 6 0, lq 1 1 70], [], gi_507, hq_504), [], ([(70, (-1))], 30))]
theorem ch_905 : staG tb_X12_asItIs 1 bt_RX12 [] ct_905 [(32, [(3, (0, 0, 0), 0, 0)])] [] cu_905 31 con_905 = true := by decide +kernel
theorem cc_905 : cu_905.all (cutG tb_X12_asItIs 1 bt_RX12 [] ct_905 [(32, [(3, (0, 0, 0), 0, 0)])] [] cu_905 31 con_905) = true := by decide +kernel
theorem cto_905 (l : Launch) : CTOK2 l RX12 vwCl gTbl ct_905 := ct2_cons (vl_903 l) ck_RX12_338_903 (ct2_cons (vl_904 l) ck_RX12_341_904 (ct2_nil))
theorem vl_905 (l : Launch) : Vld2 l vwCl gTbl con_905 := conR_ok3 gT_all (hd_905) rfl pn_RX12 tk_X12_asItIs bo_RX12 xo_RX12 (cto_905 l) ch_905 (cut_all cc_905)
/-- RookHustingModel stands -/
noncomputable def gi_508 : GI := jl_n [gp_294]
noncomputable def gi_509 : GI := jl_n [gp_294, jl_m 1 4, jl_z 45]
noncomputable def con_906 : Con2 := ((yX12_stands, cX12_stands, 2, (some .int)), (8, 188), ([(6, 0, 0), (1, 1, 0)], gi_508, hc_106, []), [((1, 70, 0), gi_509, hq_501, [], tg_1)])
theorem hd_906 : con_906.1 = (yX12_stands, cX12_stands, 2, (some .int)) := rfl
theorem ck_RX12_345_905 : COK2 RX12 vwCl gTbl 345 0 con_905 := ⟨wd_1837, wd_137, mh_X12_asItIs, .inr (.inr ⟨rfl, wd_1834, wd_1836, wd_89, ⟨_, rfl, pd_X12_asItIs⟩, 12, _, TX12, 45, rfl, rfl⟩)⟩
noncomputable def ct_906 : CTB2 := [(1, 345, 0, con_905, [0, 1, 2, 3, 4, 5, 6]), (7, 109, 0, con_647, [0, 1])]
noncomputable def cu_906 : List CUT2 := []
theorem ch_906 : staG tb_X12_stands 1 bt_RX12 [] ct_906 [] [] cu_906 15 con_906 = true := by decide +kernel
theorem cto_906 (l : Launch) : CTOK2 l RX12 vwCl gTbl ct_906 := ct2_cons (vl_905 l) ck_RX12_345_905 (ct2_cons (vl_647 l) ck_RX12_109_647 (ct2_nil))
theorem vl_906 (l : Launch) : Vld2 l vwCl gTbl con_906 := conR_ok3 gT_all (hd_906) rfl pn_RX12 tk_X12_stands bo_RX12 xo_RX12 (cto_906 l) ch_906 cut_nil
/-- RookHusting where -/
noncomputable def con_907 : Con2 := ((yX11_where, cX11_where, 2, (some .int)), (6, 151), ([(6, 0, 0), (1, 1, 0)], gi_494, hc_104, rq_3), [((1, 116, 0), gi_495, hq_498, [], tg_15)])
theorem hd_907 : con_907.1 = (yX11_where, cX11_where, 2, (some .int)) := rfl
theorem ck_RX11_211_858 : COK2 RX11 vwCl gTbl 211 0 con_858 := ⟨wd_866, wd_133, mh_X7_placeOf, .inr (.inr ⟨rfl, wd_896, wd_864, wd_865, ⟨_, rfl, pd_X7_placeOf⟩, 7, _, TX7, 4, rfl, rfl⟩)⟩
noncomputable def ct_907 : CTB2 := [(2, 156, 0, con_653, [0, 1, 2]), (12, 208, 0, con_900, [0, 1, 3, 2, 4, 5, 6, 7, 8, 9, 10, 11, 12, 13, 14, 15, 16, 17, 18, 19, 20, 21, 22, 23, 24, 25, 26]), (20, 211, 0, con_858, [3, 4])]
noncomputable def cu_907 : List CUT2 := []
theorem ch_907 : staG tb_X11_where 1 bt_RX11 [] ct_907 [] [] cu_907 13 con_907 = true := by decide +kernel
theorem cto_907 (l : Launch) : CTOK2 l RX11 vwCl gTbl ct_907 := ct2_cons (vl_653 l) ck_RX11_156_653 (ct2_cons (vl_900 l) ck_RX11_208_900 (ct2_cons (vl_858 l) ck_RX11_211_858 (ct2_nil)))
theorem vl_907 (l : Launch) : Vld2 l vwCl gTbl con_907 := conR_ok3 gT_all (hd_907) rfl pn_RX11 tk_X11_where bo_RX11 xo_RX11 (cto_907 l) ch_907 cut_nil
/-- RookHustingModel where -/
noncomputable def con_908 : Con2 := ((yX12_where, cX12_where, 3, (some .int)), (8, 188), ([(6, 0, 0), (1, 1, 0)], gi_508, hc_106, []), [((1, 70, 0), gi_509, hq_501, [], tg_1)])
theorem hd_908 : con_908.1 = (yX12_where, cX12_where, 3, (some .int)) := rfl
noncomputable def ct_908 : CTB2 := [(1, 345, 0, con_905, [0, 1, 2, 3, 4, 5, 6]), (6, 236, 0, con_656, [0, 1]), (19, 106, 0, con_646, [0, 1])]
noncomputable def gi_510 : GI := jl_n [gp_52, gp_288, gp_140, gp_295, gp_290]
noncomputable def cu_908 : List CUT2 := [((17, [lq 0 6 0, lq 1 1 1, lq 2 1 72], [], gi_510, hq_501), [], ([(72, (-1))], 5))]
theorem ch_908 : staG tb_X12_where 1 bt_RX12 [] ct_908 [] [] cu_908 15 con_908 = true := by decide +kernel
theorem cc_908 : cu_908.all (cutG tb_X12_where 1 bt_RX12 [] ct_908 [] [] cu_908 15 con_908) = true := by decide +kernel
theorem cto_908 (l : Launch) : CTOK2 l RX12 vwCl gTbl ct_908 := ct2_cons (vl_905 l) ck_RX12_345_905 (ct2_cons (vl_656 l) ck_RX12_236_656 (ct2_cons (vl_646 l) ck_RX12_106_646 (ct2_nil)))
theorem vl_908 (l : Launch) : Vld2 l vwCl gTbl con_908 := conR_ok3 gT_all (hd_908) rfl pn_RX12 tk_X12_where bo_RX12 xo_RX12 (cto_908 l) ch_908 (cut_all cc_908)
/-- RookHusting$Election isWantedMore -/
noncomputable def gi_511 : GI := jl_n [gp_183, jl_r 2 (jl_i 0 4), jl_z 19]
noncomputable def ac_528 : AC := .inl (4, jl_n [jl_8 22 16, jl_6 3 1])
noncomputable def hc_108 : List AC := [.inl (1, [(6, 1, 0), (8, 5, 0)]), ac_528, am_5]
noncomputable def gi_512 : GI := jl_n [gp_183, jl_r 2 (jl_i 0 4), jl_z 20]
noncomputable def hq_505 : HP := [(false, .inl (1, [(6, 1, 0), (8, 5, 0)])), (false, ac_528), (false, am_5)]
noncomputable def con_909 : Con2 := ((yX1_isWantedMore, cX1_isWantedMore, 5, (some .boolean)), (1, 21), ([(6, 0, 0), (1, 1, 0), (1, 2, 0), (1, 3, 0)], gi_511, hc_108, []), [((0, 0, 0), gi_512, hq_505, [], [1]), ((0, 1, 0), gi_512, hq_505, [], [1])])
theorem hd_909 : con_909.1 = (yX1_isWantedMore, cX1_isWantedMore, 5, (some .boolean)) := rfl
noncomputable def ct_909 : CTB2 := [(29, 45, 2, con_46, [])]
noncomputable def cu_909 : List CUT2 := []
theorem ch_909 : staG tb_X1_isWantedMore 1 bt_RX1 [] ct_909 [] [] cu_909 25 con_909 = true := by decide +kernel
theorem cto_909 (l : Launch) : CTOK2 l RX1 vwCl gTbl ct_909 := ct2_cons (vl_46 l) ck_RX1_45_46 (ct2_nil)
theorem vl_909 (l : Launch) : Vld2 l vwCl gTbl con_909 := conR_ok3 gT_all (hd_909) rfl pn_RX1 tk_X1_isWantedMore bo_RX1 xo_RX1 (cto_909 l) ch_909 cut_nil
/-- RookHusting$Election hatsOver -/
noncomputable def gi_513 : GI := jl_n [gp_296, gp_197]
noncomputable def ac_529 : AC := .inl (4, jl_n [jl_8 12 7, jl_1 13 1, jl_8 18 5, jl_6 4 1, jl_8 21 2, jl_6 3 1])
noncomputable def hc_109 : List AC := [.inl (1, [(6, 1, 0), (8, 4, 0)]), ac_529, am_5, am_7]
noncomputable def gi_514 : GI := jl_n [gp_296, gp_198]
noncomputable def hq_506 : HP := [(false, .inl (1, [(6, 1, 0), (8, 4, 0)])), (false, ac_529), (false, am_5), (false, am_7)]
noncomputable def con_910 : Con2 := ((yX1_hatsOver, cX1_hatsOver, 5, (some .int)), (2, 45), ([(6, 0, 0), (1, 1, 0), (1, 2, 0)], gi_513, hc_109, []), [((1, 22, 0), gi_514, hq_506, [], [1])])
theorem hd_910 : con_910.1 = (yX1_hatsOver, cX1_hatsOver, 5, (some .int)) := rfl
theorem ck_RX1_70_909 : COK2 RX1 vwCl gTbl 70 0 con_909 := ⟨wd_908, wd_132, mh_X1_isWantedMore, .inr (.inr ⟨rfl, wd_905, wd_907, wd_24, ⟨_, rfl, pd_X1_isWantedMore⟩, 1, _, TX1, 2, rfl, rfl⟩)⟩
noncomputable def ct_910 : CTB2 := [(22, 70, 0, con_909, [0, 1, 2])]
noncomputable def gi_515 : GI := jl_n [gp_296, gp_196, jl_z 12, gp_213]
noncomputable def cu_910 : List CUT2 := [((5, [lq 0 6 0, lq 1 1 1, lq 2 1 2, lq 3 1 25, lq 4 1 26], [], gi_515, hq_506), [], ([(26, (-1))], 7))]
theorem ch_910 : staG tb_X1_hatsOver 1 bt_RX1 [] ct_910 [] [] cu_910 24 con_910 = true := by decide +kernel
theorem cc_910 : cu_910.all (cutG tb_X1_hatsOver 1 bt_RX1 [] ct_910 [] [] cu_910 24 con_910) = true := by decide +kernel
theorem cto_910 (l : Launch) : CTOK2 l RX1 vwCl gTbl ct_910 := ct2_cons (vl_909 l) ck_RX1_70_909 (ct2_nil)
theorem vl_910 (l : Launch) : Vld2 l vwCl gTbl con_910 := conR_ok3 gT_all (hd_910) rfl pn_RX1 tk_X1_hatsOver bo_RX1 xo_RX1 (cto_910 l) ch_910 (cut_all cc_910)
/-- RookHusting over -/
noncomputable def gi_516 : GI := jl_n [gp_162, gp_297]
noncomputable def ac_530 : AC := .inl (4, jl_n [jl_8 27 6, jl_1 29 2, jl_8 34 5, jl_6 6 1, jl_8 37 2, jl_6 5 1])
noncomputable def hc_110 : List AC := [ac_465, .inl (9, [(6, 2, 0), (8, 20, 0)]), ac_530, .inl (1, [(6, 2, 0), (8, 39, 0)]), am_5, am_7]
noncomputable def gi_517 : GI := jl_n [gp_162, gp_297, jl_t]
noncomputable def hq_507 : HP := [(false, ac_465), (false, .inl (9, [(6, 2, 0), (8, 20, 0)])), (false, ac_530), (false, .inl (1, [(6, 2, 0), (8, 39, 0)])), (false, am_5), (false, am_7)]
noncomputable def con_911 : Con2 := ((yX11_over, cX11_over, 3, (some .int)), (3, 69), ([(6, 0, 0), (1, 1, 0), (1, 2, 0)], gi_516, hc_110, []), [((1, 40, 0), gi_517, hq_507, [], [1])])
theorem hd_911 : con_911.1 = (yX11_over, cX11_over, 3, (some .int)) := rfl
theorem ck_RX11_215_910 : COK2 RX11 vwCl gTbl 215 0 con_910 := ⟨wd_904, wd_132, mh_X1_hatsOver, .inr (.inr ⟨rfl, wd_901, wd_902, wd_903, ⟨_, rfl, pd_X1_hatsOver⟩, 1, _, TX1, 2, rfl, rfl⟩)⟩
noncomputable def ct_911 : CTB2 := [(2, 156, 0, con_653, [0, 1, 2]), (10, 156, 0, con_653, [0, 1, 2]), (30, 215, 0, con_910, [3, 2, 4, 5])]
noncomputable def cu_911 : List CUT2 := []
theorem ch_911 : staG tb_X11_over 1 bt_RX11 [] ct_911 [] [] cu_911 19 con_911 = true := by decide +kernel
theorem cto_911 (l : Launch) : CTOK2 l RX11 vwCl gTbl ct_911 := ct2_cons (vl_653 l) ck_RX11_156_653 (ct2_cons (vl_653 l) ck_RX11_156_653 (ct2_cons (vl_910 l) ck_RX11_215_910 (ct2_nil)))
theorem vl_911 (l : Launch) : Vld2 l vwCl gTbl con_911 := conR_ok3 gT_all (hd_911) rfl pn_RX11 tk_X11_over bo_RX11 xo_RX11 (cto_911 l) ch_911 cut_nil
/-- RookHustingModel wantsMore -/
noncomputable def gi_518 : GI := jl_n [gp_183, jl_r 2 (jl_t), gp_164]
noncomputable def ac_531 : AC := .inl (12, jl_n [vp_54, jl_8 49 43])
noncomputable def gi_519 : GI := jl_n [gp_183, jl_r 2 (jl_t), gp_166]
noncomputable def gi_520 : GI := jl_n [gp_183, gp_82, gp_166]
noncomputable def con_912 : Con2 := ((yX12_wantsMore, cX12_wantsMore, 6, (some .boolean)), (0, 0), ([(6, 0, 0), (1, 1, 0), (1, 2, 0), (1, 3, 0)], gi_518, [ac_531, ac_461], []), [((0, 0, 0), gi_519, [(false, ac_531), (false, ac_461)], [], [1]), ((0, 1, 0), gi_520, [(false, ac_531), (false, ac_461)], [], [1])])
theorem hd_912 : con_912.1 = (yX12_wantsMore, cX12_wantsMore, 6, (some .boolean)) := rfl
noncomputable def gi_521 : GI := jl_n [jl_z 1, jl_i 6 6, gp_298]
noncomputable def gi_522 : GI := jl_n [jl_z 1, jl_i 5 5, gp_298]
noncomputable def gi_523 : GI := jl_n [jl_z 1, jl_i 4 4, gp_298]
noncomputable def gi_524 : GI := jl_n [jl_z 1, jl_i 3 3, gp_298]
noncomputable def gi_525 : GI := jl_n [gp_299, gp_298]
noncomputable def gi_526 : GI := jl_n [gp_300, gp_298]
noncomputable def gi_527 : GI := jl_n [jl_z 2, gp_298]
noncomputable def cu_912 : List CUT2 := [((3, [lq 0 6 0, lq 1 0 6, lq 2 1 2, lq 3 1 3, lq 4 1 76], [], gi_521, [(false, ac_531), (false, ac_461)]), [], ([(76, (-1))], 5)), ((3, [lq 0 6 0, lq 1 0 5, lq 2 1 2, lq 3 1 3, lq 4 1 76], [], gi_522, [(false, ac_531), (false, ac_461)]), [], ([(76, (-1))], 5)), ((3, [lq 0 6 0, lq 1 0 4, lq 2 1 2, lq 3 1 3, lq 4 1 76], [], gi_523, [(false, ac_531), (false, ac_461)]), [], ([(76, (-1))], 5)), ((3, [lq 0 6 0, lq 1 0 3, lq 2 1 2, lq 3 1 3, lq 4 1 76], [], gi_524, [(false, ac_531), (false, ac_461)]), [], ([(76, (-1))], 5)), ((3, [lq 0 6 0, lq 1 0 2, lq 2 1 2, lq 3 1 3, lq 4 1 76], [], gi_525, [(false, ac_531), (false, ac_461)]), [], ([(76, (-1))], 5)), ((3, [lq 0 6 0, lq 1 0 1, lq 2 1 2, lq 3 1 3, lq 4 1 76], [], gi_526, [(false, ac_531), (false, ac_461)]), [], ([(76, (-1))], 5)), ((3, [lq 0 6 0, lq 1 0 0, lq 2 1 2, lq 3 1 3, lq 4 1 76], [], gi_527, [(false, ac_531), (false, ac_461)]), [], ([(76, (-1))], 5))]
theorem ch_912 : staG tb_X12_wantsMore 1 bt_RX12 [] ct_2 [(0, [(1, (1, 1, 0), 0, 0)])] [] cu_912 36 con_912 = true := by decide +kernel
theorem cc_912 : cu_912.all (cutG tb_X12_wantsMore 1 bt_RX12 [] ct_2 [(0, [(1, (1, 1, 0), 0, 0)])] [] cu_912 36 con_912) = true := by decide +kernel
theorem vl_912 (l : Launch) : Vld2 l vwCl gTbl con_912 := conR_ok3 gT_all (hd_912) rfl pn_RX12 tk_X12_wantsMore bo_RX12 xo_RX12 (cto_2 l) ch_912 (cut_all cc_912)
/-- RookHustingModel overOf -/
noncomputable def gi_528 : GI := jl_n [gp_170, jl_t]
noncomputable def con_913 : Con2 := ((yX12_overOf, cX12_overOf, 5, (some .int)), (1, 25), ([(6, 0, 0), (1, 1, 0), (1, 2, 0)], gi_304, [ac_439, ac_440], []), [((1, 71, 0), gi_528, [(false, ac_439), (false, ac_440)], [], [1])])
theorem hd_913 : con_913.1 = (yX12_overOf, cX12_overOf, 5, (some .int)) := rfl
theorem ck_RX12_283_912 : COK2 RX12 vwCl gTbl 283 0 con_912 := ⟨wd_1756, wd_137, mh_X12_wantsMore, .inr (.inr ⟨rfl, wd_1753, wd_1755, wd_83, ⟨_, rfl, pd_X12_wantsMore⟩, 12, _, TX12, 45, rfl, rfl⟩)⟩
noncomputable def ct_913 : CTB2 := [(23, 283, 0, con_912, [0, 1]), (32, 243, 0, con_662, [0, 1])]
noncomputable def gi_529 : GI := jl_n [gp_162, jl_z 45, gp_224, gp_213]
noncomputable def cu_913 : List CUT2 := [((5, [lq 0 6 0, lq 1 1 1, lq 2 1 2, lq 3 1 74, lq 4 1 75], [], gi_529, [(false, ac_439), (false, ac_440)]), [], ([(75, (-1))], 7))]
theorem ch_913 : staG tb_X12_overOf 1 bt_RX12 [] ct_913 [] [] cu_913 24 con_913 = true := by decide +kernel
theorem cc_913 : cu_913.all (cutG tb_X12_overOf 1 bt_RX12 [] ct_913 [] [] cu_913 24 con_913) = true := by decide +kernel
theorem cto_913 (l : Launch) : CTOK2 l RX12 vwCl gTbl ct_913 := ct2_cons (vl_912 l) ck_RX12_283_912 (ct2_cons (vl_662 l) ck_RX12_243_662 (ct2_nil))
theorem vl_913 (l : Launch) : Vld2 l vwCl gTbl con_913 := conR_ok3 gT_all (hd_913) rfl pn_RX12 tk_X12_overOf bo_RX12 xo_RX12 (cto_913 l) ch_913 (cut_all cc_913)
/-- RookHustingModel over -/
noncomputable def con_914 : Con2 := ((yX12_over, cX12_over, 3, (some .int)), (2, 49), ([(6, 0, 0), (1, 1, 0), (1, 2, 0)], gi_304, [ac_439, ac_440], []), [((1, 71, 0), gi_528, [(false, ac_439), (false, ac_440)], [], [1])])
theorem hd_914 : con_914.1 = (yX12_over, cX12_over, 3, (some .int)) := rfl
theorem ck_RX12_287_913 : COK2 RX12 vwCl gTbl 287 0 con_913 := ⟨wd_1752, wd_137, mh_X12_overOf, .inr (.inr ⟨rfl, wd_1749, wd_1751, wd_82, ⟨_, rfl, pd_X12_overOf⟩, 12, _, TX12, 45, rfl, rfl⟩)⟩
noncomputable def ct_914 : CTB2 := [(2, 236, 0, con_656, [0, 1]), (10, 236, 0, con_656, [0, 1]), (24, 287, 0, con_913, [0, 1])]
noncomputable def cu_914 : List CUT2 := []
theorem ch_914 : staG tb_X12_over 1 bt_RX12 [] ct_914 [] [] cu_914 19 con_914 = true := by decide +kernel
theorem cto_914 (l : Launch) : CTOK2 l RX12 vwCl gTbl ct_914 := ct2_cons (vl_656 l) ck_RX12_236_656 (ct2_cons (vl_656 l) ck_RX12_236_656 (ct2_cons (vl_913 l) ck_RX12_287_913 (ct2_nil)))
theorem vl_914 (l : Launch) : Vld2 l vwCl gTbl con_914 := conR_ok3 gT_all (hd_914) rfl pn_RX12 tk_X12_over bo_RX12 xo_RX12 (cto_914 l) ch_914 cut_nil
/-- RookHusting$Election isOver -/
noncomputable def gi_530 : GI := jl_n [gp_296, gp_196, jl_z 10]
noncomputable def con_915 : Con2 := ((yX1_isOver, cX1_isOver, 3, (some .boolean)), (3, 69), ([(6, 0, 0), (1, 1, 0), (1, 2, 0)], gi_513, hc_109, []), [((0, 0, 0), gi_530, hq_506, [], [1]), ((0, 1, 0), gi_530, hq_506, [], [1])])
theorem hd_915 : con_915.1 = (yX1_isOver, cX1_isOver, 3, (some .boolean)) := rfl
theorem ck_RX1_74_910 : COK2 RX1 vwCl gTbl 74 0 con_910 := ⟨wd_904, wd_132, mh_X1_hatsOver, .inr (.inr ⟨rfl, wd_921, wd_902, wd_903, ⟨_, rfl, pd_X1_hatsOver⟩, 1, _, TX1, 2, rfl, rfl⟩)⟩
noncomputable def ct_915 : CTB2 := [(3, 74, 0, con_910, [0, 1, 2, 3]), (9, 74, 0, con_910, [0, 1, 2, 3])]
noncomputable def cu_915 : List CUT2 := []
theorem ch_915 : staG tb_X1_isOver 1 bt_RX1 [] ct_915 [] [] cu_915 14 con_915 = true := by decide +kernel
theorem cto_915 (l : Launch) : CTOK2 l RX1 vwCl gTbl ct_915 := ct2_cons (vl_910 l) ck_RX1_74_910 (ct2_cons (vl_910 l) ck_RX1_74_910 (ct2_nil))
theorem vl_915 (l : Launch) : Vld2 l vwCl gTbl con_915 := conR_ok3 gT_all (hd_915) rfl pn_RX1 tk_X1_isOver bo_RX1 xo_RX1 (cto_915 l) ch_915 cut_nil
/-- RookHusting$Election manOverAll -/
noncomputable def gi_531 : GI := jl_n [jl_z 9, gp_215]
noncomputable def ac_532 : AC := .inl (4, jl_n [jl_8 9 6, jl_1 11 2, jl_8 16 5, jl_6 4 1, jl_8 19 2, jl_6 3 1])
noncomputable def hc_111 : List AC := [.inl (1, [(6, 1, 0), (8, 2, 0)]), ac_532, am_5, am_7]
noncomputable def gi_532 : GI := jl_n [jl_z 9, gp_215, jl_m 0 4]
noncomputable def hq_508 : HP := [(false, .inl (1, [(6, 1, 0), (8, 2, 0)])), (false, ac_532), (false, am_5), (false, am_7)]
noncomputable def con_916 : Con2 := ((yX1_manOverAll, cX1_manOverAll, 4, (some .int)), (4, 91), ([(6, 0, 0)], gi_531, hc_111, []), [((1, 20, 0), gi_532, hq_508, [], [1])])
theorem hd_916 : con_916.1 = (yX1_manOverAll, cX1_manOverAll, 4, (some .int)) := rfl
theorem ck_RX1_78_915 : COK2 RX1 vwCl gTbl 78 0 con_915 := ⟨wd_920, wd_132, mh_X1_isOver, .inr (.inr ⟨rfl, wd_917, wd_919, wd_25, ⟨_, rfl, pd_X1_isOver⟩, 1, _, TX1, 2, rfl, rfl⟩)⟩
noncomputable def ct_916 : CTB2 := [(36, 78, 0, con_915, [0, 1, 2, 3])]
noncomputable def gi_533 : GI := jl_n [jl_z 9, gp_12, jl_z 10, jl_i 0 5]
noncomputable def gi_534 : GI := jl_n [jl_z 9, jl_i 1 5, jl_i 0 7, jl_z 10, jl_i 0 4, gp_208]
noncomputable def cu_916 : List CUT2 := [((2, [lq 0 6 0, lq 1 1 21], [], gi_533, hq_508), [], ([(21, (-7))], 41)), ((17, [lq 0 6 0, lq 1 1 21, lq 2 1 22, lq 3 1 23], [], gi_534, hq_508), [], ([(21, (-7)), (23, (-1))], 40))]
theorem ch_916 : staG tb_X1_manOverAll 1 bt_RX1 [] ct_916 [] [] cu_916 19 con_916 = true := by decide +kernel
theorem cc_916 : cu_916.all (cutG tb_X1_manOverAll 1 bt_RX1 [] ct_916 [] [] cu_916 19 con_916) = true := by decide +kernel
theorem cto_916 (l : Launch) : CTOK2 l RX1 vwCl gTbl ct_916 := ct2_cons (vl_915 l) ck_RX1_78_915 (ct2_nil)
theorem vl_916 (l : Launch) : Vld2 l vwCl gTbl con_916 := conR_ok3 gT_all (hd_916) rfl pn_RX1 tk_X1_manOverAll bo_RX1 xo_RX1 (cto_916 l) ch_916 (cut_all cc_916)
/-- RookHusting beats -/
noncomputable def gi_535 : GI := jl_n [jl_z 19, gp_200]
noncomputable def ac_533 : AC := .inl (11, jl_n [vp_88, jl_8 17 10])
noncomputable def ac_534 : AC := .inl (4, jl_n [jl_1 20 1, jl_8 25 5, vp_89, jl_6 6 1, jl_8 35 2, jl_6 5 1])
noncomputable def hc_112 : List AC := [ac_533, .inl (9, [(6, 2, 0), (8, 18, 0)]), ac_534, .inl (1, [(6, 2, 0), (8, 37, 0)]), am_5, am_7]
noncomputable def gi_536 : GI := jl_n [jl_z 19, gp_200, jl_m 1 4]
noncomputable def hq_509 : HP := [(false, ac_533), (false, .inl (9, [(6, 2, 0), (8, 18, 0)])), (false, ac_534), (false, .inl (1, [(6, 2, 0), (8, 37, 0)])), (false, am_5), (false, am_7)]
noncomputable def con_917 : Con2 := ((yX11_beats, cX11_beats, 1, (some .int)), (5, 114), ([(6, 0, 0)], gi_535, hc_112, []), [((1, 38, 0), gi_536, hq_509, [], [1])])
theorem hd_917 : con_917.1 = (yX11_beats, cX11_beats, 1, (some .int)) := rfl
theorem ck_RX11_222_916 : COK2 RX11 vwCl gTbl 222 0 con_916 := ⟨wd_916, wd_132, mh_X1_manOverAll, .inr (.inr ⟨rfl, wd_913, wd_914, wd_915, ⟨_, rfl, pd_X1_manOverAll⟩, 1, _, TX1, 2, rfl, rfl⟩)⟩
noncomputable def ct_917 : CTB2 := [(1, 219, 0, con_667, [0, 1, 2]), (11, 222, 0, con_916, [3, 2, 4, 5])]
noncomputable def cu_917 : List CUT2 := []
theorem ch_917 : staG tb_X11_beats 1 bt_RX11 [] ct_917 [] [] cu_917 10 con_917 = true := by decide +kernel
theorem cto_917 (l : Launch) : CTOK2 l RX11 vwCl gTbl ct_917 := ct2_cons (vl_667 l) ck_RX11_219_667 (ct2_cons (vl_916 l) ck_RX11_222_916 (ct2_nil))
theorem vl_917 (l : Launch) : Vld2 l vwCl gTbl con_917 := conR_ok3 gT_all (hd_917) rfl pn_RX11 tk_X11_beats bo_RX11 xo_RX11 (cto_917 l) ch_917 cut_nil
/-- RookHustingModel men -/
noncomputable def gi_537 : GI := jl_n [gp_301, gp_218]
noncomputable def gi_538 : GI := jl_n [gp_301, gp_146]
noncomputable def con_918 : Con2 := ((yX12_men, cX12_men, 1, (some .int)), (0, 0), ([(6, 0, 0)], gi_537, [ac_435, ac_436], []), [((1, 51, 0), gi_538, [(false, ac_435), (false, ac_436)], [], [1])])
theorem hd_918 : con_918.1 = (yX12_men, cX12_men, 1, (some .int)) := rfl
noncomputable def cu_918 : List CUT2 := []
theorem ch_918 : staG tb_X12_men 1 bt_RX12 [] ct_2 [] [] cu_918 7 con_918 = true := by decide +kernel
theorem vl_918 (l : Launch) : Vld2 l vwCl gTbl con_918 := conR_ok3 gT_all (hd_918) rfl pn_RX12 tk_X12_men bo_RX12 xo_RX12 (cto_2 l) ch_918 cut_nil
/-- RookHustingModel isOver -/
noncomputable def gi_539 : GI := jl_n [gp_162, gp_166]
noncomputable def con_919 : Con2 := ((yX12_isOver, cX12_isOver, 3, (some .boolean)), (2, 49), ([(6, 0, 0), (1, 1, 0), (1, 2, 0)], gi_304, [ac_439, ac_440], []), [((0, 0, 0), gi_539, [(false, ac_439), (false, ac_440)], [], [1]), ((0, 1, 0), gi_539, [(false, ac_439), (false, ac_440)], [], [1])])
theorem hd_919 : con_919.1 = (yX12_isOver, cX12_isOver, 3, (some .boolean)) := rfl
noncomputable def ct_919 : CTB2 := [(3, 287, 0, con_913, [0, 1]), (9, 287, 0, con_913, [0, 1])]
noncomputable def cu_919 : List CUT2 := []
theorem ch_919 : staG tb_X12_isOver 1 bt_RX12 [] ct_919 [] [] cu_919 14 con_919 = true := by decide +kernel
theorem cto_919 (l : Launch) : CTOK2 l RX12 vwCl gTbl ct_919 := ct2_cons (vl_913 l) ck_RX12_287_913 (ct2_cons (vl_913 l) ck_RX12_287_913 (ct2_nil))
theorem vl_919 (l : Launch) : Vld2 l vwCl gTbl con_919 := conR_ok3 gT_all (hd_919) rfl pn_RX12 tk_X12_isOver bo_RX12 xo_RX12 (cto_919 l) ch_919 cut_nil
/-- RookHustingModel beats -/
noncomputable def gi_540 : GI := jl_n [gp_163, jl_m 1 4]
noncomputable def con_920 : Con2 := ((yX12_beats, cX12_beats, 4, (some .int)), (3, 71), ([(6, 0, 0)], gi_299, [ac_435, ac_436], []), [((1, 69, 0), gi_540, [(false, ac_435), (false, ac_436)], [], [1])])
theorem hd_920 : con_920.1 = (yX12_beats, cX12_beats, 4, (some .int)) := rfl
theorem ck_RX12_290_919 : COK2 RX12 vwCl gTbl 290 0 con_919 := ⟨wd_1764, wd_137, mh_X12_isOver, .inr (.inr ⟨rfl, wd_1761, wd_1763, wd_84, ⟨_, rfl, pd_X12_isOver⟩, 12, _, TX12, 45, rfl, rfl⟩)⟩
theorem ck_RX12_95_918 : COK2 RX12 vwCl gTbl 95 0 con_918 := ⟨wd_1672, wd_137, mh_X12_men, .inr (.inr ⟨rfl, wd_1669, wd_1671, wd_69, ⟨_, rfl, pd_X12_men⟩, 12, _, TX12, 45, rfl, rfl⟩)⟩
noncomputable def ct_920 : CTB2 := [(1, 99, 0, con_673, [0, 1]), (14, 95, 0, con_655, [0, 1]), (26, 95, 0, con_918, [0, 1]), (44, 290, 0, con_919, [0, 1])]
noncomputable def gi_541 : GI := jl_n [jl_z 46, gp_205, jl_i 0 5]
noncomputable def gi_542 : GI := jl_n [gp_301, gp_221, jl_i 0 4, jl_i 0 1, jl_i 0 5]
noncomputable def cu_920 : List CUT2 := [((12, [lq 0 6 0, lq 1 1 70], [], gi_541, [(false, ac_435), (false, ac_436)]), [], ([(70, (-7))], 41)), ((24, [lq 0 6 0, lq 1 1 70, lq 2 1 71, lq 3 1 72], [], gi_542, [(false, ac_435), (false, ac_436)]), [], ([(70, (-7)), (72, (-1))], 40))]
theorem ch_920 : staG tb_X12_beats 1 bt_RX12 [] ct_920 [] [] cu_920 22 con_920 = true := by decide +kernel
theorem cc_920 : cu_920.all (cutG tb_X12_beats 1 bt_RX12 [] ct_920 [] [] cu_920 22 con_920) = true := by decide +kernel
theorem cto_920 (l : Launch) : CTOK2 l RX12 vwCl gTbl ct_920 := ct2_cons (vl_673 l) ck_RX12_99_673 (ct2_cons (vl_655 l) ck_RX12_95_655 (ct2_cons (vl_918 l) ck_RX12_95_918 (ct2_cons (vl_919 l) ck_RX12_290_919 (ct2_nil))))
theorem vl_920 (l : Launch) : Vld2 l vwCl gTbl con_920 := conR_ok3 gT_all (hd_920) rfl pn_RX12 tk_X12_beats bo_RX12 xo_RX12 (cto_920 l) ch_920 (cut_all cc_920)
/-- RookHusting$Election isRing -/
noncomputable def gi_543 : GI := jl_n [jl_z 1, jl_r 3 (jl_i 0 4), gp_197]
noncomputable def ac_535 : AC := .inl (4, jl_n [jl_8 13 7, jl_1 14 1, jl_8 19 5, jl_6 4 1, jl_8 22 2, jl_6 3 1])
noncomputable def hc_113 : List AC := [.inl (1, [(6, 1, 0), (8, 5, 0)]), ac_535, am_5, am_7]
noncomputable def gi_544 : GI := jl_n [jl_z 1, jl_r 3 (jl_i 0 4), gp_196, jl_z 10]
noncomputable def hq_510 : HP := [(false, .inl (1, [(6, 1, 0), (8, 5, 0)])), (false, ac_535), (false, am_5), (false, am_7)]
noncomputable def con_921 : Con2 := ((yX1_isRing, cX1_isRing, 4, (some .boolean)), (4, 91), ([(6, 0, 0), (1, 1, 0), (1, 2, 0), (1, 3, 0)], gi_543, hc_113, []), [((0, 0, 0), gi_544, hq_510, [], [1]), ((0, 1, 0), gi_544, hq_510, [], [1])])
theorem hd_921 : con_921.1 = (yX1_isRing, cX1_isRing, 4, (some .boolean)) := rfl
noncomputable def ct_921 : CTB2 := [(3, 78, 0, con_915, [0, 1, 2, 3]), (12, 78, 0, con_915, [0, 1, 2, 3]), (21, 78, 0, con_915, [0, 1, 2, 3])]
noncomputable def cu_921 : List CUT2 := []
theorem ch_921 : staG tb_X1_isRing 1 bt_RX1 [] ct_921 [] [] cu_921 20 con_921 = true := by decide +kernel
theorem cto_921 (l : Launch) : CTOK2 l RX1 vwCl gTbl ct_921 := ct2_cons (vl_915 l) ck_RX1_78_915 (ct2_cons (vl_915 l) ck_RX1_78_915 (ct2_cons (vl_915 l) ck_RX1_78_915 (ct2_nil)))
theorem vl_921 (l : Launch) : Vld2 l vwCl gTbl con_921 := conR_ok3 gT_all (hd_921) rfl pn_RX1 tk_X1_isRing bo_RX1 xo_RX1 (cto_921 l) ch_921 cut_nil
/-- RookHusting$Election countRings -/
noncomputable def gi_545 : GI := jl_n [jl_z 9, gp_215, jl_t]
noncomputable def con_922 : Con2 := ((yX1_countRings, cX1_countRings, 5, (some .int)), (5, 114), ([(6, 0, 0)], gi_531, hc_111, []), [((1, 20, 0), gi_545, hq_508, [], [1])])
theorem hd_922 : con_922.1 = (yX1_countRings, cX1_countRings, 5, (some .int)) := rfl
theorem ck_RX1_81_921 : COK2 RX1 vwCl gTbl 81 0 con_921 := ⟨wd_933, wd_132, mh_X1_isRing, .inr (.inr ⟨rfl, wd_930, wd_932, wd_26, ⟨_, rfl, pd_X1_isRing⟩, 1, _, TX1, 2, rfl, rfl⟩)⟩
noncomputable def ct_922 : CTB2 := [(52, 81, 0, con_921, [0, 1, 2, 3]), (63, 81, 0, con_921, [0, 1, 2, 3])]
noncomputable def gi_546 : GI := jl_n [jl_z 9, gp_12, jl_z 10, gp_208]
noncomputable def gi_547 : GI := jl_n [jl_z 9, jl_i 1 5, jl_i 0 7, jl_z 10, gp_302, jl_i 1 5]
noncomputable def gi_548 : GI := jl_n [jl_z 9, jl_i 2 5, jl_i 0 7, jl_z 10, gp_302, jl_i 1 4, jl_i 2 5]
noncomputable def cu_922 : List CUT2 := [((4, [lq 0 6 0, lq 1 1 21, lq 2 1 22], [], gi_546, hq_508), [], ([(22, (-26))], 155)), ((19, [lq 0 6 0, lq 1 1 21, lq 2 1 22, lq 3 1 23], [], gi_547, hq_508), [], ([(22, (-26)), (23, (-5))], 159)), ((35, [lq 0 6 0, lq 1 1 21, lq 2 1 22, lq 3 1 23, lq 4 1 24], [], gi_548, hq_508), [], ([(22, (-26)), (23, (-5)), (24, (-1))], 160))]
theorem ch_922 : staG tb_X1_countRings 1 bt_RX1 [] ct_922 [] [] cu_922 23 con_922 = true := by decide +kernel
theorem cc_922 : cu_922.all (cutG tb_X1_countRings 1 bt_RX1 [] ct_922 [] [] cu_922 23 con_922) = true := by decide +kernel
theorem cto_922 (l : Launch) : CTOK2 l RX1 vwCl gTbl ct_922 := ct2_cons (vl_921 l) ck_RX1_81_921 (ct2_cons (vl_921 l) ck_RX1_81_921 (ct2_nil))
theorem vl_922 (l : Launch) : Vld2 l vwCl gTbl con_922 := conR_ok3 gT_all (hd_922) rfl pn_RX1 tk_X1_countRings bo_RX1 xo_RX1 (cto_922 l) ch_922 (cut_all cc_922)
/-- RookHusting rings -/
noncomputable def gi_549 : GI := jl_n [jl_z 19, gp_200, jl_t]
noncomputable def con_923 : Con2 := ((yX11_rings, cX11_rings, 1, (some .int)), (6, 138), ([(6, 0, 0)], gi_535, hc_112, []), [((1, 38, 0), gi_549, hq_509, [], [1])])
theorem hd_923 : con_923.1 = (yX11_rings, cX11_rings, 1, (some .int)) := rfl
theorem ck_RX11_226_922 : COK2 RX11 vwCl gTbl 226 0 con_922 := ⟨wd_929, wd_132, mh_X1_countRings, .inr (.inr ⟨rfl, wd_926, wd_927, wd_928, ⟨_, rfl, pd_X1_countRings⟩, 1, _, TX1, 2, rfl, rfl⟩)⟩
noncomputable def ct_923 : CTB2 := [(1, 219, 0, con_667, [0, 1, 2]), (11, 226, 0, con_922, [3, 2, 4, 5])]
noncomputable def cu_923 : List CUT2 := []
theorem ch_923 : staG tb_X11_rings 1 bt_RX11 [] ct_923 [] [] cu_923 10 con_923 = true := by decide +kernel
theorem cto_923 (l : Launch) : CTOK2 l RX11 vwCl gTbl ct_923 := ct2_cons (vl_667 l) ck_RX11_219_667 (ct2_cons (vl_922 l) ck_RX11_226_922 (ct2_nil))
theorem vl_923 (l : Launch) : Vld2 l vwCl gTbl con_923 := conR_ok3 gT_all (hd_923) rfl pn_RX11 tk_X11_rings bo_RX11 xo_RX11 (cto_923 l) ch_923 cut_nil
/-- RookHustingModel men -/
noncomputable def gi_550 : GI := jl_n [jl_z 46, gp_111, jl_i 2 5, gp_218]
noncomputable def gi_551 : GI := jl_n [jl_z 46, gp_111, jl_i 2 5, gp_146]
noncomputable def con_924 : Con2 := ((yX12_men, cX12_men, 1, (some .int)), (0, 0), ([(6, 0, 0)], gi_550, [ac_435, ac_436], []), [((1, 51, 0), gi_551, [(false, ac_435), (false, ac_436)], [], [1])])
theorem hd_924 : con_924.1 = (yX12_men, cX12_men, 1, (some .int)) := rfl
noncomputable def cu_924 : List CUT2 := []
theorem ch_924 : staG tb_X12_men 1 bt_RX12 [] ct_2 [] [] cu_924 7 con_924 = true := by decide +kernel
theorem vl_924 (l : Launch) : Vld2 l vwCl gTbl con_924 := conR_ok3 gT_all (hd_924) rfl pn_RX12 tk_X12_men bo_RX12 xo_RX12 (cto_2 l) ch_924 cut_nil
/-- RookHustingModel isRing -/
noncomputable def gi_552 : GI := jl_n [gp_199, gp_164]
noncomputable def gi_553 : GI := jl_n [gp_199, gp_166]
noncomputable def con_925 : Con2 := ((yX12_isRing, cX12_isRing, 4, (some .boolean)), (3, 71), ([(6, 0, 0), (1, 1, 0), (1, 2, 0), (1, 3, 0)], gi_552, [ac_531, ac_461], []), [((0, 0, 0), gi_553, [(false, ac_531), (false, ac_461)], [], [1]), ((0, 1, 0), gi_553, [(false, ac_531), (false, ac_461)], [], [1])])
theorem hd_925 : con_925.1 = (yX12_isRing, cX12_isRing, 4, (some .boolean)) := rfl
noncomputable def ct_925 : CTB2 := [(3, 290, 0, con_919, [0, 1]), (12, 290, 0, con_919, [0, 1]), (21, 290, 0, con_919, [0, 1]), (30, 290, 0, con_919, [0, 1]), (39, 290, 0, con_919, [0, 1]), (48, 290, 0, con_919, [0, 1])]
noncomputable def cu_925 : List CUT2 := []
theorem ch_925 : staG tb_X12_isRing 1 bt_RX12 [] ct_925 [] [] cu_925 35 con_925 = true := by decide +kernel
theorem cto_925 (l : Launch) : CTOK2 l RX12 vwCl gTbl ct_925 := ct2_cons (vl_919 l) ck_RX12_290_919 (ct2_cons (vl_919 l) ck_RX12_290_919 (ct2_cons (vl_919 l) ck_RX12_290_919 (ct2_cons (vl_919 l) ck_RX12_290_919 (ct2_cons (vl_919 l) ck_RX12_290_919 (ct2_cons (vl_919 l) ck_RX12_290_919 (ct2_nil))))))
theorem vl_925 (l : Launch) : Vld2 l vwCl gTbl con_925 := conR_ok3 gT_all (hd_925) rfl pn_RX12 tk_X12_isRing bo_RX12 xo_RX12 (cto_925 l) ch_925 cut_nil
/-- RookHustingModel rings -/
noncomputable def gi_554 : GI := jl_n [gp_163, jl_t]
noncomputable def con_926 : Con2 := ((yX12_rings, cX12_rings, 5, (some .int)), (4, 94), ([(6, 0, 0)], gi_299, [ac_435, ac_436], []), [((1, 69, 0), gi_554, [(false, ac_435), (false, ac_436)], [], [1])])
theorem hd_926 : con_926.1 = (yX12_rings, cX12_rings, 5, (some .int)) := rfl
theorem ck_RX12_294_925 : COK2 RX12 vwCl gTbl 294 0 con_925 := ⟨wd_1772, wd_137, mh_X12_isRing, .inr (.inr ⟨rfl, wd_1769, wd_1771, wd_85, ⟨_, rfl, pd_X12_isRing⟩, 12, _, TX12, 45, rfl, rfl⟩)⟩
theorem ck_RX12_95_924 : COK2 RX12 vwCl gTbl 95 0 con_924 := ⟨wd_1672, wd_137, mh_X12_men, .inr (.inr ⟨rfl, wd_1669, wd_1671, wd_69, ⟨_, rfl, pd_X12_men⟩, 12, _, TX12, 45, rfl, rfl⟩)⟩
noncomputable def ct_926 : CTB2 := [(1, 99, 0, con_673, [0, 1]), (16, 95, 0, con_655, [0, 1]), (28, 95, 0, con_918, [0, 1]), (42, 95, 0, con_924, [0, 1]), (54, 294, 0, con_925, [0, 1])]
noncomputable def gi_555 : GI := jl_n [jl_z 46, gp_205, gp_208]
noncomputable def gi_556 : GI := jl_n [gp_301, gp_221, gp_302, jl_i 1 5]
noncomputable def gi_557 : GI := jl_n [jl_z 46, gp_111, jl_i 2 5, gp_221, gp_302, jl_i 1 4, jl_i 2 5]
noncomputable def cu_926 : List CUT2 := [((14, [lq 0 6 0, lq 1 1 70, lq 2 1 71], [], gi_555, [(false, ac_435), (false, ac_436)]), [], ([(71, (-26))], 155)), ((26, [lq 0 6 0, lq 1 1 70, lq 2 1 71, lq 3 1 72], [], gi_556, [(false, ac_435), (false, ac_436)]), [], ([(71, (-26)), (72, (-5))], 159)), ((39, [lq 0 6 0, lq 1 1 70, lq 2 1 71, lq 3 1 72, lq 4 1 73], [], gi_557, [(false, ac_435), (false, ac_436)]), [], ([(71, (-26)), (72, (-5)), (73, (-1))], 160))]
theorem ch_926 : staG tb_X12_rings 1 bt_RX12 [] ct_926 [] [] cu_926 20 con_926 = true := by decide +kernel
theorem cc_926 : cu_926.all (cutG tb_X12_rings 1 bt_RX12 [] ct_926 [] [] cu_926 20 con_926) = true := by decide +kernel
theorem cto_926 (l : Launch) : CTOK2 l RX12 vwCl gTbl ct_926 := ct2_cons (vl_673 l) ck_RX12_99_673 (ct2_cons (vl_655 l) ck_RX12_95_655 (ct2_cons (vl_918 l) ck_RX12_95_918 (ct2_cons (vl_924 l) ck_RX12_95_924 (ct2_cons (vl_925 l) ck_RX12_294_925 (ct2_nil)))))
theorem vl_926 (l : Launch) : Vld2 l vwCl gTbl con_926 := conR_ok3 gT_all (hd_926) rfl pn_RX12 tk_X12_rings bo_RX12 xo_RX12 (cto_926 l) ch_926 (cut_all cc_926)
/-- RookHusting$Election hatsOf -/
noncomputable def gi_558 : GI := jl_n [gp_7, gp_197]
noncomputable def ac_536 : AC := .inl (4, jl_n [jl_8 11 7, jl_1 12 1, vp_91])
noncomputable def hc_114 : List AC := [.inl (1, [(6, 1, 0), (8, 3, 0)]), ac_536, am_7]
noncomputable def gi_559 : GI := jl_n [gp_7, gp_198]
noncomputable def hq_511 : HP := [(false, .inl (1, [(6, 1, 0), (8, 3, 0)])), (false, ac_536), (false, am_7)]
noncomputable def con_927 : Con2 := ((yX1_hatsOf, cX1_hatsOf, 4, (some .int)), (1, 21), ([(6, 0, 0), (1, 1, 0)], gi_558, hc_114, []), [((1, 21, 0), gi_559, hq_511, [], [1])])
theorem hd_927 : con_927.1 = (yX1_hatsOf, cX1_hatsOf, 4, (some .int)) := rfl
noncomputable def ct_927 : CTB2 := [(17, 45, 2, con_46, [])]
noncomputable def gi_560 : GI := jl_n [gp_7, gp_196, jl_z 11, gp_213]
noncomputable def cu_927 : List CUT2 := [((4, [lq 0 6 0, lq 1 1 1, lq 2 1 23, lq 3 1 24], [], gi_560, hq_511), [], ([(24, (-1))], 7))]
theorem ch_927 : staG tb_X1_hatsOf 1 bt_RX1 [] ct_927 [] [] cu_927 22 con_927 = true := by decide +kernel
theorem cc_927 : cu_927.all (cutG tb_X1_hatsOf 1 bt_RX1 [] ct_927 [] [] cu_927 22 con_927) = true := by decide +kernel
theorem cto_927 (l : Launch) : CTOK2 l RX1 vwCl gTbl ct_927 := ct2_cons (vl_46 l) ck_RX1_45_46 (ct2_nil)
theorem vl_927 (l : Launch) : Vld2 l vwCl gTbl con_927 := conR_ok3 gT_all (hd_927) rfl pn_RX1 tk_X1_hatsOf bo_RX1 xo_RX1 (cto_927 l) ch_927 (cut_all cc_927)
/-- RookHusting$Election winnerOfAll -/
noncomputable def gi_561 : GI := jl_n [gp_7, gp_306]
noncomputable def ac_537 : AC := .inl (4, jl_n [jl_8 6 2, jl_1 7 1, jl_8 10 3, jl_1 12 2, jl_8 17 5, jl_6 4 1, jl_8 20 2, jl_6 3 1])
noncomputable def hc_115 : List AC := [.inl (1, [(6, 1, 0), (8, 3, 0)]), ac_537, am_5, am_7]
noncomputable def gi_562 : GI := jl_n [gp_7, gp_306, jl_m 0 4]
noncomputable def hq_512 : HP := [(false, .inl (1, [(6, 1, 0), (8, 3, 0)])), (false, ac_537), (false, am_5), (false, am_7)]
noncomputable def con_928 : Con2 := ((yX1_winnerOfAll, cX1_winnerOfAll, 2, (some .int)), (4, 106), ([(6, 0, 0), (1, 1, 0)], gi_561, hc_115, []), [((1, 21, 0), gi_562, hq_512, [], [1])])
theorem hd_928 : con_928.1 = (yX1_winnerOfAll, cX1_winnerOfAll, 2, (some .int)) := rfl
noncomputable def ct_928 : CTB2 := [(9, 57, 0, con_852, [0, 1]), (20, 64, 0, con_689, [0, 2, 1, 3])]
noncomputable def cu_928 : List CUT2 := []
theorem ch_928 : staG tb_X1_winnerOfAll 1 bt_RX1 [] ct_928 [] [] cu_928 14 con_928 = true := by decide +kernel
theorem cto_928 (l : Launch) : CTOK2 l RX1 vwCl gTbl ct_928 := ct2_cons (vl_852 l) ck_RX1_57_852 (ct2_cons (vl_689 l) ck_RX1_64_689 (ct2_nil))
theorem vl_928 (l : Launch) : Vld2 l vwCl gTbl con_928 := conR_ok3 gT_all (hd_928) rfl pn_RX1 tk_X1_winnerOfAll bo_RX1 xo_RX1 (cto_928 l) ch_928 cut_nil
/-- RookHusting$Election fewestAway -/
noncomputable def gi_563 : GI := jl_n [gp_52, gp_306]
noncomputable def ac_538 : AC := .inl (4, jl_n [jl_8 6 2, jl_1 7 1, jl_8 10 3, jl_1 12 2, vp_90, jl_8 20 2, jl_6 4 1])
noncomputable def hc_116 : List AC := [.inl (1, [(6, 1, 0), (8, 3, 0)]), ac_538, am_7, am_5]
noncomputable def gi_564 : GI := jl_n [gp_52, gp_306, jl_t]
noncomputable def hq_513 : HP := [(false, .inl (1, [(6, 1, 0), (8, 3, 0)])), (false, ac_538), (false, am_7), (false, am_5)]
noncomputable def con_929 : Con2 := ((yX1_fewestAway, cX1_fewestAway, 5, (some .int)), (5, 127), ([(6, 0, 0), (1, 1, 0)], gi_563, hc_116, []), [((1, 21, 0), gi_564, hq_513, [], [1])])
theorem hd_929 : con_929.1 = (yX1_fewestAway, cX1_fewestAway, 5, (some .int)) := rfl
theorem ck_RX1_87_928 : COK2 RX1 vwCl gTbl 87 0 con_928 := ⟨wd_949, wd_132, mh_X1_winnerOfAll, .inr (.inr ⟨rfl, wd_946, wd_948, wd_28, ⟨_, rfl, pd_X1_winnerOfAll⟩, 1, _, TX1, 2, rfl, rfl⟩)⟩
theorem ck_RX1_84_927 : COK2 RX1 vwCl gTbl 84 0 con_927 := ⟨wd_945, wd_132, mh_X1_hatsOf, .inr (.inr ⟨rfl, wd_942, wd_944, wd_27, ⟨_, rfl, pd_X1_hatsOf⟩, 1, _, TX1, 2, rfl, rfl⟩)⟩
noncomputable def ct_929 : CTB2 := [(19, 84, 0, con_927, [0, 1, 2]), (37, 87, 0, con_928, [0, 1, 3, 2])]
noncomputable def gi_565 : GI := jl_n [gp_52, gp_308, jl_t, jl_i 0 128]
noncomputable def cu_929 : List CUT2 := [((4, [lq 0 6 0, lq 1 1 1, lq 2 1 23, lq 3 1 24], [], gi_565, hq_513), [], ([(24, (-1))], 128))]
theorem ch_929 : staG tb_X1_fewestAway 1 bt_RX1 [] ct_929 [] [] cu_929 29 con_929 = true := by decide +kernel
theorem cc_929 : cu_929.all (cutG tb_X1_fewestAway 1 bt_RX1 [] ct_929 [] [] cu_929 29 con_929) = true := by decide +kernel
theorem cto_929 (l : Launch) : CTOK2 l RX1 vwCl gTbl ct_929 := ct2_cons (vl_927 l) ck_RX1_84_927 (ct2_cons (vl_928 l) ck_RX1_87_928 (ct2_nil))
theorem vl_929 (l : Launch) : Vld2 l vwCl gTbl con_929 := conR_ok3 gT_all (hd_929) rfl pn_RX1 tk_X1_fewestAway bo_RX1 xo_RX1 (cto_929 l) ch_929 (cut_all cc_929)
/-- RookHusting least -/
noncomputable def gi_566 : GI := jl_n [gp_234, gp_307]
noncomputable def ac_539 : AC := .inl (11, jl_n [vp_61, jl_6 4 1, jl_8 18 10])
noncomputable def ac_540 : AC := .inl (4, jl_n [vp_62, jl_8 26 3, jl_1 28 2, jl_8 33 5, jl_6 5 1, jl_8 36 2, jl_6 6 1])
noncomputable def hc_117 : List AC := [ac_539, .inl (9, [(6, 2, 0), (8, 19, 0)]), ac_540, .inl (1, [(6, 2, 0), (8, 38, 0)]), am_7, am_5]
noncomputable def gi_567 : GI := jl_n [gp_234, gp_307, jl_t]
noncomputable def hq_514 : HP := [(false, ac_539), (false, .inl (9, [(6, 2, 0), (8, 19, 0)])), (false, ac_540), (false, .inl (1, [(6, 2, 0), (8, 38, 0)])), (false, am_7), (false, am_5)]
noncomputable def con_930 : Con2 := ((yX11_least, cX11_least, 2, (some .int)), (6, 151), ([(6, 0, 0), (1, 1, 0)], gi_566, hc_117, []), [((1, 39, 0), gi_567, hq_514, [], [1])])
theorem hd_930 : con_930.1 = (yX11_least, cX11_least, 2, (some .int)) := rfl
theorem ck_RX11_229_929 : COK2 RX11 vwCl gTbl 229 0 con_929 := ⟨wd_941, wd_132, mh_X1_fewestAway, .inr (.inr ⟨rfl, wd_938, wd_939, wd_940, ⟨_, rfl, pd_X1_fewestAway⟩, 1, _, TX1, 2, rfl, rfl⟩)⟩
noncomputable def ct_930 : CTB2 := [(2, 156, 0, con_653, [0, 1, 2]), (13, 229, 0, con_929, [3, 2, 4, 5])]
noncomputable def cu_930 : List CUT2 := []
theorem ch_930 : staG tb_X11_least 1 bt_RX11 [] ct_930 [] [] cu_930 12 con_930 = true := by decide +kernel
theorem cto_930 (l : Launch) : CTOK2 l RX11 vwCl gTbl ct_930 := ct2_cons (vl_653 l) ck_RX11_156_653 (ct2_cons (vl_929 l) ck_RX11_229_929 (ct2_nil))
theorem vl_930 (l : Launch) : Vld2 l vwCl gTbl con_930 := conR_ok3 gT_all (hd_930) rfl pn_RX11 tk_X11_least bo_RX11 xo_RX11 (cto_930 l) ch_930 cut_nil
/-- RookHustingModel hatsIn -/
noncomputable def gi_568 : GI := jl_n [gp_180, jl_t]
noncomputable def con_931 : Con2 := ((yX12_hatsIn, cX12_hatsIn, 4, (some .int)), (1, 21), ([(6, 0, 0), (1, 1, 0)], gi_317, [ac_437, ac_438], []), [((1, 70, 0), gi_568, [(false, ac_437), (false, ac_438)], [], [1])])
theorem hd_931 : con_931.1 = (yX12_hatsIn, cX12_hatsIn, 4, (some .int)) := rfl
noncomputable def ct_931 : CTB2 := [(18, 199, 1, con_390, []), (27, 243, 0, con_662, [0, 1])]
noncomputable def gi_569 : GI := jl_n [gp_7, gp_165, jl_z 16, gp_213]
noncomputable def cu_931 : List CUT2 := [((4, [lq 0 6 0, lq 1 1 1, lq 2 1 72, lq 3 1 73], [], gi_569, [(false, ac_437), (false, ac_438)]), [], ([(73, (-1))], 7))]
theorem ch_931 : staG tb_X12_hatsIn 1 bt_RX12 [] ct_931 [] [] cu_931 23 con_931 = true := by decide +kernel
theorem cc_931 : cu_931.all (cutG tb_X12_hatsIn 1 bt_RX12 [] ct_931 [] [] cu_931 23 con_931) = true := by decide +kernel
theorem cto_931 (l : Launch) : CTOK2 l RX12 vwCl gTbl ct_931 := ct2_cons (vl_390 l) ck_RX12_199_390 (ct2_cons (vl_662 l) ck_RX12_243_662 (ct2_nil))
theorem vl_931 (l : Launch) : Vld2 l vwCl gTbl con_931 := conR_ok3 gT_all (hd_931) rfl pn_RX12 tk_X12_hatsIn bo_RX12 xo_RX12 (cto_931 l) ch_931 (cut_all cc_931)
/-- RookHustingModel least -/
noncomputable def hc_118 : List AC := [ac_469, ac_438, am_8, am_6]
noncomputable def gi_570 : GI := jl_n [gp_245, gp_309]
noncomputable def ac_541 : AC := .inl (12, jl_n [vp_66, jl_8 47 27])
noncomputable def hq_515 : HP := [(true, ac_541), (false, ac_438), (true, am_8), (true, am_6)]
noncomputable def con_932 : Con2 := ((yX12_least, cX12_least, 3, (some .int)), (5, 121), ([(6, 0, 0), (1, 1, 0)], gi_432, hc_118, []), [((1, 70, 0), gi_570, hq_515, [], tg_1)])
theorem hd_932 : con_932.1 = (yX12_least, cX12_least, 3, (some .int)) := rfl
theorem ck_RX12_298_931 : COK2 RX12 vwCl gTbl 298 0 con_931 := ⟨wd_1781, wd_137, mh_X12_hatsIn, .inr (.inr ⟨rfl, wd_1778, wd_1780, wd_86, ⟨_, rfl, pd_X12_hatsIn⟩, 12, _, TX12, 45, rfl, rfl⟩)⟩
noncomputable def ct_932 : CTB2 := [(2, 236, 0, con_656, [0, 1]), (12, 249, 0, con_665, [0, 1, 2, 3]), (45, 298, 0, con_931, [0, 1]), (54, 269, 0, con_692, [0, 1]), (54, 269, 0, con_787, [0, 1]), (54, 269, 0, con_818, [0, 1]), (54, 269, 0, con_834, [0, 1]), (54, 269, 0, con_842, [0, 1]), (63, 277, 0, con_753, [0, 1, 2, 3]), (63, 277, 0, con_801, [0, 1, 2, 3]), (63, 277, 0, con_825, [0, 1, 2, 3]), (63, 277, 0, con_837, [0, 1, 2, 3]), (63, 277, 0, con_844, [0, 1, 2, 3]), (75, 298, 0, con_931, [0, 1])]
noncomputable def gi_571 : GI := jl_n [gp_310, jl_i 5 5, gp_311]
noncomputable def ac_542 : AC := .inl (12, jl_n [vp_59, jl_1 91 1, jl_8 47 27])
noncomputable def hq_516 : HP := [(true, ac_542), (false, ac_438), (true, am_8), (true, am_6)]
noncomputable def gi_572 : GI := jl_n [gp_310, jl_i 4 4, gp_311]
noncomputable def gi_573 : GI := jl_n [gp_310, jl_i 3 3, gp_311]
noncomputable def gi_574 : GI := jl_n [gp_310, jl_i 2 2, gp_311]
noncomputable def gi_575 : GI := jl_n [gp_310, jl_i 1 1, gp_311]
noncomputable def cu_932 : List CUT2 := [((24, [lq 0 6 0, lq 1 1 1, lq 2 1 72], [], gi_571, hq_516), [], ([(90, (-1))], 128)), ((24, [lq 0 6 0, lq 1 1 1, lq 2 1 72], [], gi_572, hq_516), [], ([(90, (-1))], 128)), ((24, [lq 0 6 0, lq 1 1 1, lq 2 1 72], [], gi_573, hq_516), [], ([(90, (-1))], 128)), ((24, [lq 0 6 0, lq 1 1 1, lq 2 1 72], [], gi_574, hq_516), [], ([(90, (-1))], 128)), ((24, [lq 0 6 0, lq 1 1 1, lq 2 1 72], [], gi_575, hq_516), [], ([(90, (-1))], 128))]
theorem ch_932 : staG tb_X12_least 1 bt_RX12 [] ct_932 [(11, [(1, (2, 1, 5), 0, 0)])] [] cu_932 40 con_932 = true := by decide +kernel
theorem cc_932 : cu_932.all (cutG tb_X12_least 1 bt_RX12 [] ct_932 [(11, [(1, (2, 1, 5), 0, 0)])] [] cu_932 40 con_932) = true := by decide +kernel
theorem cto_932 (l : Launch) : CTOK2 l RX12 vwCl gTbl ct_932 := ct2_cons (vl_656 l) ck_RX12_236_656 (ct2_cons (vl_665 l) ck_RX12_249_665 (ct2_cons (vl_931 l) ck_RX12_298_931 (ct2_cons (vl_692 l) ck_RX12_269_692 (ct2_cons (vl_787 l) ck_RX12_269_787 (ct2_cons (vl_818 l) ck_RX12_269_818 (ct2_cons (vl_834 l) ck_RX12_269_834 (ct2_cons (vl_842 l) ck_RX12_269_842 (ct2_cons (vl_753 l) ck_RX12_277_753 (ct2_cons (vl_801 l) ck_RX12_277_801 (ct2_cons (vl_825 l) ck_RX12_277_825 (ct2_cons (vl_837 l) ck_RX12_277_837 (ct2_cons (vl_844 l) ck_RX12_277_844 (ct2_cons (vl_931 l) ck_RX12_298_931 (ct2_nil))))))))))))))
theorem vl_932 (l : Launch) : Vld2 l vwCl gTbl con_932 := conR_ok3 gT_all (hd_932) rfl pn_RX12 tk_X12_least bo_RX12 xo_RX12 (cto_932 l) ch_932 (cut_all cc_932)
/-- RookHusting$Election hatsFor -/
noncomputable def ac_543 : AC := .inl (4, jl_n [jl_8 15 7, jl_1 16 1, jl_8 21 5, jl_6 4 1, jl_8 25 3])
noncomputable def hc_119 : List AC := [.inl (1, [(6, 2, 0), (6, 1, 0)]), am_5, ac_543, am_7]
noncomputable def hq_517 : HP := [(false, .inl (1, [(6, 2, 0), (6, 1, 0)])), (false, am_5), (false, ac_543), (false, am_7)]
noncomputable def con_933 : Con2 := ((yX1_hatsFor, cX1_hatsFor, 13, (some .int)), (1, 20), ([(6, 0, 0), (6, 1, 0), (1, 2, 0), (1, 3, 0), (1, 4, 0), (1, 5, 0)], gi_343, hc_119, []), [((1, 25, 0), gi_344, hq_517, [], [1])])
theorem hd_933 : con_933.1 = (yX1_hatsFor, cX1_hatsFor, 13, (some .int)) := rfl
noncomputable def cu_933 : List CUT2 := [((26, [lq 0 6 0, lq 1 6 1, lq 2 1 2, lq 3 1 28, lq 4 1 4, lq 5 1 5, lq 6 1 31, lq 7 1 32, lq 8 1 33, lq 9 1 34], [], gi_345, hq_517), [], ([(34, (-1))], 7))]
theorem ch_933 : staG tb_X1_hatsFor 1 bt_RX1 [] ct_671 [] [] cu_933 54 con_933 = true := by decide +kernel
theorem cc_933 : cu_933.all (cutG tb_X1_hatsFor 1 bt_RX1 [] ct_671 [] [] cu_933 54 con_933) = true := by decide +kernel
theorem vl_933 (l : Launch) : Vld2 l vwCl gTbl con_933 := conR_ok3 gT_all (hd_933) rfl pn_RX1 tk_X1_hatsFor bo_RX1 xo_RX1 (cto_671 l) ch_933 (cut_all cc_933)
/-- RookHusting$Election firstOfMost -/
noncomputable def ac_544 : AC := .inl (4, jl_n [jl_8 13 6, jl_1 15 2, jl_8 20 5, jl_6 4 1, jl_8 24 3])
noncomputable def hc_120 : List AC := [.inl (1, [(6, 2, 0), (6, 1, 0)]), am_5, ac_544, am_7]
noncomputable def hq_518 : HP := [(false, .inl (1, [(6, 2, 0), (6, 1, 0)])), (false, am_5), (false, ac_544), (false, am_7)]
noncomputable def con_934 : Con2 := ((yX1_firstOfMost, cX1_firstOfMost, 9, (some .int)), (2, 52), ([(6, 0, 0), (6, 1, 0), (1, 2, 0), (1, 3, 0), (1, 4, 0)], gi_374, hc_120, []), [((1, 24, 0), gi_375, hq_518, [], [1])])
theorem hd_934 : con_934.1 = (yX1_firstOfMost, cX1_firstOfMost, 9, (some .int)) := rfl
theorem ck_RX1_49_933 : COK2 RX1 vwCl gTbl 49 0 con_933 := ⟨wd_803, wd_132, mh_X1_hatsFor, .inr (.inr ⟨rfl, wd_824, wd_801, wd_802, ⟨_, rfl, pd_X1_hatsFor⟩, 1, _, TX1, 2, rfl, rfl⟩)⟩
noncomputable def ct_934 : CTB2 := [(24, 45, 2, con_46, []), (38, 49, 0, con_933, [0, 1, 2, 3])]
noncomputable def cu_934 : List CUT2 := [((9, [lq 0 6 0, lq 1 6 1, lq 2 1 2, lq 3 1 3, lq 4 1 4, lq 5 1 29, lq 6 1 30, lq 7 1 31], [], gi_376, hq_518), [], ([(31, (-1))], 5))]
theorem ch_934 : staG tb_X1_firstOfMost 1 bt_RX1 [] ct_934 [] [] cu_934 29 con_934 = true := by decide +kernel
theorem cc_934 : cu_934.all (cutG tb_X1_firstOfMost 1 bt_RX1 [] ct_934 [] [] cu_934 29 con_934) = true := by decide +kernel
theorem cto_934 (l : Launch) : CTOK2 l RX1 vwCl gTbl ct_934 := ct2_cons (vl_46 l) ck_RX1_45_46 (ct2_cons (vl_933 l) ck_RX1_49_933 (ct2_nil))
theorem vl_934 (l : Launch) : Vld2 l vwCl gTbl con_934 := conR_ok3 gT_all (hd_934) rfl pn_RX1 tk_X1_firstOfMost bo_RX1 xo_RX1 (cto_934 l) ch_934 (cut_all cc_934)
/-- RookHusting$Election lastOfFewest -/
noncomputable def ac_545 : AC := .inl (4, jl_n [jl_8 12 6, jl_1 14 2, jl_8 19 5, jl_6 4 1, jl_8 23 3])
noncomputable def hc_121 : List AC := [.inl (1, [(6, 2, 0), (6, 1, 0)]), am_5, ac_545, am_7]
noncomputable def hq_519 : HP := [(false, .inl (1, [(6, 2, 0), (6, 1, 0)])), (false, am_5), (false, ac_545), (false, am_7)]
noncomputable def con_935 : Con2 := ((yX1_lastOfFewest, cX1_lastOfFewest, 8, (some .int)), (2, 52), ([(6, 0, 0), (6, 1, 0), (1, 2, 0), (1, 3, 0)], gi_377, hc_121, []), [((1, 23, 0), gi_378, hq_519, [], [1])])
theorem hd_935 : con_935.1 = (yX1_lastOfFewest, cX1_lastOfFewest, 8, (some .int)) := rfl
noncomputable def ct_935 : CTB2 := [(25, 45, 2, con_46, []), (38, 49, 0, con_933, [0, 1, 2, 3])]
noncomputable def cu_935 : List CUT2 := [((10, [lq 0 6 0, lq 1 6 1, lq 2 1 2, lq 3 1 3, lq 4 1 27, lq 5 1 28, lq 6 1 29], [], gi_379, hq_519), [], ([(29, (-1))], 5))]
theorem ch_935 : staG tb_X1_lastOfFewest 1 bt_RX1 [] ct_935 [] [] cu_935 29 con_935 = true := by decide +kernel
theorem cc_935 : cu_935.all (cutG tb_X1_lastOfFewest 1 bt_RX1 [] ct_935 [] [] cu_935 29 con_935) = true := by decide +kernel
theorem cto_935 (l : Launch) : CTOK2 l RX1 vwCl gTbl ct_935 := ct2_cons (vl_46 l) ck_RX1_45_46 (ct2_cons (vl_933 l) ck_RX1_49_933 (ct2_nil))
theorem vl_935 (l : Launch) : Vld2 l vwCl gTbl con_935 := conR_ok3 gT_all (hd_935) rfl pn_RX1 tk_X1_lastOfFewest bo_RX1 xo_RX1 (cto_935 l) ch_935 (cut_all cc_935)
/-- RookHusting$Election winner -/
noncomputable def con_936 : Con2 := ((yX1_winner, cX1_winner, 7, (some .int)), (3, 80), ([(6, 0, 0), (6, 1, 0), (1, 2, 0), (1, 3, 0), (1, 4, 0)], gi_374, hc_120, []), [((1, 24, 0), gi_375, hq_518, [], [1])])
theorem hd_936 : con_936.1 = (yX1_winner, cX1_winner, 7, (some .int)) := rfl
theorem ck_RX1_38_934 : COK2 RX1 vwCl gTbl 38 0 con_934 := ⟨wd_828, wd_132, mh_X1_firstOfMost, .inr (.inr ⟨rfl, wd_825, wd_827, wd_17, ⟨_, rfl, pd_X1_firstOfMost⟩, 1, _, TX1, 2, rfl, rfl⟩)⟩
theorem ck_RX1_34_935 : COK2 RX1 vwCl gTbl 34 0 con_935 := ⟨wd_821, wd_132, mh_X1_lastOfFewest, .inr (.inr ⟨rfl, wd_818, wd_820, wd_16, ⟨_, rfl, pd_X1_lastOfFewest⟩, 1, _, TX1, 2, rfl, rfl⟩)⟩
noncomputable def ct_936 : CTB2 := [(19, 19, 1, con_670, []), (35, 34, 0, con_935, [0, 1, 2, 3]), (57, 38, 0, con_934, [0, 1, 2, 3])]
noncomputable def cu_936 : List CUT2 := [((11, [lq 0 6 0, lq 1 6 1, lq 2 1 2, lq 3 0 2, lq 4 1 4, lq 5 1 29, lq 6 1 30], [], gi_380, hq_518), [], ([(30, (-1))], 5))]
theorem ch_936 : staG tb_X1_winner 1 bt_RX1 [] ct_936 [] [] cu_936 24 con_936 = true := by decide +kernel
theorem cc_936 : cu_936.all (cutG tb_X1_winner 1 bt_RX1 [] ct_936 [] [] cu_936 24 con_936) = true := by decide +kernel
theorem cto_936 (l : Launch) : CTOK2 l RX1 vwCl gTbl ct_936 := ct2_cons (vl_670 l) ck_RX1_19_670 (ct2_cons (vl_935 l) ck_RX1_34_935 (ct2_cons (vl_934 l) ck_RX1_38_934 (ct2_nil)))
theorem vl_936 (l : Launch) : Vld2 l vwCl gTbl con_936 := conR_ok3 gT_all (hd_936) rfl pn_RX1 tk_X1_winner bo_RX1 xo_RX1 (cto_936 l) ch_936 (cut_all cc_936)
/-- RookHusting$Election gainsBehind -/
noncomputable def gi_576 : GI := jl_n [gp_183, jl_m 0 4, gp_312, jl_z 9]
noncomputable def ac_546 : AC := .inl (4, jl_n [jl_8 9 2, jl_1 10 1, jl_8 13 3, jl_1 15 2, jl_8 20 5, jl_6 4 1, jl_8 23 2, jl_6 5 1])
noncomputable def hc_122 : List AC := [.inl (1, [(6, 1, 0), (6, 2, 0)]), ac_546, am_5, am_7, am_5]
noncomputable def gi_577 : GI := jl_n [gp_183, jl_m 0 4, gp_312, jl_z 10]
noncomputable def hq_520 : HP := [(false, .inl (1, [(6, 1, 0), (6, 2, 0)])), (false, ac_546), (false, am_5), (false, am_7), (false, am_5)]
noncomputable def gi_578 : GI := jl_n [gp_313, gp_312, jl_z 10]
noncomputable def con_979 : Con2 := ((yX1_gainsBehind, cX1_gainsBehind, 7, (some .boolean)), (4, 106), ([(6, 0, 0), (1, 1, 0), (1, 2, 0), (1, 3, 0), (0, 5, 0)], gi_576, hc_122, []), [((0, 0, 0), gi_577, hq_520, [], [1]), ((0, 1, 0), gi_578, hq_520, [], [1])])
theorem hd_979 : con_979.1 = (yX1_gainsBehind, cX1_gainsBehind, 7, (some .boolean)) := rfl
theorem ck_RX1_64_936 : COK2 RX1 vwCl gTbl 64 0 con_936 := ⟨wd_817, wd_132, mh_X1_winner, .inr (.inr ⟨rfl, wd_841, wd_815, wd_816, ⟨_, rfl, pd_X1_winner⟩, 1, _, TX1, 2, rfl, rfl⟩)⟩
noncomputable def ct_979 : CTB2 := [(6, 57, 0, con_852, [0, 1]), (17, 64, 0, con_936, [0, 2, 1, 3]), (40, 70, 0, con_909, [0, 1, 4])]
noncomputable def cu_979 : List CUT2 := []
theorem ch_979 : staG tb_X1_gainsBehind 1 bt_RX1 [] ct_979 [] [] cu_979 30 con_979 = true := by decide +kernel
theorem cto_979 (l : Launch) : CTOK2 l RX1 vwCl gTbl ct_979 := ct2_cons (vl_852 l) ck_RX1_57_852 (ct2_cons (vl_936 l) ck_RX1_64_936 (ct2_cons (vl_909 l) ck_RX1_70_909 (ct2_nil)))
theorem vl_979 (l : Launch) : Vld2 l vwCl gTbl con_979 := conR_ok3 gT_all (hd_979) rfl pn_RX1 tk_X1_gainsBehind bo_RX1 xo_RX1 (cto_979 l) ch_979 cut_nil
/-- RookHusting$Election gainsBehind -/
noncomputable def hq_521 : HP := [(false, .inl (1, [(6, 1, 0), (6, 2, 0)])), (false, ac_546), (true, am_5), (false, am_7), (false, am_5)]
noncomputable def con_980 : Con2 := ((yX1_gainsBehind, cX1_gainsBehind, 7, (some .boolean)), (5, 132), ([(6, 0, 0), (1, 1, 0), (1, 2, 0), (1, 3, 0), (0, 4, 0)], gi_576, hc_122, []), [((0, 0, 0), gi_577, hq_521, [], [1]), ((0, 1, 0), gi_578, hq_521, [], [1])])
theorem hd_980 : con_980.1 = (yX1_gainsBehind, cX1_gainsBehind, 7, (some .boolean)) := rfl
theorem ck_RX1_96_979 : COK2 RX1 vwCl gTbl 96 0 con_979 := ⟨wd_966, wd_132, mh_X1_gainsBehind, .inr (.inr ⟨rfl, wd_963, wd_965, wd_30, ⟨_, rfl, pd_X1_gainsBehind⟩, 1, _, TX1, 2, rfl, rfl⟩)⟩
noncomputable def ct_980 : CTB2 := [(6, 57, 0, con_852, [0, 1]), (17, 64, 0, con_936, [0, 2, 1, 3]), (40, 70, 0, con_909, [0, 1, 4]), (74, 45, 2, con_46, []), (105, 96, 0, con_979, [0, 1, 2, 3, 4])]
noncomputable def gi_579 : GI := jl_n [gp_313, gp_312, jl_z 14, jl_i 0 4, jl_i 0 5]
noncomputable def cu_980 : List CUT2 := [((59, [lq 0 6 0, lq 1 1 1, lq 2 1 2, lq 3 1 3, lq 4 0 4, lq 5 1 29, lq 6 1 30], [], gi_579, hq_521), [], ([(30, (-1))], 5))]
theorem ch_980 : staG tb_X1_gainsBehind 1 bt_RX1 [] ct_980 [] [] cu_980 45 con_980 = true := by decide +kernel
theorem cc_980 : cu_980.all (cutG tb_X1_gainsBehind 1 bt_RX1 [] ct_980 [] [] cu_980 45 con_980) = true := by decide +kernel
theorem cto_980 (l : Launch) : CTOK2 l RX1 vwCl gTbl ct_980 := ct2_cons (vl_852 l) ck_RX1_57_852 (ct2_cons (vl_936 l) ck_RX1_64_936 (ct2_cons (vl_909 l) ck_RX1_70_909 (ct2_cons (vl_46 l) ck_RX1_45_46 (ct2_cons (vl_979 l) ck_RX1_96_979 (ct2_nil)))))
theorem vl_980 (l : Launch) : Vld2 l vwCl gTbl con_980 := conR_ok3 gT_all (hd_980) rfl pn_RX1 tk_X1_gainsBehind bo_RX1 xo_RX1 (cto_980 l) ch_980 (cut_all cc_980)
/-- RookHusting$Election gainsBehind -/
noncomputable def con_981 : Con2 := ((yX1_gainsBehind, cX1_gainsBehind, 7, (some .boolean)), (6, 158), ([(6, 0, 0), (1, 1, 0), (1, 2, 0), (1, 3, 0), (0, 3, 0)], gi_576, hc_122, []), [((0, 0, 0), gi_577, hq_521, [], [1]), ((0, 1, 0), gi_578, hq_521, [], [1])])
theorem hd_981 : con_981.1 = (yX1_gainsBehind, cX1_gainsBehind, 7, (some .boolean)) := rfl
theorem ck_RX1_96_980 : COK2 RX1 vwCl gTbl 96 0 con_980 := ⟨wd_966, wd_132, mh_X1_gainsBehind, .inr (.inr ⟨rfl, wd_963, wd_965, wd_30, ⟨_, rfl, pd_X1_gainsBehind⟩, 1, _, TX1, 2, rfl, rfl⟩)⟩
noncomputable def ct_981 : CTB2 := [(6, 57, 0, con_852, [0, 1]), (17, 64, 0, con_936, [0, 2, 1, 3]), (40, 70, 0, con_909, [0, 1, 4]), (74, 45, 2, con_46, []), (105, 96, 0, con_980, [0, 1, 2, 3, 4])]
noncomputable def cu_981 : List CUT2 := [((59, [lq 0 6 0, lq 1 1 1, lq 2 1 2, lq 3 1 3, lq 4 0 3, lq 5 1 29, lq 6 1 30], [], gi_579, hq_521), [], ([(30, (-1))], 5))]
theorem ch_981 : staG tb_X1_gainsBehind 1 bt_RX1 [] ct_981 [] [] cu_981 45 con_981 = true := by decide +kernel
theorem cc_981 : cu_981.all (cutG tb_X1_gainsBehind 1 bt_RX1 [] ct_981 [] [] cu_981 45 con_981) = true := by decide +kernel
theorem cto_981 (l : Launch) : CTOK2 l RX1 vwCl gTbl ct_981 := ct2_cons (vl_852 l) ck_RX1_57_852 (ct2_cons (vl_936 l) ck_RX1_64_936 (ct2_cons (vl_909 l) ck_RX1_70_909 (ct2_cons (vl_46 l) ck_RX1_45_46 (ct2_cons (vl_980 l) ck_RX1_96_980 (ct2_nil)))))
theorem vl_981 (l : Launch) : Vld2 l vwCl gTbl con_981 := conR_ok3 gT_all (hd_981) rfl pn_RX1 tk_X1_gainsBehind bo_RX1 xo_RX1 (cto_981 l) ch_981 (cut_all cc_981)
/-- RookHusting$Election gainsBehind -/
noncomputable def con_982 : Con2 := ((yX1_gainsBehind, cX1_gainsBehind, 7, (some .boolean)), (7, 184), ([(6, 0, 0), (1, 1, 0), (1, 2, 0), (1, 3, 0), (0, 2, 0)], gi_576, hc_122, []), [((0, 0, 0), gi_577, hq_521, [], [1]), ((0, 1, 0), gi_578, hq_521, [], [1])])
theorem hd_982 : con_982.1 = (yX1_gainsBehind, cX1_gainsBehind, 7, (some .boolean)) := rfl
theorem ck_RX1_96_981 : COK2 RX1 vwCl gTbl 96 0 con_981 := ⟨wd_966, wd_132, mh_X1_gainsBehind, .inr (.inr ⟨rfl, wd_963, wd_965, wd_30, ⟨_, rfl, pd_X1_gainsBehind⟩, 1, _, TX1, 2, rfl, rfl⟩)⟩
noncomputable def ct_982 : CTB2 := [(6, 57, 0, con_852, [0, 1]), (17, 64, 0, con_936, [0, 2, 1, 3]), (40, 70, 0, con_909, [0, 1, 4]), (74, 45, 2, con_46, []), (105, 96, 0, con_981, [0, 1, 2, 3, 4])]
noncomputable def cu_982 : List CUT2 := [((59, [lq 0 6 0, lq 1 1 1, lq 2 1 2, lq 3 1 3, lq 4 0 2, lq 5 1 29, lq 6 1 30], [], gi_579, hq_521), [], ([(30, (-1))], 5))]
theorem ch_982 : staG tb_X1_gainsBehind 1 bt_RX1 [] ct_982 [] [] cu_982 45 con_982 = true := by decide +kernel
theorem cc_982 : cu_982.all (cutG tb_X1_gainsBehind 1 bt_RX1 [] ct_982 [] [] cu_982 45 con_982) = true := by decide +kernel
theorem cto_982 (l : Launch) : CTOK2 l RX1 vwCl gTbl ct_982 := ct2_cons (vl_852 l) ck_RX1_57_852 (ct2_cons (vl_936 l) ck_RX1_64_936 (ct2_cons (vl_909 l) ck_RX1_70_909 (ct2_cons (vl_46 l) ck_RX1_45_46 (ct2_cons (vl_981 l) ck_RX1_96_981 (ct2_nil)))))
theorem vl_982 (l : Launch) : Vld2 l vwCl gTbl con_982 := conR_ok3 gT_all (hd_982) rfl pn_RX1 tk_X1_gainsBehind bo_RX1 xo_RX1 (cto_982 l) ch_982 (cut_all cc_982)
/-- RookHusting$Election gainsBehind -/
noncomputable def con_983 : Con2 := ((yX1_gainsBehind, cX1_gainsBehind, 7, (some .boolean)), (8, 210), ([(6, 0, 0), (1, 1, 0), (1, 2, 0), (1, 3, 0), (0, 1, 0)], gi_576, hc_122, []), [((0, 0, 0), gi_577, hq_521, [], [1]), ((0, 1, 0), gi_578, hq_521, [], [1])])
theorem hd_983 : con_983.1 = (yX1_gainsBehind, cX1_gainsBehind, 7, (some .boolean)) := rfl
theorem ck_RX1_96_982 : COK2 RX1 vwCl gTbl 96 0 con_982 := ⟨wd_966, wd_132, mh_X1_gainsBehind, .inr (.inr ⟨rfl, wd_963, wd_965, wd_30, ⟨_, rfl, pd_X1_gainsBehind⟩, 1, _, TX1, 2, rfl, rfl⟩)⟩
noncomputable def ct_983 : CTB2 := [(6, 57, 0, con_852, [0, 1]), (17, 64, 0, con_936, [0, 2, 1, 3]), (40, 70, 0, con_909, [0, 1, 4]), (74, 45, 2, con_46, []), (105, 96, 0, con_982, [0, 1, 2, 3, 4])]
noncomputable def cu_983 : List CUT2 := [((59, [lq 0 6 0, lq 1 1 1, lq 2 1 2, lq 3 1 3, lq 4 0 1, lq 5 1 29, lq 6 1 30], [], gi_579, hq_521), [], ([(30, (-1))], 5))]
theorem ch_983 : staG tb_X1_gainsBehind 1 bt_RX1 [] ct_983 [] [] cu_983 45 con_983 = true := by decide +kernel
theorem cc_983 : cu_983.all (cutG tb_X1_gainsBehind 1 bt_RX1 [] ct_983 [] [] cu_983 45 con_983) = true := by decide +kernel
theorem cto_983 (l : Launch) : CTOK2 l RX1 vwCl gTbl ct_983 := ct2_cons (vl_852 l) ck_RX1_57_852 (ct2_cons (vl_936 l) ck_RX1_64_936 (ct2_cons (vl_909 l) ck_RX1_70_909 (ct2_cons (vl_46 l) ck_RX1_45_46 (ct2_cons (vl_982 l) ck_RX1_96_982 (ct2_nil)))))
theorem vl_983 (l : Launch) : Vld2 l vwCl gTbl con_983 := conR_ok3 gT_all (hd_983) rfl pn_RX1 tk_X1_gainsBehind bo_RX1 xo_RX1 (cto_983 l) ch_983 (cut_all cc_983)
/-- RookHusting$Election gainsBehind -/
noncomputable def con_984 : Con2 := ((yX1_gainsBehind, cX1_gainsBehind, 7, (some .boolean)), (9, 236), ([(6, 0, 0), (1, 1, 0), (1, 2, 0), (1, 3, 0), (0, 0, 0)], gi_576, hc_122, []), [((0, 0, 0), gi_577, hq_521, [], [1]), ((0, 1, 0), gi_578, hq_521, [], [1])])
theorem hd_984 : con_984.1 = (yX1_gainsBehind, cX1_gainsBehind, 7, (some .boolean)) := rfl
theorem ck_RX1_96_983 : COK2 RX1 vwCl gTbl 96 0 con_983 := ⟨wd_966, wd_132, mh_X1_gainsBehind, .inr (.inr ⟨rfl, wd_963, wd_965, wd_30, ⟨_, rfl, pd_X1_gainsBehind⟩, 1, _, TX1, 2, rfl, rfl⟩)⟩
noncomputable def ct_984 : CTB2 := [(6, 57, 0, con_852, [0, 1]), (17, 64, 0, con_936, [0, 2, 1, 3]), (40, 70, 0, con_909, [0, 1, 4]), (74, 45, 2, con_46, []), (105, 96, 0, con_983, [0, 1, 2, 3, 4])]
noncomputable def cu_984 : List CUT2 := [((59, [lq 0 6 0, lq 1 1 1, lq 2 1 2, lq 3 1 3, lq 4 0 0, lq 5 1 29, lq 6 1 30], [], gi_579, hq_521), [], ([(30, (-1))], 5))]
theorem ch_984 : staG tb_X1_gainsBehind 1 bt_RX1 [] ct_984 [] [] cu_984 45 con_984 = true := by decide +kernel
theorem cc_984 : cu_984.all (cutG tb_X1_gainsBehind 1 bt_RX1 [] ct_984 [] [] cu_984 45 con_984) = true := by decide +kernel
theorem cto_984 (l : Launch) : CTOK2 l RX1 vwCl gTbl ct_984 := ct2_cons (vl_852 l) ck_RX1_57_852 (ct2_cons (vl_936 l) ck_RX1_64_936 (ct2_cons (vl_909 l) ck_RX1_70_909 (ct2_cons (vl_46 l) ck_RX1_45_46 (ct2_cons (vl_983 l) ck_RX1_96_983 (ct2_nil)))))
theorem vl_984 (l : Launch) : Vld2 l vwCl gTbl con_984 := conR_ok3 gT_all (hd_984) rfl pn_RX1 tk_X1_gainsBehind bo_RX1 xo_RX1 (cto_984 l) ch_984 (cut_all cc_984)
/-- RookHusting$Election isGainer -/
noncomputable def gi_580 : GI := jl_n [gp_183, gp_306]
noncomputable def ac_547 : AC := .inl (4, jl_n [jl_8 6 2, jl_1 7 1, jl_8 10 3, jl_1 12 2, jl_8 17 5, jl_6 5 1, jl_8 20 2, jl_6 4 1])
noncomputable def hc_123 : List AC := [.inl (1, [(6, 1, 0), (6, 2, 0)]), ac_547, am_5, am_5, am_7]
noncomputable def gi_581 : GI := jl_n [gp_183, gp_305, jl_z 10]
noncomputable def hq_522 : HP := [(false, .inl (1, [(6, 1, 0), (6, 2, 0)])), (false, ac_547), (true, am_5), (false, am_5), (false, am_7)]
noncomputable def con_985 : Con2 := ((yX1_isGainer, cX1_isGainer, 3, (some .boolean)), (10, 262), ([(6, 0, 0), (1, 1, 0)], gi_580, hc_123, []), [((0, 0, 0), gi_581, hq_522, [], [1]), ((0, 1, 0), gi_581, hq_522, [], [1])])
theorem hd_985 : con_985.1 = (yX1_isGainer, cX1_isGainer, 3, (some .boolean)) := rfl
theorem ck_RX1_96_984 : COK2 RX1 vwCl gTbl 96 0 con_984 := ⟨wd_966, wd_132, mh_X1_gainsBehind, .inr (.inr ⟨rfl, wd_963, wd_965, wd_30, ⟨_, rfl, pd_X1_gainsBehind⟩, 1, _, TX1, 2, rfl, rfl⟩)⟩
noncomputable def ct_985 : CTB2 := [(46, 87, 0, con_928, [0, 1, 3, 4]), (51, 96, 0, con_984, [0, 1, 2, 4, 3])]
noncomputable def gi_582 : GI := jl_n [gp_183, gp_308, jl_i 0 5]
noncomputable def cu_985 : List CUT2 := [((20, [lq 0 6 0, lq 1 1 1, lq 2 1 23], [], gi_582, hq_522), [], ([(23, (-1))], 5))]
theorem ch_985 : staG tb_X1_isGainer 1 bt_RX1 [] ct_985 [] [] cu_985 17 con_985 = true := by decide +kernel
theorem cc_985 : cu_985.all (cutG tb_X1_isGainer 1 bt_RX1 [] ct_985 [] [] cu_985 17 con_985) = true := by decide +kernel
theorem cto_985 (l : Launch) : CTOK2 l RX1 vwCl gTbl ct_985 := ct2_cons (vl_928 l) ck_RX1_87_928 (ct2_cons (vl_984 l) ck_RX1_96_984 (ct2_nil))
theorem vl_985 (l : Launch) : Vld2 l vwCl gTbl con_985 := conR_ok3 gT_all (hd_985) rfl pn_RX1 tk_X1_isGainer bo_RX1 xo_RX1 (cto_985 l) ch_985 (cut_all cc_985)
/-- RookHusting learnPlain -/
noncomputable def gi_583 : GI := jl_n [gp_314, jl_t, gp_308]
noncomputable def ac_548 : AC := .inl (11, jl_n [vp_92, jl_1 17 2])
noncomputable def ac_549 : AC := .inl (4, jl_n [jl_8 21 2, vp_11, vp_89, jl_6 7 1, jl_8 35 2, jl_6 6 1])
noncomputable def hc_124 : List AC := [ac_548, .inl (9, [(6, 2, 0), (8, 18, 0)]), ac_549, .inl (1, [(6, 2, 0), (6, 4, 0)]), am_5, am_5, am_7]
noncomputable def gi_584 : GI := jl_n [gp_314, jl_t, gp_305, jl_z 26, jl_t]
noncomputable def ac_550 : AC := .inl (11, jl_n [vp_92, jl_c 1, jl_1 54 1])
noncomputable def hq_523 : HP := [(true, ac_550), (false, .inl (9, [(6, 2, 0), (8, 18, 0)])), (false, ac_549), (false, .inl (1, [(6, 2, 0), (6, 4, 0)])), (true, am_5), (false, am_5), (false, am_7)]
noncomputable def con_986 : Con2 := ((yX11_learnPlain, cX11_learnPlain, 2, none), (11, 284), ([(6, 0, 0)], gi_583, hc_124, []), [((9, 0, 0), gi_584, hq_523, [], tg_16)])
theorem hd_986 : con_986.1 = (yX11_learnPlain, cX11_learnPlain, 2, none) := rfl
theorem ck_RX11_470_985 : COK2 RX11 vwCl gTbl 470 0 con_985 := ⟨wd_961, wd_132, mh_X1_isGainer, .inr (.inr ⟨rfl, wd_958, wd_959, wd_960, ⟨_, rfl, pd_X1_isGainer⟩, 1, _, TX1, 2, rfl, rfl⟩)⟩
noncomputable def ct_986 : CTB2 := [(34, 470, 0, con_985, [3, 2, 4, 5, 6])]
noncomputable def gi_585 : GI := jl_n [gp_175, gp_305, jl_z 12, jl_i 0 7, gp_259]
noncomputable def ac_551 : AC := .inl (11, jl_n [vp_92, jl_c 0, jl_1 56 1])
noncomputable def hq_524 : HP := [(true, ac_551), (false, .inl (9, [(6, 2, 0), (8, 18, 0)])), (false, ac_549), (false, .inl (1, [(6, 2, 0), (6, 4, 0)])), (true, am_5), (false, am_5), (false, am_7)]
noncomputable def cu_986 : List CUT2 := [((15, [lq 0 6 0, lq 1 1 39], [], gi_585, hq_524), [], ([(39, (-1))], 7))]
theorem ch_986 : staG tb_X11_learnPlain 1 bt_RX11 [] ct_986 [] [] cu_986 24 con_986 = true := by decide +kernel
theorem cc_986 : cu_986.all (cutG tb_X11_learnPlain 1 bt_RX11 [] ct_986 [] [] cu_986 24 con_986) = true := by decide +kernel
theorem cto_986 (l : Launch) : CTOK2 l RX11 vwCl gTbl ct_986 := ct2_cons (vl_985 l) ck_RX11_470_985 (ct2_nil)
theorem vl_986 (l : Launch) : Vld2 l vwCl gTbl con_986 := conR_ok3 gT_all (hd_986) rfl pn_RX11 tk_X11_learnPlain bo_RX11 xo_RX11 (cto_986 l) ch_986 (cut_all cc_986)
/-- RookHusting gains -/
noncomputable def gi_586 : GI := jl_n [gp_7, gp_315, gp_308]
noncomputable def ac_552 : AC := .inl (11, jl_n [vp_61, jl_6 4 1, jl_8 16 8, jl_1 18 2])
noncomputable def ac_553 : AC := .inl (4, jl_n [vp_62, jl_8 26 3, jl_1 28 2, jl_8 33 5, jl_6 7 1, jl_8 36 2, jl_6 6 1])
noncomputable def hc_125 : List AC := [ac_552, .inl (9, [(6, 2, 0), (8, 19, 0)]), ac_553, .inl (1, [(6, 2, 0), (6, 4, 0)]), am_5, am_5, am_7]
noncomputable def gi_587 : GI := jl_n [gp_7, gp_315, gp_308, jl_m 1 1, gp_315]
noncomputable def ac_554 : AC := .inl (11, jl_n [vp_61, jl_6 4 1, jl_8 16 8, jl_1 56 2])
noncomputable def hq_525 : HP := [(true, ac_554), (false, .inl (9, [(6, 2, 0), (8, 19, 0)])), (false, ac_553), (false, .inl (1, [(6, 2, 0), (6, 4, 0)])), (true, am_5), (false, am_5), (false, am_7)]
noncomputable def con_987 : Con2 := ((yX11_gains, cX11_gains, 2, (some .int)), (12, 305), ([(6, 0, 0), (1, 1, 0)], gi_586, hc_125, []), [((1, 39, 0), gi_587, hq_525, [], tg_2)])
theorem hd_987 : con_987.1 = (yX11_gains, cX11_gains, 2, (some .int)) := rfl
theorem ck_RX11_232_986 : COK2 RX11 vwCl gTbl 232 0 con_986 := ⟨wd_957, wd_125, mh_X11_learnPlain, .inr (.inr ⟨rfl, wd_954, wd_956, wd_29, ⟨_, rfl, pd_X11_learnPlain⟩, 11, _, TX11, 16, rfl, rfl⟩)⟩
noncomputable def ct_987 : CTB2 := [(2, 165, 0, con_658, [0, 1, 2]), (12, 232, 0, con_986, [0, 1, 2, 3, 4, 5, 6]), (20, 183, 1, con_46, [])]
noncomputable def cu_987 : List CUT2 := []
theorem ch_987 : staG tb_X11_gains 1 bt_RX11 [] ct_987 [] [] cu_987 16 con_987 = true := by decide +kernel
theorem cto_987 (l : Launch) : CTOK2 l RX11 vwCl gTbl ct_987 := ct2_cons (vl_658 l) ck_RX11_165_658 (ct2_cons (vl_986 l) ck_RX11_232_986 (ct2_cons (vl_46 l) ck_RX11_183_46 (ct2_nil)))
theorem vl_987 (l : Launch) : Vld2 l vwCl gTbl con_987 := conR_ok3 gT_all (hd_987) rfl pn_RX11 tk_X11_gains bo_RX11 xo_RX11 (cto_987 l) ch_987 cut_nil
/-- RookHustingModel doesGain -/
noncomputable def gi_588 : GI := jl_n [gp_313, jl_i 0 3124, gp_186, gp_219]
noncomputable def ac_555 : AC := .inl (12, jl_n [vp_93, jl_8 20 13, jl_6 4 2, jl_1 23 1, jl_8 50 27])
noncomputable def ac_556 : AC := .inr (1, jl_n [js_1 55 5, jl_x (1, (0, 5, 0)), sp_130])
noncomputable def hc_126 : List AC := [ac_555, ac_556, am_6, am_8]
noncomputable def gi_589 : GI := jl_n [gp_313, jl_i 0 3124, gp_186, gp_220]
noncomputable def hq_526 : HP := [(false, ac_555), (false, ac_556), (false, am_6), (true, am_8)]
noncomputable def con_988 : Con2 := ((yX12_doesGain, cX12_doesGain, 9, (some .boolean)), (5, 121), ([(6, 0, 0), (1, 1, 0), (1, 2, 0), (1, 3, 0), (0, 0, 0)], gi_588, hc_126, []), [((0, 0, 0), gi_589, hq_526, [], [1]), ((0, 1, 0), gi_589, hq_526, [], [1])])
theorem hd_988 : con_988.1 = (yX12_doesGain, cX12_doesGain, 9, (some .boolean)) := rfl
noncomputable def ct_988 : CTB2 := [(85, 269, 0, con_692, [0, 1]), (94, 277, 0, con_753, [0, 1, 3, 2]), (110, 283, 0, con_912, [0, 1])]
noncomputable def cu_988 : List CUT2 := []
theorem ch_988 : staG tb_X12_doesGain 1 bt_RX12 [] ct_988 [] [] cu_988 37 con_988 = true := by decide +kernel
theorem cto_988 (l : Launch) : CTOK2 l RX12 vwCl gTbl ct_988 := ct2_cons (vl_692 l) ck_RX12_269_692 (ct2_cons (vl_753 l) ck_RX12_277_753 (ct2_cons (vl_912 l) ck_RX12_283_912 (ct2_nil)))
theorem vl_988 (l : Launch) : Vld2 l vwCl gTbl con_988 := conR_ok3 gT_all (hd_988) rfl pn_RX12 tk_X12_doesGain bo_RX12 xo_RX12 (cto_988 l) ch_988 cut_nil
/-- RookHustingModel doesGain -/
noncomputable def ac_557 : AC := .inr (1, jl_n [js_1 55 5, jl_x (1, (0, 4, 0)), sp_130])
noncomputable def hc_127 : List AC := [ac_555, ac_557, am_6, am_8]
noncomputable def hq_527 : HP := [(false, ac_555), (false, ac_557), (false, am_6), (true, am_8)]
noncomputable def con_989 : Con2 := ((yX12_doesGain, cX12_doesGain, 9, (some .boolean)), (5, 121), ([(6, 0, 0), (1, 1, 0), (1, 2, 0), (1, 3, 0), (0, 0, 0)], gi_588, hc_127, []), [((0, 0, 0), gi_589, hq_527, [], [1]), ((0, 1, 0), gi_589, hq_527, [], [1])])
theorem hd_989 : con_989.1 = (yX12_doesGain, cX12_doesGain, 9, (some .boolean)) := rfl
noncomputable def ct_989 : CTB2 := [(85, 269, 0, con_787, [0, 1]), (94, 277, 0, con_801, [0, 1, 3, 2]), (110, 283, 0, con_912, [0, 1])]
noncomputable def cu_989 : List CUT2 := []
theorem ch_989 : staG tb_X12_doesGain 1 bt_RX12 [] ct_989 [] [] cu_989 37 con_989 = true := by decide +kernel
theorem cto_989 (l : Launch) : CTOK2 l RX12 vwCl gTbl ct_989 := ct2_cons (vl_787 l) ck_RX12_269_787 (ct2_cons (vl_801 l) ck_RX12_277_801 (ct2_cons (vl_912 l) ck_RX12_283_912 (ct2_nil)))
theorem vl_989 (l : Launch) : Vld2 l vwCl gTbl con_989 := conR_ok3 gT_all (hd_989) rfl pn_RX12 tk_X12_doesGain bo_RX12 xo_RX12 (cto_989 l) ch_989 cut_nil
/-- RookHustingModel doesGain -/
noncomputable def ac_558 : AC := .inr (1, jl_n [js_1 55 5, jl_x (1, (0, 3, 0)), sp_130])
noncomputable def hc_128 : List AC := [ac_555, ac_558, am_6, am_8]
noncomputable def hq_528 : HP := [(false, ac_555), (false, ac_558), (false, am_6), (true, am_8)]
noncomputable def con_990 : Con2 := ((yX12_doesGain, cX12_doesGain, 9, (some .boolean)), (5, 121), ([(6, 0, 0), (1, 1, 0), (1, 2, 0), (1, 3, 0), (0, 0, 0)], gi_588, hc_128, []), [((0, 0, 0), gi_589, hq_528, [], [1]), ((0, 1, 0), gi_589, hq_528, [], [1])])
theorem hd_990 : con_990.1 = (yX12_doesGain, cX12_doesGain, 9, (some .boolean)) := rfl
noncomputable def ct_990 : CTB2 := [(85, 269, 0, con_818, [0, 1]), (94, 277, 0, con_825, [0, 1, 3, 2]), (110, 283, 0, con_912, [0, 1])]
noncomputable def cu_990 : List CUT2 := []
theorem ch_990 : staG tb_X12_doesGain 1 bt_RX12 [] ct_990 [] [] cu_990 37 con_990 = true := by decide +kernel
theorem cto_990 (l : Launch) : CTOK2 l RX12 vwCl gTbl ct_990 := ct2_cons (vl_818 l) ck_RX12_269_818 (ct2_cons (vl_825 l) ck_RX12_277_825 (ct2_cons (vl_912 l) ck_RX12_283_912 (ct2_nil)))
theorem vl_990 (l : Launch) : Vld2 l vwCl gTbl con_990 := conR_ok3 gT_all (hd_990) rfl pn_RX12 tk_X12_doesGain bo_RX12 xo_RX12 (cto_990 l) ch_990 cut_nil
/-- RookHustingModel doesGain -/
noncomputable def ac_559 : AC := .inr (1, jl_n [js_1 55 5, jl_x (1, (0, 2, 0)), sp_130])
noncomputable def hc_129 : List AC := [ac_555, ac_559, am_6, am_8]
noncomputable def hq_529 : HP := [(false, ac_555), (false, ac_559), (false, am_6), (true, am_8)]
noncomputable def con_991 : Con2 := ((yX12_doesGain, cX12_doesGain, 9, (some .boolean)), (5, 121), ([(6, 0, 0), (1, 1, 0), (1, 2, 0), (1, 3, 0), (0, 0, 0)], gi_588, hc_129, []), [((0, 0, 0), gi_589, hq_529, [], [1]), ((0, 1, 0), gi_589, hq_529, [], [1])])
theorem hd_991 : con_991.1 = (yX12_doesGain, cX12_doesGain, 9, (some .boolean)) := rfl
noncomputable def ct_991 : CTB2 := [(85, 269, 0, con_834, [0, 1]), (94, 277, 0, con_837, [0, 1, 3, 2]), (110, 283, 0, con_912, [0, 1])]
noncomputable def cu_991 : List CUT2 := []
theorem ch_991 : staG tb_X12_doesGain 1 bt_RX12 [] ct_991 [] [] cu_991 37 con_991 = true := by decide +kernel
theorem cto_991 (l : Launch) : CTOK2 l RX12 vwCl gTbl ct_991 := ct2_cons (vl_834 l) ck_RX12_269_834 (ct2_cons (vl_837 l) ck_RX12_277_837 (ct2_cons (vl_912 l) ck_RX12_283_912 (ct2_nil)))
theorem vl_991 (l : Launch) : Vld2 l vwCl gTbl con_991 := conR_ok3 gT_all (hd_991) rfl pn_RX12 tk_X12_doesGain bo_RX12 xo_RX12 (cto_991 l) ch_991 cut_nil
/-- RookHustingModel doesGain -/
noncomputable def ac_560 : AC := .inr (1, jl_n [js_1 55 5, jl_x (1, (0, 1, 0)), sp_130])
noncomputable def hc_130 : List AC := [ac_555, ac_560, am_6, am_8]
noncomputable def hq_530 : HP := [(false, ac_555), (false, ac_560), (false, am_6), (true, am_8)]
noncomputable def con_992 : Con2 := ((yX12_doesGain, cX12_doesGain, 9, (some .boolean)), (5, 121), ([(6, 0, 0), (1, 1, 0), (1, 2, 0), (1, 3, 0), (0, 0, 0)], gi_588, hc_130, []), [((0, 0, 0), gi_589, hq_530, [], [1]), ((0, 1, 0), gi_589, hq_530, [], [1])])
theorem hd_992 : con_992.1 = (yX12_doesGain, cX12_doesGain, 9, (some .boolean)) := rfl
noncomputable def ct_992 : CTB2 := [(85, 269, 0, con_842, [0, 1]), (94, 277, 0, con_844, [0, 1, 3, 2]), (110, 283, 0, con_912, [0, 1])]
noncomputable def cu_992 : List CUT2 := []
theorem ch_992 : staG tb_X12_doesGain 1 bt_RX12 [] ct_992 [] [] cu_992 37 con_992 = true := by decide +kernel
theorem cto_992 (l : Launch) : CTOK2 l RX12 vwCl gTbl ct_992 := ct2_cons (vl_842 l) ck_RX12_269_842 (ct2_cons (vl_844 l) ck_RX12_277_844 (ct2_cons (vl_912 l) ck_RX12_283_912 (ct2_nil)))
theorem vl_992 (l : Launch) : Vld2 l vwCl gTbl con_992 := conR_ok3 gT_all (hd_992) rfl pn_RX12 tk_X12_doesGain bo_RX12 xo_RX12 (cto_992 l) ch_992 cut_nil
/-- RookHustingModel doesGain -/
noncomputable def ac_561 : AC := .inr (1, jl_n [js_1 55 5, jl_x (1, (0, 0, 0)), sp_130])
noncomputable def hc_131 : List AC := [ac_555, ac_561, am_6, am_8]
noncomputable def hq_531 : HP := [(false, ac_555), (false, ac_561), (false, am_6), (true, am_8)]
noncomputable def con_993 : Con2 := ((yX12_doesGain, cX12_doesGain, 9, (some .boolean)), (5, 121), ([(6, 0, 0), (1, 1, 0), (1, 2, 0), (1, 3, 0), (0, 0, 0)], gi_588, hc_131, []), [((0, 0, 0), gi_589, hq_531, [], [1]), ((0, 1, 0), gi_589, hq_531, [], [1])])
theorem hd_993 : con_993.1 = (yX12_doesGain, cX12_doesGain, 9, (some .boolean)) := rfl
noncomputable def ct_993 : CTB2 := [(85, 269, 0, con_847, [0, 1]), (94, 277, 0, con_850, [0, 1, 3, 2]), (110, 283, 0, con_912, [0, 1])]
noncomputable def cu_993 : List CUT2 := []
theorem ch_993 : staG tb_X12_doesGain 1 bt_RX12 [] ct_993 [] [] cu_993 37 con_993 = true := by decide +kernel
theorem cto_993 (l : Launch) : CTOK2 l RX12 vwCl gTbl ct_993 := ct2_cons (vl_847 l) ck_RX12_269_847 (ct2_cons (vl_850 l) ck_RX12_277_850 (ct2_cons (vl_912 l) ck_RX12_283_912 (ct2_nil)))
theorem vl_993 (l : Launch) : Vld2 l vwCl gTbl con_993 := conR_ok3 gT_all (hd_993) rfl pn_RX12 tk_X12_doesGain bo_RX12 xo_RX12 (cto_993 l) ch_993 cut_nil
/-- RookHustingModel doesGain -/
noncomputable def hq_532 : HP := [(false, ac_555), (false, ac_556), (true, am_6), (true, am_8)]
noncomputable def con_994 : Con2 := ((yX12_doesGain, cX12_doesGain, 9, (some .boolean)), (5, 121), ([(6, 0, 0), (1, 1, 0), (1, 2, 0), (1, 3, 0), (0, 1, 0)], gi_588, hc_126, []), [((0, 0, 0), gi_589, hq_532, [], [1]), ((0, 1, 0), gi_589, hq_532, [], [1])])
theorem hd_994 : con_994.1 = (yX12_doesGain, cX12_doesGain, 9, (some .boolean)) := rfl
noncomputable def ct_994 : CTB2 := [(19, 95, 0, con_691, [0, 1]), (29, 199, 1, con_390, []), (63, 95, 0, con_691, [0, 1]), (85, 269, 0, con_692, [0, 1]), (94, 277, 0, con_753, [0, 1, 3, 2]), (110, 283, 0, con_912, [0, 1])]
noncomputable def cu_994 : List CUT2 := []
theorem ch_994 : staG tb_X12_doesGain 1 bt_RX12 [] ct_994 [] [] cu_994 72 con_994 = true := by decide +kernel
theorem cto_994 (l : Launch) : CTOK2 l RX12 vwCl gTbl ct_994 := ct2_cons (vl_691 l) ck_RX12_95_691 (ct2_cons (vl_390 l) ck_RX12_199_390 (ct2_cons (vl_691 l) ck_RX12_95_691 (ct2_cons (vl_692 l) ck_RX12_269_692 (ct2_cons (vl_753 l) ck_RX12_277_753 (ct2_cons (vl_912 l) ck_RX12_283_912 (ct2_nil))))))
theorem vl_994 (l : Launch) : Vld2 l vwCl gTbl con_994 := conR_ok3 gT_all (hd_994) rfl pn_RX12 tk_X12_doesGain bo_RX12 xo_RX12 (cto_994 l) ch_994 cut_nil
/-- RookHustingModel doesGain -/
noncomputable def hq_533 : HP := [(false, ac_555), (false, ac_557), (true, am_6), (true, am_8)]
noncomputable def con_995 : Con2 := ((yX12_doesGain, cX12_doesGain, 9, (some .boolean)), (5, 121), ([(6, 0, 0), (1, 1, 0), (1, 2, 0), (1, 3, 0), (0, 1, 0)], gi_588, hc_127, []), [((0, 0, 0), gi_589, hq_533, [], [1]), ((0, 1, 0), gi_589, hq_533, [], [1])])
theorem hd_995 : con_995.1 = (yX12_doesGain, cX12_doesGain, 9, (some .boolean)) := rfl
noncomputable def ct_995 : CTB2 := [(19, 95, 0, con_786, [0, 1]), (29, 199, 1, con_390, []), (63, 95, 0, con_786, [0, 1]), (85, 269, 0, con_787, [0, 1]), (94, 277, 0, con_801, [0, 1, 3, 2]), (110, 283, 0, con_912, [0, 1])]
noncomputable def cu_995 : List CUT2 := []
theorem ch_995 : staG tb_X12_doesGain 1 bt_RX12 [] ct_995 [] [] cu_995 72 con_995 = true := by decide +kernel
theorem cto_995 (l : Launch) : CTOK2 l RX12 vwCl gTbl ct_995 := ct2_cons (vl_786 l) ck_RX12_95_786 (ct2_cons (vl_390 l) ck_RX12_199_390 (ct2_cons (vl_786 l) ck_RX12_95_786 (ct2_cons (vl_787 l) ck_RX12_269_787 (ct2_cons (vl_801 l) ck_RX12_277_801 (ct2_cons (vl_912 l) ck_RX12_283_912 (ct2_nil))))))
theorem vl_995 (l : Launch) : Vld2 l vwCl gTbl con_995 := conR_ok3 gT_all (hd_995) rfl pn_RX12 tk_X12_doesGain bo_RX12 xo_RX12 (cto_995 l) ch_995 cut_nil
/-- RookHustingModel doesGain -/
noncomputable def hq_534 : HP := [(false, ac_555), (false, ac_558), (true, am_6), (true, am_8)]
noncomputable def con_996 : Con2 := ((yX12_doesGain, cX12_doesGain, 9, (some .boolean)), (5, 121), ([(6, 0, 0), (1, 1, 0), (1, 2, 0), (1, 3, 0), (0, 1, 0)], gi_588, hc_128, []), [((0, 0, 0), gi_589, hq_534, [], [1]), ((0, 1, 0), gi_589, hq_534, [], [1])])
theorem hd_996 : con_996.1 = (yX12_doesGain, cX12_doesGain, 9, (some .boolean)) := rfl
noncomputable def ct_996 : CTB2 := [(19, 95, 0, con_817, [0, 1]), (29, 199, 1, con_390, []), (63, 95, 0, con_817, [0, 1]), (85, 269, 0, con_818, [0, 1]), (94, 277, 0, con_825, [0, 1, 3, 2]), (110, 283, 0, con_912, [0, 1])]
noncomputable def cu_996 : List CUT2 := []
theorem ch_996 : staG tb_X12_doesGain 1 bt_RX12 [] ct_996 [] [] cu_996 72 con_996 = true := by decide +kernel
theorem cto_996 (l : Launch) : CTOK2 l RX12 vwCl gTbl ct_996 := ct2_cons (vl_817 l) ck_RX12_95_817 (ct2_cons (vl_390 l) ck_RX12_199_390 (ct2_cons (vl_817 l) ck_RX12_95_817 (ct2_cons (vl_818 l) ck_RX12_269_818 (ct2_cons (vl_825 l) ck_RX12_277_825 (ct2_cons (vl_912 l) ck_RX12_283_912 (ct2_nil))))))
theorem vl_996 (l : Launch) : Vld2 l vwCl gTbl con_996 := conR_ok3 gT_all (hd_996) rfl pn_RX12 tk_X12_doesGain bo_RX12 xo_RX12 (cto_996 l) ch_996 cut_nil
/-- RookHustingModel doesGain -/
noncomputable def hq_535 : HP := [(false, ac_555), (false, ac_559), (true, am_6), (true, am_8)]
noncomputable def con_997 : Con2 := ((yX12_doesGain, cX12_doesGain, 9, (some .boolean)), (5, 121), ([(6, 0, 0), (1, 1, 0), (1, 2, 0), (1, 3, 0), (0, 1, 0)], gi_588, hc_129, []), [((0, 0, 0), gi_589, hq_535, [], [1]), ((0, 1, 0), gi_589, hq_535, [], [1])])
theorem hd_997 : con_997.1 = (yX12_doesGain, cX12_doesGain, 9, (some .boolean)) := rfl
noncomputable def ct_997 : CTB2 := [(19, 95, 0, con_833, [0, 1]), (29, 199, 1, con_390, []), (63, 95, 0, con_833, [0, 1]), (85, 269, 0, con_834, [0, 1]), (94, 277, 0, con_837, [0, 1, 3, 2]), (110, 283, 0, con_912, [0, 1])]
noncomputable def cu_997 : List CUT2 := []
theorem ch_997 : staG tb_X12_doesGain 1 bt_RX12 [] ct_997 [] [] cu_997 72 con_997 = true := by decide +kernel
theorem cto_997 (l : Launch) : CTOK2 l RX12 vwCl gTbl ct_997 := ct2_cons (vl_833 l) ck_RX12_95_833 (ct2_cons (vl_390 l) ck_RX12_199_390 (ct2_cons (vl_833 l) ck_RX12_95_833 (ct2_cons (vl_834 l) ck_RX12_269_834 (ct2_cons (vl_837 l) ck_RX12_277_837 (ct2_cons (vl_912 l) ck_RX12_283_912 (ct2_nil))))))
theorem vl_997 (l : Launch) : Vld2 l vwCl gTbl con_997 := conR_ok3 gT_all (hd_997) rfl pn_RX12 tk_X12_doesGain bo_RX12 xo_RX12 (cto_997 l) ch_997 cut_nil
/-- RookHustingModel doesGain -/
noncomputable def hq_536 : HP := [(false, ac_555), (false, ac_560), (true, am_6), (true, am_8)]
noncomputable def con_998 : Con2 := ((yX12_doesGain, cX12_doesGain, 9, (some .boolean)), (5, 121), ([(6, 0, 0), (1, 1, 0), (1, 2, 0), (1, 3, 0), (0, 1, 0)], gi_588, hc_130, []), [((0, 0, 0), gi_589, hq_536, [], [1]), ((0, 1, 0), gi_589, hq_536, [], [1])])
theorem hd_998 : con_998.1 = (yX12_doesGain, cX12_doesGain, 9, (some .boolean)) := rfl
noncomputable def ct_998 : CTB2 := [(19, 95, 0, con_841, [0, 1]), (29, 199, 1, con_389, []), (63, 95, 0, con_841, [0, 1]), (85, 269, 0, con_842, [0, 1]), (94, 277, 0, con_844, [0, 1, 3, 2]), (110, 283, 0, con_912, [0, 1])]
noncomputable def cu_998 : List CUT2 := []
theorem ch_998 : staG tb_X12_doesGain 1 bt_RX12 [] ct_998 [] [] cu_998 72 con_998 = true := by decide +kernel
theorem cto_998 (l : Launch) : CTOK2 l RX12 vwCl gTbl ct_998 := ct2_cons (vl_841 l) ck_RX12_95_841 (ct2_cons (vl_389 l) ck_RX12_199_389 (ct2_cons (vl_841 l) ck_RX12_95_841 (ct2_cons (vl_842 l) ck_RX12_269_842 (ct2_cons (vl_844 l) ck_RX12_277_844 (ct2_cons (vl_912 l) ck_RX12_283_912 (ct2_nil))))))
theorem vl_998 (l : Launch) : Vld2 l vwCl gTbl con_998 := conR_ok3 gT_all (hd_998) rfl pn_RX12 tk_X12_doesGain bo_RX12 xo_RX12 (cto_998 l) ch_998 cut_nil
/-- RookHustingModel doesGain -/
noncomputable def con_999 : Con2 := ((yX12_doesGain, cX12_doesGain, 9, (some .boolean)), (5, 121), ([(6, 0, 0), (1, 1, 0), (1, 2, 0), (1, 3, 0), (0, 2, 0)], gi_588, hc_129, []), [((0, 0, 0), gi_589, hq_535, [], [1]), ((0, 1, 0), gi_589, hq_535, [], [1])])
theorem hd_999 : con_999.1 = (yX12_doesGain, cX12_doesGain, 9, (some .boolean)) := rfl
noncomputable def cu_999 : List CUT2 := []
theorem ch_999 : staG tb_X12_doesGain 1 bt_RX12 [] ct_997 [] [] cu_999 107 con_999 = true := by decide +kernel
theorem vl_999 (l : Launch) : Vld2 l vwCl gTbl con_999 := conR_ok3 gT_all (hd_999) rfl pn_RX12 tk_X12_doesGain bo_RX12 xo_RX12 (cto_997 l) ch_999 cut_nil
/-- RookHustingModel doesGain -/
noncomputable def con_1000 : Con2 := ((yX12_doesGain, cX12_doesGain, 9, (some .boolean)), (5, 121), ([(6, 0, 0), (1, 1, 0), (1, 2, 0), (1, 3, 0), (0, 2, 0)], gi_588, hc_128, []), [((0, 0, 0), gi_589, hq_534, [], [1]), ((0, 1, 0), gi_589, hq_534, [], [1])])
theorem hd_1000 : con_1000.1 = (yX12_doesGain, cX12_doesGain, 9, (some .boolean)) := rfl
noncomputable def cu_1000 : List CUT2 := []
theorem ch_1000 : staG tb_X12_doesGain 1 bt_RX12 [] ct_996 [] [] cu_1000 107 con_1000 = true := by decide +kernel
theorem vl_1000 (l : Launch) : Vld2 l vwCl gTbl con_1000 := conR_ok3 gT_all (hd_1000) rfl pn_RX12 tk_X12_doesGain bo_RX12 xo_RX12 (cto_996 l) ch_1000 cut_nil
/-- RookHustingModel doesGain -/
noncomputable def con_1001 : Con2 := ((yX12_doesGain, cX12_doesGain, 9, (some .boolean)), (5, 121), ([(6, 0, 0), (1, 1, 0), (1, 2, 0), (1, 3, 0), (0, 2, 0)], gi_588, hc_127, []), [((0, 0, 0), gi_589, hq_533, [], [1]), ((0, 1, 0), gi_589, hq_533, [], [1])])
theorem hd_1001 : con_1001.1 = (yX12_doesGain, cX12_doesGain, 9, (some .boolean)) := rfl
noncomputable def cu_1001 : List CUT2 := []
theorem ch_1001 : staG tb_X12_doesGain 1 bt_RX12 [] ct_995 [] [] cu_1001 107 con_1001 = true := by decide +kernel
theorem vl_1001 (l : Launch) : Vld2 l vwCl gTbl con_1001 := conR_ok3 gT_all (hd_1001) rfl pn_RX12 tk_X12_doesGain bo_RX12 xo_RX12 (cto_995 l) ch_1001 cut_nil
/-- RookHustingModel doesGain -/
noncomputable def con_1002 : Con2 := ((yX12_doesGain, cX12_doesGain, 9, (some .boolean)), (5, 121), ([(6, 0, 0), (1, 1, 0), (1, 2, 0), (1, 3, 0), (0, 2, 0)], gi_588, hc_126, []), [((0, 0, 0), gi_589, hq_532, [], [1]), ((0, 1, 0), gi_589, hq_532, [], [1])])
theorem hd_1002 : con_1002.1 = (yX12_doesGain, cX12_doesGain, 9, (some .boolean)) := rfl
noncomputable def cu_1002 : List CUT2 := []
theorem ch_1002 : staG tb_X12_doesGain 1 bt_RX12 [] ct_994 [] [] cu_1002 107 con_1002 = true := by decide +kernel
theorem vl_1002 (l : Launch) : Vld2 l vwCl gTbl con_1002 := conR_ok3 gT_all (hd_1002) rfl pn_RX12 tk_X12_doesGain bo_RX12 xo_RX12 (cto_994 l) ch_1002 cut_nil
/-- RookHustingModel doesGain -/
noncomputable def con_1003 : Con2 := ((yX12_doesGain, cX12_doesGain, 9, (some .boolean)), (5, 121), ([(6, 0, 0), (1, 1, 0), (1, 2, 0), (1, 3, 0), (0, 3, 0)], gi_588, hc_128, []), [((0, 0, 0), gi_589, hq_534, [], [1]), ((0, 1, 0), gi_589, hq_534, [], [1])])
theorem hd_1003 : con_1003.1 = (yX12_doesGain, cX12_doesGain, 9, (some .boolean)) := rfl
noncomputable def cu_1003 : List CUT2 := []
theorem ch_1003 : staG tb_X12_doesGain 1 bt_RX12 [] ct_996 [] [] cu_1003 142 con_1003 = true := by decide +kernel
theorem vl_1003 (l : Launch) : Vld2 l vwCl gTbl con_1003 := conR_ok3 gT_all (hd_1003) rfl pn_RX12 tk_X12_doesGain bo_RX12 xo_RX12 (cto_996 l) ch_1003 cut_nil
/-- RookHustingModel doesGain -/
noncomputable def con_1004 : Con2 := ((yX12_doesGain, cX12_doesGain, 9, (some .boolean)), (5, 121), ([(6, 0, 0), (1, 1, 0), (1, 2, 0), (1, 3, 0), (0, 3, 0)], gi_588, hc_127, []), [((0, 0, 0), gi_589, hq_533, [], [1]), ((0, 1, 0), gi_589, hq_533, [], [1])])
theorem hd_1004 : con_1004.1 = (yX12_doesGain, cX12_doesGain, 9, (some .boolean)) := rfl
noncomputable def cu_1004 : List CUT2 := []
theorem ch_1004 : staG tb_X12_doesGain 1 bt_RX12 [] ct_995 [] [] cu_1004 142 con_1004 = true := by decide +kernel
theorem vl_1004 (l : Launch) : Vld2 l vwCl gTbl con_1004 := conR_ok3 gT_all (hd_1004) rfl pn_RX12 tk_X12_doesGain bo_RX12 xo_RX12 (cto_995 l) ch_1004 cut_nil
/-- RookHustingModel doesGain -/
noncomputable def con_1005 : Con2 := ((yX12_doesGain, cX12_doesGain, 9, (some .boolean)), (5, 121), ([(6, 0, 0), (1, 1, 0), (1, 2, 0), (1, 3, 0), (0, 3, 0)], gi_588, hc_126, []), [((0, 0, 0), gi_589, hq_532, [], [1]), ((0, 1, 0), gi_589, hq_532, [], [1])])
theorem hd_1005 : con_1005.1 = (yX12_doesGain, cX12_doesGain, 9, (some .boolean)) := rfl
noncomputable def cu_1005 : List CUT2 := []
theorem ch_1005 : staG tb_X12_doesGain 1 bt_RX12 [] ct_994 [] [] cu_1005 142 con_1005 = true := by decide +kernel
theorem vl_1005 (l : Launch) : Vld2 l vwCl gTbl con_1005 := conR_ok3 gT_all (hd_1005) rfl pn_RX12 tk_X12_doesGain bo_RX12 xo_RX12 (cto_994 l) ch_1005 cut_nil
/-- RookHustingModel doesGain -/
noncomputable def con_1006 : Con2 := ((yX12_doesGain, cX12_doesGain, 9, (some .boolean)), (5, 121), ([(6, 0, 0), (1, 1, 0), (1, 2, 0), (1, 3, 0), (0, 4, 0)], gi_588, hc_127, []), [((0, 0, 0), gi_589, hq_533, [], [1]), ((0, 1, 0), gi_589, hq_533, [], [1])])
theorem hd_1006 : con_1006.1 = (yX12_doesGain, cX12_doesGain, 9, (some .boolean)) := rfl
noncomputable def cu_1006 : List CUT2 := []
theorem ch_1006 : staG tb_X12_doesGain 1 bt_RX12 [] ct_995 [] [] cu_1006 177 con_1006 = true := by decide +kernel
theorem vl_1006 (l : Launch) : Vld2 l vwCl gTbl con_1006 := conR_ok3 gT_all (hd_1006) rfl pn_RX12 tk_X12_doesGain bo_RX12 xo_RX12 (cto_995 l) ch_1006 cut_nil
/-- RookHustingModel doesGain -/
noncomputable def con_1007 : Con2 := ((yX12_doesGain, cX12_doesGain, 9, (some .boolean)), (5, 121), ([(6, 0, 0), (1, 1, 0), (1, 2, 0), (1, 3, 0), (0, 4, 0)], gi_588, hc_126, []), [((0, 0, 0), gi_589, hq_532, [], [1]), ((0, 1, 0), gi_589, hq_532, [], [1])])
theorem hd_1007 : con_1007.1 = (yX12_doesGain, cX12_doesGain, 9, (some .boolean)) := rfl
noncomputable def cu_1007 : List CUT2 := []
theorem ch_1007 : staG tb_X12_doesGain 1 bt_RX12 [] ct_994 [] [] cu_1007 177 con_1007 = true := by decide +kernel
theorem vl_1007 (l : Launch) : Vld2 l vwCl gTbl con_1007 := conR_ok3 gT_all (hd_1007) rfl pn_RX12 tk_X12_doesGain bo_RX12 xo_RX12 (cto_994 l) ch_1007 cut_nil
/-- RookHustingModel doesGain -/
noncomputable def con_1008 : Con2 := ((yX12_doesGain, cX12_doesGain, 9, (some .boolean)), (5, 121), ([(6, 0, 0), (1, 1, 0), (1, 2, 0), (1, 3, 0), (0, 5, 0)], gi_588, hc_126, []), [((0, 0, 0), gi_589, hq_532, [], [1]), ((0, 1, 0), gi_589, hq_532, [], [1])])
theorem hd_1008 : con_1008.1 = (yX12_doesGain, cX12_doesGain, 9, (some .boolean)) := rfl
noncomputable def cu_1008 : List CUT2 := []
theorem ch_1008 : staG tb_X12_doesGain 1 bt_RX12 [] ct_994 [] [] cu_1008 212 con_1008 = true := by decide +kernel
theorem vl_1008 (l : Launch) : Vld2 l vwCl gTbl con_1008 := conR_ok3 gT_all (hd_1008) rfl pn_RX12 tk_X12_doesGain bo_RX12 xo_RX12 (cto_994 l) ch_1008 cut_nil
/-- RookHustingModel gainsOf -/
noncomputable def gi_590 : GI := jl_n [gp_183, gp_190]
noncomputable def gi_591 : GI := jl_n [gp_183, gp_189, gp_123, jl_z 60]
noncomputable def ac_562 : AC := .inl (12, jl_n [vp_58, vp_47, jl_8 47 27])
noncomputable def hq_537 : HP := [(true, ac_562), (false, ac_438), (true, am_8), (true, am_6)]
noncomputable def con_1009 : Con2 := ((yX12_gainsOf, cX12_gainsOf, 6, (some .boolean)), (6, 149), ([(6, 0, 0), (1, 1, 0)], gi_590, hc_118, []), [((0, 0, 0), gi_591, hq_537, [], tg_1), ((0, 1, 0), gi_591, hq_537, [], tg_1)])
theorem hd_1009 : con_1009.1 = (yX12_gainsOf, cX12_gainsOf, 6, (some .boolean)) := rfl
theorem ck_RX12_301_1008 : COK2 RX12 vwCl gTbl 301 0 con_1008 := ⟨wd_1793, wd_137, mh_X12_doesGain, .inr (.inr ⟨rfl, wd_1790, wd_1792, wd_88, ⟨_, rfl, pd_X12_doesGain⟩, 12, _, TX12, 45, rfl, rfl⟩)⟩
theorem ck_RX12_301_1007 : COK2 RX12 vwCl gTbl 301 0 con_1007 := ⟨wd_1793, wd_137, mh_X12_doesGain, .inr (.inr ⟨rfl, wd_1790, wd_1792, wd_88, ⟨_, rfl, pd_X12_doesGain⟩, 12, _, TX12, 45, rfl, rfl⟩)⟩
theorem ck_RX12_301_1006 : COK2 RX12 vwCl gTbl 301 0 con_1006 := ⟨wd_1793, wd_137, mh_X12_doesGain, .inr (.inr ⟨rfl, wd_1790, wd_1792, wd_88, ⟨_, rfl, pd_X12_doesGain⟩, 12, _, TX12, 45, rfl, rfl⟩)⟩
theorem ck_RX12_301_1005 : COK2 RX12 vwCl gTbl 301 0 con_1005 := ⟨wd_1793, wd_137, mh_X12_doesGain, .inr (.inr ⟨rfl, wd_1790, wd_1792, wd_88, ⟨_, rfl, pd_X12_doesGain⟩, 12, _, TX12, 45, rfl, rfl⟩)⟩
theorem ck_RX12_301_1004 : COK2 RX12 vwCl gTbl 301 0 con_1004 := ⟨wd_1793, wd_137, mh_X12_doesGain, .inr (.inr ⟨rfl, wd_1790, wd_1792, wd_88, ⟨_, rfl, pd_X12_doesGain⟩, 12, _, TX12, 45, rfl, rfl⟩)⟩
theorem ck_RX12_301_1003 : COK2 RX12 vwCl gTbl 301 0 con_1003 := ⟨wd_1793, wd_137, mh_X12_doesGain, .inr (.inr ⟨rfl, wd_1790, wd_1792, wd_88, ⟨_, rfl, pd_X12_doesGain⟩, 12, _, TX12, 45, rfl, rfl⟩)⟩
theorem ck_RX12_301_1002 : COK2 RX12 vwCl gTbl 301 0 con_1002 := ⟨wd_1793, wd_137, mh_X12_doesGain, .inr (.inr ⟨rfl, wd_1790, wd_1792, wd_88, ⟨_, rfl, pd_X12_doesGain⟩, 12, _, TX12, 45, rfl, rfl⟩)⟩
theorem ck_RX12_301_1001 : COK2 RX12 vwCl gTbl 301 0 con_1001 := ⟨wd_1793, wd_137, mh_X12_doesGain, .inr (.inr ⟨rfl, wd_1790, wd_1792, wd_88, ⟨_, rfl, pd_X12_doesGain⟩, 12, _, TX12, 45, rfl, rfl⟩)⟩
theorem ck_RX12_301_1000 : COK2 RX12 vwCl gTbl 301 0 con_1000 := ⟨wd_1793, wd_137, mh_X12_doesGain, .inr (.inr ⟨rfl, wd_1790, wd_1792, wd_88, ⟨_, rfl, pd_X12_doesGain⟩, 12, _, TX12, 45, rfl, rfl⟩)⟩
theorem ck_RX12_301_999 : COK2 RX12 vwCl gTbl 301 0 con_999 := ⟨wd_1793, wd_137, mh_X12_doesGain, .inr (.inr ⟨rfl, wd_1790, wd_1792, wd_88, ⟨_, rfl, pd_X12_doesGain⟩, 12, _, TX12, 45, rfl, rfl⟩)⟩
theorem ck_RX12_301_998 : COK2 RX12 vwCl gTbl 301 0 con_998 := ⟨wd_1793, wd_137, mh_X12_doesGain, .inr (.inr ⟨rfl, wd_1790, wd_1792, wd_88, ⟨_, rfl, pd_X12_doesGain⟩, 12, _, TX12, 45, rfl, rfl⟩)⟩
theorem ck_RX12_301_997 : COK2 RX12 vwCl gTbl 301 0 con_997 := ⟨wd_1793, wd_137, mh_X12_doesGain, .inr (.inr ⟨rfl, wd_1790, wd_1792, wd_88, ⟨_, rfl, pd_X12_doesGain⟩, 12, _, TX12, 45, rfl, rfl⟩)⟩
theorem ck_RX12_301_996 : COK2 RX12 vwCl gTbl 301 0 con_996 := ⟨wd_1793, wd_137, mh_X12_doesGain, .inr (.inr ⟨rfl, wd_1790, wd_1792, wd_88, ⟨_, rfl, pd_X12_doesGain⟩, 12, _, TX12, 45, rfl, rfl⟩)⟩
theorem ck_RX12_301_995 : COK2 RX12 vwCl gTbl 301 0 con_995 := ⟨wd_1793, wd_137, mh_X12_doesGain, .inr (.inr ⟨rfl, wd_1790, wd_1792, wd_88, ⟨_, rfl, pd_X12_doesGain⟩, 12, _, TX12, 45, rfl, rfl⟩)⟩
theorem ck_RX12_301_994 : COK2 RX12 vwCl gTbl 301 0 con_994 := ⟨wd_1793, wd_137, mh_X12_doesGain, .inr (.inr ⟨rfl, wd_1790, wd_1792, wd_88, ⟨_, rfl, pd_X12_doesGain⟩, 12, _, TX12, 45, rfl, rfl⟩)⟩
theorem ck_RX12_301_993 : COK2 RX12 vwCl gTbl 301 0 con_993 := ⟨wd_1793, wd_137, mh_X12_doesGain, .inr (.inr ⟨rfl, wd_1790, wd_1792, wd_88, ⟨_, rfl, pd_X12_doesGain⟩, 12, _, TX12, 45, rfl, rfl⟩)⟩
theorem ck_RX12_301_992 : COK2 RX12 vwCl gTbl 301 0 con_992 := ⟨wd_1793, wd_137, mh_X12_doesGain, .inr (.inr ⟨rfl, wd_1790, wd_1792, wd_88, ⟨_, rfl, pd_X12_doesGain⟩, 12, _, TX12, 45, rfl, rfl⟩)⟩
theorem ck_RX12_301_991 : COK2 RX12 vwCl gTbl 301 0 con_991 := ⟨wd_1793, wd_137, mh_X12_doesGain, .inr (.inr ⟨rfl, wd_1790, wd_1792, wd_88, ⟨_, rfl, pd_X12_doesGain⟩, 12, _, TX12, 45, rfl, rfl⟩)⟩
theorem ck_RX12_301_990 : COK2 RX12 vwCl gTbl 301 0 con_990 := ⟨wd_1793, wd_137, mh_X12_doesGain, .inr (.inr ⟨rfl, wd_1790, wd_1792, wd_88, ⟨_, rfl, pd_X12_doesGain⟩, 12, _, TX12, 45, rfl, rfl⟩)⟩
theorem ck_RX12_301_989 : COK2 RX12 vwCl gTbl 301 0 con_989 := ⟨wd_1793, wd_137, mh_X12_doesGain, .inr (.inr ⟨rfl, wd_1790, wd_1792, wd_88, ⟨_, rfl, pd_X12_doesGain⟩, 12, _, TX12, 45, rfl, rfl⟩)⟩
theorem ck_RX12_301_988 : COK2 RX12 vwCl gTbl 301 0 con_988 := ⟨wd_1793, wd_137, mh_X12_doesGain, .inr (.inr ⟨rfl, wd_1790, wd_1792, wd_88, ⟨_, rfl, pd_X12_doesGain⟩, 12, _, TX12, 45, rfl, rfl⟩)⟩
noncomputable def ct_1009 : CTB2 := [(1, 249, 0, con_665, [0, 1, 2, 3]), (6, 269, 0, con_692, [0, 1]), (6, 269, 0, con_787, [0, 1]), (6, 269, 0, con_818, [0, 1]), (6, 269, 0, con_834, [0, 1]), (6, 269, 0, con_842, [0, 1]), (6, 269, 0, con_847, [0, 1]), (15, 277, 0, con_753, [0, 1, 2, 3]), (15, 277, 0, con_801, [0, 1, 2, 3]), (15, 277, 0, con_825, [0, 1, 2, 3]), (15, 277, 0, con_837, [0, 1, 2, 3]), (15, 277, 0, con_844, [0, 1, 2, 3]), (15, 277, 0, con_850, [0, 1, 2, 3]), (34, 95, 0, con_691, [0, 1]), (34, 95, 0, con_786, [0, 1]), (34, 95, 0, con_817, [0, 1]), (34, 95, 0, con_833, [0, 1]), (34, 95, 0, con_841, [0, 1]), (34, 95, 0, con_846, [0, 1]), (56, 301, 0, con_988, [0, 1, 3, 2]), (56, 301, 0, con_989, [0, 1, 3, 2]), (56, 301, 0, con_990, [0, 1, 3, 2]), (56, 301, 0, con_991, [0, 1, 3, 2]), (56, 301, 0, con_992, [0, 1, 3, 2]), (56, 301, 0, con_993, [0, 1, 3, 2]), (56, 301, 0, con_994, [0, 1, 3, 2]), (56, 301, 0, con_995, [0, 1, 3, 2]), (56, 301, 0, con_996, [0, 1, 3, 2]), (56, 301, 0, con_997, [0, 1, 3, 2]), (56, 301, 0, con_998, [0, 1, 3, 2]), (56, 301, 0, con_999, [0, 1, 3, 2]), (56, 301, 0, con_1000, [0, 1, 3, 2]), (56, 301, 0, con_1001, [0, 1, 3, 2]), (56, 301, 0, con_1002, [0, 1, 3, 2]), (56, 301, 0, con_1003, [0, 1, 3, 2]), (56, 301, 0, con_1004, [0, 1, 3, 2]), (56, 301, 0, con_1005, [0, 1, 3, 2]), (56, 301, 0, con_1006, [0, 1, 3, 2]), (56, 301, 0, con_1007, [0, 1, 3, 2]), (56, 301, 0, con_1008, [0, 1, 3, 2]), (72, 95, 0, con_691, [0, 1]), (72, 95, 0, con_786, [0, 1]), (72, 95, 0, con_817, [0, 1]), (72, 95, 0, con_833, [0, 1]), (72, 95, 0, con_841, [0, 1]), (72, 95, 0, con_846, [0, 1])]
noncomputable def gi_592 : GI := jl_n [gp_317, gp_319]
noncomputable def gi_593 : GI := jl_n [gp_320, gp_319]
noncomputable def gi_594 : GI := jl_n [gp_321, gp_319]
noncomputable def gi_595 : GI := jl_n [gp_322, gp_319]
noncomputable def gi_596 : GI := jl_n [gp_316, jl_i 1 1, gp_319]
noncomputable def gi_597 : GI := jl_n [gp_316, jl_z 1, gp_319]
noncomputable def gi_598 : GI := jl_n [gp_324, gp_230]
noncomputable def gi_599 : GI := jl_n [gp_320, gp_325]
noncomputable def gi_600 : GI := jl_n [gp_321, gp_325]
noncomputable def gi_601 : GI := jl_n [gp_322, gp_325]
noncomputable def gi_602 : GI := jl_n [gp_316, jl_i 1 1, gp_325]
noncomputable def gi_603 : GI := jl_n [gp_316, jl_z 1, gp_325]
noncomputable def gi_604 : GI := jl_n [gp_317, gp_326]
noncomputable def gi_605 : GI := jl_n [gp_320, gp_326]
noncomputable def gi_606 : GI := jl_n [gp_321, gp_326]
noncomputable def gi_607 : GI := jl_n [gp_322, gp_326]
noncomputable def gi_608 : GI := jl_n [gp_316, jl_i 1 1, gp_326]
noncomputable def gi_609 : GI := jl_n [gp_316, jl_z 1, gp_326]
noncomputable def gi_610 : GI := jl_n [gp_324, gp_290]
noncomputable def gi_611 : GI := jl_n [gp_320, gp_318, gp_327]
noncomputable def gi_612 : GI := jl_n [gp_321, gp_318, gp_28, jl_z 45]
noncomputable def gi_613 : GI := jl_n [gp_322, gp_323, jl_i 0 2, jl_z 45]
noncomputable def gi_614 : GI := jl_n [gp_322, gp_318, gp_327]
noncomputable def gi_615 : GI := jl_n [gp_321, gp_323, jl_i 0 9, jl_z 45]
noncomputable def gi_616 : GI := jl_n [gp_320, gp_323, jl_i 0 16, jl_z 45]
noncomputable def gi_617 : GI := jl_n [gp_324, jl_i 0 25, jl_z 45]
noncomputable def gi_618 : GI := jl_n [gp_321, gp_323, jl_i 0 27, jl_z 45]
noncomputable def gi_619 : GI := jl_n [gp_320, gp_323, jl_i 0 64, jl_z 45]
noncomputable def gi_620 : GI := jl_n [gp_324, jl_i 25 30, jl_z 45]
noncomputable def gi_621 : GI := jl_n [gp_324, jl_i 0 125, jl_z 45]
noncomputable def gi_622 : GI := jl_n [gp_321, gp_323, jl_i 27 30, jl_z 45]
noncomputable def gi_623 : GI := jl_n [gp_320, gp_323, jl_i 0 256, jl_z 45]
noncomputable def gi_624 : GI := jl_n [gp_324, jl_i 125 127, jl_z 45]
noncomputable def gi_625 : GI := jl_n [gp_324, jl_i 0 625, jl_z 45]
noncomputable def gi_626 : GI := jl_n [gp_324, jl_i 625 680, jl_z 45]
noncomputable def gi_627 : GI := jl_n [gp_324, jl_i 0 3125, jl_z 45]
noncomputable def cu_1009_0 : List CUT2 := [((31, [lq 0 6 0, lq 1 1 1, lq 2 1 72, lq 3 0 1, lq 4 0 0], [], gi_592, hq_537), [], ([], 21888)), ((31, [lq 0 6 0, lq 1 1 1, lq 2 1 72, lq 3 0 1, lq 4 0 0], [], gi_593, hq_537), [], ([], 21888)), ((31, [lq 0 6 0, lq 1 1 1, lq 2 1 72, lq 3 0 1, lq 4 0 0], [], gi_594, hq_537), [], ([], 21888)), ((31, [lq 0 6 0, lq 1 1 1, lq 2 1 72, lq 3 0 1, lq 4 0 0], [], gi_595, hq_537), [], ([], 21888)), ((31, [lq 0 6 0, lq 1 1 1, lq 2 1 72, lq 3 0 1, lq 4 0 0], [], gi_596, hq_537), [], ([], 21888)), ((31, [lq 0 6 0, lq 1 1 1, lq 2 1 72, lq 3 0 1, lq 4 0 0], [], gi_597, hq_537), [], ([], 21888)), ((43, [lq 0 6 0, lq 1 1 1, lq 2 1 72, lq 3 0 1, lq 4 0 0, lq 5 1 75], [], gi_598, hq_537), [], ([(75, (-1))], 21887)), ((43, [lq 0 6 0, lq 1 1 1, lq 2 1 72, lq 3 0 1, lq 4 0 0, lq 5 1 75], [], gi_599, hq_537), [], ([(75, (-1))], 21887)), ((43, [lq 0 6 0, lq 1 1 1, lq 2 1 72, lq 3 0 1, lq 4 0 0, lq 5 1 75], [], gi_600, hq_537), [], ([(75, (-1))], 21887)), ((43, [lq 0 6 0, lq 1 1 1, lq 2 1 72, lq 3 0 1, lq 4 0 0, lq 5 1 75], [], gi_601, hq_537), [], ([(75, (-1))], 21887)), ((43, [lq 0 6 0, lq 1 1 1, lq 2 1 72, lq 3 0 1, lq 4 0 0, lq 5 1 75], [], gi_602, hq_537), [], ([(75, (-1))], 21887)), ((43, [lq 0 6 0, lq 1 1 1, lq 2 1 72, lq 3 0 1, lq 4 0 0, lq 5 1 75], [], gi_603, hq_537), [], ([(75, (-1))], 21887)), ((31, [lq 0 6 0, lq 1 1 1, lq 2 1 72, lq 3 0 5, lq 4 0 1, lq 5 0 1], [], gi_604, hq_537), [], ([], 18761)), ((31, [lq 0 6 0, lq 1 1 1, lq 2 1 72, lq 3 0 4, lq 4 0 1, lq 5 0 1], [], gi_605, hq_537), [], ([], 18761)), ((31, [lq 0 6 0, lq 1 1 1, lq 2 1 72, lq 3 0 3, lq 4 0 1, lq 5 0 1], [], gi_606, hq_537), [], ([], 18761)), ((31, [lq 0 6 0, lq 1 1 1, lq 2 1 72, lq 3 0 2, lq 4 0 1, lq 5 0 1], [], gi_607, hq_537), [], ([], 18761)), ((31, [lq 0 6 0, lq 1 1 1, lq 2 1 72, lq 3 0 1, lq 4 0 1, lq 5 0 1], [], gi_608, hq_537), [], ([], 18761)), ((31, [lq 0 6 0, lq 1 1 1, lq 2 1 72, lq 3 0 0, lq 4 0 1, lq 5 0 1], [], gi_609, hq_537), [], ([], 18761)), ((43, [lq 0 6 0, lq 1 1 1, lq 2 1 72, lq 3 0 5, lq 4 0 1, lq 5 1 75], [], gi_610, hq_537), [], ([(75, (-1))], 18760)), ((43, [lq 0 6 0, lq 1 1 1, lq 2 1 72, lq 3 0 4, lq 4 0 1, lq 5 1 75], [], gi_611, hq_537), [], ([(75, (-1))], 18760)), ((43, [lq 0 6 0, lq 1 1 1, lq 2 1 72, lq 3 0 3, lq 4 0 1, lq 5 1 75], [], gi_612, hq_537), [], ([(75, (-1))], 18760)), ((43, [lq 0 6 0, lq 1 1 1, lq 2 1 72, lq 3 0 2, lq 4 0 1, lq 5 1 75], [], gi_613, hq_537), [], ([(75, (-1))], 18760)), ((43, [lq 0 6 0, lq 1 1 1, lq 2 1 72, lq 3 0 1, lq 4 0 1, lq 5 1 75], [], gi_602, hq_537), [], ([(75, (-1))], 18760)), ((31, [lq 0 6 0, lq 1 1 1, lq 2 1 72, lq 3 0 1, lq 4 0 2, lq 5 0 1], [], gi_608, hq_537), [], ([], 15634)), ((31, [lq 0 6 0, lq 1 1 1, lq 2 1 72, lq 3 0 4, lq 4 0 2, lq 5 0 2], [], gi_607, hq_537), [], ([], 15634)), ((31, [lq 0 6 0, lq 1 1 1, lq 2 1 72, lq 3 0 9, lq 4 0 2, lq 5 0 3], [], gi_606, hq_537), [], ([], 15634)), ((43, [lq 0 6 0, lq 1 1 1, lq 2 1 72, lq 3 0 4, lq 4 0 2, lq 5 1 75], [], gi_614, hq_537), [], ([(75, (-1))], 15633)), ((31, [lq 0 6 0, lq 1 1 1, lq 2 1 72, lq 3 0 16, lq 4 0 2, lq 5 0 4], [], gi_605, hq_537), [], ([], 15634)), ((43, [lq 0 6 0, lq 1 1 1, lq 2 1 72, lq 3 0 9, lq 4 0 2, lq 5 1 75], [], gi_615, hq_537), [], ([(75, (-1))], 15633)), ((31, [lq 0 6 0, lq 1 1 1, lq 2 1 72, lq 3 0 25, lq 4 0 2, lq 5 0 5], [], gi_604, hq_537), [], ([], 15634)), ((43, [lq 0 6 0, lq 1 1 1, lq 2 1 72, lq 3 0 16, lq 4 0 2, lq 5 1 75], [], gi_616, hq_537), [], ([(75, (-1))], 15633)), ((43, [lq 0 6 0, lq 1 1 1, lq 2 1 72, lq 3 0 25, lq 4 0 2, lq 5 1 75], [], gi_617, hq_537), [], ([(75, (-1))], 15633)), ((31, [lq 0 6 0, lq 1 1 1, lq 2 1 72, lq 3 0 8, lq 4 0 3, lq 5 0 4], [], gi_607, hq_537), [], ([], 12507)), ((31, [lq 0 6 0, lq 1 1 1, lq 2 1 72, lq 3 0 27, lq 4 0 3, lq 5 0 9], [], gi_606, hq_537), [], ([], 12507)), ((43, [lq 0 6 0, lq 1 1 1, lq 2 1 72, lq 3 0 27, lq 4 0 3, lq 5 1 75], [], gi_618, hq_537), [], ([(75, (-1))], 12506)), ((31, [lq 0 6 0, lq 1 1 1, lq 2 1 72, lq 3 0 64, lq 4 0 3, lq 5 0 16], [], gi_605, hq_537), [], ([], 12507)), ((43, [lq 0 6 0, lq 1 1 1, lq 2 1 72, lq 3 0 64, lq 4 0 3, lq 5 1 75], [], gi_619, hq_537), [], ([(75, (-1))], 12506)), ((31, [lq 0 6 0, lq 1 1 1, lq 2 1 72, lq 3 0 125, lq 4 0 3, lq 5 1 75], [], gi_620, hq_537), [], ([], 12507)), ((43, [lq 0 6 0, lq 1 1 1, lq 2 1 72, lq 3 0 125, lq 4 0 3, lq 5 1 75], [], gi_621, hq_537), [], ([(75, (-1))], 12506)), ((31, [lq 0 6 0, lq 1 1 1, lq 2 1 72, lq 3 0 81, lq 4 0 4, lq 5 1 75], [], gi_622, hq_537), [], ([], 9380)), ((31, [lq 0 6 0, lq 1 1 1, lq 2 1 72, lq 3 0 256, lq 4 0 4, lq 5 0 64], [], gi_605, hq_537), [], ([], 9380))]
noncomputable def cu_1009_1 : List CUT2 := [((43, [lq 0 6 0, lq 1 1 1, lq 2 1 72, lq 3 0 256, lq 4 0 4, lq 5 1 75], [], gi_623, hq_537), [], ([(75, (-1))], 9379)), ((31, [lq 0 6 0, lq 1 1 1, lq 2 1 72, lq 3 0 625, lq 4 0 4, lq 5 1 75], [], gi_624, hq_537), [], ([], 9380)), ((43, [lq 0 6 0, lq 1 1 1, lq 2 1 72, lq 3 0 625, lq 4 0 4, lq 5 1 75], [], gi_625, hq_537), [], ([(75, (-1))], 9379)), ((31, [lq 0 6 0, lq 1 1 1, lq 2 1 72, lq 3 0 1024, lq 4 0 5, lq 5 0 256], [], gi_605, hq_537), [], ([], 6253)), ((31, [lq 0 6 0, lq 1 1 1, lq 2 1 72, lq 3 0 3125, lq 4 0 5, lq 5 1 75], [], gi_626, hq_537), [], ([], 6253)), ((43, [lq 0 6 0, lq 1 1 1, lq 2 1 72, lq 3 0 3125, lq 4 0 5, lq 5 1 75], [], gi_627, hq_537), [], ([(75, (-1))], 6252)), ((31, [lq 0 6 0, lq 1 1 1, lq 2 1 72, lq 3 0 15625, lq 4 0 6, lq 5 0 3125], [], gi_604, hq_537), [], ([], 3126))]
noncomputable def cu_1009 : List CUT2 := cu_1009_0 ++ (cu_1009_1)
theorem ch_1009 : staG tb_X12_gainsOf 1 bt_RX12 [] ct_1009 [(0, [(1, (2, 1, 5), 0, 0)])] [] cu_1009 21 con_1009 = true := by decide +kernel
theorem cc_1009_0 : cu_1009_0.all (cutG tb_X12_gainsOf 1 bt_RX12 [] ct_1009 [(0, [(1, (2, 1, 5), 0, 0)])] [] cu_1009 21 con_1009) = true := by decide +kernel
theorem cc_1009_1 : cu_1009_1.all (cutG tb_X12_gainsOf 1 bt_RX12 [] ct_1009 [(0, [(1, (2, 1, 5), 0, 0)])] [] cu_1009 21 con_1009) = true := by decide +kernel
theorem cto_1009 (l : Launch) : CTOK2 l RX12 vwCl gTbl ct_1009 := ct2_cons (vl_665 l) ck_RX12_249_665 (ct2_cons (vl_692 l) ck_RX12_269_692 (ct2_cons (vl_787 l) ck_RX12_269_787 (ct2_cons (vl_818 l) ck_RX12_269_818 (ct2_cons (vl_834 l) ck_RX12_269_834 (ct2_cons (vl_842 l) ck_RX12_269_842 (ct2_cons (vl_847 l) ck_RX12_269_847 (ct2_cons (vl_753 l) ck_RX12_277_753 (ct2_cons (vl_801 l) ck_RX12_277_801 (ct2_cons (vl_825 l) ck_RX12_277_825 (ct2_cons (vl_837 l) ck_RX12_277_837 (ct2_cons (vl_844 l) ck_RX12_277_844 (ct2_cons (vl_850 l) ck_RX12_277_850 (ct2_cons (vl_691 l) ck_RX12_95_691 (ct2_cons (vl_786 l) ck_RX12_95_786 (ct2_cons (vl_817 l) ck_RX12_95_817 (ct2_cons (vl_833 l) ck_RX12_95_833 (ct2_cons (vl_841 l) ck_RX12_95_841 (ct2_cons (vl_846 l) ck_RX12_95_846 (ct2_cons (vl_988 l) ck_RX12_301_988 (ct2_cons (vl_989 l) ck_RX12_301_989 (ct2_cons (vl_990 l) ck_RX12_301_990 (ct2_cons (vl_991 l) ck_RX12_301_991 (ct2_cons (vl_992 l) ck_RX12_301_992 (ct2_cons (vl_993 l) ck_RX12_301_993 (ct2_cons (vl_994 l) ck_RX12_301_994 (ct2_cons (vl_995 l) ck_RX12_301_995 (ct2_cons (vl_996 l) ck_RX12_301_996 (ct2_cons (vl_997 l) ck_RX12_301_997 (ct2_cons (vl_998 l) ck_RX12_301_998 (ct2_cons (vl_999 l) ck_RX12_301_999 (ct2_cons (vl_1000 l) ck_RX12_301_1000 (ct2_cons (vl_1001 l) ck_RX12_301_1001 (ct2_cons (vl_1002 l) ck_RX12_301_1002 (ct2_cons (vl_1003 l) ck_RX12_301_1003 (ct2_cons (vl_1004 l) ck_RX12_301_1004 (ct2_cons (vl_1005 l) ck_RX12_301_1005 (ct2_cons (vl_1006 l) ck_RX12_301_1006 (ct2_cons (vl_1007 l) ck_RX12_301_1007 (ct2_cons (vl_1008 l) ck_RX12_301_1008 (ct2_cons (vl_691 l) ck_RX12_95_691 (ct2_cons (vl_786 l) ck_RX12_95_786 (ct2_cons (vl_817 l) ck_RX12_95_817 (ct2_cons (vl_833 l) ck_RX12_95_833 (ct2_cons (vl_841 l) ck_RX12_95_841 (ct2_cons (vl_846 l) ck_RX12_95_846 (ct2_nil))))))))))))))))))))))))))))))))))))))))))))))
theorem vl_1009 (l : Launch) : Vld2 l vwCl gTbl con_1009 := conR_ok3 gT_all (hd_1009) rfl pn_RX12 tk_X12_gainsOf bo_RX12 xo_RX12 (cto_1009 l) ch_1009 (cut_app (cut_all cc_1009_0) (cut_all cc_1009_1))
/-- RookHustingModel gains -/
noncomputable def gi_628 : GI := jl_n [gp_245, jl_m 1 1, gp_189]
noncomputable def con_1010 : Con2 := ((yX12_gains, cX12_gains, 2, (some .int)), (7, 174), ([(6, 0, 0), (1, 1, 0)], gi_432, hc_118, []), [((1, 70, 0), gi_628, hq_515, [], tg_1)])
theorem hd_1010 : con_1010.1 = (yX12_gains, cX12_gains, 2, (some .int)) := rfl
theorem ck_RX12_305_1009 : COK2 RX12 vwCl gTbl 305 0 con_1009 := ⟨wd_1789, wd_137, mh_X12_gainsOf, .inr (.inr ⟨rfl, wd_1786, wd_1788, wd_87, ⟨_, rfl, pd_X12_gainsOf⟩, 12, _, TX12, 45, rfl, rfl⟩)⟩
noncomputable def ct_1010 : CTB2 := [(2, 240, 0, con_661, [0, 1]), (10, 305, 0, con_1009, [0, 1, 2, 3])]
noncomputable def cu_1010 : List CUT2 := []
theorem ch_1010 : staG tb_X12_gains 1 bt_RX12 [] ct_1010 [] [] cu_1010 13 con_1010 = true := by decide +kernel
theorem cto_1010 (l : Launch) : CTOK2 l RX12 vwCl gTbl ct_1010 := ct2_cons (vl_661 l) ck_RX12_240_661 (ct2_cons (vl_1009 l) ck_RX12_305_1009 (ct2_nil))
theorem vl_1010 (l : Launch) : Vld2 l vwCl gTbl con_1010 := conR_ok3 gT_all (hd_1010) rfl pn_RX12 tk_X12_gains bo_RX12 xo_RX12 (cto_1010 l) ch_1010 cut_nil
/-- RookHusting plain -/
noncomputable def gi_629 : GI := jl_n [gp_314, gp_277, gp_328]
noncomputable def ac_563 : AC := .inl (4, jl_n [jl_1 20 1, jl_8 21 1, vp_11, vp_89, jl_6 7 1, jl_8 35 2, jl_6 6 1])
noncomputable def hc_132 : List AC := [ac_548, .inl (9, [(6, 2, 0), (8, 18, 0)]), ac_563, .inl (1, [(6, 2, 0), (6, 4, 0)]), am_5, am_5, am_7]
noncomputable def gi_630 : GI := jl_n [gp_314, gp_277, gp_328, jl_t, gp_315]
noncomputable def ac_564 : AC := .inl (11, jl_n [vp_92, jl_1 55 2])
noncomputable def hq_538 : HP := [(true, ac_564), (false, .inl (9, [(6, 2, 0), (8, 18, 0)])), (false, ac_563), (false, .inl (1, [(6, 2, 0), (6, 4, 0)])), (true, am_5), (false, am_5), (false, am_7)]
noncomputable def con_1011 : Con2 := ((yX11_plain, cX11_plain, 1, (some .int)), (12, 305), ([(6, 0, 0)], gi_629, hc_132, []), [((1, 38, 0), gi_630, hq_538, [], tg_2)])
theorem hd_1011 : con_1011.1 = (yX11_plain, cX11_plain, 1, (some .int)) := rfl
noncomputable def ct_1011 : CTB2 := [(1, 219, 0, con_667, [0, 1, 2]), (11, 232, 0, con_986, [0, 1, 2, 3, 4, 5, 6])]
noncomputable def cu_1011 : List CUT2 := []
theorem ch_1011 : staG tb_X11_plain 1 bt_RX11 [] ct_1011 [] [] cu_1011 10 con_1011 = true := by decide +kernel
theorem cto_1011 (l : Launch) : CTOK2 l RX11 vwCl gTbl ct_1011 := ct2_cons (vl_667 l) ck_RX11_219_667 (ct2_cons (vl_986 l) ck_RX11_232_986 (ct2_nil))
theorem vl_1011 (l : Launch) : Vld2 l vwCl gTbl con_1011 := conR_ok3 gT_all (hd_1011) rfl pn_RX11 tk_X11_plain bo_RX11 xo_RX11 (cto_1011 l) ch_1011 cut_nil
/-- RookHustingModel plain -/
noncomputable def gi_631 : GI := jl_n [gp_186, gp_124, gp_309]
noncomputable def ac_565 : AC := .inl (12, jl_n [vp_45, jl_1 88 1, jl_8 46 27])
noncomputable def hq_539 : HP := [(true, ac_565), (false, ac_436), (true, am_8), (true, am_6)]
noncomputable def con_1012 : Con2 := ((yX12_plain, cX12_plain, 3, (some .int)), (7, 174), ([(6, 0, 0)], gi_333, hc_73, []), [((1, 69, 0), gi_631, hq_539, [], tg_1)])
theorem hd_1012 : con_1012.1 = (yX12_plain, cX12_plain, 3, (some .int)) := rfl
noncomputable def ct_1012 : CTB2 := [(1, 99, 0, con_673, [0, 1]), (28, 305, 0, con_1009, [0, 1, 2, 3])]
noncomputable def gi_632 : GI := jl_n [gp_186, gp_205, gp_213, gp_189]
noncomputable def ac_566 : AC := .inl (12, jl_n [vp_45, jl_1 90 1, jl_8 46 27])
noncomputable def hq_540 : HP := [(true, ac_566), (false, ac_436), (true, am_8), (true, am_6)]
noncomputable def cu_1012 : List CUT2 := [((14, [lq 0 6 0, lq 1 1 70, lq 2 1 71], [], gi_632, hq_540), [], ([(71, (-1))], 7))]
theorem ch_1012 : staG tb_X12_plain 1 bt_RX12 [] ct_1012 [] [] cu_1012 22 con_1012 = true := by decide +kernel
theorem cc_1012 : cu_1012.all (cutG tb_X12_plain 1 bt_RX12 [] ct_1012 [] [] cu_1012 22 con_1012) = true := by decide +kernel
theorem cto_1012 (l : Launch) : CTOK2 l RX12 vwCl gTbl ct_1012 := ct2_cons (vl_673 l) ck_RX12_99_673 (ct2_cons (vl_1009 l) ck_RX12_305_1009 (ct2_nil))
theorem vl_1012 (l : Launch) : Vld2 l vwCl gTbl con_1012 := conR_ok3 gT_all (hd_1012) rfl pn_RX12 tk_X12_plain bo_RX12 xo_RX12 (cto_1012 l) ch_1012 (cut_all cc_1012)
/-- RookHusting isVoter -/
noncomputable def gi_633 : GI := jl_n [gp_7, jl_z 35]
noncomputable def ac_567 : AC := .inl (4, jl_n [jl_8 27 7, jl_c 7, jl_8 37 9])
noncomputable def gi_634 : GI := jl_n [gp_7, jl_z 36]
noncomputable def hq_541 : HP := [(false, ac_431), (false, .inl (9, [(6, 2, 0), (8, 19, 0)])), (false, ac_567)]
noncomputable def gi_635 : GI := jl_n [gp_183, jl_z 36]
noncomputable def con_1013 : Con2 := ((yX11_isVoter, cX11_isVoter, 2, (some .boolean)), (0, 0), ([(6, 0, 0), (1, 1, 0)], gi_633, [ac_431, .inl (9, [(6, 2, 0), (8, 19, 0)]), ac_567], []), [((0, 0, 0), gi_634, hq_541, [], [1]), ((0, 1, 0), gi_635, hq_541, [], [1])])
theorem hd_1013 : con_1013.1 = (yX11_isVoter, cX11_isVoter, 2, (some .boolean)) := rfl
noncomputable def cu_1013 : List CUT2 := []
theorem ch_1013 : staG tb_X11_isVoter 1 bt_RX11 [] ct_3 [] [] cu_1013 13 con_1013 = true := by decide +kernel
theorem vl_1013 (l : Launch) : Vld2 l vwCl gTbl con_1013 := conR_ok3 gT_all (hd_1013) rfl pn_RX11 tk_X11_isVoter bo_RX11 xo_RX11 (cto_3 l) ch_1013 cut_nil
