/-! ===== contracts, 27 ===== -/
/-- RookHustingModel asksRows -/
noncomputable def gi_885 : GI := jl_n [gp_407, gp_124, jl_r 5 (jl_m 0 4)]
noncomputable def ac_755 : AC := .inl (12, jl_n [vp_46, jl_6 7 3, jl_1 26 4, vp_139, jl_1 36 3, jl_8 46 10])
noncomputable def hc_182 : List AC := [ac_755, ac_436, am_8, am_6, am_3, ac_734, am_1, am_0, am_0, am_0, am_13, am_14, am_15, am_3]
noncomputable def gi_886 : GI := jl_n [gp_407, gp_408, jl_r 5 (jl_m 0 4), jl_z 1]
noncomputable def hq_618 : HP := [(false, ac_755), (false, ac_436), (false, am_8), (false, am_6), (false, am_3), (false, ac_734), (false, am_1), (false, am_0), (false, am_0), (false, am_0), (false, am_13), (false, am_14), (false, am_15), (false, am_3)]
noncomputable def gi_887 : GI := jl_n [gp_407, gp_15, gp_409, jl_r 5 (jl_m 0 4), jl_z 33, gp_395, jl_r 5 (jl_m 0 4)]
noncomputable def ac_756 : AC := .inl (12, jl_n [vp_87, vp_114, jl_6 14 1, jl_1 110 3, jl_8 46 10])
noncomputable def ac_757 : AC := .inr (1, jl_n [js_1 125 5])
noncomputable def hq_619 : HP := [(true, ac_756), (false, ac_436), (true, am_8), (true, am_6), (true, am_3), (true, ac_757), (true, am_1), (true, am_0), (true, am_0), (true, am_0), (true, am_13), (true, am_14), (true, am_15), (true, am_3)]
noncomputable def con_1232 : Con2 := ((yX12_asksRows, cX12_asksRows, 2, (some .boolean)), (8, 188), ([(6, 0, 0)], gi_885, hc_182, []), [((0, 0, 0), gi_886, hq_618, [], [1]), ((0, 1, 0), gi_887, hq_619, [], tg_18)])
theorem hd_1232 : con_1232.1 = (yX12_asksRows, cX12_asksRows, 2, (some .boolean)) := rfl
theorem ck_RX12_405_1231 : COK2 RX12 vwCl gTbl 405 0 con_1231 := ⟨wd_2010, wd_137, mh_X12_nextRow, .inr (.inr ⟨rfl, wd_2007, wd_2009, wd_110, ⟨_, rfl, pd_X12_nextRow⟩, 12, _, TX12, 45, rfl, rfl⟩)⟩
theorem ck_RX12_402_1224 : COK2 RX12 vwCl gTbl 402 0 con_1224 := ⟨wd_1998, wd_137, mh_X12_tryRow, .inr (.inr ⟨rfl, wd_1995, wd_1997, wd_107, ⟨_, rfl, pd_X12_tryRow⟩, 12, _, TX12, 45, rfl, rfl⟩)⟩
noncomputable def ct_1232 : CTB2 := [(1, 99, 0, con_673, [0, 1]), (10, 345, 0, con_905, [0, 1, 2, 3, 4, 5, 6]), (45, 402, 0, con_1224, [0, 1, 5, 7, 8, 6, 9, 10, 11, 12, 13]), (49, 405, 0, con_1231, [0, 1, 5])]
noncomputable def gi_888 : GI := jl_n [gp_407, gp_15, gp_409, jl_r 5 (jl_m 0 4), jl_z 34, gp_395, jl_r 5 (jl_m 0 4)]
noncomputable def ac_758 : AC := .inl (12, jl_n [vp_87, vp_114, jl_6 14 1, jl_1 111 3, jl_8 46 10])
noncomputable def ac_759 : AC := .inr (1, jl_n [js_1 126 5])
noncomputable def hq_620 : HP := [(true, ac_758), (false, ac_436), (true, am_8), (true, am_6), (true, am_3), (true, ac_759), (true, am_1), (true, am_0), (true, am_0), (true, am_0), (true, am_13), (true, am_14), (true, am_15), (true, am_3)]
noncomputable def cu_1232 : List CUT2 := [((40, [lq 0 6 0, lq 1 0 1], [], gi_888, hq_620), [], ([(121, (-1296)), (122, (-216)), (123, (-36)), (124, (-6)), (125, (-1))], 10000)), ((40, [lq 0 6 0, lq 1 0 0], [], gi_888, hq_620), [], ([], 0))]
theorem ch_1232 : staG tb_X12_asksRows 1 bt_RX12 [] ct_1232 [] [] cu_1232 68 con_1232 = true := by decide +kernel
theorem cc_1232 : cu_1232.all (cutG tb_X12_asksRows 1 bt_RX12 [] ct_1232 [] [] cu_1232 68 con_1232) = true := by decide +kernel
theorem cto_1232 (l : Launch) : CTOK2 l RX12 vwCl gTbl ct_1232 := ct2_cons (vl_673 l) ck_RX12_99_673 (ct2_cons (vl_905 l) ck_RX12_345_905 (ct2_cons (vl_1224 l) ck_RX12_402_1224 (ct2_cons (vl_1231 l) ck_RX12_405_1231 (ct2_nil))))
theorem vl_1232 (l : Launch) : Vld2 l vwCl gTbl con_1232 := conR_ok3 gT_all (hd_1232) rfl pn_RX12 tk_X12_asksRows bo_RX12 xo_RX12 (cto_1232 l) ch_1232 (cut_all cc_1232)
/-- RookHustingModel best -/
noncomputable def gi_889 : GI := jl_n [gp_407, gp_124]
noncomputable def hc_183 : List AC := [ac_755, ac_436, am_8, am_6, am_3, am_3, am_1, am_0, am_0, am_0, am_13, am_14, am_15, am_3]
noncomputable def gi_890 : GI := jl_n [gp_407, gp_124, jl_t, gp_410]
noncomputable def ac_760 : AC := .inl (12, jl_n [vp_45, jl_1 88 1, jl_6 7 3, jl_1 95 4, vp_139, jl_1 105 3, jl_8 46 10])
noncomputable def hq_621 : HP := [(true, ac_760), (false, ac_436), (true, am_8), (true, am_6), (true, am_3), (true, am_3), (true, am_1), (true, am_0), (true, am_0), (true, am_0), (true, am_13), (true, am_14), (true, am_15), (true, am_3)]
noncomputable def con_1233 : Con2 := ((yX12_best, cX12_best, 1, (some .int)), (9, 209), ([(6, 0, 0)], gi_889, hc_183, []), [((1, 69, 0), gi_890, hq_621, [], tg_1)])
theorem hd_1233 : con_1233.1 = (yX12_best, cX12_best, 1, (some .int)) := rfl
theorem ck_RX12_408_1232 : COK2 RX12 vwCl gTbl 408 0 con_1232 := ⟨wd_1994, wd_137, mh_X12_asksRows, .inr (.inr ⟨rfl, wd_1991, wd_1993, wd_106, ⟨_, rfl, pd_X12_asksRows⟩, 12, _, TX12, 45, rfl, rfl⟩)⟩
noncomputable def ct_1233 : CTB2 := [(1, 408, 0, con_1232, [0, 1, 2, 3, 4, 5, 6, 7, 8, 9, 10, 11, 12, 13])]
noncomputable def cu_1233 : List CUT2 := []
theorem ch_1233 : staG tb_X12_best 1 bt_RX12 [] ct_1233 [] [] cu_1233 9 con_1233 = true := by decide +kernel
theorem cto_1233 (l : Launch) : CTOK2 l RX12 vwCl gTbl ct_1233 := ct2_cons (vl_1232 l) ck_RX12_408_1232 (ct2_nil)
theorem vl_1233 (l : Launch) : Vld2 l vwCl gTbl con_1233 := conR_ok3 gT_all (hd_1233) rfl pn_RX12 tk_X12_best bo_RX12 xo_RX12 (cto_1233 l) ch_1233 cut_nil
/-- RookHusting put -/
noncomputable def gi_891 : GI := jl_n [gp_280, gp_394]
noncomputable def ac_761 : AC := .inl (11, jl_n [vp_80, vp_135, jl_8 15 2, vp_82])
noncomputable def ac_762 : AC := .inl (5, jl_n [jl_6 41 1, jl_1 121 4, vp_136])
noncomputable def ac_763 : AC := .inl (3, jl_n [vp_137, jl_1 137 2])
noncomputable def hc_184 : List AC := [ac_761, .inl (9, [(6, 2, 0), (6, 11, 0)]), ac_514, .inl (7, [(6, 4, 0), (6, 5, 0), (6, 6, 0), (1, 40, 0)]), am_3, am_1, am_1, am_1, .inl (1, [(6, 2, 0), (8, 42, 0)]), am_5, am_7, .inl (0, [(1, 43, 0), (6, 12, 0), (6, 13, 0), (6, 14, 0)]), ac_515, am_12, ac_516, ac_517, am_4, am_0, am_11, am_0, am_1, am_0, am_4, am_10, am_0, am_0, am_9, ac_762, .inl (7, [(6, 29, 0), (6, 30, 0), (6, 31, 0), (1, 127, 0)]), am_3, am_1, am_1, ac_763, am_0, am_0, am_1, am_0, am_0, am_0, am_9, am_3]
noncomputable def gi_892 : GI := jl_n [gp_280, gp_394, jl_m 1 4, gp_281, gp_394]
noncomputable def ac_764 : AC := .inl (11, jl_n [vp_80, vp_135, jl_8 15 2, jl_1 152 1, jl_8 18 2])
noncomputable def ac_765 : AC := .inl (3, jl_n [vp_78, jl_1 167 2])
noncomputable def ac_766 : AC := .inl (5, jl_n [jl_6 41 1, jl_1 172 4, vp_136])
noncomputable def ac_767 : AC := .inl (3, jl_n [vp_137, jl_1 188 2])
noncomputable def hq_622 : HP := [(true, ac_764), (false, .inl (9, [(6, 2, 0), (6, 11, 0)])), (false, ac_514), (true, .inl (7, [(6, 4, 0), (6, 5, 0), (6, 6, 0), (1, 157, 0)])), (true, am_3), (true, am_1), (true, am_1), (false, am_1), (false, .inl (1, [(6, 2, 0), (8, 42, 0)])), (false, am_5), (false, am_7), (false, .inl (0, [(1, 43, 0), (6, 12, 0), (6, 13, 0), (6, 14, 0)])), (false, ac_515), (false, am_12), (false, ac_516), (true, ac_765), (false, am_4), (true, am_0), (false, am_11), (true, am_0), (true, am_1), (true, am_0), (false, am_4), (false, am_10), (true, am_0), (true, am_0), (true, am_9), (true, ac_766), (true, .inl (7, [(6, 29, 0), (6, 30, 0), (6, 31, 0), (1, 178, 0)])), (true, am_3), (true, am_1), (true, am_1), (true, ac_767), (true, am_0), (true, am_0), (true, am_1), (true, am_0), (true, am_0), (true, am_0), (true, am_9), (true, am_3)]
noncomputable def con_1234 : Con2 := ((yX11_put, cX11_put, 2, (some .int)), (11, 255), ([(6, 0, 0), (1, 1, 0)], gi_891, hc_184, rq_3), [((1, 137, 0), gi_892, hq_622, [], tg_18)])
theorem hd_1234 : con_1234.1 = (yX11_put, cX11_put, 2, (some .int)) := rfl
noncomputable def ct_1234 : CTB2 := [(2, 139, 0, con_643, [0, 1, 2]), (12, 208, 0, con_900, [0, 1, 3, 2, 4, 5, 6, 7, 8, 9, 10, 11, 12, 13, 14, 15, 16, 17, 18, 19, 20, 21, 22, 23, 24, 25, 26]), (23, 317, 0, con_1220, [27, 3, 28, 29, 4, 30, 5, 31, 6, 2, 32, 16, 33, 18, 34, 35, 36, 22, 23, 37, 38, 39, 40])]
noncomputable def cu_1234 : List CUT2 := []
theorem ch_1234 : staG tb_X11_put 1 bt_RX11 [] ct_1234 [] [] cu_1234 19 con_1234 = true := by decide +kernel
theorem cto_1234 (l : Launch) : CTOK2 l RX11 vwCl gTbl ct_1234 := ct2_cons (vl_643 l) ck_RX11_139_643 (ct2_cons (vl_900 l) ck_RX11_208_900 (ct2_cons (vl_1220 l) ck_RX11_317_1220 (ct2_nil)))
theorem vl_1234 (l : Launch) : Vld2 l vwCl gTbl con_1234 := conR_ok3 gT_all (hd_1234) rfl pn_RX11 tk_X11_put bo_RX11 xo_RX11 (cto_1234 l) ch_1234 cut_nil
/-- RookHustingModel put -/
noncomputable def gi_893 : GI := jl_n [gp_7, gp_410, gp_124]
noncomputable def ac_768 : AC := .inl (12, jl_n [vp_60, jl_6 7 3, jl_1 27 4, vp_139, jl_1 37 3, jl_8 47 10])
noncomputable def hc_185 : List AC := [ac_768, ac_438, am_8, am_6, am_3, am_3, am_1, am_0, am_0, am_0, am_13, am_14, am_15, am_3]
noncomputable def gi_894 : GI := jl_n [gp_7, gp_410, gp_124, jl_m 1 4, gp_410]
noncomputable def ac_769 : AC := .inl (12, jl_n [vp_66, jl_6 7 3, jl_1 96 4, vp_139, jl_1 106 3, jl_8 47 10])
noncomputable def hq_623 : HP := [(true, ac_769), (false, ac_438), (true, am_8), (true, am_6), (true, am_3), (true, am_3), (true, am_1), (true, am_0), (true, am_0), (true, am_0), (true, am_13), (true, am_14), (true, am_15), (true, am_3)]
noncomputable def con_1235 : Con2 := ((yX12_put, cX12_put, 2, (some .int)), (9, 209), ([(6, 0, 0), (1, 1, 0)], gi_893, hc_185, []), [((1, 70, 0), gi_894, hq_623, [], tg_1)])
theorem hd_1235 : con_1235.1 = (yX12_put, cX12_put, 2, (some .int)) := rfl
noncomputable def ct_1235 : CTB2 := [(3, 109, 0, con_647, [0, 1]), (10, 408, 0, con_1232, [0, 1, 2, 3, 4, 5, 6, 7, 8, 9, 10, 11, 12, 13])]
noncomputable def cu_1235 : List CUT2 := []
theorem ch_1235 : staG tb_X12_put 1 bt_RX12 [] ct_1235 [] [] cu_1235 16 con_1235 = true := by decide +kernel
theorem cto_1235 (l : Launch) : CTOK2 l RX12 vwCl gTbl ct_1235 := ct2_cons (vl_647 l) ck_RX12_109_647 (ct2_cons (vl_1232 l) ck_RX12_408_1232 (ct2_nil))
theorem vl_1235 (l : Launch) : Vld2 l vwCl gTbl con_1235 := conR_ok3 gT_all (hd_1235) rfl pn_RX12 tk_X12_put bo_RX12 xo_RX12 (cto_1235 l) ch_1235 cut_nil
/-- RookHusting ways -/
noncomputable def con_1236 : Con2 := ((yX11_ways, cX11_ways, 1, (some .int)), (11, 255), ([(6, 0, 0)], gi_854, hc_179, rq_2), [((1, 136, 0), gi_855, hq_613, [], tg_18)])
theorem hd_1236 : con_1236.1 = (yX11_ways, cX11_ways, 1, (some .int)) := rfl
noncomputable def cu_1236 : List CUT2 := []
theorem ch_1236 : staG tb_X11_ways 1 bt_RX11 [] ct_1221 [] [] cu_1236 16 con_1236 = true := by decide +kernel
theorem vl_1236 (l : Launch) : Vld2 l vwCl gTbl con_1236 := conR_ok3 gT_all (hd_1236) rfl pn_RX11 tk_X11_ways bo_RX11 xo_RX11 (cto_1221 l) ch_1236 cut_nil
/-- RookHustingModel ways -/
noncomputable def con_1237 : Con2 := ((yX12_ways, cX12_ways, 1, (some .int)), (9, 209), ([(6, 0, 0)], gi_889, hc_183, []), [((1, 69, 0), gi_890, hq_621, [], tg_1)])
theorem hd_1237 : con_1237.1 = (yX12_ways, cX12_ways, 1, (some .int)) := rfl
noncomputable def cu_1237 : List CUT2 := []
theorem ch_1237 : staG tb_X12_ways 1 bt_RX12 [] ct_1233 [] [] cu_1237 9 con_1237 = true := by decide +kernel
theorem vl_1237 (l : Launch) : Vld2 l vwCl gTbl con_1237 := conR_ok3 gT_all (hd_1237) rfl pn_RX12 tk_X12_ways bo_RX12 xo_RX12 (cto_1233 l) ch_1237 cut_nil
/-- RookHusting fewest -/
noncomputable def con_1238 : Con2 := ((yX11_fewest, cX11_fewest, 1, (some .int)), (11, 255), ([(6, 0, 0)], gi_854, hc_179, rq_2), [((1, 136, 0), gi_855, hq_613, [], tg_18)])
theorem hd_1238 : con_1238.1 = (yX11_fewest, cX11_fewest, 1, (some .int)) := rfl
noncomputable def cu_1238 : List CUT2 := []
theorem ch_1238 : staG tb_X11_fewest 1 bt_RX11 [] ct_1221 [] [] cu_1238 16 con_1238 = true := by decide +kernel
theorem vl_1238 (l : Launch) : Vld2 l vwCl gTbl con_1238 := conR_ok3 gT_all (hd_1238) rfl pn_RX11 tk_X11_fewest bo_RX11 xo_RX11 (cto_1221 l) ch_1238 cut_nil
/-- RookHustingModel fewest -/
noncomputable def con_1239 : Con2 := ((yX12_fewest, cX12_fewest, 1, (some .int)), (9, 209), ([(6, 0, 0)], gi_889, hc_183, []), [((1, 69, 0), gi_890, hq_621, [], tg_1)])
theorem hd_1239 : con_1239.1 = (yX12_fewest, cX12_fewest, 1, (some .int)) := rfl
noncomputable def cu_1239 : List CUT2 := []
theorem ch_1239 : staG tb_X12_fewest 1 bt_RX12 [] ct_1233 [] [] cu_1239 9 con_1239 = true := by decide +kernel
theorem vl_1239 (l : Launch) : Vld2 l vwCl gTbl con_1239 := conR_ok3 gT_all (hd_1239) rfl pn_RX12 tk_X12_fewest bo_RX12 xo_RX12 (cto_1233 l) ch_1239 cut_nil
/-- RookHusting$Acts playOn -/
noncomputable def hq_624 : HP := [(false, .inl (0, [(1, 3, 0), (6, 2, 0), (6, 3, 0), (6, 5, 0)])), (false, .inl (7, [(6, 6, 0), (6, 4, 0), (8, 9, 0), (8, 10, 0)])), (false, ac_494), (false, am_12), (true, am_1), (false, ac_495), (false, am_3)]
noncomputable def con_1240 : Con2 := ((yX0_playOn, cX0_playOn, 4, none), (0, 0), ([(6, 0, 0), (6, 1, 0), (0, 0, 0)], gi_439, hc_98, rq_1), [((9, 0, 0), gi_439, hq_624, [], [])])
theorem hd_1240 : con_1240.1 = (yX0_playOn, cX0_playOn, 4, none) := rfl
noncomputable def ct_1240 : CTB2 := []
noncomputable def cu_1240_0 : List CUT2 := [((2, [lq 0 6 0, lq 1 6 1, lq 2 0 0, lq 3 0 0], [], gi_440, hq_489), rq_1, ([], 30)), ((2, [lq 0 6 0, lq 1 6 1, lq 2 0 0, lq 3 0 1], [], gi_441, hq_624), rq_1, ([], 29)), ((2, [lq 0 6 0, lq 1 6 1, lq 2 0 0, lq 3 0 2], [], gi_442, hq_624), rq_1, ([], 28)), ((2, [lq 0 6 0, lq 1 6 1, lq 2 0 0, lq 3 0 3], [], gi_443, hq_624), rq_1, ([], 27)), ((2, [lq 0 6 0, lq 1 6 1, lq 2 0 0, lq 3 0 4], [], gi_444, hq_624), rq_1, ([], 26)), ((2, [lq 0 6 0, lq 1 6 1, lq 2 0 0, lq 3 0 5], [], gi_445, hq_624), rq_1, ([], 25)), ((2, [lq 0 6 0, lq 1 6 1, lq 2 0 0, lq 3 0 6], [], gi_446, hq_624), rq_1, ([], 24)), ((2, [lq 0 6 0, lq 1 6 1, lq 2 0 0, lq 3 0 7], [], gi_447, hq_624), rq_1, ([], 23)), ((2, [lq 0 6 0, lq 1 6 1, lq 2 0 0, lq 3 0 8], [], gi_448, hq_624), rq_1, ([], 22)), ((2, [lq 0 6 0, lq 1 6 1, lq 2 0 0, lq 3 0 9], [], gi_449, hq_624), rq_1, ([], 21)), ((2, [lq 0 6 0, lq 1 6 1, lq 2 0 0, lq 3 0 10], [], gi_450, hq_624), rq_1, ([], 20)), ((2, [lq 0 6 0, lq 1 6 1, lq 2 0 0, lq 3 0 11], [], gi_451, hq_624), rq_1, ([], 19)), ((2, [lq 0 6 0, lq 1 6 1, lq 2 0 0, lq 3 0 12], [], gi_452, hq_624), rq_1, ([], 18)), ((2, [lq 0 6 0, lq 1 6 1, lq 2 0 0, lq 3 0 13], [], gi_453, hq_624), rq_1, ([], 17)), ((2, [lq 0 6 0, lq 1 6 1, lq 2 0 0, lq 3 0 14], [], gi_454, hq_624), rq_1, ([], 16)), ((2, [lq 0 6 0, lq 1 6 1, lq 2 0 0, lq 3 0 15], [], gi_455, hq_624), rq_1, ([], 15)), ((2, [lq 0 6 0, lq 1 6 1, lq 2 0 0, lq 3 0 16], [], gi_456, hq_624), rq_1, ([], 14)), ((2, [lq 0 6 0, lq 1 6 1, lq 2 0 0, lq 3 0 17], [], gi_457, hq_624), rq_1, ([], 13)), ((2, [lq 0 6 0, lq 1 6 1, lq 2 0 0, lq 3 0 18], [], gi_458, hq_624), rq_1, ([], 12)), ((2, [lq 0 6 0, lq 1 6 1, lq 2 0 0, lq 3 0 19], [], gi_459, hq_624), rq_1, ([], 11)), ((2, [lq 0 6 0, lq 1 6 1, lq 2 0 0, lq 3 0 20], [], gi_460, hq_624), rq_1, ([], 10)), ((2, [lq 0 6 0, lq 1 6 1, lq 2 0 0, lq 3 0 21], [], gi_461, hq_624), rq_1, ([], 9)), ((2, [lq 0 6 0, lq 1 6 1, lq 2 0 0, lq 3 0 22], [], gi_462, hq_624), rq_1, ([], 8)), ((2, [lq 0 6 0, lq 1 6 1, lq 2 0 0, lq 3 0 23], [], gi_463, hq_624), rq_1, ([], 7)), ((2, [lq 0 6 0, lq 1 6 1, lq 2 0 0, lq 3 0 24], [], gi_464, hq_624), rq_1, ([], 6))]
noncomputable def cu_1240_1 : List CUT2 := [((2, [lq 0 6 0, lq 1 6 1, lq 2 0 0, lq 3 0 25], [], gi_465, hq_624), rq_1, ([], 5)), ((2, [lq 0 6 0, lq 1 6 1, lq 2 0 0, lq 3 0 26], [], gi_466, hq_624), rq_1, ([], 4)), ((2, [lq 0 6 0, lq 1 6 1, lq 2 0 0, lq 3 0 27], [], gi_467, hq_624), rq_1, ([], 3)), ((2, [lq 0 6 0, lq 1 6 1, lq 2 0 0, lq 3 0 28], [], gi_468, hq_624), rq_1, ([], 2)), ((2, [lq 0 6 0, lq 1 6 1, lq 2 0 0, lq 3 0 29], [], gi_469, hq_624), rq_1, ([], 1)), ((2, [lq 0 6 0, lq 1 6 1, lq 2 0 0, lq 3 0 30], [], gi_470, hq_624), rq_1, ([], 0))]
noncomputable def cu_1240 : List CUT2 := cu_1240_0 ++ (cu_1240_1)
theorem ch_1240 : staG tb_X0_playOn 1 bt_RX0 [] ct_1240 [(62, [(0, (0, 0, 0), (-1), 4)])] [] cu_1240 32 con_1240 = true := by decide +kernel
theorem cc_1240_0 : cu_1240_0.all (cutG tb_X0_playOn 1 bt_RX0 [] ct_1240 [(62, [(0, (0, 0, 0), (-1), 4)])] [] cu_1240 32 con_1240) = true := by decide +kernel
theorem cc_1240_1 : cu_1240_1.all (cutG tb_X0_playOn 1 bt_RX0 [] ct_1240 [(62, [(0, (0, 0, 0), (-1), 4)])] [] cu_1240 32 con_1240) = true := by decide +kernel
theorem cto_1240 (l : Launch) : CTOK2 l RX0 vwCl gTbl ct_1240 := ct2_nil
theorem vl_1240 (l : Launch) : Vld2 l vwCl gTbl con_1240 := conR_ok3 gT_all (hd_1240) rfl pn_RX0 tk_X0_playOn bo_RX0 xo_RX0 (cto_1240 l) ch_1240 (cut_app (cut_all cc_1240_0) (cut_all cc_1240_1))
/-- RookHusting leftOnTrial -/
noncomputable def gi_895 : GI := jl_n [jl_z 20, gp_385, gp_351]
noncomputable def ac_770 : AC := .inl (11, jl_n [vp_52, jl_8 8 4, jl_6 5 1, jl_8 10 1, jl_6 4 1, jl_8 17 6])
noncomputable def ac_771 : AC := .inl (4, jl_n [jl_8 20 1, jl_1 21 1, jl_8 23 2, jl_1 24 1, jl_8 27 3, jl_6 8 1, jl_6 6 1, jl_8 30 1, jl_6 15 2, jl_8 36 4])
noncomputable def ac_772 : AC := .inl (3, jl_n [jl_6 13 1, vp_6, jl_6 18 3, jl_6 11 1, jl_1 45 2])
noncomputable def hc_186 : List AC := [ac_770, .inl (9, [(6, 2, 0), (8, 18, 0)]), ac_771, ac_772, .inl (7, [(6, 11, 0), (6, 9, 0), (6, 18, 0), (1, 48, 0)]), am_4, am_0, am_11, am_0, am_1, am_1, am_3, am_0, am_4, am_10, am_0, am_0, am_9, am_1]
noncomputable def gi_896 : GI := jl_n [jl_z 20, gp_385, gp_346, jl_r 2 (jl_t), gp_249]
noncomputable def ac_773 : AC := .inl (3, jl_n [jl_6 13 1, vp_6, jl_6 18 3, jl_6 11 1, jl_1 58 1, jl_1 21 1])
noncomputable def hq_625 : HP := [(false, ac_770), (false, .inl (9, [(6, 2, 0), (8, 18, 0)])), (false, ac_771), (true, ac_773), (false, .inl (7, [(6, 11, 0), (6, 9, 0), (6, 18, 0), (1, 48, 0)])), (false, am_4), (true, am_0), (false, am_11), (true, am_0), (false, am_1), (true, am_1), (false, am_3), (true, am_0), (false, am_4), (false, am_10), (true, am_0), (true, am_0), (true, am_9), (false, am_1)]
noncomputable def con_1241 : Con2 := ((yX11_leftOnTrial, cX11_leftOnTrial, 1, (some .int)), (3, 74), ([(6, 0, 0)], gi_895, hc_186, []), [((1, 49, 0), gi_896, hq_625, [], tg_4)])
theorem hd_1241 : con_1241.1 = (yX11_leftOnTrial, cX11_leftOnTrial, 1, (some .int)) := rfl
noncomputable def ct_1241 : CTB2 := [(25, 372, 0, con_899, [3, 2, 4, 5, 6, 7, 8, 9, 10, 11, 12, 13, 14, 15, 16, 17, 18]), (49, 300, 0, con_1130, [3, 8])]
noncomputable def cu_1241 : List CUT2 := []
theorem ch_1241 : staG tb_X11_leftOnTrial 1 bt_RX11 [] ct_1241 [] [] cu_1241 25 con_1241 = true := by decide +kernel
theorem cto_1241 (l : Launch) : CTOK2 l RX11 vwCl gTbl ct_1241 := ct2_cons (vl_899 l) ck_RX11_372_899 (ct2_cons (vl_1130 l) ck_RX11_300_1130 (ct2_nil))
theorem vl_1241 (l : Launch) : Vld2 l vwCl gTbl con_1241 := conR_ok3 gT_all (hd_1241) rfl pn_RX11 tk_X11_leftOnTrial bo_RX11 xo_RX11 (cto_1241 l) ch_1241 cut_nil
/-- RookHusting leftByLaw -/
noncomputable def gi_897 : GI := jl_n [gp_211, gp_360, gp_384, gp_411]
noncomputable def ac_774 : AC := .inl (11, jl_n [vp_61, jl_6 9 1, jl_8 9 1, jl_6 3 1, vp_140, jl_8 18 6])
noncomputable def ac_775 : AC := .inl (4, jl_n [vp_103, jl_8 28 2, jl_1 29 1, jl_8 30 1, jl_1 32 2, vp_75, jl_8 40 2, jl_6 10 1])
noncomputable def hc_187 : List AC := [ac_774, .inl (9, [(6, 3, 0), (6, 11, 0)]), .inl (7, [(6, 4, 0), (6, 5, 0), (6, 6, 0), (1, 23, 0)]), ac_775, am_3, am_1, am_1, am_1, .inl (1, [(6, 3, 0), (8, 42, 0)]), am_5, am_7, .inl (0, [(1, 43, 0), (6, 12, 0), (6, 13, 0), (6, 14, 0)]), ac_515, am_12, ac_516, ac_517, am_4, am_0, am_11, am_0, am_1, am_0, am_4, am_10, am_0, am_0, am_9]
noncomputable def gi_898 : GI := jl_n [gp_211, gp_360, gp_384, gp_411, jl_t, gp_387]
noncomputable def ac_776 : AC := .inl (3, jl_n [vp_78, jl_1 129 1, jl_1 26 1])
noncomputable def hq_626 : HP := [(false, ac_774), (false, .inl (9, [(6, 3, 0), (6, 11, 0)])), (true, .inl (7, [(6, 4, 0), (6, 5, 0), (6, 6, 0), (0, 0, 0)])), (false, ac_775), (true, am_3), (true, am_1), (true, am_1), (false, am_1), (false, .inl (1, [(6, 3, 0), (8, 42, 0)])), (false, am_5), (false, am_7), (false, .inl (0, [(1, 43, 0), (6, 12, 0), (6, 13, 0), (6, 14, 0)])), (false, ac_515), (false, am_12), (false, ac_516), (true, ac_776), (false, am_4), (true, am_0), (false, am_11), (true, am_0), (true, am_1), (true, am_0), (false, am_4), (false, am_10), (true, am_0), (true, am_0), (true, am_9)]
noncomputable def con_1242 : Con2 := ((yX11_leftByLaw, cX11_leftByLaw, 2, (some .int)), (5, 131), ([(6, 0, 0), (1, 1, 0)], gi_897, hc_187, rq_3), [((1, 116, 0), gi_898, hq_626, [], tg_19)])
theorem hd_1242 : con_1242.1 = (yX11_leftByLaw, cX11_leftByLaw, 2, (some .int)) := rfl
theorem ck_RX11_337_1241 : COK2 RX11 vwCl gTbl 337 0 con_1241 := ⟨wd_1186, wd_125, mh_X11_leftOnTrial, .inr (.inr ⟨rfl, wd_1183, wd_1185, wd_40, ⟨_, rfl, pd_X11_leftOnTrial⟩, 11, _, TX11, 16, rfl, rfl⟩)⟩
theorem ck_RX11_460_1240 : COK2 RX11 vwCl gTbl 460 0 con_1240 := ⟨wd_858, wd_130, mh_X0_playOn, .inr (.inr ⟨rfl, wd_855, wd_856, wd_857, ⟨_, rfl, pd_X0_playOn⟩, 0, _, TX0, 4, rfl, rfl⟩)⟩
noncomputable def ct_1242 : CTB2 := [(11, 458, 0, con_857, [2, 3, 4, 5, 6, 7]), (26, 204, 0, con_853, [8, 4, 3, 9, 10]), (41, 460, 0, con_1240, [11, 2, 12, 13, 5, 14, 4]), (45, 337, 0, con_1241, [0, 1, 3, 15, 2, 16, 17, 18, 19, 5, 20, 4, 21, 22, 23, 24, 25, 26, 6])]
noncomputable def cu_1242 : List CUT2 := []
theorem ch_1242 : staG tb_X11_leftByLaw 1 bt_RX11 [] ct_1242 [] [] cu_1242 25 con_1242 = true := by decide +kernel
theorem cto_1242 (l : Launch) : CTOK2 l RX11 vwCl gTbl ct_1242 := ct2_cons (vl_857 l) ck_RX11_458_857 (ct2_cons (vl_853 l) ck_RX11_204_853 (ct2_cons (vl_1240 l) ck_RX11_460_1240 (ct2_cons (vl_1241 l) ck_RX11_337_1241 (ct2_nil))))
theorem vl_1242 (l : Launch) : Vld2 l vwCl gTbl con_1242 := conR_ok3 gT_all (hd_1242) rfl pn_RX11 tk_X11_leftByLaw bo_RX11 xo_RX11 (cto_1242 l) ch_1242 cut_nil
/-- RookHusting by -/
noncomputable def gi_899 : GI := jl_n [gp_192, jl_t, gp_412]
noncomputable def ac_777 : AC := .inl (11, jl_n [vp_61, jl_6 9 1, jl_8 9 1, jl_6 4 1, vp_140, jl_8 18 6])
noncomputable def ac_778 : AC := .inl (4, jl_n [jl_1 22 2, jl_8 24 2, jl_1 25 1, vp_64, vp_75, jl_8 36 2, jl_6 10 1])
noncomputable def hc_188 : List AC := [ac_777, .inl (9, [(6, 2, 0), (6, 11, 0)]), ac_778, .inl (7, [(6, 4, 0), (6, 5, 0), (6, 6, 0), (1, 40, 0)]), am_3, am_1, am_1, am_1, .inl (1, [(6, 2, 0), (8, 42, 0)]), am_5, am_7, .inl (0, [(1, 43, 0), (6, 12, 0), (6, 13, 0), (6, 14, 0)]), ac_515, am_12, ac_516, ac_517, am_4, am_0, am_11, am_0, am_1, am_0, am_4, am_10, am_0, am_0, am_9]
noncomputable def gi_900 : GI := jl_n [gp_192, jl_t, gp_412, jl_t, gp_413]
noncomputable def ac_779 : AC := .inl (3, jl_n [vp_78, jl_1 130 2])
noncomputable def hq_627 : HP := [(false, ac_777), (false, .inl (9, [(6, 2, 0), (6, 11, 0)])), (false, ac_778), (true, .inl (7, [(6, 4, 0), (6, 5, 0), (6, 6, 0), (1, 120, 0)])), (true, am_3), (true, am_1), (true, am_1), (false, am_1), (false, .inl (1, [(6, 2, 0), (8, 42, 0)])), (false, am_5), (false, am_7), (false, .inl (0, [(1, 43, 0), (6, 12, 0), (6, 13, 0), (6, 14, 0)])), (false, ac_515), (false, am_12), (false, ac_516), (true, ac_779), (false, am_4), (true, am_0), (false, am_11), (true, am_0), (true, am_1), (true, am_0), (false, am_4), (false, am_10), (true, am_0), (true, am_0), (true, am_9)]
noncomputable def con_1243 : Con2 := ((yX11_by, cX11_by, 2, (some .int)), (6, 152), ([(6, 0, 0), (1, 1, 0)], gi_899, hc_188, rq_3), [((1, 116, 0), gi_900, hq_627, [], tg_19)])
theorem hd_1243 : con_1243.1 = (yX11_by, cX11_by, 2, (some .int)) := rfl
theorem ck_RX11_329_1242 : COK2 RX11 vwCl gTbl 329 0 con_1242 := ⟨wd_1182, wd_125, mh_X11_leftByLaw, .inr (.inr ⟨rfl, wd_1179, wd_1181, wd_39, ⟨_, rfl, pd_X11_leftByLaw⟩, 11, _, TX11, 16, rfl, rfl⟩)⟩
noncomputable def ct_1243 : CTB2 := [(1, 219, 0, con_667, [0, 1, 2]), (8, 180, 1, con_669, []), (16, 329, 0, con_1242, [0, 1, 3, 2, 4, 5, 6, 7, 8, 9, 10, 11, 12, 13, 14, 15, 16, 17, 18, 19, 20, 21, 22, 23, 24, 25, 26])]
noncomputable def cu_1243 : List CUT2 := []
theorem ch_1243 : staG tb_X11_by 1 bt_RX11 [] ct_1243 [] [] cu_1243 13 con_1243 = true := by decide +kernel
theorem cto_1243 (l : Launch) : CTOK2 l RX11 vwCl gTbl ct_1243 := ct2_cons (vl_667 l) ck_RX11_219_667 (ct2_cons (vl_669 l) ck_RX11_180_669 (ct2_cons (vl_1242 l) ck_RX11_329_1242 (ct2_nil)))
theorem vl_1243 (l : Launch) : Vld2 l vwCl gTbl con_1243 := conR_ok3 gT_all (hd_1243) rfl pn_RX11 tk_X11_by bo_RX11 xo_RX11 (cto_1243 l) ch_1243 cut_nil
/-- RookHustingModel leftBy -/
noncomputable def gi_901 : GI := jl_n [gp_211, gp_289, gp_176]
noncomputable def con_1244 : Con2 := ((yX12_leftBy, cX12_leftBy, 2, (some .int)), (7, 166), ([(6, 0, 0), (1, 1, 0)], gi_500, hc_148, []), [((1, 70, 0), gi_901, hq_567, [], tg_1)])
theorem hd_1244 : con_1244.1 = (yX12_leftBy, cX12_leftBy, 2, (some .int)) := rfl
noncomputable def ct_1244 : CTB2 := [(2, 338, 0, con_903, [0, 1, 2, 3, 4, 5, 6]), (6, 363, 0, con_1108, [0, 1, 7, 8, 5, 6, 9, 10, 11, 12]), (10, 390, 0, con_1223, [0, 1, 7])]
noncomputable def cu_1244 : List CUT2 := []
theorem ch_1244 : staG tb_X12_leftBy 1 bt_RX12 [] ct_1244 [] [] cu_1244 10 con_1244 = true := by decide +kernel
theorem cto_1244 (l : Launch) : CTOK2 l RX12 vwCl gTbl ct_1244 := ct2_cons (vl_903 l) ck_RX12_338_903 (ct2_cons (vl_1108 l) ck_RX12_363_1108 (ct2_cons (vl_1223 l) ck_RX12_390_1223 (ct2_nil)))
theorem vl_1244 (l : Launch) : Vld2 l vwCl gTbl con_1244 := conR_ok3 gT_all (hd_1244) rfl pn_RX12 tk_X12_leftBy bo_RX12 xo_RX12 (cto_1244 l) ch_1244 cut_nil
/-- RookHustingModel by -/
noncomputable def gi_902 : GI := jl_n [gp_294, gp_414]
noncomputable def ac_780 : AC := .inl (12, jl_n [vp_66, jl_6 7 3, jl_1 96 4, vp_112, jl_8 47 14])
noncomputable def hq_628 : HP := [(true, ac_780), (false, ac_438), (true, am_8), (true, am_6), (true, am_3), (true, am_3), (true, am_1), (true, am_0), (true, am_0), (true, am_0), (true, am_13), (true, am_14), (true, am_15)]
noncomputable def con_1245 : Con2 := ((yX12_by, cX12_by, 2, (some .int)), (8, 187), ([(6, 0, 0), (1, 1, 0)], gi_508, hc_148, []), [((1, 70, 0), gi_902, hq_628, [], tg_1)])
theorem hd_1245 : con_1245.1 = (yX12_by, cX12_by, 2, (some .int)) := rfl
theorem ck_RX12_411_1244 : COK2 RX12 vwCl gTbl 411 0 con_1244 := ⟨wd_2030, wd_137, mh_X12_leftBy, .inr (.inr ⟨rfl, wd_2027, wd_2029, wd_111, ⟨_, rfl, pd_X12_leftBy⟩, 12, _, TX12, 45, rfl, rfl⟩)⟩
noncomputable def ct_1245 : CTB2 := [(1, 99, 0, con_673, [0, 1]), (13, 91, 1, con_332, []), (21, 411, 0, con_1244, [0, 1, 2, 3, 4, 5, 6, 7, 8, 9, 10, 11, 12])]
noncomputable def cu_1245 : List CUT2 := []
theorem ch_1245 : staG tb_X12_by 1 bt_RX12 [] ct_1245 [] [] cu_1245 16 con_1245 = true := by decide +kernel
theorem cto_1245 (l : Launch) : CTOK2 l RX12 vwCl gTbl ct_1245 := ct2_cons (vl_673 l) ck_RX12_99_673 (ct2_cons (vl_332 l) ck_RX12_91_332 (ct2_cons (vl_1244 l) ck_RX12_411_1244 (ct2_nil)))
theorem vl_1245 (l : Launch) : Vld2 l vwCl gTbl con_1245 := conR_ok3 gT_all (hd_1245) rfl pn_RX12 tk_X12_by bo_RX12 xo_RX12 (cto_1245 l) ch_1245 cut_nil
/-- RookHusting law -/
noncomputable def gi_903 : GI := jl_n [gp_191, gp_412]
noncomputable def ac_781 : AC := .inl (11, jl_n [vp_70, jl_6 9 1, jl_8 8 1, jl_6 4 1, vp_81, jl_8 17 6])
noncomputable def ac_782 : AC := .inl (4, jl_n [jl_1 21 2, jl_8 23 2, vp_109, vp_75, jl_8 35 2, jl_6 10 1])
noncomputable def hc_189 : List AC := [ac_781, .inl (9, [(6, 2, 0), (6, 11, 0)]), ac_782, .inl (7, [(6, 4, 0), (6, 5, 0), (6, 6, 0), (1, 39, 0)]), am_3, am_1, am_1, am_1, .inl (1, [(6, 2, 0), (8, 41, 0)]), am_5, am_7, .inl (0, [(1, 42, 0), (6, 12, 0), (6, 13, 0), (6, 14, 0)]), ac_508, am_12, ac_509, ac_510, am_4, am_0, am_11, am_0, am_1, am_0, am_4, am_10, am_0, am_0, am_9]
noncomputable def gi_904 : GI := jl_n [gp_191, gp_412, jl_m 1 3, gp_413]
noncomputable def ac_783 : AC := .inl (3, jl_n [vp_78, jl_1 129 2])
noncomputable def hq_629 : HP := [(false, ac_781), (false, .inl (9, [(6, 2, 0), (6, 11, 0)])), (false, ac_782), (true, .inl (7, [(6, 4, 0), (6, 5, 0), (6, 6, 0), (1, 119, 0)])), (true, am_3), (true, am_1), (true, am_1), (false, am_1), (false, .inl (1, [(6, 2, 0), (8, 41, 0)])), (false, am_5), (false, am_7), (false, .inl (0, [(1, 42, 0), (6, 12, 0), (6, 13, 0), (6, 14, 0)])), (false, ac_508), (false, am_12), (false, ac_509), (true, ac_783), (false, am_4), (true, am_0), (false, am_11), (true, am_0), (true, am_1), (true, am_0), (false, am_4), (false, am_10), (true, am_0), (true, am_0), (true, am_9)]
noncomputable def con_1246 : Con2 := ((yX11_law, cX11_law, 5, (some .int)), (6, 152), ([(6, 0, 0)], gi_903, hc_189, rq_2), [((1, 115, 0), gi_904, hq_629, [], tg_19)])
theorem hd_1246 : con_1246.1 = (yX11_law, cX11_law, 5, (some .int)) := rfl
noncomputable def ct_1246 : CTB2 := [(1, 219, 0, con_667, [0, 1, 2]), (14, 329, 0, con_1242, [0, 1, 3, 2, 4, 5, 6, 7, 8, 9, 10, 11, 12, 13, 14, 15, 16, 17, 18, 19, 20, 21, 22, 23, 24, 25, 26]), (27, 329, 0, con_1242, [0, 1, 3, 2, 4, 5, 6, 7, 8, 9, 10, 11, 12, 13, 14, 15, 16, 17, 18, 19, 20, 21, 22, 23, 24, 25, 26])]
noncomputable def gi_905 : GI := jl_n [jl_z 19, jl_i 1 2147483647, gp_412, gp_211, jl_t, jl_i 1 4, gp_387]
noncomputable def ac_784 : AC := .inl (3, jl_n [vp_78, jl_1 131 1, jl_1 21 1])
noncomputable def hq_630 : HP := [(false, ac_781), (false, .inl (9, [(6, 2, 0), (6, 11, 0)])), (false, ac_782), (true, .inl (7, [(6, 4, 0), (6, 5, 0), (6, 6, 0), (0, 0, 0)])), (true, am_3), (true, am_1), (true, am_1), (false, am_1), (false, .inl (1, [(6, 2, 0), (8, 41, 0)])), (false, am_5), (false, am_7), (false, .inl (0, [(1, 42, 0), (6, 12, 0), (6, 13, 0), (6, 14, 0)])), (false, ac_508), (false, am_12), (false, ac_509), (true, ac_784), (false, am_4), (true, am_0), (false, am_11), (true, am_0), (true, am_1), (true, am_0), (false, am_4), (false, am_10), (true, am_0), (true, am_0), (true, am_9)]
noncomputable def cu_1246 : List CUT2 := [((20, [lq 0 6 0, lq 1 1 116, lq 2 1 117, lq 3 1 118], [], gi_905, hq_630), rq_2, ([(118, (-1))], 4))]
theorem ch_1246 : staG tb_X11_law 1 bt_RX11 [] ct_1246 [] [] cu_1246 19 con_1246 = true := by decide +kernel
theorem cc_1246 : cu_1246.all (cutG tb_X11_law 1 bt_RX11 [] ct_1246 [] [] cu_1246 19 con_1246) = true := by decide +kernel
theorem cto_1246 (l : Launch) : CTOK2 l RX11 vwCl gTbl ct_1246 := ct2_cons (vl_667 l) ck_RX11_219_667 (ct2_cons (vl_1242 l) ck_RX11_329_1242 (ct2_cons (vl_1242 l) ck_RX11_329_1242 (ct2_nil)))
theorem vl_1246 (l : Launch) : Vld2 l vwCl gTbl con_1246 := conR_ok3 gT_all (hd_1246) rfl pn_RX11 tk_X11_law bo_RX11 xo_RX11 (cto_1246 l) ch_1246 (cut_all cc_1246)
/-- RookHustingModel law -/
noncomputable def gi_906 : GI := jl_n [gp_293, jl_m 1 3, gp_288]
noncomputable def ac_785 : AC := .inl (12, jl_n [vp_45, jl_1 88 1, jl_6 7 3, jl_1 95 4, vp_113])
noncomputable def hq_631 : HP := [(true, ac_785), (false, ac_436), (true, am_8), (true, am_6), (true, am_3), (true, am_3), (true, am_1), (true, am_0), (true, am_0), (true, am_0), (true, am_13), (true, am_14), (true, am_15)]
noncomputable def con_1247 : Con2 := ((yX12_law, cX12_law, 3, (some .int)), (8, 187), ([(6, 0, 0)], gi_505, hc_147, []), [((1, 69, 0), gi_906, hq_631, [], tg_1)])
theorem hd_1247 : con_1247.1 = (yX12_law, cX12_law, 3, (some .int)) := rfl
noncomputable def ct_1247 : CTB2 := [(1, 99, 0, con_673, [0, 1]), (21, 411, 0, con_1244, [0, 1, 2, 3, 4, 5, 6, 7, 8, 9, 10, 11, 12]), (26, 411, 0, con_1244, [0, 1, 2, 3, 4, 5, 6, 7, 8, 9, 10, 11, 12])]
noncomputable def gi_907 : GI := jl_n [gp_377, jl_i 0 3, jl_i 1 4, gp_288]
noncomputable def ac_786 : AC := .inl (12, jl_n [vp_45, jl_1 90 1, vp_141, vp_113])
noncomputable def hq_632 : HP := [(true, ac_786), (false, ac_436), (true, am_8), (true, am_6), (true, am_3), (true, am_3), (true, am_1), (true, am_0), (true, am_0), (true, am_0), (true, am_13), (true, am_14), (true, am_15)]
noncomputable def cu_1247 : List CUT2 := [((14, [lq 0 6 0, lq 1 1 70, lq 2 1 71], [], gi_907, hq_632), [], ([(71, (-1))], 4))]
theorem ch_1247 : staG tb_X12_law 1 bt_RX12 [] ct_1247 [] [] cu_1247 18 con_1247 = true := by decide +kernel
theorem cc_1247 : cu_1247.all (cutG tb_X12_law 1 bt_RX12 [] ct_1247 [] [] cu_1247 18 con_1247) = true := by decide +kernel
theorem cto_1247 (l : Launch) : CTOK2 l RX12 vwCl gTbl ct_1247 := ct2_cons (vl_673 l) ck_RX12_99_673 (ct2_cons (vl_1244 l) ck_RX12_411_1244 (ct2_cons (vl_1244 l) ck_RX12_411_1244 (ct2_nil)))
theorem vl_1247 (l : Launch) : Vld2 l vwCl gTbl con_1247 := conR_ok3 gT_all (hd_1247) rfl pn_RX12 tk_X12_law bo_RX12 xo_RX12 (cto_1247 l) ch_1247 (cut_all cc_1247)
/-- RookHusting speech -/
noncomputable def gi_908 : GI := jl_n [gp_373, gp_415]
noncomputable def ac_787 : AC := .inl (11, jl_n [vp_70, vp_101, jl_6 28 1, jl_6 4 1, jl_6 32 1, jl_8 14 3, vp_73])
noncomputable def ac_788 : AC := .inl (4, jl_n [jl_1 22 3, jl_8 23 1, vp_109, vp_107, jl_8 35 2, jl_6 12 1])
noncomputable def ac_789 : AC := .inl (3, jl_n [vp_120, jl_1 45 2])
noncomputable def ac_790 : AC := .inr (1, jl_n [js_1 85 30])
noncomputable def ac_791 : AC := .inr (1, jl_n [js_1 115 30])
noncomputable def ac_792 : AC := .inl (3, jl_n [vp_142, jl_1 128 2])
noncomputable def hc_190 : List AC := [ac_787, .inl (9, [(6, 2, 0), (6, 13, 0)]), ac_788, ac_789, am_0, .inl (7, [(6, 6, 0), (6, 7, 0), (6, 8, 0), (1, 48, 0)]), am_3, am_1, am_1, am_1, .inl (1, [(6, 2, 0), (8, 50, 0)]), am_5, am_7, .inl (0, [(1, 51, 0), (6, 14, 0), (6, 15, 0), (6, 16, 0)]), ac_790, am_12, ac_791, am_4, am_0, am_11, am_1, am_0, am_4, am_10, am_0, am_0, am_9, .inl (7, [(6, 28, 0), (6, 29, 0), (6, 30, 0), (1, 118, 0)]), am_3, am_1, am_1, ac_792, am_0, am_0, am_1, am_0, am_0, am_0, am_9]
noncomputable def rq_8 : RLs := [([(55, 12), (85, (-1))], 4), ([(56, 12), (86, (-1))], 4), ([(57, 12), (87, (-1))], 4), ([(58, 12), (88, (-1))], 4), ([(59, 12), (89, (-1))], 4), ([(60, 12), (90, (-1))], 4), ([(61, 12), (91, (-1))], 4), ([(62, 12), (92, (-1))], 4), ([(63, 12), (93, (-1))], 4), ([(64, 12), (94, (-1))], 4), ([(65, 12), (95, (-1))], 4), ([(66, 12), (96, (-1))], 4), ([(67, 12), (97, (-1))], 4), ([(68, 12), (98, (-1))], 4), ([(69, 12), (99, (-1))], 4), ([(70, 12), (100, (-1))], 4), ([(71, 12), (101, (-1))], 4), ([(72, 12), (102, (-1))], 4), ([(73, 12), (103, (-1))], 4), ([(74, 12), (104, (-1))], 4), ([(75, 12), (105, (-1))], 4), ([(76, 12), (106, (-1))], 4), ([(77, 12), (107, (-1))], 4), ([(78, 12), (108, (-1))], 4), ([(79, 12), (109, (-1))], 4), ([(80, 12), (110, (-1))], 4), ([(81, 12), (111, (-1))], 4), ([(82, 12), (112, (-1))], 4), ([(83, 12), (113, (-1))], 4), ([(84, 12), (114, (-1))], 4)]
noncomputable def gi_909 : GI := jl_n [gp_373, gp_415, jl_m 1 416, gp_352, gp_413]
noncomputable def ac_793 : AC := .inl (11, jl_n [vp_70, vp_101, jl_6 28 1, jl_6 4 1, jl_6 32 1, jl_8 14 3, jl_1 143 1, jl_8 17 2])
noncomputable def ac_794 : AC := .inl (3, jl_n [vp_120, jl_1 154 2])
noncomputable def ac_795 : AC := .inl (3, jl_n [vp_142, jl_1 171 2])
noncomputable def hq_633 : HP := [(true, ac_793), (false, .inl (9, [(6, 2, 0), (6, 13, 0)])), (false, ac_788), (true, ac_794), (true, am_0), (true, .inl (7, [(6, 6, 0), (6, 7, 0), (6, 8, 0), (1, 157, 0)])), (true, am_3), (true, am_1), (true, am_1), (false, am_1), (false, .inl (1, [(6, 2, 0), (8, 50, 0)])), (false, am_5), (false, am_7), (false, .inl (0, [(1, 51, 0), (6, 14, 0), (6, 15, 0), (6, 16, 0)])), (false, ac_790), (false, am_12), (false, ac_791), (false, am_4), (true, am_0), (false, am_11), (true, am_1), (true, am_0), (false, am_4), (false, am_10), (true, am_0), (true, am_0), (true, am_9), (true, .inl (7, [(6, 28, 0), (6, 29, 0), (6, 30, 0), (1, 161, 0)])), (true, am_3), (true, am_1), (true, am_1), (true, ac_795), (true, am_0), (true, am_0), (true, am_1), (true, am_0), (true, am_0), (true, am_0), (true, am_9)]
noncomputable def con_1248 : Con2 := ((yX11_speech, cX11_speech, 6, (some .int)), (7, 173), ([(6, 0, 0)], gi_908, hc_190, rq_8), [((1, 128, 0), gi_909, hq_633, [], tg_20)])
theorem hd_1248 : con_1248.1 = (yX11_speech, cX11_speech, 6, (some .int)) := rfl
theorem ck_RX11_332_1212 : COK2 RX11 vwCl gTbl 332 0 con_1212 := ⟨wd_1148, wd_133, mh_X7_copyFrom, .inr (.inr ⟨rfl, wd_1195, wd_1146, wd_1147, ⟨_, rfl, pd_X7_copyFrom⟩, 7, _, TX7, 4, rfl, rfl⟩)⟩
noncomputable def ct_1248 : CTB2 := [(1, 219, 0, con_667, [0, 1, 2]), (30, 281, 0, con_1131, [0, 4, 1, 5, 2, 6, 7, 8, 9, 10, 11, 12, 13, 14, 15, 16, 3, 17, 18, 19, 20, 21, 22, 23, 24, 25, 26]), (76, 332, 0, con_1212, [27, 5, 28, 6, 29, 7, 30, 8]), (96, 337, 0, con_1241, [0, 1, 2, 31, 27, 17, 32, 19, 33, 29, 34, 28, 35, 22, 23, 36, 37, 38, 30])]
noncomputable def gi_910 : GI := jl_n [gp_376, gp_415, jl_z 1, jl_m 0 416, gp_208, gp_416]
noncomputable def ac_796 : AC := .inl (11, jl_n [vp_70, vp_101, jl_6 28 1, jl_6 4 1, jl_6 32 1, jl_8 14 3, jl_c 1, jl_8 17 2])
noncomputable def ac_797 : AC := .inl (3, jl_n [vp_120, jl_1 157 2])
noncomputable def ac_798 : AC := .inl (3, jl_n [vp_142, jl_1 174 2])
noncomputable def hq_634 : HP := [(true, ac_796), (false, .inl (9, [(6, 2, 0), (6, 13, 0)])), (false, ac_788), (true, ac_797), (true, am_0), (true, .inl (7, [(6, 6, 0), (6, 7, 0), (6, 8, 0), (1, 160, 0)])), (true, am_3), (true, am_1), (true, am_1), (false, am_1), (false, .inl (1, [(6, 2, 0), (8, 50, 0)])), (false, am_5), (false, am_7), (false, .inl (0, [(1, 51, 0), (6, 14, 0), (6, 15, 0), (6, 16, 0)])), (false, ac_790), (false, am_12), (false, ac_791), (false, am_4), (true, am_0), (false, am_11), (true, am_1), (true, am_0), (false, am_4), (false, am_10), (true, am_0), (true, am_0), (true, am_9), (true, .inl (7, [(6, 28, 0), (6, 29, 0), (6, 30, 0), (1, 164, 0)])), (true, am_3), (true, am_1), (true, am_1), (true, ac_798), (true, am_0), (true, am_0), (true, am_1), (true, am_0), (true, am_0), (true, am_0), (true, am_9)]
noncomputable def gi_911 : GI := jl_n [gp_376, gp_418, gp_348, gp_413, jl_z 1, jl_m 0 416, jl_t, gp_341, gp_416]
noncomputable def ac_799 : AC := .inl (3, jl_n [vp_120, jl_1 158 2])
noncomputable def ac_800 : AC := .inl (3, jl_n [vp_142, jl_1 175 2])
noncomputable def hq_635 : HP := [(true, ac_796), (false, .inl (9, [(6, 2, 0), (6, 13, 0)])), (false, ac_788), (true, ac_799), (true, am_0), (true, .inl (7, [(6, 6, 0), (6, 7, 0), (6, 8, 0), (1, 161, 0)])), (true, am_3), (true, am_1), (true, am_1), (false, am_1), (false, .inl (1, [(6, 2, 0), (8, 50, 0)])), (false, am_5), (false, am_7), (false, .inl (0, [(1, 51, 0), (6, 14, 0), (6, 15, 0), (6, 16, 0)])), (false, ac_790), (false, am_12), (false, ac_791), (false, am_4), (true, am_0), (false, am_11), (true, am_1), (true, am_0), (false, am_4), (false, am_10), (true, am_0), (true, am_0), (true, am_9), (true, .inl (7, [(6, 28, 0), (6, 29, 0), (6, 30, 0), (1, 165, 0)])), (true, am_3), (true, am_1), (true, am_1), (true, ac_800), (true, am_0), (true, am_0), (true, am_1), (true, am_0), (true, am_0), (true, am_0), (true, am_9)]
noncomputable def cu_1248 : List CUT2 := [((36, [lq 0 6 0, lq 1 1 129, lq 2 1 130, lq 3 1 131], [], gi_910, hq_634), rq_8, ([(131, (-18))], 107)), ((53, [lq 0 6 0, lq 1 1 129, lq 2 1 130, lq 3 1 131, lq 4 1 132], [], gi_911, hq_635), rq_8, ([(131, (-18)), (132, (-1))], 106))]
theorem ch_1248 : staG tb_X11_speech 1 bt_RX11 [] ct_1248 [] [] cu_1248 41 con_1248 = true := by decide +kernel
theorem cc_1248 : cu_1248.all (cutG tb_X11_speech 1 bt_RX11 [] ct_1248 [] [] cu_1248 41 con_1248) = true := by decide +kernel
theorem cto_1248 (l : Launch) : CTOK2 l RX11 vwCl gTbl ct_1248 := ct2_cons (vl_667 l) ck_RX11_219_667 (ct2_cons (vl_1131 l) ck_RX11_281_1131 (ct2_cons (vl_1212 l) ck_RX11_332_1212 (ct2_cons (vl_1241 l) ck_RX11_337_1241 (ct2_nil))))
theorem vl_1248 (l : Launch) : Vld2 l vwCl gTbl con_1248 := conR_ok3 gT_all (hd_1248) rfl pn_RX11 tk_X11_speech bo_RX11 xo_RX11 (cto_1248 l) ch_1248 (cut_all cc_1248)
/-- RookHustingModel speech -/
noncomputable def gi_912 : GI := jl_n [gp_293, jl_m 1 416, jl_z 45]
noncomputable def con_1249 : Con2 := ((yX12_speech, cX12_speech, 6, (some .int)), (9, 208), ([(6, 0, 0)], gi_505, hc_147, []), [((1, 69, 0), gi_912, hq_566, [], tg_1)])
theorem hd_1249 : con_1249.1 = (yX12_speech, cX12_speech, 6, (some .int)) := rfl
noncomputable def ct_1249 : CTB2 := [(1, 366, 0, con_1109, [0, 1, 2, 3, 4, 5, 6, 7, 8, 9, 10, 11, 12]), (11, 390, 0, con_1223, [0, 1, 7]), (21, 106, 0, con_646, [0, 1]), (33, 103, 0, con_1100, [0, 1]), (61, 363, 0, con_1108, [0, 1, 7, 8, 5, 6, 9, 10, 11, 12]), (73, 390, 0, con_1223, [0, 1, 7]), (84, 390, 0, con_1223, [0, 1, 7])]
noncomputable def gi_913 : GI := jl_n [gp_377, jl_t, jl_m 0 416, gp_290]
noncomputable def gi_914 : GI := jl_n [gp_292, gp_167, gp_204, jl_t, jl_m 0 416, gp_341, jl_z 45]
noncomputable def cu_1249 : List CUT2 := [((19, [lq 0 6 0, lq 1 1 70, lq 2 1 71, lq 3 1 72], [], gi_913, hq_566), [], ([(72, (-18))], 107)), ((30, [lq 0 6 0, lq 1 1 70, lq 2 1 71, lq 3 1 72, lq 4 1 73], [], gi_914, hq_566), [], ([(72, (-18)), (73, (-1))], 106))]
theorem ch_1249 : staG tb_X12_speech 1 bt_RX12 [] ct_1249 [] [] cu_1249 44 con_1249 = true := by decide +kernel
theorem cc_1249 : cu_1249.all (cutG tb_X12_speech 1 bt_RX12 [] ct_1249 [] [] cu_1249 44 con_1249) = true := by decide +kernel
theorem cto_1249 (l : Launch) : CTOK2 l RX12 vwCl gTbl ct_1249 := ct2_cons (vl_1109 l) ck_RX12_366_1109 (ct2_cons (vl_1223 l) ck_RX12_390_1223 (ct2_cons (vl_646 l) ck_RX12_106_646 (ct2_cons (vl_1100 l) ck_RX12_103_1100 (ct2_cons (vl_1108 l) ck_RX12_363_1108 (ct2_cons (vl_1223 l) ck_RX12_390_1223 (ct2_cons (vl_1223 l) ck_RX12_390_1223 (ct2_nil)))))))
theorem vl_1249 (l : Launch) : Vld2 l vwCl gTbl con_1249 := conR_ok3 gT_all (hd_1249) rfl pn_RX12 tk_X12_speech bo_RX12 xo_RX12 (cto_1249 l) ch_1249 (cut_all cc_1249)
/-- RookHusting gap -/
noncomputable def gi_915 : GI := jl_n [gp_373, gp_415, jl_m 1 59, gp_352, gp_413]
noncomputable def con_1250 : Con2 := ((yX11_gap, cX11_gap, 6, (some .int)), (7, 173), ([(6, 0, 0)], gi_908, hc_190, rq_8), [((1, 128, 0), gi_915, hq_633, [], tg_20)])
theorem hd_1250 : con_1250.1 = (yX11_gap, cX11_gap, 6, (some .int)) := rfl
noncomputable def ct_1250 : CTB2 := [(1, 219, 0, con_667, [0, 1, 2]), (30, 281, 0, con_1131, [0, 4, 1, 5, 2, 6, 7, 8, 9, 10, 11, 12, 13, 14, 15, 16, 3, 17, 18, 19, 20, 21, 22, 23, 24, 25, 26]), (78, 332, 0, con_1212, [27, 5, 28, 6, 29, 7, 30, 8]), (114, 337, 0, con_1241, [0, 1, 2, 31, 27, 17, 32, 19, 33, 29, 34, 28, 35, 22, 23, 36, 37, 38, 30])]
noncomputable def gi_916 : GI := jl_n [gp_376, gp_415, jl_z 1, jl_m 0 59, gp_208, gp_416]
noncomputable def gi_917 : GI := jl_n [gp_376, gp_418, gp_348, gp_413, jl_z 1, jl_m 0 59, gp_302, jl_i 1 5, gp_416]
noncomputable def cu_1250 : List CUT2 := [((36, [lq 0 6 0, lq 1 1 129, lq 2 1 130, lq 3 1 131], [], gi_916, hq_634), rq_8, ([(131, (-6))], 35)), ((55, [lq 0 6 0, lq 1 1 129, lq 2 1 130, lq 3 1 131, lq 4 1 132], [], gi_917, hq_635), rq_8, ([(131, (-6)), (132, (-1))], 35))]
theorem ch_1250 : staG tb_X11_gap 1 bt_RX11 [] ct_1250 [] [] cu_1250 52 con_1250 = true := by decide +kernel
theorem cc_1250 : cu_1250.all (cutG tb_X11_gap 1 bt_RX11 [] ct_1250 [] [] cu_1250 52 con_1250) = true := by decide +kernel
theorem cto_1250 (l : Launch) : CTOK2 l RX11 vwCl gTbl ct_1250 := ct2_cons (vl_667 l) ck_RX11_219_667 (ct2_cons (vl_1131 l) ck_RX11_281_1131 (ct2_cons (vl_1212 l) ck_RX11_332_1212 (ct2_cons (vl_1241 l) ck_RX11_337_1241 (ct2_nil))))
theorem vl_1250 (l : Launch) : Vld2 l vwCl gTbl con_1250 := conR_ok3 gT_all (hd_1250) rfl pn_RX11 tk_X11_gap bo_RX11 xo_RX11 (cto_1250 l) ch_1250 (cut_all cc_1250)
/-- RookHustingModel fields -/
noncomputable def gi_918 : GI := jl_n [jl_z 46, gp_419]
noncomputable def gi_919 : GI := jl_n [jl_z 46, gp_169]
noncomputable def con_1251 : Con2 := ((yX12_fields, cX12_fields, 1, (some .int)), (0, 0), ([(6, 0, 0)], gi_918, [ac_435, ac_436], []), [((1, 49, 0), gi_919, [(false, ac_435), (false, ac_436)], [], [1])])
theorem hd_1251 : con_1251.1 = (yX12_fields, cX12_fields, 1, (some .int)) := rfl
noncomputable def cu_1251 : List CUT2 := []
theorem ch_1251 : staG tb_X12_fields 1 bt_RX12 [] ct_2 [] [] cu_1251 7 con_1251 = true := by decide +kernel
theorem vl_1251 (l : Launch) : Vld2 l vwCl gTbl con_1251 := conR_ok3 gT_all (hd_1251) rfl pn_RX12 tk_X12_fields bo_RX12 xo_RX12 (cto_2 l) ch_1251 cut_nil
/-- RookHustingModel gap -/
noncomputable def gi_920 : GI := jl_n [gp_293, jl_m 1 59, gp_173]
noncomputable def ac_801 : AC := .inl (12, jl_n [vp_87, jl_c 0, jl_1 95 2, vp_113])
noncomputable def hq_636 : HP := [(true, ac_801), (false, ac_436), (true, am_8), (true, am_6), (true, am_3), (true, am_3), (true, am_1), (true, am_0), (true, am_0), (true, am_0), (true, am_13), (true, am_14), (true, am_15)]
noncomputable def con_1252 : Con2 := ((yX12_gap, cX12_gap, 5, (some .int)), (9, 208), ([(6, 0, 0)], gi_505, hc_147, []), [((1, 69, 0), gi_920, hq_636, [], tg_1)])
theorem hd_1252 : con_1252.1 = (yX12_gap, cX12_gap, 5, (some .int)) := rfl
theorem ck_RX12_106_1251 : COK2 RX12 vwCl gTbl 106 0 con_1251 := ⟨wd_1660, wd_137, mh_X12_fields, .inr (.inr ⟨rfl, wd_1657, wd_1659, wd_67, ⟨_, rfl, pd_X12_fields⟩, 12, _, TX12, 45, rfl, rfl⟩)⟩
noncomputable def ct_1252 : CTB2 := [(1, 366, 0, con_1109, [0, 1, 2, 3, 4, 5, 6, 7, 8, 9, 10, 11, 12]), (11, 390, 0, con_1223, [0, 1, 7]), (21, 106, 0, con_646, [0, 1]), (35, 106, 0, con_1251, [0, 1]), (53, 363, 0, con_1108, [0, 1, 7, 8, 5, 6, 9, 10, 11, 12]), (57, 390, 0, con_1223, [0, 1, 7]), (68, 390, 0, con_1223, [0, 1, 7])]
noncomputable def gi_921 : GI := jl_n [gp_377, jl_t, jl_m 0 59, jl_i 0 5, gp_173]
noncomputable def ac_802 : AC := .inl (12, jl_n [vp_87, jl_c 0, jl_1 98 2, vp_113])
noncomputable def hq_637 : HP := [(true, ac_802), (false, ac_436), (true, am_8), (true, am_6), (true, am_3), (true, am_3), (true, am_1), (true, am_0), (true, am_0), (true, am_0), (true, am_13), (true, am_14), (true, am_15)]
noncomputable def gi_922 : GI := jl_n [gp_292, gp_167, gp_204, jl_t, jl_m 0 59, jl_i 0 4, jl_i 1 5, gp_173]
noncomputable def ac_803 : AC := .inl (12, jl_n [vp_87, jl_c 0, jl_1 99 2, vp_113])
noncomputable def hq_638 : HP := [(true, ac_803), (false, ac_436), (true, am_8), (true, am_6), (true, am_3), (true, am_3), (true, am_1), (true, am_0), (true, am_0), (true, am_0), (true, am_13), (true, am_14), (true, am_15)]
noncomputable def cu_1252 : List CUT2 := [((19, [lq 0 6 0, lq 1 1 70, lq 2 1 71, lq 3 1 72], [], gi_921, hq_637), [], ([(72, (-6))], 35)), ((32, [lq 0 6 0, lq 1 1 70, lq 2 1 71, lq 3 1 72, lq 4 1 73], [], gi_922, hq_638), [], ([(72, (-6)), (73, (-1))], 35))]
theorem ch_1252 : staG tb_X12_gap 1 bt_RX12 [] ct_1252 [] [] cu_1252 30 con_1252 = true := by decide +kernel
theorem cc_1252 : cu_1252.all (cutG tb_X12_gap 1 bt_RX12 [] ct_1252 [] [] cu_1252 30 con_1252) = true := by decide +kernel
theorem cto_1252 (l : Launch) : CTOK2 l RX12 vwCl gTbl ct_1252 := ct2_cons (vl_1109 l) ck_RX12_366_1109 (ct2_cons (vl_1223 l) ck_RX12_390_1223 (ct2_cons (vl_646 l) ck_RX12_106_646 (ct2_cons (vl_1251 l) ck_RX12_106_1251 (ct2_cons (vl_1108 l) ck_RX12_363_1108 (ct2_cons (vl_1223 l) ck_RX12_390_1223 (ct2_cons (vl_1223 l) ck_RX12_390_1223 (ct2_nil)))))))
theorem vl_1252 (l : Launch) : Vld2 l vwCl gTbl con_1252 := conR_ok3 gT_all (hd_1252) rfl pn_RX12 tk_X12_gap bo_RX12 xo_RX12 (cto_1252 l) ch_1252 (cut_all cc_1252)
/-- RookHusting$Slots isSlot -/
noncomputable def con_1253 : Con2 := ((yX8_isSlot, cX8_isSlot, 1, (some .boolean)), (0, 0), ([(1, 0, 0)], [(4, 2147483647)], [], []), [((0, 0, 0), [(4, 2147483647), (0, 0)], [], [], [1])])
theorem hd_1253 : con_1253.1 = (yX8_isSlot, cX8_isSlot, 1, (some .boolean)) := rfl
noncomputable def ct_1253 : CTB2 := []
noncomputable def cu_1253 : List CUT2 := []
theorem ch_1253 : staG tb_X8_isSlot 1 bt_RX8 [] ct_1253 [] [] cu_1253 9 con_1253 = true := by decide +kernel
theorem cto_1253 (l : Launch) : CTOK2 l RX8 vwCl gTbl ct_1253 := ct2_nil
theorem vl_1253 (l : Launch) : Vld2 l vwCl gTbl con_1253 := conR_ok3 gT_all (hd_1253) rfl pn_RX8 tk_X8_isSlot bo_RX8 xo_RX8 (cto_1253 l) ch_1253 cut_nil
/-- RookHusting wrongSeen -/
noncomputable def gi_923 : GI := jl_n [gp_421, gp_424]
noncomputable def ac_804 : AC := .inl (11, jl_n [vp_143, jl_6 4 1, jl_8 19 11])
noncomputable def ac_805 : AC := .inl (4, jl_n [jl_8 22 1, jl_1 23 1, jl_8 25 2, jl_1 26 1, jl_8 38 12])
noncomputable def ac_806 : AC := .inr (1, jl_n [js_1 45 4])
noncomputable def ac_807 : AC := .inr (2, jl_n [js_5 240 9223372036854775807 9223372036854775807])
noncomputable def hc_191 : List AC := [ac_804, .inl (9, [(6, 2, 0), (8, 20, 0)]), ac_805, .inl (8, [(6, 5, 0), (8, 39, 0), (6, 4, 0)]), ac_806, ac_807]
noncomputable def gi_924 : GI := jl_n [gp_421, gp_423, gp_425]
noncomputable def hq_639 : HP := [(false, ac_804), (false, .inl (9, [(6, 2, 0), (8, 20, 0)])), (false, ac_805), (false, .inl (8, [(6, 5, 0), (8, 39, 0), (6, 4, 0)])), (false, ac_806), (false, ac_807)]
noncomputable def con_1254 : Con2 := ((yX11_wrongSeen, cX11_wrongSeen, 5, (some .int)), (1, 20), ([(6, 0, 0), (1, 1, 0), (1, 2, 0)], gi_923, hc_191, []), [((0, (-2), 0), gi_924, hq_639, [], [1])])
theorem hd_1254 : con_1254.1 = (yX11_wrongSeen, cX11_wrongSeen, 5, (some .int)) := rfl
theorem ck_RX11_414_1253 : COK2 RX11 vwCl gTbl 414 1 con_1253 := ⟨wd_1210, wd_131, mh_X8_isSlot, .inl ⟨rfl, wd_1208, wd_1209, pd_X8_isSlot⟩⟩
noncomputable def ct_1254 : CTB2 := [(1, 414, 1, con_1253, [])]
noncomputable def cu_1254 : List CUT2 := []
theorem ch_1254 : staG tb_X11_wrongSeen 1 bt_RX11 [] ct_1254 [] [] cu_1254 7 con_1254 = true := by decide +kernel
theorem cto_1254 (l : Launch) : CTOK2 l RX11 vwCl gTbl ct_1254 := ct2_cons (vl_1253 l) ck_RX11_414_1253 (ct2_nil)
theorem vl_1254 (l : Launch) : Vld2 l vwCl gTbl con_1254 := conR_ok3 gT_all (hd_1254) rfl pn_RX11 tk_X11_wrongSeen bo_RX11 xo_RX11 (cto_1254 l) ch_1254 cut_nil
/-- RookHusting$Slots isSlot -/
noncomputable def con_1255 : Con2 := ((yX8_isSlot, cX8_isSlot, 1, (some .boolean)), (0, 0), ([(0, 3, 0)], [(0, 0)], [], []), [((0, 1, 0), [(0, 0), (0, 0)], [], [], [1])])
theorem hd_1255 : con_1255.1 = (yX8_isSlot, cX8_isSlot, 1, (some .boolean)) := rfl
noncomputable def cu_1255 : List CUT2 := []
theorem ch_1255 : staG tb_X8_isSlot 1 bt_RX8 [] ct_1253 [] [] cu_1255 10 con_1255 = true := by decide +kernel
theorem vl_1255 (l : Launch) : Vld2 l vwCl gTbl con_1255 := conR_ok3 gT_all (hd_1255) rfl pn_RX8 tk_X8_isSlot bo_RX8 xo_RX8 (cto_1253 l) ch_1255 cut_nil
/-- RookHusting$Slots hasRow -/
noncomputable def gi_925 : GI := jl_n [jl_z 5, jl_r 4 (jl_m 0 60)]
noncomputable def ac_808 : AC := .inr (1, jl_n [js_1 9 4])
noncomputable def gi_926 : GI := jl_n [jl_z 5, jl_r 3 (jl_m 0 60), jl_k 0 0, jl_z 1]
noncomputable def hq_640 : HP := [(false, .inl (8, [(8, 2, 0), (8, 3, 0), (6, 1, 0)])), (false, ac_808)]
noncomputable def gi_927 : GI := jl_n [jl_z 5, gp_426, jl_z 1]
noncomputable def con_1256 : Con2 := ((yX8_hasRow, cX8_hasRow, 2, (some .boolean)), (0, 0), ([(6, 0, 0), (0, 3, 0)], gi_925, [.inl (8, [(8, 2, 0), (8, 3, 0), (6, 1, 0)]), ac_808], []), [((0, 0, 0), gi_926, hq_640, [], [1]), ((0, 1, 0), gi_927, hq_640, [], [1])])
theorem hd_1256 : con_1256.1 = (yX8_hasRow, cX8_hasRow, 2, (some .boolean)) := rfl
noncomputable def cu_1256 : List CUT2 := []
theorem ch_1256 : staG tb_X8_hasRow 1 bt_RX8 [] ct_1253 [] [] cu_1256 11 con_1256 = true := by decide +kernel
theorem vl_1256 (l : Launch) : Vld2 l vwCl gTbl con_1256 := conR_ok3 gT_all (hd_1256) rfl pn_RX8 tk_X8_hasRow bo_RX8 xo_RX8 (cto_1253 l) ch_1256 cut_nil
/-- RookHusting$Slots at -/
noncomputable def gi_928 : GI := jl_n [jl_z 6, jl_u]
noncomputable def ac_809 : AC := .inr (2, jl_n [js_5 180 9223372036854775807 9223372036854775807, js_4 7 1, js_5 59 9223372036854775807 9223372036854775807])
noncomputable def gi_929 : GI := jl_n [jl_z 6, gp_129]
noncomputable def hq_641 : HP := [(false, .inl (8, [(6, 1, 0), (8, 4, 0), (8, 5, 0)])), (false, ac_809)]
noncomputable def con_1257 : Con2 := ((yX8_at, cX8_at, 3, (some .long)), (0, 0), ([(6, 0, 0), (0, 3, 0), (0, 0, 0)], gi_928, [.inl (8, [(6, 1, 0), (8, 4, 0), (8, 5, 0)]), ac_809], []), [((4, 6, 0), gi_929, hq_641, [], [1])])
theorem hd_1257 : con_1257.1 = (yX8_at, cX8_at, 3, (some .long)) := rfl
noncomputable def cu_1257 : List CUT2 := []
theorem ch_1257 : staG tb_X8_at 1 bt_RX8 [] ct_1253 [] [] cu_1257 11 con_1257 = true := by decide +kernel
theorem vl_1257 (l : Launch) : Vld2 l vwCl gTbl con_1257 := conR_ok3 gT_all (hd_1257) rfl pn_RX8 tk_X8_at bo_RX8 xo_RX8 (cto_1253 l) ch_1257 cut_nil
/-- RookHusting isBetween -/
noncomputable def gi_930 : GI := jl_n [jl_u, gp_94]
noncomputable def con_1258 : Con2 := ((yX11_isBetween, cX11_isBetween, 3, (some .boolean)), (0, 0), ([(4, 0, 0), (1, 1, 0)], [((-9223372036854775808), 9223372036854775807), (0, 4)], [], []), [((0, 0, 0), gi_930, [], [], [1]), ((0, 1, 0), [(0, 4), (0, 4), (0, 0)], [], [], [1])])
theorem hd_1258 : con_1258.1 = (yX11_isBetween, cX11_isBetween, 3, (some .boolean)) := rfl
noncomputable def cu_1258 : List CUT2 := []
theorem ch_1258 : staG tb_X11_isBetween 1 bt_RX11 [] ct_3 [] [] cu_1258 12 con_1258 = true := by decide +kernel
theorem vl_1258 (l : Launch) : Vld2 l vwCl gTbl con_1258 := conR_ok3 gT_all (hd_1258) rfl pn_RX11 tk_X11_isBetween bo_RX11 xo_RX11 (cto_3 l) ch_1258 cut_nil
/-- RookHusting$Slots at -/
noncomputable def ac_810 : AC := .inr (2, jl_n [js_5 181 9223372036854775807 9223372036854775807, js_4 7 1, js_5 58 9223372036854775807 9223372036854775807])
noncomputable def hq_642 : HP := [(false, .inl (8, [(6, 1, 0), (8, 4, 0), (8, 5, 0)])), (false, ac_810)]
noncomputable def con_1259 : Con2 := ((yX8_at, cX8_at, 3, (some .long)), (0, 0), ([(6, 0, 0), (0, 3, 0), (0, 1, 0)], gi_928, [.inl (8, [(6, 1, 0), (8, 4, 0), (8, 5, 0)]), ac_810], []), [((4, 6, 0), gi_929, hq_642, [], [1])])
theorem hd_1259 : con_1259.1 = (yX8_at, cX8_at, 3, (some .long)) := rfl
noncomputable def cu_1259 : List CUT2 := []
theorem ch_1259 : staG tb_X8_at 1 bt_RX8 [] ct_1253 [] [] cu_1259 11 con_1259 = true := by decide +kernel
theorem vl_1259 (l : Launch) : Vld2 l vwCl gTbl con_1259 := conR_ok3 gT_all (hd_1259) rfl pn_RX8 tk_X8_at bo_RX8 xo_RX8 (cto_1253 l) ch_1259 cut_nil
/-- RookHusting isBetween -/
noncomputable def gi_931 : GI := jl_n [jl_u, gp_361]
noncomputable def con_1260 : Con2 := ((yX11_isBetween, cX11_isBetween, 3, (some .boolean)), (0, 0), ([(4, 0, 0), (1, 1, 0)], [((-9223372036854775808), 9223372036854775807), (0, 16)], [], []), [((0, 0, 0), gi_931, [], [], [1]), ((0, 1, 0), [(0, 16), (0, 16), (0, 0)], [], [], [1])])
theorem hd_1260 : con_1260.1 = (yX11_isBetween, cX11_isBetween, 3, (some .boolean)) := rfl
noncomputable def cu_1260 : List CUT2 := []
theorem ch_1260 : staG tb_X11_isBetween 1 bt_RX11 [] ct_3 [] [] cu_1260 12 con_1260 = true := by decide +kernel
theorem vl_1260 (l : Launch) : Vld2 l vwCl gTbl con_1260 := conR_ok3 gT_all (hd_1260) rfl pn_RX11 tk_X11_isBetween bo_RX11 xo_RX11 (cto_3 l) ch_1260 cut_nil
/-- RookHusting$Slots at -/
noncomputable def ac_811 : AC := .inr (2, jl_n [js_5 182 9223372036854775807 9223372036854775807, js_4 7 1, js_5 57 9223372036854775807 9223372036854775807])
noncomputable def hq_643 : HP := [(false, .inl (8, [(6, 1, 0), (8, 4, 0), (8, 5, 0)])), (false, ac_811)]
noncomputable def con_1261 : Con2 := ((yX8_at, cX8_at, 3, (some .long)), (0, 0), ([(6, 0, 0), (0, 3, 0), (0, 2, 0)], gi_928, [.inl (8, [(6, 1, 0), (8, 4, 0), (8, 5, 0)]), ac_811], []), [((4, 6, 0), gi_929, hq_643, [], [1])])
theorem hd_1261 : con_1261.1 = (yX8_at, cX8_at, 3, (some .long)) := rfl
noncomputable def cu_1261 : List CUT2 := []
theorem ch_1261 : staG tb_X8_at 1 bt_RX8 [] ct_1253 [] [] cu_1261 11 con_1261 = true := by decide +kernel
theorem vl_1261 (l : Launch) : Vld2 l vwCl gTbl con_1261 := conR_ok3 gT_all (hd_1261) rfl pn_RX8 tk_X8_at bo_RX8 xo_RX8 (cto_1253 l) ch_1261 cut_nil
/-- RookHusting isBetween -/
noncomputable def con_1262 : Con2 := ((yX11_isBetween, cX11_isBetween, 3, (some .boolean)), (0, 0), ([(4, 0, 0), (0, 250, 0)], [((-9223372036854775808), 9223372036854775807), (0, 0)], [], []), [((0, 0, 0), gi_146, [], [], [1]), ((0, 1, 0), [(0, 250), (0, 0), (0, 0)], [], [], [1])])
theorem hd_1262 : con_1262.1 = (yX11_isBetween, cX11_isBetween, 3, (some .boolean)) := rfl
noncomputable def cu_1262 : List CUT2 := []
theorem ch_1262 : staG tb_X11_isBetween 1 bt_RX11 [] ct_3 [] [] cu_1262 12 con_1262 = true := by decide +kernel
theorem vl_1262 (l : Launch) : Vld2 l vwCl gTbl con_1262 := conR_ok3 gT_all (hd_1262) rfl pn_RX11 tk_X11_isBetween bo_RX11 xo_RX11 (cto_3 l) ch_1262 cut_nil
/-- RookHusting$Slots at -/
noncomputable def ac_812 : AC := .inr (2, jl_n [js_5 183 9223372036854775807 9223372036854775807, js_4 7 1, js_5 56 9223372036854775807 9223372036854775807])
noncomputable def hq_644 : HP := [(false, .inl (8, [(6, 1, 0), (8, 4, 0), (8, 5, 0)])), (false, ac_812)]
noncomputable def con_1263 : Con2 := ((yX8_at, cX8_at, 3, (some .long)), (0, 0), ([(6, 0, 0), (0, 3, 0), (0, 3, 0)], gi_928, [.inl (8, [(6, 1, 0), (8, 4, 0), (8, 5, 0)]), ac_812], []), [((4, 6, 0), gi_929, hq_644, [], [1])])
theorem hd_1263 : con_1263.1 = (yX8_at, cX8_at, 3, (some .long)) := rfl
noncomputable def cu_1263 : List CUT2 := []
theorem ch_1263 : staG tb_X8_at 1 bt_RX8 [] ct_1253 [] [] cu_1263 11 con_1263 = true := by decide +kernel
theorem vl_1263 (l : Launch) : Vld2 l vwCl gTbl con_1263 := conR_ok3 gT_all (hd_1263) rfl pn_RX8 tk_X8_at bo_RX8 xo_RX8 (cto_1253 l) ch_1263 cut_nil
/-- RookHusting$Slots at -/
noncomputable def ac_813 : AC := .inr (2, jl_n [js_5 184 9223372036854775807 9223372036854775807, js_4 7 1, js_5 55 9223372036854775807 9223372036854775807])
noncomputable def hq_645 : HP := [(false, .inl (8, [(6, 1, 0), (8, 4, 0), (8, 5, 0)])), (false, ac_813)]
noncomputable def con_1264 : Con2 := ((yX8_at, cX8_at, 3, (some .long)), (0, 0), ([(6, 0, 0), (0, 3, 0), (0, 4, 0)], gi_928, [.inl (8, [(6, 1, 0), (8, 4, 0), (8, 5, 0)]), ac_813], []), [((4, 6, 0), gi_929, hq_645, [], [1])])
theorem hd_1264 : con_1264.1 = (yX8_at, cX8_at, 3, (some .long)) := rfl
noncomputable def cu_1264 : List CUT2 := []
theorem ch_1264 : staG tb_X8_at 1 bt_RX8 [] ct_1253 [] [] cu_1264 11 con_1264 = true := by decide +kernel
theorem vl_1264 (l : Launch) : Vld2 l vwCl gTbl con_1264 := conR_ok3 gT_all (hd_1264) rfl pn_RX8 tk_X8_at bo_RX8 xo_RX8 (cto_1253 l) ch_1264 cut_nil
/-- RookHusting$Slots at -/
noncomputable def ac_814 : AC := .inr (2, jl_n [js_5 185 9223372036854775807 9223372036854775807, js_4 7 1, js_5 54 9223372036854775807 9223372036854775807])
noncomputable def hq_646 : HP := [(false, .inl (8, [(6, 1, 0), (8, 4, 0), (8, 5, 0)])), (false, ac_814)]
noncomputable def con_1265 : Con2 := ((yX8_at, cX8_at, 3, (some .long)), (0, 0), ([(6, 0, 0), (0, 3, 0), (0, 5, 0)], gi_928, [.inl (8, [(6, 1, 0), (8, 4, 0), (8, 5, 0)]), ac_814], []), [((4, 6, 0), gi_929, hq_646, [], [1])])
theorem hd_1265 : con_1265.1 = (yX8_at, cX8_at, 3, (some .long)) := rfl
noncomputable def cu_1265 : List CUT2 := []
theorem ch_1265 : staG tb_X8_at 1 bt_RX8 [] ct_1253 [] [] cu_1265 11 con_1265 = true := by decide +kernel
theorem vl_1265 (l : Launch) : Vld2 l vwCl gTbl con_1265 := conR_ok3 gT_all (hd_1265) rfl pn_RX8 tk_X8_at bo_RX8 xo_RX8 (cto_1253 l) ch_1265 cut_nil
/-- RookHusting$Slots at -/
noncomputable def ac_815 : AC := .inr (2, jl_n [js_5 186 9223372036854775807 9223372036854775807, js_4 7 1, js_5 53 9223372036854775807 9223372036854775807])
noncomputable def hq_647 : HP := [(false, .inl (8, [(6, 1, 0), (8, 4, 0), (8, 5, 0)])), (false, ac_815)]
noncomputable def con_1266 : Con2 := ((yX8_at, cX8_at, 3, (some .long)), (0, 0), ([(6, 0, 0), (0, 3, 0), (0, 6, 0)], gi_928, [.inl (8, [(6, 1, 0), (8, 4, 0), (8, 5, 0)]), ac_815], []), [((4, 6, 0), gi_929, hq_647, [], [1])])
theorem hd_1266 : con_1266.1 = (yX8_at, cX8_at, 3, (some .long)) := rfl
noncomputable def cu_1266 : List CUT2 := []
theorem ch_1266 : staG tb_X8_at 1 bt_RX8 [] ct_1253 [] [] cu_1266 11 con_1266 = true := by decide +kernel
theorem vl_1266 (l : Launch) : Vld2 l vwCl gTbl con_1266 := conR_ok3 gT_all (hd_1266) rfl pn_RX8 tk_X8_at bo_RX8 xo_RX8 (cto_1253 l) ch_1266 cut_nil
/-- RookHusting$Slots at -/
noncomputable def ac_816 : AC := .inr (2, jl_n [js_5 187 9223372036854775807 9223372036854775807, js_4 7 1, js_5 52 9223372036854775807 9223372036854775807])
noncomputable def hq_648 : HP := [(false, .inl (8, [(6, 1, 0), (8, 4, 0), (8, 5, 0)])), (false, ac_816)]
noncomputable def con_1267 : Con2 := ((yX8_at, cX8_at, 3, (some .long)), (0, 0), ([(6, 0, 0), (0, 3, 0), (0, 7, 0)], gi_928, [.inl (8, [(6, 1, 0), (8, 4, 0), (8, 5, 0)]), ac_816], []), [((4, 6, 0), gi_929, hq_648, [], [1])])
theorem hd_1267 : con_1267.1 = (yX8_at, cX8_at, 3, (some .long)) := rfl
noncomputable def cu_1267 : List CUT2 := []
theorem ch_1267 : staG tb_X8_at 1 bt_RX8 [] ct_1253 [] [] cu_1267 11 con_1267 = true := by decide +kernel
theorem vl_1267 (l : Launch) : Vld2 l vwCl gTbl con_1267 := conR_ok3 gT_all (hd_1267) rfl pn_RX8 tk_X8_at bo_RX8 xo_RX8 (cto_1253 l) ch_1267 cut_nil
/-- RookHusting$Slots at -/
noncomputable def ac_817 : AC := .inr (2, jl_n [js_5 188 9223372036854775807 9223372036854775807, js_4 7 1, js_5 51 9223372036854775807 9223372036854775807])
noncomputable def hq_649 : HP := [(false, .inl (8, [(6, 1, 0), (8, 4, 0), (8, 5, 0)])), (false, ac_817)]
noncomputable def con_1268 : Con2 := ((yX8_at, cX8_at, 3, (some .long)), (0, 0), ([(6, 0, 0), (0, 3, 0), (0, 8, 0)], gi_928, [.inl (8, [(6, 1, 0), (8, 4, 0), (8, 5, 0)]), ac_817], []), [((4, 6, 0), gi_929, hq_649, [], [1])])
theorem hd_1268 : con_1268.1 = (yX8_at, cX8_at, 3, (some .long)) := rfl
noncomputable def cu_1268 : List CUT2 := []
theorem ch_1268 : staG tb_X8_at 1 bt_RX8 [] ct_1253 [] [] cu_1268 11 con_1268 = true := by decide +kernel
theorem vl_1268 (l : Launch) : Vld2 l vwCl gTbl con_1268 := conR_ok3 gT_all (hd_1268) rfl pn_RX8 tk_X8_at bo_RX8 xo_RX8 (cto_1253 l) ch_1268 cut_nil
/-- RookHusting$Slots at -/
noncomputable def ac_818 : AC := .inr (2, jl_n [js_5 189 9223372036854775807 9223372036854775807, js_4 7 1, js_5 50 9223372036854775807 9223372036854775807])
noncomputable def hq_650 : HP := [(false, .inl (8, [(6, 1, 0), (8, 4, 0), (8, 5, 0)])), (false, ac_818)]
noncomputable def con_1269 : Con2 := ((yX8_at, cX8_at, 3, (some .long)), (0, 0), ([(6, 0, 0), (0, 3, 0), (0, 9, 0)], gi_928, [.inl (8, [(6, 1, 0), (8, 4, 0), (8, 5, 0)]), ac_818], []), [((4, 6, 0), gi_929, hq_650, [], [1])])
theorem hd_1269 : con_1269.1 = (yX8_at, cX8_at, 3, (some .long)) := rfl
noncomputable def cu_1269 : List CUT2 := []
theorem ch_1269 : staG tb_X8_at 1 bt_RX8 [] ct_1253 [] [] cu_1269 11 con_1269 = true := by decide +kernel
theorem vl_1269 (l : Launch) : Vld2 l vwCl gTbl con_1269 := conR_ok3 gT_all (hd_1269) rfl pn_RX8 tk_X8_at bo_RX8 xo_RX8 (cto_1253 l) ch_1269 cut_nil
/-- RookHusting$Slots at -/
noncomputable def ac_819 : AC := .inr (2, jl_n [js_5 190 9223372036854775807 9223372036854775807, js_4 7 1, js_5 49 9223372036854775807 9223372036854775807])
noncomputable def hq_651 : HP := [(false, .inl (8, [(6, 1, 0), (8, 4, 0), (8, 5, 0)])), (false, ac_819)]
noncomputable def con_1270 : Con2 := ((yX8_at, cX8_at, 3, (some .long)), (0, 0), ([(6, 0, 0), (0, 3, 0), (0, 10, 0)], gi_928, [.inl (8, [(6, 1, 0), (8, 4, 0), (8, 5, 0)]), ac_819], []), [((4, 6, 0), gi_929, hq_651, [], [1])])
theorem hd_1270 : con_1270.1 = (yX8_at, cX8_at, 3, (some .long)) := rfl
noncomputable def cu_1270 : List CUT2 := []
theorem ch_1270 : staG tb_X8_at 1 bt_RX8 [] ct_1253 [] [] cu_1270 11 con_1270 = true := by decide +kernel
theorem vl_1270 (l : Launch) : Vld2 l vwCl gTbl con_1270 := conR_ok3 gT_all (hd_1270) rfl pn_RX8 tk_X8_at bo_RX8 xo_RX8 (cto_1253 l) ch_1270 cut_nil
/-- RookHusting$Slots at -/
noncomputable def ac_820 : AC := .inr (2, jl_n [js_5 191 9223372036854775807 9223372036854775807, js_4 7 1, js_5 48 9223372036854775807 9223372036854775807])
noncomputable def hq_652 : HP := [(false, .inl (8, [(6, 1, 0), (8, 4, 0), (8, 5, 0)])), (false, ac_820)]
noncomputable def con_1271 : Con2 := ((yX8_at, cX8_at, 3, (some .long)), (0, 0), ([(6, 0, 0), (0, 3, 0), (0, 11, 0)], gi_928, [.inl (8, [(6, 1, 0), (8, 4, 0), (8, 5, 0)]), ac_820], []), [((4, 6, 0), gi_929, hq_652, [], [1])])
theorem hd_1271 : con_1271.1 = (yX8_at, cX8_at, 3, (some .long)) := rfl
noncomputable def cu_1271 : List CUT2 := []
theorem ch_1271 : staG tb_X8_at 1 bt_RX8 [] ct_1253 [] [] cu_1271 11 con_1271 = true := by decide +kernel
theorem vl_1271 (l : Launch) : Vld2 l vwCl gTbl con_1271 := conR_ok3 gT_all (hd_1271) rfl pn_RX8 tk_X8_at bo_RX8 xo_RX8 (cto_1253 l) ch_1271 cut_nil
/-- RookHusting$Slots at -/
noncomputable def ac_821 : AC := .inr (2, jl_n [js_5 192 9223372036854775807 9223372036854775807, js_4 7 1, js_5 47 9223372036854775807 9223372036854775807])
noncomputable def hq_653 : HP := [(false, .inl (8, [(6, 1, 0), (8, 4, 0), (8, 5, 0)])), (false, ac_821)]
noncomputable def con_1272 : Con2 := ((yX8_at, cX8_at, 3, (some .long)), (0, 0), ([(6, 0, 0), (0, 3, 0), (0, 12, 0)], gi_928, [.inl (8, [(6, 1, 0), (8, 4, 0), (8, 5, 0)]), ac_821], []), [((4, 6, 0), gi_929, hq_653, [], [1])])
theorem hd_1272 : con_1272.1 = (yX8_at, cX8_at, 3, (some .long)) := rfl
noncomputable def cu_1272 : List CUT2 := []
theorem ch_1272 : staG tb_X8_at 1 bt_RX8 [] ct_1253 [] [] cu_1272 11 con_1272 = true := by decide +kernel
theorem vl_1272 (l : Launch) : Vld2 l vwCl gTbl con_1272 := conR_ok3 gT_all (hd_1272) rfl pn_RX8 tk_X8_at bo_RX8 xo_RX8 (cto_1253 l) ch_1272 cut_nil
/-- RookHusting$Slots at -/
noncomputable def ac_822 : AC := .inr (2, jl_n [js_5 193 9223372036854775807 9223372036854775807, js_4 7 1, js_5 46 9223372036854775807 9223372036854775807])
noncomputable def hq_654 : HP := [(false, .inl (8, [(6, 1, 0), (8, 4, 0), (8, 5, 0)])), (false, ac_822)]
noncomputable def con_1273 : Con2 := ((yX8_at, cX8_at, 3, (some .long)), (0, 0), ([(6, 0, 0), (0, 3, 0), (0, 13, 0)], gi_928, [.inl (8, [(6, 1, 0), (8, 4, 0), (8, 5, 0)]), ac_822], []), [((4, 6, 0), gi_929, hq_654, [], [1])])
theorem hd_1273 : con_1273.1 = (yX8_at, cX8_at, 3, (some .long)) := rfl
noncomputable def cu_1273 : List CUT2 := []
theorem ch_1273 : staG tb_X8_at 1 bt_RX8 [] ct_1253 [] [] cu_1273 11 con_1273 = true := by decide +kernel
theorem vl_1273 (l : Launch) : Vld2 l vwCl gTbl con_1273 := conR_ok3 gT_all (hd_1273) rfl pn_RX8 tk_X8_at bo_RX8 xo_RX8 (cto_1253 l) ch_1273 cut_nil
/-- RookHusting$Slots at -/
noncomputable def ac_823 : AC := .inr (2, jl_n [js_5 194 9223372036854775807 9223372036854775807, js_4 7 1, js_5 45 9223372036854775807 9223372036854775807])
noncomputable def hq_655 : HP := [(false, .inl (8, [(6, 1, 0), (8, 4, 0), (8, 5, 0)])), (false, ac_823)]
noncomputable def con_1274 : Con2 := ((yX8_at, cX8_at, 3, (some .long)), (0, 0), ([(6, 0, 0), (0, 3, 0), (0, 14, 0)], gi_928, [.inl (8, [(6, 1, 0), (8, 4, 0), (8, 5, 0)]), ac_823], []), [((4, 6, 0), gi_929, hq_655, [], [1])])
theorem hd_1274 : con_1274.1 = (yX8_at, cX8_at, 3, (some .long)) := rfl
noncomputable def cu_1274 : List CUT2 := []
theorem ch_1274 : staG tb_X8_at 1 bt_RX8 [] ct_1253 [] [] cu_1274 11 con_1274 = true := by decide +kernel
theorem vl_1274 (l : Launch) : Vld2 l vwCl gTbl con_1274 := conR_ok3 gT_all (hd_1274) rfl pn_RX8 tk_X8_at bo_RX8 xo_RX8 (cto_1253 l) ch_1274 cut_nil
/-- RookHusting$Slots at -/
noncomputable def ac_824 : AC := .inr (2, jl_n [js_5 195 9223372036854775807 9223372036854775807, js_4 7 1, js_5 44 9223372036854775807 9223372036854775807])
noncomputable def hq_656 : HP := [(false, .inl (8, [(6, 1, 0), (8, 4, 0), (8, 5, 0)])), (false, ac_824)]
noncomputable def con_1275 : Con2 := ((yX8_at, cX8_at, 3, (some .long)), (0, 0), ([(6, 0, 0), (0, 3, 0), (0, 15, 0)], gi_928, [.inl (8, [(6, 1, 0), (8, 4, 0), (8, 5, 0)]), ac_824], []), [((4, 6, 0), gi_929, hq_656, [], [1])])
theorem hd_1275 : con_1275.1 = (yX8_at, cX8_at, 3, (some .long)) := rfl
noncomputable def cu_1275 : List CUT2 := []
theorem ch_1275 : staG tb_X8_at 1 bt_RX8 [] ct_1253 [] [] cu_1275 11 con_1275 = true := by decide +kernel
theorem vl_1275 (l : Launch) : Vld2 l vwCl gTbl con_1275 := conR_ok3 gT_all (hd_1275) rfl pn_RX8 tk_X8_at bo_RX8 xo_RX8 (cto_1253 l) ch_1275 cut_nil
/-- RookHusting$Slots at -/
noncomputable def ac_825 : AC := .inr (2, jl_n [js_5 196 9223372036854775807 9223372036854775807, js_4 7 1, js_5 43 9223372036854775807 9223372036854775807])
noncomputable def hq_657 : HP := [(false, .inl (8, [(6, 1, 0), (8, 4, 0), (8, 5, 0)])), (false, ac_825)]
noncomputable def con_1276 : Con2 := ((yX8_at, cX8_at, 3, (some .long)), (0, 0), ([(6, 0, 0), (0, 3, 0), (0, 16, 0)], gi_928, [.inl (8, [(6, 1, 0), (8, 4, 0), (8, 5, 0)]), ac_825], []), [((4, 6, 0), gi_929, hq_657, [], [1])])
theorem hd_1276 : con_1276.1 = (yX8_at, cX8_at, 3, (some .long)) := rfl
noncomputable def cu_1276 : List CUT2 := []
theorem ch_1276 : staG tb_X8_at 1 bt_RX8 [] ct_1253 [] [] cu_1276 11 con_1276 = true := by decide +kernel
theorem vl_1276 (l : Launch) : Vld2 l vwCl gTbl con_1276 := conR_ok3 gT_all (hd_1276) rfl pn_RX8 tk_X8_at bo_RX8 xo_RX8 (cto_1253 l) ch_1276 cut_nil
/-- RookHusting$Slots at -/
noncomputable def ac_826 : AC := .inr (2, jl_n [js_5 197 9223372036854775807 9223372036854775807, js_4 7 1, js_5 42 9223372036854775807 9223372036854775807])
noncomputable def hq_658 : HP := [(false, .inl (8, [(6, 1, 0), (8, 4, 0), (8, 5, 0)])), (false, ac_826)]
noncomputable def con_1277 : Con2 := ((yX8_at, cX8_at, 3, (some .long)), (0, 0), ([(6, 0, 0), (0, 3, 0), (0, 17, 0)], gi_928, [.inl (8, [(6, 1, 0), (8, 4, 0), (8, 5, 0)]), ac_826], []), [((4, 6, 0), gi_929, hq_658, [], [1])])
theorem hd_1277 : con_1277.1 = (yX8_at, cX8_at, 3, (some .long)) := rfl
noncomputable def cu_1277 : List CUT2 := []
theorem ch_1277 : staG tb_X8_at 1 bt_RX8 [] ct_1253 [] [] cu_1277 11 con_1277 = true := by decide +kernel
theorem vl_1277 (l : Launch) : Vld2 l vwCl gTbl con_1277 := conR_ok3 gT_all (hd_1277) rfl pn_RX8 tk_X8_at bo_RX8 xo_RX8 (cto_1253 l) ch_1277 cut_nil
/-- RookHusting$Slots at -/
noncomputable def ac_827 : AC := .inr (2, jl_n [js_5 198 9223372036854775807 9223372036854775807, js_4 7 1, js_5 41 9223372036854775807 9223372036854775807])
noncomputable def hq_659 : HP := [(false, .inl (8, [(6, 1, 0), (8, 4, 0), (8, 5, 0)])), (false, ac_827)]
noncomputable def con_1278 : Con2 := ((yX8_at, cX8_at, 3, (some .long)), (0, 0), ([(6, 0, 0), (0, 3, 0), (0, 18, 0)], gi_928, [.inl (8, [(6, 1, 0), (8, 4, 0), (8, 5, 0)]), ac_827], []), [((4, 6, 0), gi_929, hq_659, [], [1])])
theorem hd_1278 : con_1278.1 = (yX8_at, cX8_at, 3, (some .long)) := rfl
noncomputable def cu_1278 : List CUT2 := []
theorem ch_1278 : staG tb_X8_at 1 bt_RX8 [] ct_1253 [] [] cu_1278 11 con_1278 = true := by decide +kernel
theorem vl_1278 (l : Launch) : Vld2 l vwCl gTbl con_1278 := conR_ok3 gT_all (hd_1278) rfl pn_RX8 tk_X8_at bo_RX8 xo_RX8 (cto_1253 l) ch_1278 cut_nil
/-- RookHusting$Slots at -/
noncomputable def ac_828 : AC := .inr (2, jl_n [js_5 199 9223372036854775807 9223372036854775807, js_4 7 1, js_5 40 9223372036854775807 9223372036854775807])
noncomputable def hq_660 : HP := [(false, .inl (8, [(6, 1, 0), (8, 4, 0), (8, 5, 0)])), (false, ac_828)]
noncomputable def con_1279 : Con2 := ((yX8_at, cX8_at, 3, (some .long)), (0, 0), ([(6, 0, 0), (0, 3, 0), (0, 19, 0)], gi_928, [.inl (8, [(6, 1, 0), (8, 4, 0), (8, 5, 0)]), ac_828], []), [((4, 6, 0), gi_929, hq_660, [], [1])])
theorem hd_1279 : con_1279.1 = (yX8_at, cX8_at, 3, (some .long)) := rfl
noncomputable def cu_1279 : List CUT2 := []
theorem ch_1279 : staG tb_X8_at 1 bt_RX8 [] ct_1253 [] [] cu_1279 11 con_1279 = true := by decide +kernel
theorem vl_1279 (l : Launch) : Vld2 l vwCl gTbl con_1279 := conR_ok3 gT_all (hd_1279) rfl pn_RX8 tk_X8_at bo_RX8 xo_RX8 (cto_1253 l) ch_1279 cut_nil
/-- RookHusting$Slots at -/
noncomputable def ac_829 : AC := .inr (2, jl_n [js_5 200 9223372036854775807 9223372036854775807, js_4 7 1, js_5 39 9223372036854775807 9223372036854775807])
noncomputable def hq_661 : HP := [(false, .inl (8, [(6, 1, 0), (8, 4, 0), (8, 5, 0)])), (false, ac_829)]
noncomputable def con_1280 : Con2 := ((yX8_at, cX8_at, 3, (some .long)), (0, 0), ([(6, 0, 0), (0, 3, 0), (0, 20, 0)], gi_928, [.inl (8, [(6, 1, 0), (8, 4, 0), (8, 5, 0)]), ac_829], []), [((4, 6, 0), gi_929, hq_661, [], [1])])
theorem hd_1280 : con_1280.1 = (yX8_at, cX8_at, 3, (some .long)) := rfl
noncomputable def cu_1280 : List CUT2 := []
theorem ch_1280 : staG tb_X8_at 1 bt_RX8 [] ct_1253 [] [] cu_1280 11 con_1280 = true := by decide +kernel
theorem vl_1280 (l : Launch) : Vld2 l vwCl gTbl con_1280 := conR_ok3 gT_all (hd_1280) rfl pn_RX8 tk_X8_at bo_RX8 xo_RX8 (cto_1253 l) ch_1280 cut_nil
/-- RookHusting$Slots at -/
noncomputable def ac_830 : AC := .inr (2, jl_n [js_5 201 9223372036854775807 9223372036854775807, js_4 7 1, js_5 38 9223372036854775807 9223372036854775807])
noncomputable def hq_662 : HP := [(false, .inl (8, [(6, 1, 0), (8, 4, 0), (8, 5, 0)])), (false, ac_830)]
noncomputable def con_1281 : Con2 := ((yX8_at, cX8_at, 3, (some .long)), (0, 0), ([(6, 0, 0), (0, 3, 0), (0, 21, 0)], gi_928, [.inl (8, [(6, 1, 0), (8, 4, 0), (8, 5, 0)]), ac_830], []), [((4, 6, 0), gi_929, hq_662, [], [1])])
theorem hd_1281 : con_1281.1 = (yX8_at, cX8_at, 3, (some .long)) := rfl
noncomputable def cu_1281 : List CUT2 := []
theorem ch_1281 : staG tb_X8_at 1 bt_RX8 [] ct_1253 [] [] cu_1281 11 con_1281 = true := by decide +kernel
theorem vl_1281 (l : Launch) : Vld2 l vwCl gTbl con_1281 := conR_ok3 gT_all (hd_1281) rfl pn_RX8 tk_X8_at bo_RX8 xo_RX8 (cto_1253 l) ch_1281 cut_nil
/-- RookHusting$Slots at -/
noncomputable def ac_831 : AC := .inr (2, jl_n [js_5 202 9223372036854775807 9223372036854775807, js_4 7 1, js_5 37 9223372036854775807 9223372036854775807])
noncomputable def hq_663 : HP := [(false, .inl (8, [(6, 1, 0), (8, 4, 0), (8, 5, 0)])), (false, ac_831)]
noncomputable def con_1282 : Con2 := ((yX8_at, cX8_at, 3, (some .long)), (0, 0), ([(6, 0, 0), (0, 3, 0), (0, 22, 0)], gi_928, [.inl (8, [(6, 1, 0), (8, 4, 0), (8, 5, 0)]), ac_831], []), [((4, 6, 0), gi_929, hq_663, [], [1])])
theorem hd_1282 : con_1282.1 = (yX8_at, cX8_at, 3, (some .long)) := rfl
noncomputable def cu_1282 : List CUT2 := []
theorem ch_1282 : staG tb_X8_at 1 bt_RX8 [] ct_1253 [] [] cu_1282 11 con_1282 = true := by decide +kernel
theorem vl_1282 (l : Launch) : Vld2 l vwCl gTbl con_1282 := conR_ok3 gT_all (hd_1282) rfl pn_RX8 tk_X8_at bo_RX8 xo_RX8 (cto_1253 l) ch_1282 cut_nil
/-- RookHusting$Slots at -/
noncomputable def ac_832 : AC := .inr (2, jl_n [js_5 203 9223372036854775807 9223372036854775807, js_4 7 1, js_5 36 9223372036854775807 9223372036854775807])
noncomputable def hq_664 : HP := [(false, .inl (8, [(6, 1, 0), (8, 4, 0), (8, 5, 0)])), (false, ac_832)]
noncomputable def con_1283 : Con2 := ((yX8_at, cX8_at, 3, (some .long)), (0, 0), ([(6, 0, 0), (0, 3, 0), (0, 23, 0)], gi_928, [.inl (8, [(6, 1, 0), (8, 4, 0), (8, 5, 0)]), ac_832], []), [((4, 6, 0), gi_929, hq_664, [], [1])])
theorem hd_1283 : con_1283.1 = (yX8_at, cX8_at, 3, (some .long)) := rfl
noncomputable def cu_1283 : List CUT2 := []
theorem ch_1283 : staG tb_X8_at 1 bt_RX8 [] ct_1253 [] [] cu_1283 11 con_1283 = true := by decide +kernel
theorem vl_1283 (l : Launch) : Vld2 l vwCl gTbl con_1283 := conR_ok3 gT_all (hd_1283) rfl pn_RX8 tk_X8_at bo_RX8 xo_RX8 (cto_1253 l) ch_1283 cut_nil
/-- RookHusting$Slots at -/
noncomputable def ac_833 : AC := .inr (2, jl_n [js_5 204 9223372036854775807 9223372036854775807, js_4 7 1, js_5 35 9223372036854775807 9223372036854775807])
noncomputable def hq_665 : HP := [(false, .inl (8, [(6, 1, 0), (8, 4, 0), (8, 5, 0)])), (false, ac_833)]
noncomputable def con_1284 : Con2 := ((yX8_at, cX8_at, 3, (some .long)), (0, 0), ([(6, 0, 0), (0, 3, 0), (0, 24, 0)], gi_928, [.inl (8, [(6, 1, 0), (8, 4, 0), (8, 5, 0)]), ac_833], []), [((4, 6, 0), gi_929, hq_665, [], [1])])
theorem hd_1284 : con_1284.1 = (yX8_at, cX8_at, 3, (some .long)) := rfl
noncomputable def cu_1284 : List CUT2 := []
theorem ch_1284 : staG tb_X8_at 1 bt_RX8 [] ct_1253 [] [] cu_1284 11 con_1284 = true := by decide +kernel
theorem vl_1284 (l : Launch) : Vld2 l vwCl gTbl con_1284 := conR_ok3 gT_all (hd_1284) rfl pn_RX8 tk_X8_at bo_RX8 xo_RX8 (cto_1253 l) ch_1284 cut_nil
/-- RookHusting$Slots at -/
noncomputable def ac_834 : AC := .inr (2, jl_n [js_5 205 9223372036854775807 9223372036854775807, js_4 7 1, js_5 34 9223372036854775807 9223372036854775807])
noncomputable def hq_666 : HP := [(false, .inl (8, [(6, 1, 0), (8, 4, 0), (8, 5, 0)])), (false, ac_834)]
noncomputable def con_1285 : Con2 := ((yX8_at, cX8_at, 3, (some .long)), (0, 0), ([(6, 0, 0), (0, 3, 0), (0, 25, 0)], gi_928, [.inl (8, [(6, 1, 0), (8, 4, 0), (8, 5, 0)]), ac_834], []), [((4, 6, 0), gi_929, hq_666, [], [1])])
theorem hd_1285 : con_1285.1 = (yX8_at, cX8_at, 3, (some .long)) := rfl
noncomputable def cu_1285 : List CUT2 := []
theorem ch_1285 : staG tb_X8_at 1 bt_RX8 [] ct_1253 [] [] cu_1285 11 con_1285 = true := by decide +kernel
theorem vl_1285 (l : Launch) : Vld2 l vwCl gTbl con_1285 := conR_ok3 gT_all (hd_1285) rfl pn_RX8 tk_X8_at bo_RX8 xo_RX8 (cto_1253 l) ch_1285 cut_nil
/-- RookHusting$Slots at -/
noncomputable def ac_835 : AC := .inr (2, jl_n [js_5 206 9223372036854775807 9223372036854775807, js_4 7 1, js_5 33 9223372036854775807 9223372036854775807])
noncomputable def hq_667 : HP := [(false, .inl (8, [(6, 1, 0), (8, 4, 0), (8, 5, 0)])), (false, ac_835)]
noncomputable def con_1286 : Con2 := ((yX8_at, cX8_at, 3, (some .long)), (0, 0), ([(6, 0, 0), (0, 3, 0), (0, 26, 0)], gi_928, [.inl (8, [(6, 1, 0), (8, 4, 0), (8, 5, 0)]), ac_835], []), [((4, 6, 0), gi_929, hq_667, [], [1])])
theorem hd_1286 : con_1286.1 = (yX8_at, cX8_at, 3, (some .long)) := rfl
noncomputable def cu_1286 : List CUT2 := []
theorem ch_1286 : staG tb_X8_at 1 bt_RX8 [] ct_1253 [] [] cu_1286 11 con_1286 = true := by decide +kernel
theorem vl_1286 (l : Launch) : Vld2 l vwCl gTbl con_1286 := conR_ok3 gT_all (hd_1286) rfl pn_RX8 tk_X8_at bo_RX8 xo_RX8 (cto_1253 l) ch_1286 cut_nil
/-- RookHusting$Slots at -/
noncomputable def ac_836 : AC := .inr (2, jl_n [js_5 207 9223372036854775807 9223372036854775807, js_4 7 1, js_5 32 9223372036854775807 9223372036854775807])
noncomputable def hq_668 : HP := [(false, .inl (8, [(6, 1, 0), (8, 4, 0), (8, 5, 0)])), (false, ac_836)]
noncomputable def con_1287 : Con2 := ((yX8_at, cX8_at, 3, (some .long)), (0, 0), ([(6, 0, 0), (0, 3, 0), (0, 27, 0)], gi_928, [.inl (8, [(6, 1, 0), (8, 4, 0), (8, 5, 0)]), ac_836], []), [((4, 6, 0), gi_929, hq_668, [], [1])])
theorem hd_1287 : con_1287.1 = (yX8_at, cX8_at, 3, (some .long)) := rfl
noncomputable def cu_1287 : List CUT2 := []
theorem ch_1287 : staG tb_X8_at 1 bt_RX8 [] ct_1253 [] [] cu_1287 11 con_1287 = true := by decide +kernel
theorem vl_1287 (l : Launch) : Vld2 l vwCl gTbl con_1287 := conR_ok3 gT_all (hd_1287) rfl pn_RX8 tk_X8_at bo_RX8 xo_RX8 (cto_1253 l) ch_1287 cut_nil
/-- RookHusting$Slots at -/
noncomputable def ac_837 : AC := .inr (2, jl_n [js_5 208 9223372036854775807 9223372036854775807, js_4 7 1, js_5 31 9223372036854775807 9223372036854775807])
noncomputable def hq_669 : HP := [(false, .inl (8, [(6, 1, 0), (8, 4, 0), (8, 5, 0)])), (false, ac_837)]
noncomputable def con_1288 : Con2 := ((yX8_at, cX8_at, 3, (some .long)), (0, 0), ([(6, 0, 0), (0, 3, 0), (0, 28, 0)], gi_928, [.inl (8, [(6, 1, 0), (8, 4, 0), (8, 5, 0)]), ac_837], []), [((4, 6, 0), gi_929, hq_669, [], [1])])
theorem hd_1288 : con_1288.1 = (yX8_at, cX8_at, 3, (some .long)) := rfl
noncomputable def cu_1288 : List CUT2 := []
theorem ch_1288 : staG tb_X8_at 1 bt_RX8 [] ct_1253 [] [] cu_1288 11 con_1288 = true := by decide +kernel
theorem vl_1288 (l : Launch) : Vld2 l vwCl gTbl con_1288 := conR_ok3 gT_all (hd_1288) rfl pn_RX8 tk_X8_at bo_RX8 xo_RX8 (cto_1253 l) ch_1288 cut_nil
/-- RookHusting$Slots at -/
noncomputable def ac_838 : AC := .inr (2, jl_n [js_5 209 9223372036854775807 9223372036854775807, js_4 7 1, js_5 30 9223372036854775807 9223372036854775807])
noncomputable def hq_670 : HP := [(false, .inl (8, [(6, 1, 0), (8, 4, 0), (8, 5, 0)])), (false, ac_838)]
noncomputable def con_1289 : Con2 := ((yX8_at, cX8_at, 3, (some .long)), (0, 0), ([(6, 0, 0), (0, 3, 0), (0, 29, 0)], gi_928, [.inl (8, [(6, 1, 0), (8, 4, 0), (8, 5, 0)]), ac_838], []), [((4, 6, 0), gi_929, hq_670, [], [1])])
theorem hd_1289 : con_1289.1 = (yX8_at, cX8_at, 3, (some .long)) := rfl
noncomputable def cu_1289 : List CUT2 := []
theorem ch_1289 : staG tb_X8_at 1 bt_RX8 [] ct_1253 [] [] cu_1289 11 con_1289 = true := by decide +kernel
theorem vl_1289 (l : Launch) : Vld2 l vwCl gTbl con_1289 := conR_ok3 gT_all (hd_1289) rfl pn_RX8 tk_X8_at bo_RX8 xo_RX8 (cto_1253 l) ch_1289 cut_nil
/-- RookHusting$Slots at -/
noncomputable def ac_839 : AC := .inr (2, jl_n [js_5 210 9223372036854775807 9223372036854775807, js_4 7 1, js_5 29 9223372036854775807 9223372036854775807])
noncomputable def hq_671 : HP := [(false, .inl (8, [(6, 1, 0), (8, 4, 0), (8, 5, 0)])), (false, ac_839)]
noncomputable def con_1290 : Con2 := ((yX8_at, cX8_at, 3, (some .long)), (0, 0), ([(6, 0, 0), (0, 3, 0), (0, 30, 0)], gi_928, [.inl (8, [(6, 1, 0), (8, 4, 0), (8, 5, 0)]), ac_839], []), [((4, 6, 0), gi_929, hq_671, [], [1])])
theorem hd_1290 : con_1290.1 = (yX8_at, cX8_at, 3, (some .long)) := rfl
noncomputable def cu_1290 : List CUT2 := []
theorem ch_1290 : staG tb_X8_at 1 bt_RX8 [] ct_1253 [] [] cu_1290 11 con_1290 = true := by decide +kernel
theorem vl_1290 (l : Launch) : Vld2 l vwCl gTbl con_1290 := conR_ok3 gT_all (hd_1290) rfl pn_RX8 tk_X8_at bo_RX8 xo_RX8 (cto_1253 l) ch_1290 cut_nil
/-- RookHusting$Slots at -/
noncomputable def ac_840 : AC := .inr (2, jl_n [js_5 211 9223372036854775807 9223372036854775807, js_4 7 1, js_5 28 9223372036854775807 9223372036854775807])
noncomputable def hq_672 : HP := [(false, .inl (8, [(6, 1, 0), (8, 4, 0), (8, 5, 0)])), (false, ac_840)]
noncomputable def con_1291 : Con2 := ((yX8_at, cX8_at, 3, (some .long)), (0, 0), ([(6, 0, 0), (0, 3, 0), (0, 31, 0)], gi_928, [.inl (8, [(6, 1, 0), (8, 4, 0), (8, 5, 0)]), ac_840], []), [((4, 6, 0), gi_929, hq_672, [], [1])])
theorem hd_1291 : con_1291.1 = (yX8_at, cX8_at, 3, (some .long)) := rfl
noncomputable def cu_1291 : List CUT2 := []
theorem ch_1291 : staG tb_X8_at 1 bt_RX8 [] ct_1253 [] [] cu_1291 11 con_1291 = true := by decide +kernel
theorem vl_1291 (l : Launch) : Vld2 l vwCl gTbl con_1291 := conR_ok3 gT_all (hd_1291) rfl pn_RX8 tk_X8_at bo_RX8 xo_RX8 (cto_1253 l) ch_1291 cut_nil
/-- RookHusting$Slots at -/
noncomputable def ac_841 : AC := .inr (2, jl_n [js_5 212 9223372036854775807 9223372036854775807, js_4 7 1, js_5 27 9223372036854775807 9223372036854775807])
noncomputable def hq_673 : HP := [(false, .inl (8, [(6, 1, 0), (8, 4, 0), (8, 5, 0)])), (false, ac_841)]
noncomputable def con_1292 : Con2 := ((yX8_at, cX8_at, 3, (some .long)), (0, 0), ([(6, 0, 0), (0, 3, 0), (0, 32, 0)], gi_928, [.inl (8, [(6, 1, 0), (8, 4, 0), (8, 5, 0)]), ac_841], []), [((4, 6, 0), gi_929, hq_673, [], [1])])
theorem hd_1292 : con_1292.1 = (yX8_at, cX8_at, 3, (some .long)) := rfl
noncomputable def cu_1292 : List CUT2 := []
theorem ch_1292 : staG tb_X8_at 1 bt_RX8 [] ct_1253 [] [] cu_1292 11 con_1292 = true := by decide +kernel
theorem vl_1292 (l : Launch) : Vld2 l vwCl gTbl con_1292 := conR_ok3 gT_all (hd_1292) rfl pn_RX8 tk_X8_at bo_RX8 xo_RX8 (cto_1253 l) ch_1292 cut_nil
/-- RookHusting$Slots at -/
noncomputable def ac_842 : AC := .inr (2, jl_n [js_5 213 9223372036854775807 9223372036854775807, js_4 7 1, js_5 26 9223372036854775807 9223372036854775807])
noncomputable def hq_674 : HP := [(false, .inl (8, [(6, 1, 0), (8, 4, 0), (8, 5, 0)])), (false, ac_842)]
noncomputable def con_1293 : Con2 := ((yX8_at, cX8_at, 3, (some .long)), (0, 0), ([(6, 0, 0), (0, 3, 0), (0, 33, 0)], gi_928, [.inl (8, [(6, 1, 0), (8, 4, 0), (8, 5, 0)]), ac_842], []), [((4, 6, 0), gi_929, hq_674, [], [1])])
theorem hd_1293 : con_1293.1 = (yX8_at, cX8_at, 3, (some .long)) := rfl
noncomputable def cu_1293 : List CUT2 := []
theorem ch_1293 : staG tb_X8_at 1 bt_RX8 [] ct_1253 [] [] cu_1293 11 con_1293 = true := by decide +kernel
theorem vl_1293 (l : Launch) : Vld2 l vwCl gTbl con_1293 := conR_ok3 gT_all (hd_1293) rfl pn_RX8 tk_X8_at bo_RX8 xo_RX8 (cto_1253 l) ch_1293 cut_nil
/-- RookHusting$Slots at -/
noncomputable def ac_843 : AC := .inr (2, jl_n [js_5 214 9223372036854775807 9223372036854775807, js_4 7 1, js_5 25 9223372036854775807 9223372036854775807])
noncomputable def hq_675 : HP := [(false, .inl (8, [(6, 1, 0), (8, 4, 0), (8, 5, 0)])), (false, ac_843)]
noncomputable def con_1294 : Con2 := ((yX8_at, cX8_at, 3, (some .long)), (0, 0), ([(6, 0, 0), (0, 3, 0), (0, 34, 0)], gi_928, [.inl (8, [(6, 1, 0), (8, 4, 0), (8, 5, 0)]), ac_843], []), [((4, 6, 0), gi_929, hq_675, [], [1])])
theorem hd_1294 : con_1294.1 = (yX8_at, cX8_at, 3, (some .long)) := rfl
noncomputable def cu_1294 : List CUT2 := []
theorem ch_1294 : staG tb_X8_at 1 bt_RX8 [] ct_1253 [] [] cu_1294 11 con_1294 = true := by decide +kernel
theorem vl_1294 (l : Launch) : Vld2 l vwCl gTbl con_1294 := conR_ok3 gT_all (hd_1294) rfl pn_RX8 tk_X8_at bo_RX8 xo_RX8 (cto_1253 l) ch_1294 cut_nil
/-- RookHusting$Slots at -/
noncomputable def ac_844 : AC := .inr (2, jl_n [js_5 215 9223372036854775807 9223372036854775807, js_4 7 1, js_5 24 9223372036854775807 9223372036854775807])
noncomputable def hq_676 : HP := [(false, .inl (8, [(6, 1, 0), (8, 4, 0), (8, 5, 0)])), (false, ac_844)]
noncomputable def con_1295 : Con2 := ((yX8_at, cX8_at, 3, (some .long)), (0, 0), ([(6, 0, 0), (0, 3, 0), (0, 35, 0)], gi_928, [.inl (8, [(6, 1, 0), (8, 4, 0), (8, 5, 0)]), ac_844], []), [((4, 6, 0), gi_929, hq_676, [], [1])])
theorem hd_1295 : con_1295.1 = (yX8_at, cX8_at, 3, (some .long)) := rfl
noncomputable def cu_1295 : List CUT2 := []
theorem ch_1295 : staG tb_X8_at 1 bt_RX8 [] ct_1253 [] [] cu_1295 11 con_1295 = true := by decide +kernel
theorem vl_1295 (l : Launch) : Vld2 l vwCl gTbl con_1295 := conR_ok3 gT_all (hd_1295) rfl pn_RX8 tk_X8_at bo_RX8 xo_RX8 (cto_1253 l) ch_1295 cut_nil
/-- RookHusting$Slots at -/
noncomputable def ac_845 : AC := .inr (2, jl_n [js_5 216 9223372036854775807 9223372036854775807, js_4 7 1, js_5 23 9223372036854775807 9223372036854775807])
noncomputable def hq_677 : HP := [(false, .inl (8, [(6, 1, 0), (8, 4, 0), (8, 5, 0)])), (false, ac_845)]
noncomputable def con_1296 : Con2 := ((yX8_at, cX8_at, 3, (some .long)), (0, 0), ([(6, 0, 0), (0, 3, 0), (0, 36, 0)], gi_928, [.inl (8, [(6, 1, 0), (8, 4, 0), (8, 5, 0)]), ac_845], []), [((4, 6, 0), gi_929, hq_677, [], [1])])
theorem hd_1296 : con_1296.1 = (yX8_at, cX8_at, 3, (some .long)) := rfl
noncomputable def cu_1296 : List CUT2 := []
theorem ch_1296 : staG tb_X8_at 1 bt_RX8 [] ct_1253 [] [] cu_1296 11 con_1296 = true := by decide +kernel
theorem vl_1296 (l : Launch) : Vld2 l vwCl gTbl con_1296 := conR_ok3 gT_all (hd_1296) rfl pn_RX8 tk_X8_at bo_RX8 xo_RX8 (cto_1253 l) ch_1296 cut_nil
/-- RookHusting$Slots at -/
noncomputable def ac_846 : AC := .inr (2, jl_n [js_5 217 9223372036854775807 9223372036854775807, js_4 7 1, js_5 22 9223372036854775807 9223372036854775807])
noncomputable def hq_678 : HP := [(false, .inl (8, [(6, 1, 0), (8, 4, 0), (8, 5, 0)])), (false, ac_846)]
noncomputable def con_1297 : Con2 := ((yX8_at, cX8_at, 3, (some .long)), (0, 0), ([(6, 0, 0), (0, 3, 0), (0, 37, 0)], gi_928, [.inl (8, [(6, 1, 0), (8, 4, 0), (8, 5, 0)]), ac_846], []), [((4, 6, 0), gi_929, hq_678, [], [1])])
theorem hd_1297 : con_1297.1 = (yX8_at, cX8_at, 3, (some .long)) := rfl
noncomputable def cu_1297 : List CUT2 := []
theorem ch_1297 : staG tb_X8_at 1 bt_RX8 [] ct_1253 [] [] cu_1297 11 con_1297 = true := by decide +kernel
theorem vl_1297 (l : Launch) : Vld2 l vwCl gTbl con_1297 := conR_ok3 gT_all (hd_1297) rfl pn_RX8 tk_X8_at bo_RX8 xo_RX8 (cto_1253 l) ch_1297 cut_nil
/-- RookHusting$Slots at -/
noncomputable def ac_847 : AC := .inr (2, jl_n [js_5 218 9223372036854775807 9223372036854775807, js_4 7 1, js_5 21 9223372036854775807 9223372036854775807])
noncomputable def hq_679 : HP := [(false, .inl (8, [(6, 1, 0), (8, 4, 0), (8, 5, 0)])), (false, ac_847)]
noncomputable def con_1298 : Con2 := ((yX8_at, cX8_at, 3, (some .long)), (0, 0), ([(6, 0, 0), (0, 3, 0), (0, 38, 0)], gi_928, [.inl (8, [(6, 1, 0), (8, 4, 0), (8, 5, 0)]), ac_847], []), [((4, 6, 0), gi_929, hq_679, [], [1])])
theorem hd_1298 : con_1298.1 = (yX8_at, cX8_at, 3, (some .long)) := rfl
noncomputable def cu_1298 : List CUT2 := []
theorem ch_1298 : staG tb_X8_at 1 bt_RX8 [] ct_1253 [] [] cu_1298 11 con_1298 = true := by decide +kernel
theorem vl_1298 (l : Launch) : Vld2 l vwCl gTbl con_1298 := conR_ok3 gT_all (hd_1298) rfl pn_RX8 tk_X8_at bo_RX8 xo_RX8 (cto_1253 l) ch_1298 cut_nil
/-- RookHusting$Slots at -/
noncomputable def ac_848 : AC := .inr (2, jl_n [js_5 219 9223372036854775807 9223372036854775807, js_4 7 1, js_5 20 9223372036854775807 9223372036854775807])
noncomputable def hq_680 : HP := [(false, .inl (8, [(6, 1, 0), (8, 4, 0), (8, 5, 0)])), (false, ac_848)]
noncomputable def con_1299 : Con2 := ((yX8_at, cX8_at, 3, (some .long)), (0, 0), ([(6, 0, 0), (0, 3, 0), (0, 39, 0)], gi_928, [.inl (8, [(6, 1, 0), (8, 4, 0), (8, 5, 0)]), ac_848], []), [((4, 6, 0), gi_929, hq_680, [], [1])])
theorem hd_1299 : con_1299.1 = (yX8_at, cX8_at, 3, (some .long)) := rfl
noncomputable def cu_1299 : List CUT2 := []
theorem ch_1299 : staG tb_X8_at 1 bt_RX8 [] ct_1253 [] [] cu_1299 11 con_1299 = true := by decide +kernel
theorem vl_1299 (l : Launch) : Vld2 l vwCl gTbl con_1299 := conR_ok3 gT_all (hd_1299) rfl pn_RX8 tk_X8_at bo_RX8 xo_RX8 (cto_1253 l) ch_1299 cut_nil
/-- RookHusting$Slots at -/
noncomputable def ac_849 : AC := .inr (2, jl_n [js_5 220 9223372036854775807 9223372036854775807, js_4 7 1, js_5 19 9223372036854775807 9223372036854775807])
noncomputable def hq_681 : HP := [(false, .inl (8, [(6, 1, 0), (8, 4, 0), (8, 5, 0)])), (false, ac_849)]
noncomputable def con_1300 : Con2 := ((yX8_at, cX8_at, 3, (some .long)), (0, 0), ([(6, 0, 0), (0, 3, 0), (0, 40, 0)], gi_928, [.inl (8, [(6, 1, 0), (8, 4, 0), (8, 5, 0)]), ac_849], []), [((4, 6, 0), gi_929, hq_681, [], [1])])
theorem hd_1300 : con_1300.1 = (yX8_at, cX8_at, 3, (some .long)) := rfl
noncomputable def cu_1300 : List CUT2 := []
theorem ch_1300 : staG tb_X8_at 1 bt_RX8 [] ct_1253 [] [] cu_1300 11 con_1300 = true := by decide +kernel
theorem vl_1300 (l : Launch) : Vld2 l vwCl gTbl con_1300 := conR_ok3 gT_all (hd_1300) rfl pn_RX8 tk_X8_at bo_RX8 xo_RX8 (cto_1253 l) ch_1300 cut_nil
/-- RookHusting$Slots at -/
noncomputable def ac_850 : AC := .inr (2, jl_n [js_5 221 9223372036854775807 9223372036854775807, js_4 7 1, js_5 18 9223372036854775807 9223372036854775807])
noncomputable def hq_682 : HP := [(false, .inl (8, [(6, 1, 0), (8, 4, 0), (8, 5, 0)])), (false, ac_850)]
noncomputable def con_1301 : Con2 := ((yX8_at, cX8_at, 3, (some .long)), (0, 0), ([(6, 0, 0), (0, 3, 0), (0, 41, 0)], gi_928, [.inl (8, [(6, 1, 0), (8, 4, 0), (8, 5, 0)]), ac_850], []), [((4, 6, 0), gi_929, hq_682, [], [1])])
theorem hd_1301 : con_1301.1 = (yX8_at, cX8_at, 3, (some .long)) := rfl
noncomputable def cu_1301 : List CUT2 := []
theorem ch_1301 : staG tb_X8_at 1 bt_RX8 [] ct_1253 [] [] cu_1301 11 con_1301 = true := by decide +kernel
theorem vl_1301 (l : Launch) : Vld2 l vwCl gTbl con_1301 := conR_ok3 gT_all (hd_1301) rfl pn_RX8 tk_X8_at bo_RX8 xo_RX8 (cto_1253 l) ch_1301 cut_nil
/-- RookHusting$Slots at -/
noncomputable def ac_851 : AC := .inr (2, jl_n [js_5 222 9223372036854775807 9223372036854775807, js_4 7 1, js_5 17 9223372036854775807 9223372036854775807])
noncomputable def hq_683 : HP := [(false, .inl (8, [(6, 1, 0), (8, 4, 0), (8, 5, 0)])), (false, ac_851)]
noncomputable def con_1302 : Con2 := ((yX8_at, cX8_at, 3, (some .long)), (0, 0), ([(6, 0, 0), (0, 3, 0), (0, 42, 0)], gi_928, [.inl (8, [(6, 1, 0), (8, 4, 0), (8, 5, 0)]), ac_851], []), [((4, 6, 0), gi_929, hq_683, [], [1])])
theorem hd_1302 : con_1302.1 = (yX8_at, cX8_at, 3, (some .long)) := rfl
noncomputable def cu_1302 : List CUT2 := []
theorem ch_1302 : staG tb_X8_at 1 bt_RX8 [] ct_1253 [] [] cu_1302 11 con_1302 = true := by decide +kernel
theorem vl_1302 (l : Launch) : Vld2 l vwCl gTbl con_1302 := conR_ok3 gT_all (hd_1302) rfl pn_RX8 tk_X8_at bo_RX8 xo_RX8 (cto_1253 l) ch_1302 cut_nil
/-- RookHusting$Slots at -/
noncomputable def ac_852 : AC := .inr (2, jl_n [js_5 223 9223372036854775807 9223372036854775807, js_4 7 1, js_5 16 9223372036854775807 9223372036854775807])
noncomputable def hq_684 : HP := [(false, .inl (8, [(6, 1, 0), (8, 4, 0), (8, 5, 0)])), (false, ac_852)]
noncomputable def con_1303 : Con2 := ((yX8_at, cX8_at, 3, (some .long)), (0, 0), ([(6, 0, 0), (0, 3, 0), (0, 43, 0)], gi_928, [.inl (8, [(6, 1, 0), (8, 4, 0), (8, 5, 0)]), ac_852], []), [((4, 6, 0), gi_929, hq_684, [], [1])])
theorem hd_1303 : con_1303.1 = (yX8_at, cX8_at, 3, (some .long)) := rfl
noncomputable def cu_1303 : List CUT2 := []
theorem ch_1303 : staG tb_X8_at 1 bt_RX8 [] ct_1253 [] [] cu_1303 11 con_1303 = true := by decide +kernel
theorem vl_1303 (l : Launch) : Vld2 l vwCl gTbl con_1303 := conR_ok3 gT_all (hd_1303) rfl pn_RX8 tk_X8_at bo_RX8 xo_RX8 (cto_1253 l) ch_1303 cut_nil
/-- RookHusting$Slots at -/
noncomputable def ac_853 : AC := .inr (2, jl_n [js_5 224 9223372036854775807 9223372036854775807, js_4 7 1, js_5 15 9223372036854775807 9223372036854775807])
noncomputable def hq_685 : HP := [(false, .inl (8, [(6, 1, 0), (8, 4, 0), (8, 5, 0)])), (false, ac_853)]
noncomputable def con_1304 : Con2 := ((yX8_at, cX8_at, 3, (some .long)), (0, 0), ([(6, 0, 0), (0, 3, 0), (0, 44, 0)], gi_928, [.inl (8, [(6, 1, 0), (8, 4, 0), (8, 5, 0)]), ac_853], []), [((4, 6, 0), gi_929, hq_685, [], [1])])
theorem hd_1304 : con_1304.1 = (yX8_at, cX8_at, 3, (some .long)) := rfl
noncomputable def cu_1304 : List CUT2 := []
theorem ch_1304 : staG tb_X8_at 1 bt_RX8 [] ct_1253 [] [] cu_1304 11 con_1304 = true := by decide +kernel
theorem vl_1304 (l : Launch) : Vld2 l vwCl gTbl con_1304 := conR_ok3 gT_all (hd_1304) rfl pn_RX8 tk_X8_at bo_RX8 xo_RX8 (cto_1253 l) ch_1304 cut_nil
/-- RookHusting$Slots at -/
noncomputable def ac_854 : AC := .inr (2, jl_n [js_5 225 9223372036854775807 9223372036854775807, js_4 7 1, js_5 14 9223372036854775807 9223372036854775807])
noncomputable def hq_686 : HP := [(false, .inl (8, [(6, 1, 0), (8, 4, 0), (8, 5, 0)])), (false, ac_854)]
noncomputable def con_1305 : Con2 := ((yX8_at, cX8_at, 3, (some .long)), (0, 0), ([(6, 0, 0), (0, 3, 0), (0, 45, 0)], gi_928, [.inl (8, [(6, 1, 0), (8, 4, 0), (8, 5, 0)]), ac_854], []), [((4, 6, 0), gi_929, hq_686, [], [1])])
theorem hd_1305 : con_1305.1 = (yX8_at, cX8_at, 3, (some .long)) := rfl
noncomputable def cu_1305 : List CUT2 := []
theorem ch_1305 : staG tb_X8_at 1 bt_RX8 [] ct_1253 [] [] cu_1305 11 con_1305 = true := by decide +kernel
theorem vl_1305 (l : Launch) : Vld2 l vwCl gTbl con_1305 := conR_ok3 gT_all (hd_1305) rfl pn_RX8 tk_X8_at bo_RX8 xo_RX8 (cto_1253 l) ch_1305 cut_nil
/-- RookHusting$Slots at -/
noncomputable def ac_855 : AC := .inr (2, jl_n [js_5 226 9223372036854775807 9223372036854775807, js_4 7 1, js_5 13 9223372036854775807 9223372036854775807])
noncomputable def hq_687 : HP := [(false, .inl (8, [(6, 1, 0), (8, 4, 0), (8, 5, 0)])), (false, ac_855)]
noncomputable def con_1306 : Con2 := ((yX8_at, cX8_at, 3, (some .long)), (0, 0), ([(6, 0, 0), (0, 3, 0), (0, 46, 0)], gi_928, [.inl (8, [(6, 1, 0), (8, 4, 0), (8, 5, 0)]), ac_855], []), [((4, 6, 0), gi_929, hq_687, [], [1])])
theorem hd_1306 : con_1306.1 = (yX8_at, cX8_at, 3, (some .long)) := rfl
noncomputable def cu_1306 : List CUT2 := []
theorem ch_1306 : staG tb_X8_at 1 bt_RX8 [] ct_1253 [] [] cu_1306 11 con_1306 = true := by decide +kernel
theorem vl_1306 (l : Launch) : Vld2 l vwCl gTbl con_1306 := conR_ok3 gT_all (hd_1306) rfl pn_RX8 tk_X8_at bo_RX8 xo_RX8 (cto_1253 l) ch_1306 cut_nil
/-- RookHusting$Slots at -/
noncomputable def ac_856 : AC := .inr (2, jl_n [js_5 227 9223372036854775807 9223372036854775807, js_4 7 1, js_5 12 9223372036854775807 9223372036854775807])
noncomputable def hq_688 : HP := [(false, .inl (8, [(6, 1, 0), (8, 4, 0), (8, 5, 0)])), (false, ac_856)]
noncomputable def con_1307 : Con2 := ((yX8_at, cX8_at, 3, (some .long)), (0, 0), ([(6, 0, 0), (0, 3, 0), (0, 47, 0)], gi_928, [.inl (8, [(6, 1, 0), (8, 4, 0), (8, 5, 0)]), ac_856], []), [((4, 6, 0), gi_929, hq_688, [], [1])])
theorem hd_1307 : con_1307.1 = (yX8_at, cX8_at, 3, (some .long)) := rfl
noncomputable def cu_1307 : List CUT2 := []
theorem ch_1307 : staG tb_X8_at 1 bt_RX8 [] ct_1253 [] [] cu_1307 11 con_1307 = true := by decide +kernel
theorem vl_1307 (l : Launch) : Vld2 l vwCl gTbl con_1307 := conR_ok3 gT_all (hd_1307) rfl pn_RX8 tk_X8_at bo_RX8 xo_RX8 (cto_1253 l) ch_1307 cut_nil
/-- RookHusting$Slots at -/
noncomputable def ac_857 : AC := .inr (2, jl_n [js_5 228 9223372036854775807 9223372036854775807, js_4 7 1, js_5 11 9223372036854775807 9223372036854775807])
noncomputable def hq_689 : HP := [(false, .inl (8, [(6, 1, 0), (8, 4, 0), (8, 5, 0)])), (false, ac_857)]
noncomputable def con_1308 : Con2 := ((yX8_at, cX8_at, 3, (some .long)), (0, 0), ([(6, 0, 0), (0, 3, 0), (0, 48, 0)], gi_928, [.inl (8, [(6, 1, 0), (8, 4, 0), (8, 5, 0)]), ac_857], []), [((4, 6, 0), gi_929, hq_689, [], [1])])
theorem hd_1308 : con_1308.1 = (yX8_at, cX8_at, 3, (some .long)) := rfl
noncomputable def cu_1308 : List CUT2 := []
theorem ch_1308 : staG tb_X8_at 1 bt_RX8 [] ct_1253 [] [] cu_1308 11 con_1308 = true := by decide +kernel
theorem vl_1308 (l : Launch) : Vld2 l vwCl gTbl con_1308 := conR_ok3 gT_all (hd_1308) rfl pn_RX8 tk_X8_at bo_RX8 xo_RX8 (cto_1253 l) ch_1308 cut_nil
/-- RookHusting$Slots at -/
noncomputable def ac_858 : AC := .inr (2, jl_n [js_5 229 9223372036854775807 9223372036854775807, js_4 7 1, js_5 10 9223372036854775807 9223372036854775807])
noncomputable def hq_690 : HP := [(false, .inl (8, [(6, 1, 0), (8, 4, 0), (8, 5, 0)])), (false, ac_858)]
noncomputable def con_1309 : Con2 := ((yX8_at, cX8_at, 3, (some .long)), (0, 0), ([(6, 0, 0), (0, 3, 0), (0, 49, 0)], gi_928, [.inl (8, [(6, 1, 0), (8, 4, 0), (8, 5, 0)]), ac_858], []), [((4, 6, 0), gi_929, hq_690, [], [1])])
theorem hd_1309 : con_1309.1 = (yX8_at, cX8_at, 3, (some .long)) := rfl
noncomputable def cu_1309 : List CUT2 := []
theorem ch_1309 : staG tb_X8_at 1 bt_RX8 [] ct_1253 [] [] cu_1309 11 con_1309 = true := by decide +kernel
theorem vl_1309 (l : Launch) : Vld2 l vwCl gTbl con_1309 := conR_ok3 gT_all (hd_1309) rfl pn_RX8 tk_X8_at bo_RX8 xo_RX8 (cto_1253 l) ch_1309 cut_nil
/-- RookHusting$Slots at -/
noncomputable def ac_859 : AC := .inr (2, jl_n [js_5 230 9223372036854775807 9223372036854775807, js_4 7 1, js_5 9 9223372036854775807 9223372036854775807])
noncomputable def hq_691 : HP := [(false, .inl (8, [(6, 1, 0), (8, 4, 0), (8, 5, 0)])), (false, ac_859)]
noncomputable def con_1310 : Con2 := ((yX8_at, cX8_at, 3, (some .long)), (0, 0), ([(6, 0, 0), (0, 3, 0), (0, 50, 0)], gi_928, [.inl (8, [(6, 1, 0), (8, 4, 0), (8, 5, 0)]), ac_859], []), [((4, 6, 0), gi_929, hq_691, [], [1])])
theorem hd_1310 : con_1310.1 = (yX8_at, cX8_at, 3, (some .long)) := rfl
noncomputable def cu_1310 : List CUT2 := []
theorem ch_1310 : staG tb_X8_at 1 bt_RX8 [] ct_1253 [] [] cu_1310 11 con_1310 = true := by decide +kernel
theorem vl_1310 (l : Launch) : Vld2 l vwCl gTbl con_1310 := conR_ok3 gT_all (hd_1310) rfl pn_RX8 tk_X8_at bo_RX8 xo_RX8 (cto_1253 l) ch_1310 cut_nil
/-- RookHusting$Slots at -/
noncomputable def ac_860 : AC := .inr (2, jl_n [js_5 231 9223372036854775807 9223372036854775807, js_4 7 1, js_5 8 9223372036854775807 9223372036854775807])
noncomputable def hq_692 : HP := [(false, .inl (8, [(6, 1, 0), (8, 4, 0), (8, 5, 0)])), (false, ac_860)]
noncomputable def con_1311 : Con2 := ((yX8_at, cX8_at, 3, (some .long)), (0, 0), ([(6, 0, 0), (0, 3, 0), (0, 51, 0)], gi_928, [.inl (8, [(6, 1, 0), (8, 4, 0), (8, 5, 0)]), ac_860], []), [((4, 6, 0), gi_929, hq_692, [], [1])])
theorem hd_1311 : con_1311.1 = (yX8_at, cX8_at, 3, (some .long)) := rfl
noncomputable def cu_1311 : List CUT2 := []
theorem ch_1311 : staG tb_X8_at 1 bt_RX8 [] ct_1253 [] [] cu_1311 11 con_1311 = true := by decide +kernel
theorem vl_1311 (l : Launch) : Vld2 l vwCl gTbl con_1311 := conR_ok3 gT_all (hd_1311) rfl pn_RX8 tk_X8_at bo_RX8 xo_RX8 (cto_1253 l) ch_1311 cut_nil
/-- RookHusting$Slots at -/
noncomputable def ac_861 : AC := .inr (2, jl_n [js_5 232 9223372036854775807 9223372036854775807, js_4 7 1, js_5 7 9223372036854775807 9223372036854775807])
noncomputable def hq_693 : HP := [(false, .inl (8, [(6, 1, 0), (8, 4, 0), (8, 5, 0)])), (false, ac_861)]
noncomputable def con_1312 : Con2 := ((yX8_at, cX8_at, 3, (some .long)), (0, 0), ([(6, 0, 0), (0, 3, 0), (0, 52, 0)], gi_928, [.inl (8, [(6, 1, 0), (8, 4, 0), (8, 5, 0)]), ac_861], []), [((4, 6, 0), gi_929, hq_693, [], [1])])
theorem hd_1312 : con_1312.1 = (yX8_at, cX8_at, 3, (some .long)) := rfl
noncomputable def cu_1312 : List CUT2 := []
theorem ch_1312 : staG tb_X8_at 1 bt_RX8 [] ct_1253 [] [] cu_1312 11 con_1312 = true := by decide +kernel
theorem vl_1312 (l : Launch) : Vld2 l vwCl gTbl con_1312 := conR_ok3 gT_all (hd_1312) rfl pn_RX8 tk_X8_at bo_RX8 xo_RX8 (cto_1253 l) ch_1312 cut_nil
/-- RookHusting$Slots at -/
noncomputable def ac_862 : AC := .inr (2, jl_n [js_5 233 9223372036854775807 9223372036854775807, js_4 7 1, js_5 6 9223372036854775807 9223372036854775807])
noncomputable def hq_694 : HP := [(false, .inl (8, [(6, 1, 0), (8, 4, 0), (8, 5, 0)])), (false, ac_862)]
noncomputable def con_1313 : Con2 := ((yX8_at, cX8_at, 3, (some .long)), (0, 0), ([(6, 0, 0), (0, 3, 0), (0, 53, 0)], gi_928, [.inl (8, [(6, 1, 0), (8, 4, 0), (8, 5, 0)]), ac_862], []), [((4, 6, 0), gi_929, hq_694, [], [1])])
theorem hd_1313 : con_1313.1 = (yX8_at, cX8_at, 3, (some .long)) := rfl
noncomputable def cu_1313 : List CUT2 := []
theorem ch_1313 : staG tb_X8_at 1 bt_RX8 [] ct_1253 [] [] cu_1313 11 con_1313 = true := by decide +kernel
theorem vl_1313 (l : Launch) : Vld2 l vwCl gTbl con_1313 := conR_ok3 gT_all (hd_1313) rfl pn_RX8 tk_X8_at bo_RX8 xo_RX8 (cto_1253 l) ch_1313 cut_nil
/-- RookHusting$Slots at -/
noncomputable def ac_863 : AC := .inr (2, jl_n [js_5 234 9223372036854775807 9223372036854775807, js_4 7 1, js_5 5 9223372036854775807 9223372036854775807])
noncomputable def hq_695 : HP := [(false, .inl (8, [(6, 1, 0), (8, 4, 0), (8, 5, 0)])), (false, ac_863)]
noncomputable def con_1314 : Con2 := ((yX8_at, cX8_at, 3, (some .long)), (0, 0), ([(6, 0, 0), (0, 3, 0), (0, 54, 0)], gi_928, [.inl (8, [(6, 1, 0), (8, 4, 0), (8, 5, 0)]), ac_863], []), [((4, 6, 0), gi_929, hq_695, [], [1])])
theorem hd_1314 : con_1314.1 = (yX8_at, cX8_at, 3, (some .long)) := rfl
noncomputable def cu_1314 : List CUT2 := []
theorem ch_1314 : staG tb_X8_at 1 bt_RX8 [] ct_1253 [] [] cu_1314 11 con_1314 = true := by decide +kernel
theorem vl_1314 (l : Launch) : Vld2 l vwCl gTbl con_1314 := conR_ok3 gT_all (hd_1314) rfl pn_RX8 tk_X8_at bo_RX8 xo_RX8 (cto_1253 l) ch_1314 cut_nil
/-- RookHusting$Slots at -/
noncomputable def ac_864 : AC := .inr (2, jl_n [js_5 235 9223372036854775807 9223372036854775807, js_4 7 1, js_5 4 9223372036854775807 9223372036854775807])
noncomputable def hq_696 : HP := [(false, .inl (8, [(6, 1, 0), (8, 4, 0), (8, 5, 0)])), (false, ac_864)]
noncomputable def con_1315 : Con2 := ((yX8_at, cX8_at, 3, (some .long)), (0, 0), ([(6, 0, 0), (0, 3, 0), (0, 55, 0)], gi_928, [.inl (8, [(6, 1, 0), (8, 4, 0), (8, 5, 0)]), ac_864], []), [((4, 6, 0), gi_929, hq_696, [], [1])])
theorem hd_1315 : con_1315.1 = (yX8_at, cX8_at, 3, (some .long)) := rfl
noncomputable def cu_1315 : List CUT2 := []
theorem ch_1315 : staG tb_X8_at 1 bt_RX8 [] ct_1253 [] [] cu_1315 11 con_1315 = true := by decide +kernel
theorem vl_1315 (l : Launch) : Vld2 l vwCl gTbl con_1315 := conR_ok3 gT_all (hd_1315) rfl pn_RX8 tk_X8_at bo_RX8 xo_RX8 (cto_1253 l) ch_1315 cut_nil
/-- RookHusting$Slots at -/
noncomputable def ac_865 : AC := .inr (2, jl_n [js_5 236 9223372036854775807 9223372036854775807, js_4 7 1, js_5 3 9223372036854775807 9223372036854775807])
noncomputable def hq_697 : HP := [(false, .inl (8, [(6, 1, 0), (8, 4, 0), (8, 5, 0)])), (false, ac_865)]
noncomputable def con_1316 : Con2 := ((yX8_at, cX8_at, 3, (some .long)), (0, 0), ([(6, 0, 0), (0, 3, 0), (0, 56, 0)], gi_928, [.inl (8, [(6, 1, 0), (8, 4, 0), (8, 5, 0)]), ac_865], []), [((4, 6, 0), gi_929, hq_697, [], [1])])
theorem hd_1316 : con_1316.1 = (yX8_at, cX8_at, 3, (some .long)) := rfl
noncomputable def cu_1316 : List CUT2 := []
theorem ch_1316 : staG tb_X8_at 1 bt_RX8 [] ct_1253 [] [] cu_1316 11 con_1316 = true := by decide +kernel
theorem vl_1316 (l : Launch) : Vld2 l vwCl gTbl con_1316 := conR_ok3 gT_all (hd_1316) rfl pn_RX8 tk_X8_at bo_RX8 xo_RX8 (cto_1253 l) ch_1316 cut_nil
/-- RookHusting$Slots at -/
noncomputable def ac_866 : AC := .inr (2, jl_n [js_5 237 9223372036854775807 9223372036854775807, js_4 7 1, js_5 2 9223372036854775807 9223372036854775807])
noncomputable def hq_698 : HP := [(false, .inl (8, [(6, 1, 0), (8, 4, 0), (8, 5, 0)])), (false, ac_866)]
noncomputable def con_1317 : Con2 := ((yX8_at, cX8_at, 3, (some .long)), (0, 0), ([(6, 0, 0), (0, 3, 0), (0, 57, 0)], gi_928, [.inl (8, [(6, 1, 0), (8, 4, 0), (8, 5, 0)]), ac_866], []), [((4, 6, 0), gi_929, hq_698, [], [1])])
theorem hd_1317 : con_1317.1 = (yX8_at, cX8_at, 3, (some .long)) := rfl
noncomputable def cu_1317 : List CUT2 := []
theorem ch_1317 : staG tb_X8_at 1 bt_RX8 [] ct_1253 [] [] cu_1317 11 con_1317 = true := by decide +kernel
theorem vl_1317 (l : Launch) : Vld2 l vwCl gTbl con_1317 := conR_ok3 gT_all (hd_1317) rfl pn_RX8 tk_X8_at bo_RX8 xo_RX8 (cto_1253 l) ch_1317 cut_nil
/-- RookHusting$Slots at -/
noncomputable def ac_867 : AC := .inr (2, jl_n [js_5 238 9223372036854775807 9223372036854775807, js_4 7 1, js_5 1 9223372036854775807 9223372036854775807])
noncomputable def gi_932 : GI := jl_n [jl_z 6, jl_u, jl_z 2]
noncomputable def hq_699 : HP := [(false, .inl (8, [(6, 1, 0), (8, 4, 0), (8, 5, 0)])), (false, ac_867)]
noncomputable def con_1318 : Con2 := ((yX8_at, cX8_at, 3, (some .long)), (0, 0), ([(6, 0, 0), (0, 3, 0), (0, 58, 0)], gi_929, [.inl (8, [(6, 1, 0), (8, 4, 0), (8, 5, 0)]), ac_867], []), [((4, 6, 0), gi_932, hq_699, [], [1])])
theorem hd_1318 : con_1318.1 = (yX8_at, cX8_at, 3, (some .long)) := rfl
noncomputable def cu_1318 : List CUT2 := []
theorem ch_1318 : staG tb_X8_at 1 bt_RX8 [] ct_1253 [] [] cu_1318 11 con_1318 = true := by decide +kernel
theorem vl_1318 (l : Launch) : Vld2 l vwCl gTbl con_1318 := conR_ok3 gT_all (hd_1318) rfl pn_RX8 tk_X8_at bo_RX8 xo_RX8 (cto_1253 l) ch_1318 cut_nil
/-- RookHusting$Slots at -/
noncomputable def ac_868 : AC := .inr (2, jl_n [js_5 239 9223372036854775807 9223372036854775807, js_4 7 1])
noncomputable def hq_700 : HP := [(false, .inl (8, [(6, 1, 0), (8, 4, 0), (8, 5, 0)])), (false, ac_868)]
noncomputable def con_1319 : Con2 := ((yX8_at, cX8_at, 3, (some .long)), (0, 0), ([(6, 0, 0), (0, 3, 0), (0, 59, 0)], gi_928, [.inl (8, [(6, 1, 0), (8, 4, 0), (8, 5, 0)]), ac_868], []), [((4, 6, 0), gi_929, hq_700, [], [1])])
theorem hd_1319 : con_1319.1 = (yX8_at, cX8_at, 3, (some .long)) := rfl
noncomputable def cu_1319 : List CUT2 := []
theorem ch_1319 : staG tb_X8_at 1 bt_RX8 [] ct_1253 [] [] cu_1319 11 con_1319 = true := by decide +kernel
theorem vl_1319 (l : Launch) : Vld2 l vwCl gTbl con_1319 := conR_ok3 gT_all (hd_1319) rfl pn_RX8 tk_X8_at bo_RX8 xo_RX8 (cto_1253 l) ch_1319 cut_nil
/-- RookHusting wrongSeen -/
noncomputable def gi_933 : GI := jl_n [gp_194, gp_424, jl_r 60 (jl_u)]
noncomputable def ac_869 : AC := .inr (2, jl_n [js_5 180 9223372036854775807 9223372036854775807, js_4 105 60])
noncomputable def hc_192 : List AC := [ac_804, .inl (9, [(6, 2, 0), (8, 20, 0)]), ac_805, .inl (8, [(6, 5, 0), (8, 39, 0), (6, 4, 0)]), ac_806, ac_869]
noncomputable def gi_934 : GI := jl_n [gp_194, gp_424, gp_427]
noncomputable def hq_701 : HP := [(false, ac_804), (false, .inl (9, [(6, 2, 0), (8, 20, 0)])), (false, ac_805), (false, .inl (8, [(6, 5, 0), (8, 39, 0), (6, 4, 0)])), (false, ac_806), (false, ac_869)]
noncomputable def gi_935 : GI := jl_n [gp_430, jl_k 0 0, gp_427]
noncomputable def gi_936 : GI := jl_n [gp_430, gp_431, jl_z 1]
noncomputable def gi_937 : GI := jl_n [gp_430, gp_436, jl_z 1]
noncomputable def gi_938 : GI := jl_n [gp_430, gp_439, jl_z 1]
noncomputable def gi_939 : GI := jl_n [gp_430, gp_442, jl_z 1]
noncomputable def gi_940 : GI := jl_n [gp_430, gp_445, jl_z 1]
noncomputable def gi_941 : GI := jl_n [gp_430, gp_448, jl_z 1]
noncomputable def gi_942 : GI := jl_n [gp_430, gp_451, jl_z 1]
noncomputable def gi_943 : GI := jl_n [gp_430, gp_453, jl_z 1]
noncomputable def gi_944 : GI := jl_n [gp_430, gp_456, jl_z 1]
noncomputable def gi_945 : GI := jl_n [gp_430, gp_459, jl_z 1]
noncomputable def gi_946 : GI := jl_n [gp_430, gp_462, jl_z 1]
noncomputable def gi_947 : GI := jl_n [gp_430, gp_465, jl_z 1]
noncomputable def gi_948 : GI := jl_n [gp_430, gp_468, jl_z 1]
noncomputable def gi_949 : GI := jl_n [gp_430, gp_471, jl_z 1]
noncomputable def gi_950 : GI := jl_n [gp_430, gp_474, jl_z 1]
noncomputable def gi_951 : GI := jl_n [gp_430, gp_477, jl_z 1]
noncomputable def gi_952 : GI := jl_n [gp_430, gp_480, jl_z 1]
noncomputable def gi_953 : GI := jl_n [gp_430, gp_483, jl_z 1]
noncomputable def gi_954 : GI := jl_n [gp_430, gp_485, jl_z 1]
noncomputable def gi_955 : GI := jl_n [gp_430, gp_487, jl_z 1]
noncomputable def gi_956 : GI := jl_n [gp_430, gp_489, jl_z 1]
noncomputable def con_1320 : Con2 := ((yX11_wrongSeen, cX11_wrongSeen, 5, (some .int)), (1, 22), ([(6, 0, 0), (0, 3, 0), (1, 2, 0)], gi_933, hc_192, []), [((0, (-2), 0), gi_934, hq_701, [], [1]), ((0, (-6), 0), gi_935, hq_701, [], [1]), ((0, 0, 0), gi_936, hq_701, [], [1]), ((0, 0, 0), gi_937, hq_701, [], [1]), ((0, 0, 0), gi_938, hq_701, [], [1]), ((0, 0, 0), gi_939, hq_701, [], [1]), ((0, 0, 0), gi_940, hq_701, [], [1]), ((0, 0, 0), gi_941, hq_701, [], [1]), ((0, 0, 0), gi_942, hq_701, [], [1]), ((0, 0, 0), gi_943, hq_701, [], [1]), ((0, 0, 0), gi_944, hq_701, [], [1]), ((0, 0, 0), gi_945, hq_701, [], [1]), ((0, 0, 0), gi_946, hq_701, [], [1]), ((0, 0, 0), gi_947, hq_701, [], [1]), ((0, 0, 0), gi_948, hq_701, [], [1]), ((0, 0, 0), gi_949, hq_701, [], [1]), ((0, 0, 0), gi_950, hq_701, [], [1]), ((0, 0, 0), gi_951, hq_701, [], [1]), ((0, 0, 0), gi_952, hq_701, [], [1]), ((0, 0, 0), gi_953, hq_701, [], [1]), ((0, 0, 0), gi_954, hq_701, [], [1]), ((0, 0, 0), gi_955, hq_701, [], [1]), ((0, 0, 0), gi_956, hq_701, [], [1])])
theorem hd_1320 : con_1320.1 = (yX11_wrongSeen, cX11_wrongSeen, 5, (some .int)) := rfl
theorem ck_RX11_476_1262 : COK2 RX11 vwCl gTbl 476 1 con_1262 := ⟨wd_1221, wd_125, mh_X11_isBetween, .inl ⟨rfl, wd_1219, wd_1220, pd_X11_isBetween⟩⟩
theorem ck_RX11_473_1261 : COK2 RX11 vwCl gTbl 473 0 con_1261 := ⟨wd_1218, wd_131, mh_X8_at, .inr (.inr ⟨rfl, wd_1215, wd_1216, wd_1217, ⟨_, rfl, pd_X8_at⟩, 8, _, TX8, 3, rfl, rfl⟩)⟩
theorem ck_RX11_473_1265 : COK2 RX11 vwCl gTbl 473 0 con_1265 := ⟨wd_1218, wd_131, mh_X8_at, .inr (.inr ⟨rfl, wd_1215, wd_1216, wd_1217, ⟨_, rfl, pd_X8_at⟩, 8, _, TX8, 3, rfl, rfl⟩)⟩
theorem ck_RX11_473_1268 : COK2 RX11 vwCl gTbl 473 0 con_1268 := ⟨wd_1218, wd_131, mh_X8_at, .inr (.inr ⟨rfl, wd_1215, wd_1216, wd_1217, ⟨_, rfl, pd_X8_at⟩, 8, _, TX8, 3, rfl, rfl⟩)⟩
theorem ck_RX11_473_1271 : COK2 RX11 vwCl gTbl 473 0 con_1271 := ⟨wd_1218, wd_131, mh_X8_at, .inr (.inr ⟨rfl, wd_1215, wd_1216, wd_1217, ⟨_, rfl, pd_X8_at⟩, 8, _, TX8, 3, rfl, rfl⟩)⟩
theorem ck_RX11_473_1274 : COK2 RX11 vwCl gTbl 473 0 con_1274 := ⟨wd_1218, wd_131, mh_X8_at, .inr (.inr ⟨rfl, wd_1215, wd_1216, wd_1217, ⟨_, rfl, pd_X8_at⟩, 8, _, TX8, 3, rfl, rfl⟩)⟩
theorem ck_RX11_473_1277 : COK2 RX11 vwCl gTbl 473 0 con_1277 := ⟨wd_1218, wd_131, mh_X8_at, .inr (.inr ⟨rfl, wd_1215, wd_1216, wd_1217, ⟨_, rfl, pd_X8_at⟩, 8, _, TX8, 3, rfl, rfl⟩)⟩
theorem ck_RX11_473_1280 : COK2 RX11 vwCl gTbl 473 0 con_1280 := ⟨wd_1218, wd_131, mh_X8_at, .inr (.inr ⟨rfl, wd_1215, wd_1216, wd_1217, ⟨_, rfl, pd_X8_at⟩, 8, _, TX8, 3, rfl, rfl⟩)⟩
theorem ck_RX11_473_1283 : COK2 RX11 vwCl gTbl 473 0 con_1283 := ⟨wd_1218, wd_131, mh_X8_at, .inr (.inr ⟨rfl, wd_1215, wd_1216, wd_1217, ⟨_, rfl, pd_X8_at⟩, 8, _, TX8, 3, rfl, rfl⟩)⟩
theorem ck_RX11_473_1286 : COK2 RX11 vwCl gTbl 473 0 con_1286 := ⟨wd_1218, wd_131, mh_X8_at, .inr (.inr ⟨rfl, wd_1215, wd_1216, wd_1217, ⟨_, rfl, pd_X8_at⟩, 8, _, TX8, 3, rfl, rfl⟩)⟩
theorem ck_RX11_473_1289 : COK2 RX11 vwCl gTbl 473 0 con_1289 := ⟨wd_1218, wd_131, mh_X8_at, .inr (.inr ⟨rfl, wd_1215, wd_1216, wd_1217, ⟨_, rfl, pd_X8_at⟩, 8, _, TX8, 3, rfl, rfl⟩)⟩
theorem ck_RX11_473_1292 : COK2 RX11 vwCl gTbl 473 0 con_1292 := ⟨wd_1218, wd_131, mh_X8_at, .inr (.inr ⟨rfl, wd_1215, wd_1216, wd_1217, ⟨_, rfl, pd_X8_at⟩, 8, _, TX8, 3, rfl, rfl⟩)⟩
theorem ck_RX11_473_1295 : COK2 RX11 vwCl gTbl 473 0 con_1295 := ⟨wd_1218, wd_131, mh_X8_at, .inr (.inr ⟨rfl, wd_1215, wd_1216, wd_1217, ⟨_, rfl, pd_X8_at⟩, 8, _, TX8, 3, rfl, rfl⟩)⟩
theorem ck_RX11_473_1298 : COK2 RX11 vwCl gTbl 473 0 con_1298 := ⟨wd_1218, wd_131, mh_X8_at, .inr (.inr ⟨rfl, wd_1215, wd_1216, wd_1217, ⟨_, rfl, pd_X8_at⟩, 8, _, TX8, 3, rfl, rfl⟩)⟩
theorem ck_RX11_473_1301 : COK2 RX11 vwCl gTbl 473 0 con_1301 := ⟨wd_1218, wd_131, mh_X8_at, .inr (.inr ⟨rfl, wd_1215, wd_1216, wd_1217, ⟨_, rfl, pd_X8_at⟩, 8, _, TX8, 3, rfl, rfl⟩)⟩
theorem ck_RX11_473_1304 : COK2 RX11 vwCl gTbl 473 0 con_1304 := ⟨wd_1218, wd_131, mh_X8_at, .inr (.inr ⟨rfl, wd_1215, wd_1216, wd_1217, ⟨_, rfl, pd_X8_at⟩, 8, _, TX8, 3, rfl, rfl⟩)⟩
theorem ck_RX11_473_1307 : COK2 RX11 vwCl gTbl 473 0 con_1307 := ⟨wd_1218, wd_131, mh_X8_at, .inr (.inr ⟨rfl, wd_1215, wd_1216, wd_1217, ⟨_, rfl, pd_X8_at⟩, 8, _, TX8, 3, rfl, rfl⟩)⟩
theorem ck_RX11_473_1310 : COK2 RX11 vwCl gTbl 473 0 con_1310 := ⟨wd_1218, wd_131, mh_X8_at, .inr (.inr ⟨rfl, wd_1215, wd_1216, wd_1217, ⟨_, rfl, pd_X8_at⟩, 8, _, TX8, 3, rfl, rfl⟩)⟩
theorem ck_RX11_473_1313 : COK2 RX11 vwCl gTbl 473 0 con_1313 := ⟨wd_1218, wd_131, mh_X8_at, .inr (.inr ⟨rfl, wd_1215, wd_1216, wd_1217, ⟨_, rfl, pd_X8_at⟩, 8, _, TX8, 3, rfl, rfl⟩)⟩
theorem ck_RX11_473_1316 : COK2 RX11 vwCl gTbl 473 0 con_1316 := ⟨wd_1218, wd_131, mh_X8_at, .inr (.inr ⟨rfl, wd_1215, wd_1216, wd_1217, ⟨_, rfl, pd_X8_at⟩, 8, _, TX8, 3, rfl, rfl⟩)⟩
theorem ck_RX11_473_1319 : COK2 RX11 vwCl gTbl 473 0 con_1319 := ⟨wd_1218, wd_131, mh_X8_at, .inr (.inr ⟨rfl, wd_1215, wd_1216, wd_1217, ⟨_, rfl, pd_X8_at⟩, 8, _, TX8, 3, rfl, rfl⟩)⟩
theorem ck_RX11_476_1260 : COK2 RX11 vwCl gTbl 476 1 con_1260 := ⟨wd_1221, wd_125, mh_X11_isBetween, .inl ⟨rfl, wd_1219, wd_1220, pd_X11_isBetween⟩⟩
theorem ck_RX11_473_1259 : COK2 RX11 vwCl gTbl 473 0 con_1259 := ⟨wd_1218, wd_131, mh_X8_at, .inr (.inr ⟨rfl, wd_1215, wd_1216, wd_1217, ⟨_, rfl, pd_X8_at⟩, 8, _, TX8, 3, rfl, rfl⟩)⟩
theorem ck_RX11_473_1264 : COK2 RX11 vwCl gTbl 473 0 con_1264 := ⟨wd_1218, wd_131, mh_X8_at, .inr (.inr ⟨rfl, wd_1215, wd_1216, wd_1217, ⟨_, rfl, pd_X8_at⟩, 8, _, TX8, 3, rfl, rfl⟩)⟩
theorem ck_RX11_473_1267 : COK2 RX11 vwCl gTbl 473 0 con_1267 := ⟨wd_1218, wd_131, mh_X8_at, .inr (.inr ⟨rfl, wd_1215, wd_1216, wd_1217, ⟨_, rfl, pd_X8_at⟩, 8, _, TX8, 3, rfl, rfl⟩)⟩
theorem ck_RX11_473_1270 : COK2 RX11 vwCl gTbl 473 0 con_1270 := ⟨wd_1218, wd_131, mh_X8_at, .inr (.inr ⟨rfl, wd_1215, wd_1216, wd_1217, ⟨_, rfl, pd_X8_at⟩, 8, _, TX8, 3, rfl, rfl⟩)⟩
theorem ck_RX11_473_1273 : COK2 RX11 vwCl gTbl 473 0 con_1273 := ⟨wd_1218, wd_131, mh_X8_at, .inr (.inr ⟨rfl, wd_1215, wd_1216, wd_1217, ⟨_, rfl, pd_X8_at⟩, 8, _, TX8, 3, rfl, rfl⟩)⟩
theorem ck_RX11_473_1276 : COK2 RX11 vwCl gTbl 473 0 con_1276 := ⟨wd_1218, wd_131, mh_X8_at, .inr (.inr ⟨rfl, wd_1215, wd_1216, wd_1217, ⟨_, rfl, pd_X8_at⟩, 8, _, TX8, 3, rfl, rfl⟩)⟩
theorem ck_RX11_473_1279 : COK2 RX11 vwCl gTbl 473 0 con_1279 := ⟨wd_1218, wd_131, mh_X8_at, .inr (.inr ⟨rfl, wd_1215, wd_1216, wd_1217, ⟨_, rfl, pd_X8_at⟩, 8, _, TX8, 3, rfl, rfl⟩)⟩
theorem ck_RX11_473_1282 : COK2 RX11 vwCl gTbl 473 0 con_1282 := ⟨wd_1218, wd_131, mh_X8_at, .inr (.inr ⟨rfl, wd_1215, wd_1216, wd_1217, ⟨_, rfl, pd_X8_at⟩, 8, _, TX8, 3, rfl, rfl⟩)⟩
theorem ck_RX11_473_1285 : COK2 RX11 vwCl gTbl 473 0 con_1285 := ⟨wd_1218, wd_131, mh_X8_at, .inr (.inr ⟨rfl, wd_1215, wd_1216, wd_1217, ⟨_, rfl, pd_X8_at⟩, 8, _, TX8, 3, rfl, rfl⟩)⟩
theorem ck_RX11_473_1288 : COK2 RX11 vwCl gTbl 473 0 con_1288 := ⟨wd_1218, wd_131, mh_X8_at, .inr (.inr ⟨rfl, wd_1215, wd_1216, wd_1217, ⟨_, rfl, pd_X8_at⟩, 8, _, TX8, 3, rfl, rfl⟩)⟩
theorem ck_RX11_473_1291 : COK2 RX11 vwCl gTbl 473 0 con_1291 := ⟨wd_1218, wd_131, mh_X8_at, .inr (.inr ⟨rfl, wd_1215, wd_1216, wd_1217, ⟨_, rfl, pd_X8_at⟩, 8, _, TX8, 3, rfl, rfl⟩)⟩
theorem ck_RX11_473_1294 : COK2 RX11 vwCl gTbl 473 0 con_1294 := ⟨wd_1218, wd_131, mh_X8_at, .inr (.inr ⟨rfl, wd_1215, wd_1216, wd_1217, ⟨_, rfl, pd_X8_at⟩, 8, _, TX8, 3, rfl, rfl⟩)⟩
theorem ck_RX11_473_1297 : COK2 RX11 vwCl gTbl 473 0 con_1297 := ⟨wd_1218, wd_131, mh_X8_at, .inr (.inr ⟨rfl, wd_1215, wd_1216, wd_1217, ⟨_, rfl, pd_X8_at⟩, 8, _, TX8, 3, rfl, rfl⟩)⟩
theorem ck_RX11_473_1300 : COK2 RX11 vwCl gTbl 473 0 con_1300 := ⟨wd_1218, wd_131, mh_X8_at, .inr (.inr ⟨rfl, wd_1215, wd_1216, wd_1217, ⟨_, rfl, pd_X8_at⟩, 8, _, TX8, 3, rfl, rfl⟩)⟩
theorem ck_RX11_473_1303 : COK2 RX11 vwCl gTbl 473 0 con_1303 := ⟨wd_1218, wd_131, mh_X8_at, .inr (.inr ⟨rfl, wd_1215, wd_1216, wd_1217, ⟨_, rfl, pd_X8_at⟩, 8, _, TX8, 3, rfl, rfl⟩)⟩
theorem ck_RX11_473_1306 : COK2 RX11 vwCl gTbl 473 0 con_1306 := ⟨wd_1218, wd_131, mh_X8_at, .inr (.inr ⟨rfl, wd_1215, wd_1216, wd_1217, ⟨_, rfl, pd_X8_at⟩, 8, _, TX8, 3, rfl, rfl⟩)⟩
theorem ck_RX11_473_1309 : COK2 RX11 vwCl gTbl 473 0 con_1309 := ⟨wd_1218, wd_131, mh_X8_at, .inr (.inr ⟨rfl, wd_1215, wd_1216, wd_1217, ⟨_, rfl, pd_X8_at⟩, 8, _, TX8, 3, rfl, rfl⟩)⟩
theorem ck_RX11_473_1312 : COK2 RX11 vwCl gTbl 473 0 con_1312 := ⟨wd_1218, wd_131, mh_X8_at, .inr (.inr ⟨rfl, wd_1215, wd_1216, wd_1217, ⟨_, rfl, pd_X8_at⟩, 8, _, TX8, 3, rfl, rfl⟩)⟩
theorem ck_RX11_473_1315 : COK2 RX11 vwCl gTbl 473 0 con_1315 := ⟨wd_1218, wd_131, mh_X8_at, .inr (.inr ⟨rfl, wd_1215, wd_1216, wd_1217, ⟨_, rfl, pd_X8_at⟩, 8, _, TX8, 3, rfl, rfl⟩)⟩
theorem ck_RX11_473_1318 : COK2 RX11 vwCl gTbl 473 0 con_1318 := ⟨wd_1218, wd_131, mh_X8_at, .inr (.inr ⟨rfl, wd_1215, wd_1216, wd_1217, ⟨_, rfl, pd_X8_at⟩, 8, _, TX8, 3, rfl, rfl⟩)⟩
theorem ck_RX11_476_1258 : COK2 RX11 vwCl gTbl 476 1 con_1258 := ⟨wd_1221, wd_125, mh_X11_isBetween, .inl ⟨rfl, wd_1219, wd_1220, pd_X11_isBetween⟩⟩
theorem ck_RX11_473_1257 : COK2 RX11 vwCl gTbl 473 0 con_1257 := ⟨wd_1218, wd_131, mh_X8_at, .inr (.inr ⟨rfl, wd_1215, wd_1216, wd_1217, ⟨_, rfl, pd_X8_at⟩, 8, _, TX8, 3, rfl, rfl⟩)⟩
theorem ck_RX11_473_1263 : COK2 RX11 vwCl gTbl 473 0 con_1263 := ⟨wd_1218, wd_131, mh_X8_at, .inr (.inr ⟨rfl, wd_1215, wd_1216, wd_1217, ⟨_, rfl, pd_X8_at⟩, 8, _, TX8, 3, rfl, rfl⟩)⟩
theorem ck_RX11_473_1266 : COK2 RX11 vwCl gTbl 473 0 con_1266 := ⟨wd_1218, wd_131, mh_X8_at, .inr (.inr ⟨rfl, wd_1215, wd_1216, wd_1217, ⟨_, rfl, pd_X8_at⟩, 8, _, TX8, 3, rfl, rfl⟩)⟩
theorem ck_RX11_473_1269 : COK2 RX11 vwCl gTbl 473 0 con_1269 := ⟨wd_1218, wd_131, mh_X8_at, .inr (.inr ⟨rfl, wd_1215, wd_1216, wd_1217, ⟨_, rfl, pd_X8_at⟩, 8, _, TX8, 3, rfl, rfl⟩)⟩
theorem ck_RX11_473_1272 : COK2 RX11 vwCl gTbl 473 0 con_1272 := ⟨wd_1218, wd_131, mh_X8_at, .inr (.inr ⟨rfl, wd_1215, wd_1216, wd_1217, ⟨_, rfl, pd_X8_at⟩, 8, _, TX8, 3, rfl, rfl⟩)⟩
theorem ck_RX11_473_1275 : COK2 RX11 vwCl gTbl 473 0 con_1275 := ⟨wd_1218, wd_131, mh_X8_at, .inr (.inr ⟨rfl, wd_1215, wd_1216, wd_1217, ⟨_, rfl, pd_X8_at⟩, 8, _, TX8, 3, rfl, rfl⟩)⟩
theorem ck_RX11_473_1278 : COK2 RX11 vwCl gTbl 473 0 con_1278 := ⟨wd_1218, wd_131, mh_X8_at, .inr (.inr ⟨rfl, wd_1215, wd_1216, wd_1217, ⟨_, rfl, pd_X8_at⟩, 8, _, TX8, 3, rfl, rfl⟩)⟩
theorem ck_RX11_473_1281 : COK2 RX11 vwCl gTbl 473 0 con_1281 := ⟨wd_1218, wd_131, mh_X8_at, .inr (.inr ⟨rfl, wd_1215, wd_1216, wd_1217, ⟨_, rfl, pd_X8_at⟩, 8, _, TX8, 3, rfl, rfl⟩)⟩
theorem ck_RX11_473_1284 : COK2 RX11 vwCl gTbl 473 0 con_1284 := ⟨wd_1218, wd_131, mh_X8_at, .inr (.inr ⟨rfl, wd_1215, wd_1216, wd_1217, ⟨_, rfl, pd_X8_at⟩, 8, _, TX8, 3, rfl, rfl⟩)⟩
theorem ck_RX11_473_1287 : COK2 RX11 vwCl gTbl 473 0 con_1287 := ⟨wd_1218, wd_131, mh_X8_at, .inr (.inr ⟨rfl, wd_1215, wd_1216, wd_1217, ⟨_, rfl, pd_X8_at⟩, 8, _, TX8, 3, rfl, rfl⟩)⟩
theorem ck_RX11_473_1290 : COK2 RX11 vwCl gTbl 473 0 con_1290 := ⟨wd_1218, wd_131, mh_X8_at, .inr (.inr ⟨rfl, wd_1215, wd_1216, wd_1217, ⟨_, rfl, pd_X8_at⟩, 8, _, TX8, 3, rfl, rfl⟩)⟩
theorem ck_RX11_473_1293 : COK2 RX11 vwCl gTbl 473 0 con_1293 := ⟨wd_1218, wd_131, mh_X8_at, .inr (.inr ⟨rfl, wd_1215, wd_1216, wd_1217, ⟨_, rfl, pd_X8_at⟩, 8, _, TX8, 3, rfl, rfl⟩)⟩
theorem ck_RX11_473_1296 : COK2 RX11 vwCl gTbl 473 0 con_1296 := ⟨wd_1218, wd_131, mh_X8_at, .inr (.inr ⟨rfl, wd_1215, wd_1216, wd_1217, ⟨_, rfl, pd_X8_at⟩, 8, _, TX8, 3, rfl, rfl⟩)⟩
theorem ck_RX11_473_1299 : COK2 RX11 vwCl gTbl 473 0 con_1299 := ⟨wd_1218, wd_131, mh_X8_at, .inr (.inr ⟨rfl, wd_1215, wd_1216, wd_1217, ⟨_, rfl, pd_X8_at⟩, 8, _, TX8, 3, rfl, rfl⟩)⟩
theorem ck_RX11_473_1302 : COK2 RX11 vwCl gTbl 473 0 con_1302 := ⟨wd_1218, wd_131, mh_X8_at, .inr (.inr ⟨rfl, wd_1215, wd_1216, wd_1217, ⟨_, rfl, pd_X8_at⟩, 8, _, TX8, 3, rfl, rfl⟩)⟩
theorem ck_RX11_473_1305 : COK2 RX11 vwCl gTbl 473 0 con_1305 := ⟨wd_1218, wd_131, mh_X8_at, .inr (.inr ⟨rfl, wd_1215, wd_1216, wd_1217, ⟨_, rfl, pd_X8_at⟩, 8, _, TX8, 3, rfl, rfl⟩)⟩
theorem ck_RX11_473_1308 : COK2 RX11 vwCl gTbl 473 0 con_1308 := ⟨wd_1218, wd_131, mh_X8_at, .inr (.inr ⟨rfl, wd_1215, wd_1216, wd_1217, ⟨_, rfl, pd_X8_at⟩, 8, _, TX8, 3, rfl, rfl⟩)⟩
theorem ck_RX11_473_1311 : COK2 RX11 vwCl gTbl 473 0 con_1311 := ⟨wd_1218, wd_131, mh_X8_at, .inr (.inr ⟨rfl, wd_1215, wd_1216, wd_1217, ⟨_, rfl, pd_X8_at⟩, 8, _, TX8, 3, rfl, rfl⟩)⟩
theorem ck_RX11_473_1314 : COK2 RX11 vwCl gTbl 473 0 con_1314 := ⟨wd_1218, wd_131, mh_X8_at, .inr (.inr ⟨rfl, wd_1215, wd_1216, wd_1217, ⟨_, rfl, pd_X8_at⟩, 8, _, TX8, 3, rfl, rfl⟩)⟩
theorem ck_RX11_473_1317 : COK2 RX11 vwCl gTbl 473 0 con_1317 := ⟨wd_1218, wd_131, mh_X8_at, .inr (.inr ⟨rfl, wd_1215, wd_1216, wd_1217, ⟨_, rfl, pd_X8_at⟩, 8, _, TX8, 3, rfl, rfl⟩)⟩
theorem ck_RX11_420_1256 : COK2 RX11 vwCl gTbl 420 0 con_1256 := ⟨wd_1214, wd_131, mh_X8_hasRow, .inr (.inr ⟨rfl, wd_1211, wd_1212, wd_1213, ⟨_, rfl, pd_X8_hasRow⟩, 8, _, TX8, 3, rfl, rfl⟩)⟩
theorem ck_RX11_414_1255 : COK2 RX11 vwCl gTbl 414 1 con_1255 := ⟨wd_1210, wd_131, mh_X8_isSlot, .inl ⟨rfl, wd_1208, wd_1209, pd_X8_isSlot⟩⟩
noncomputable def ct_1320 : CTB2 := [(1, 414, 1, con_1255, []), (9, 139, 0, con_643, [0, 1, 2]), (23, 420, 0, con_1256, [3, 4]), (67, 473, 0, con_1317, [3, 5]), (67, 473, 0, con_1314, [3, 5]), (67, 473, 0, con_1311, [3, 5]), (67, 473, 0, con_1308, [3, 5]), (67, 473, 0, con_1305, [3, 5]), (67, 473, 0, con_1302, [3, 5]), (67, 473, 0, con_1299, [3, 5]), (67, 473, 0, con_1296, [3, 5]), (67, 473, 0, con_1293, [3, 5]), (67, 473, 0, con_1290, [3, 5]), (67, 473, 0, con_1287, [3, 5]), (67, 473, 0, con_1284, [3, 5]), (67, 473, 0, con_1281, [3, 5]), (67, 473, 0, con_1278, [3, 5]), (67, 473, 0, con_1275, [3, 5]), (67, 473, 0, con_1272, [3, 5]), (67, 473, 0, con_1269, [3, 5]), (67, 473, 0, con_1266, [3, 5]), (67, 473, 0, con_1263, [3, 5]), (67, 473, 0, con_1257, [3, 5]), (82, 476, 1, con_1258, []), (97, 473, 0, con_1318, [3, 5]), (97, 473, 0, con_1315, [3, 5]), (97, 473, 0, con_1312, [3, 5]), (97, 473, 0, con_1309, [3, 5]), (97, 473, 0, con_1306, [3, 5]), (97, 473, 0, con_1303, [3, 5]), (97, 473, 0, con_1300, [3, 5]), (97, 473, 0, con_1297, [3, 5]), (97, 473, 0, con_1294, [3, 5]), (97, 473, 0, con_1291, [3, 5]), (97, 473, 0, con_1288, [3, 5]), (97, 473, 0, con_1285, [3, 5]), (97, 473, 0, con_1282, [3, 5]), (97, 473, 0, con_1279, [3, 5]), (97, 473, 0, con_1276, [3, 5]), (97, 473, 0, con_1273, [3, 5]), (97, 473, 0, con_1270, [3, 5]), (97, 473, 0, con_1267, [3, 5]), (97, 473, 0, con_1264, [3, 5]), (97, 473, 0, con_1259, [3, 5]), (110, 476, 1, con_1260, []), (125, 473, 0, con_1319, [3, 5]), (125, 473, 0, con_1316, [3, 5]), (125, 473, 0, con_1313, [3, 5]), (125, 473, 0, con_1310, [3, 5]), (125, 473, 0, con_1307, [3, 5]), (125, 473, 0, con_1304, [3, 5]), (125, 473, 0, con_1301, [3, 5]), (125, 473, 0, con_1298, [3, 5]), (125, 473, 0, con_1295, [3, 5]), (125, 473, 0, con_1292, [3, 5]), (125, 473, 0, con_1289, [3, 5]), (125, 473, 0, con_1286, [3, 5]), (125, 473, 0, con_1283, [3, 5]), (125, 473, 0, con_1280, [3, 5]), (125, 473, 0, con_1277, [3, 5]), (125, 473, 0, con_1274, [3, 5]), (125, 473, 0, con_1271, [3, 5]), (125, 473, 0, con_1268, [3, 5]), (125, 473, 0, con_1265, [3, 5]), (125, 473, 0, con_1261, [3, 5]), (131, 476, 1, con_1262, [])]
noncomputable def gi_957 : GI := jl_n [gp_430, jl_i 0 60, jl_r 60 (jl_u), jl_z 5]
noncomputable def gi_958 : GI := jl_n [gp_430, jl_i 1 60, gp_452, jl_z 5]
noncomputable def gi_959 : GI := jl_n [gp_430, jl_i 4 60, gp_484, jl_z 5]
noncomputable def gi_960 : GI := jl_n [gp_430, jl_i 7 60, gp_488, jl_z 5]
noncomputable def gi_961 : GI := jl_n [gp_430, jl_i 10 60, gp_435, jl_z 5]
noncomputable def gi_962 : GI := jl_n [gp_430, jl_i 13 60, gp_438, jl_z 5]
noncomputable def gi_963 : GI := jl_n [gp_430, jl_i 16 60, gp_441, jl_z 5]
noncomputable def gi_964 : GI := jl_n [gp_430, jl_i 19 60, gp_444, jl_z 5]
noncomputable def gi_965 : GI := jl_n [gp_430, jl_i 22 60, gp_447, jl_z 5]
noncomputable def gi_966 : GI := jl_n [gp_430, jl_i 25 60, gp_450, jl_z 5]
noncomputable def gi_967 : GI := jl_n [gp_430, jl_i 28 60, gp_455, jl_z 5]
noncomputable def gi_968 : GI := jl_n [gp_430, jl_i 31 60, gp_458, jl_z 5]
noncomputable def gi_969 : GI := jl_n [gp_430, jl_i 34 60, gp_461, jl_z 5]
noncomputable def gi_970 : GI := jl_n [gp_430, jl_i 37 60, gp_464, jl_z 5]
noncomputable def gi_971 : GI := jl_n [gp_430, jl_i 40 60, gp_467, jl_z 5]
noncomputable def gi_972 : GI := jl_n [gp_430, jl_i 43 60, gp_470, jl_z 5]
noncomputable def gi_973 : GI := jl_n [gp_430, jl_i 46 60, gp_473, jl_z 5]
noncomputable def gi_974 : GI := jl_n [gp_430, jl_i 49 60, gp_476, jl_z 5]
noncomputable def gi_975 : GI := jl_n [gp_430, jl_i 52 60, gp_479, jl_z 5]
noncomputable def gi_976 : GI := jl_n [gp_430, jl_i 55 60, gp_490]
noncomputable def gi_977 : GI := jl_n [gp_430, gp_487, jl_z 5]
noncomputable def cu_1320_0 : List CUT2 := [((54, [lq 0 6 0, lq 1 0 3, lq 2 1 2, lq 3 1 44, lq 4 0 0], [], gi_957, hq_701), [], ([], 60)), ((54, [lq 0 6 0, lq 1 0 3, lq 2 1 2, lq 3 1 44, lq 4 0 3], [], gi_958, hq_701), [], ([], 57)), ((54, [lq 0 6 0, lq 1 0 3, lq 2 1 2, lq 3 1 44, lq 4 0 6], [], gi_959, hq_701), [], ([], 54)), ((54, [lq 0 6 0, lq 1 0 3, lq 2 1 2, lq 3 1 44, lq 4 0 9], [], gi_960, hq_701), [], ([], 51)), ((54, [lq 0 6 0, lq 1 0 3, lq 2 1 2, lq 3 1 44, lq 4 0 12], [], gi_961, hq_701), [], ([], 48)), ((54, [lq 0 6 0, lq 1 0 3, lq 2 1 2, lq 3 1 44, lq 4 0 15], [], gi_962, hq_701), [], ([], 45)), ((54, [lq 0 6 0, lq 1 0 3, lq 2 1 2, lq 3 1 44, lq 4 0 18], [], gi_963, hq_701), [], ([], 42)), ((54, [lq 0 6 0, lq 1 0 3, lq 2 1 2, lq 3 1 44, lq 4 0 21], [], gi_964, hq_701), [], ([], 39)), ((54, [lq 0 6 0, lq 1 0 3, lq 2 1 2, lq 3 1 44, lq 4 0 24], [], gi_965, hq_701), [], ([], 36)), ((54, [lq 0 6 0, lq 1 0 3, lq 2 1 2, lq 3 1 44, lq 4 0 27], [], gi_966, hq_701), [], ([], 33)), ((54, [lq 0 6 0, lq 1 0 3, lq 2 1 2, lq 3 1 44, lq 4 0 30], [], gi_967, hq_701), [], ([], 30)), ((54, [lq 0 6 0, lq 1 0 3, lq 2 1 2, lq 3 1 44, lq 4 0 33], [], gi_968, hq_701), [], ([], 27)), ((54, [lq 0 6 0, lq 1 0 3, lq 2 1 2, lq 3 1 44, lq 4 0 36], [], gi_969, hq_701), [], ([], 24))]
noncomputable def cu_1320_1 : List CUT2 := [((54, [lq 0 6 0, lq 1 0 3, lq 2 1 2, lq 3 1 44, lq 4 0 39], [], gi_970, hq_701), [], ([], 21)), ((54, [lq 0 6 0, lq 1 0 3, lq 2 1 2, lq 3 1 44, lq 4 0 42], [], gi_971, hq_701), [], ([], 18)), ((54, [lq 0 6 0, lq 1 0 3, lq 2 1 2, lq 3 1 44, lq 4 0 45], [], gi_972, hq_701), [], ([], 15)), ((54, [lq 0 6 0, lq 1 0 3, lq 2 1 2, lq 3 1 44, lq 4 0 48], [], gi_973, hq_701), [], ([], 12)), ((54, [lq 0 6 0, lq 1 0 3, lq 2 1 2, lq 3 1 44, lq 4 0 51], [], gi_974, hq_701), [], ([], 9)), ((54, [lq 0 6 0, lq 1 0 3, lq 2 1 2, lq 3 1 44, lq 4 0 54], [], gi_975, hq_701), [], ([], 6)), ((54, [lq 0 6 0, lq 1 0 3, lq 2 1 2, lq 3 1 44, lq 4 0 57], [], gi_976, hq_701), [], ([], 3)), ((54, [lq 0 6 0, lq 1 0 3, lq 2 1 2, lq 3 1 44, lq 4 0 60], [], gi_977, hq_701), [], ([], 0))]
noncomputable def cu_1320 : List CUT2 := cu_1320_0 ++ (cu_1320_1)
theorem ch_1320 : staG tb_X11_wrongSeen 1 bt_RX11 [] ct_1320 [] [] cu_1320 44 con_1320 = true := by decide +kernel
theorem cc_1320_0 : cu_1320_0.all (cutG tb_X11_wrongSeen 1 bt_RX11 [] ct_1320 [] [] cu_1320 44 con_1320) = true := by decide +kernel
theorem cc_1320_1 : cu_1320_1.all (cutG tb_X11_wrongSeen 1 bt_RX11 [] ct_1320 [] [] cu_1320 44 con_1320) = true := by decide +kernel
theorem cto_1320 (l : Launch) : CTOK2 l RX11 vwCl gTbl ct_1320 := ct2_cons (vl_1255 l) ck_RX11_414_1255 (ct2_cons (vl_643 l) ck_RX11_139_643 (ct2_cons (vl_1256 l) ck_RX11_420_1256 (ct2_cons (vl_1317 l) ck_RX11_473_1317 (ct2_cons (vl_1314 l) ck_RX11_473_1314 (ct2_cons (vl_1311 l) ck_RX11_473_1311 (ct2_cons (vl_1308 l) ck_RX11_473_1308 (ct2_cons (vl_1305 l) ck_RX11_473_1305 (ct2_cons (vl_1302 l) ck_RX11_473_1302 (ct2_cons (vl_1299 l) ck_RX11_473_1299 (ct2_cons (vl_1296 l) ck_RX11_473_1296 (ct2_cons (vl_1293 l) ck_RX11_473_1293 (ct2_cons (vl_1290 l) ck_RX11_473_1290 (ct2_cons (vl_1287 l) ck_RX11_473_1287 (ct2_cons (vl_1284 l) ck_RX11_473_1284 (ct2_cons (vl_1281 l) ck_RX11_473_1281 (ct2_cons (vl_1278 l) ck_RX11_473_1278 (ct2_cons (vl_1275 l) ck_RX11_473_1275 (ct2_cons (vl_1272 l) ck_RX11_473_1272 (ct2_cons (vl_1269 l) ck_RX11_473_1269 (ct2_cons (vl_1266 l) ck_RX11_473_1266 (ct2_cons (vl_1263 l) ck_RX11_473_1263 (ct2_cons (vl_1257 l) ck_RX11_473_1257 (ct2_cons (vl_1258 l) ck_RX11_476_1258 (ct2_cons (vl_1318 l) ck_RX11_473_1318 (ct2_cons (vl_1315 l) ck_RX11_473_1315 (ct2_cons (vl_1312 l) ck_RX11_473_1312 (ct2_cons (vl_1309 l) ck_RX11_473_1309 (ct2_cons (vl_1306 l) ck_RX11_473_1306 (ct2_cons (vl_1303 l) ck_RX11_473_1303 (ct2_cons (vl_1300 l) ck_RX11_473_1300 (ct2_cons (vl_1297 l) ck_RX11_473_1297 (ct2_cons (vl_1294 l) ck_RX11_473_1294 (ct2_cons (vl_1291 l) ck_RX11_473_1291 (ct2_cons (vl_1288 l) ck_RX11_473_1288 (ct2_cons (vl_1285 l) ck_RX11_473_1285 (ct2_cons (vl_1282 l) ck_RX11_473_1282 (ct2_cons (vl_1279 l) ck_RX11_473_1279 (ct2_cons (vl_1276 l) ck_RX11_473_1276 (ct2_cons (vl_1273 l) ck_RX11_473_1273 (ct2_cons (vl_1270 l) ck_RX11_473_1270 (ct2_cons (vl_1267 l) ck_RX11_473_1267 (ct2_cons (vl_1264 l) ck_RX11_473_1264 (ct2_cons (vl_1259 l) ck_RX11_473_1259 (ct2_cons (vl_1260 l) ck_RX11_476_1260 (ct2_cons (vl_1319 l) ck_RX11_473_1319 (ct2_cons (vl_1316 l) ck_RX11_473_1316 (ct2_cons (vl_1313 l) ck_RX11_473_1313 (ct2_cons (vl_1310 l) ck_RX11_473_1310 (ct2_cons (vl_1307 l) ck_RX11_473_1307 (ct2_cons (vl_1304 l) ck_RX11_473_1304 (ct2_cons (vl_1301 l) ck_RX11_473_1301 (ct2_cons (vl_1298 l) ck_RX11_473_1298 (ct2_cons (vl_1295 l) ck_RX11_473_1295 (ct2_cons (vl_1292 l) ck_RX11_473_1292 (ct2_cons (vl_1289 l) ck_RX11_473_1289 (ct2_cons (vl_1286 l) ck_RX11_473_1286 (ct2_cons (vl_1283 l) ck_RX11_473_1283 (ct2_cons (vl_1280 l) ck_RX11_473_1280 (ct2_cons (vl_1277 l) ck_RX11_473_1277 (ct2_cons (vl_1274 l) ck_RX11_473_1274 (ct2_cons (vl_1271 l) ck_RX11_473_1271 (ct2_cons (vl_1268 l) ck_RX11_473_1268 (ct2_cons (vl_1265 l) ck_RX11_473_1265 (ct2_cons (vl_1261 l) ck_RX11_473_1261 (ct2_cons (vl_1262 l) ck_RX11_476_1262 (ct2_nil))))))))))))))))))))))))))))))))))))))))))))))))))))))))))))))))))
theorem vl_1320 (l : Launch) : Vld2 l vwCl gTbl con_1320 := conR_ok3 gT_all (hd_1320) rfl pn_RX11 tk_X11_wrongSeen bo_RX11 xo_RX11 (cto_1320 l) ch_1320 (cut_app (cut_all cc_1320_0) (cut_all cc_1320_1))
/-- RookHusting$Slots isSlot -/
noncomputable def con_1321 : Con2 := ((yX8_isSlot, cX8_isSlot, 1, (some .boolean)), (0, 0), ([(0, 2, 0)], [(0, 0)], [], []), [((0, 1, 0), [(0, 0), (0, 0)], [], [], [1])])
theorem hd_1321 : con_1321.1 = (yX8_isSlot, cX8_isSlot, 1, (some .boolean)) := rfl
noncomputable def cu_1321 : List CUT2 := []
theorem ch_1321 : staG tb_X8_isSlot 1 bt_RX8 [] ct_1253 [] [] cu_1321 10 con_1321 = true := by decide +kernel
theorem vl_1321 (l : Launch) : Vld2 l vwCl gTbl con_1321 := conR_ok3 gT_all (hd_1321) rfl pn_RX8 tk_X8_isSlot bo_RX8 xo_RX8 (cto_1253 l) ch_1321 cut_nil
/-- RookHusting$Slots hasRow -/
noncomputable def gi_978 : GI := jl_n [jl_z 5, gp_491, jl_m 0 60, jl_z 1]
noncomputable def gi_979 : GI := jl_n [jl_z 5, gp_493, jl_z 1]
noncomputable def con_1322 : Con2 := ((yX8_hasRow, cX8_hasRow, 2, (some .boolean)), (0, 0), ([(6, 0, 0), (0, 2, 0)], gi_925, [.inl (8, [(8, 2, 0), (8, 3, 0), (6, 1, 0)]), ac_808], []), [((0, 0, 0), gi_978, hq_640, [], [1]), ((0, 1, 0), gi_979, hq_640, [], [1])])
theorem hd_1322 : con_1322.1 = (yX8_hasRow, cX8_hasRow, 2, (some .boolean)) := rfl
noncomputable def cu_1322 : List CUT2 := []
theorem ch_1322 : staG tb_X8_hasRow 1 bt_RX8 [] ct_1253 [] [] cu_1322 11 con_1322 = true := by decide +kernel
theorem vl_1322 (l : Launch) : Vld2 l vwCl gTbl con_1322 := conR_ok3 gT_all (hd_1322) rfl pn_RX8 tk_X8_hasRow bo_RX8 xo_RX8 (cto_1253 l) ch_1322 cut_nil
/-- RookHusting$Slots at -/
noncomputable def ac_870 : AC := .inr (2, jl_n [js_5 120 9223372036854775807 9223372036854775807, js_4 7 1, js_5 119 9223372036854775807 9223372036854775807])
noncomputable def hq_702 : HP := [(false, .inl (8, [(6, 1, 0), (8, 4, 0), (8, 5, 0)])), (false, ac_870)]
noncomputable def con_1323 : Con2 := ((yX8_at, cX8_at, 3, (some .long)), (0, 0), ([(6, 0, 0), (0, 2, 0), (0, 0, 0)], gi_928, [.inl (8, [(6, 1, 0), (8, 4, 0), (8, 5, 0)]), ac_870], []), [((4, 6, 0), gi_929, hq_702, [], [1])])
theorem hd_1323 : con_1323.1 = (yX8_at, cX8_at, 3, (some .long)) := rfl
noncomputable def cu_1323 : List CUT2 := []
theorem ch_1323 : staG tb_X8_at 1 bt_RX8 [] ct_1253 [] [] cu_1323 11 con_1323 = true := by decide +kernel
theorem vl_1323 (l : Launch) : Vld2 l vwCl gTbl con_1323 := conR_ok3 gT_all (hd_1323) rfl pn_RX8 tk_X8_at bo_RX8 xo_RX8 (cto_1253 l) ch_1323 cut_nil
/-- RookHusting$Slots at -/
noncomputable def ac_871 : AC := .inr (2, jl_n [js_5 121 9223372036854775807 9223372036854775807, js_4 7 1, js_5 118 9223372036854775807 9223372036854775807])
noncomputable def hq_703 : HP := [(false, .inl (8, [(6, 1, 0), (8, 4, 0), (8, 5, 0)])), (false, ac_871)]
noncomputable def con_1324 : Con2 := ((yX8_at, cX8_at, 3, (some .long)), (0, 0), ([(6, 0, 0), (0, 2, 0), (0, 1, 0)], gi_928, [.inl (8, [(6, 1, 0), (8, 4, 0), (8, 5, 0)]), ac_871], []), [((4, 6, 0), gi_929, hq_703, [], [1])])
theorem hd_1324 : con_1324.1 = (yX8_at, cX8_at, 3, (some .long)) := rfl
noncomputable def cu_1324 : List CUT2 := []
theorem ch_1324 : staG tb_X8_at 1 bt_RX8 [] ct_1253 [] [] cu_1324 11 con_1324 = true := by decide +kernel
theorem vl_1324 (l : Launch) : Vld2 l vwCl gTbl con_1324 := conR_ok3 gT_all (hd_1324) rfl pn_RX8 tk_X8_at bo_RX8 xo_RX8 (cto_1253 l) ch_1324 cut_nil
/-- RookHusting$Slots at -/
noncomputable def ac_872 : AC := .inr (2, jl_n [js_5 122 9223372036854775807 9223372036854775807, js_4 7 1, js_5 117 9223372036854775807 9223372036854775807])
noncomputable def hq_704 : HP := [(false, .inl (8, [(6, 1, 0), (8, 4, 0), (8, 5, 0)])), (false, ac_872)]
noncomputable def con_1325 : Con2 := ((yX8_at, cX8_at, 3, (some .long)), (0, 0), ([(6, 0, 0), (0, 2, 0), (0, 2, 0)], gi_928, [.inl (8, [(6, 1, 0), (8, 4, 0), (8, 5, 0)]), ac_872], []), [((4, 6, 0), gi_929, hq_704, [], [1])])
theorem hd_1325 : con_1325.1 = (yX8_at, cX8_at, 3, (some .long)) := rfl
noncomputable def cu_1325 : List CUT2 := []
theorem ch_1325 : staG tb_X8_at 1 bt_RX8 [] ct_1253 [] [] cu_1325 11 con_1325 = true := by decide +kernel
theorem vl_1325 (l : Launch) : Vld2 l vwCl gTbl con_1325 := conR_ok3 gT_all (hd_1325) rfl pn_RX8 tk_X8_at bo_RX8 xo_RX8 (cto_1253 l) ch_1325 cut_nil
/-- RookHusting$Slots at -/
noncomputable def ac_873 : AC := .inr (2, jl_n [js_5 123 9223372036854775807 9223372036854775807, js_4 7 1, js_5 116 9223372036854775807 9223372036854775807])
noncomputable def hq_705 : HP := [(false, .inl (8, [(6, 1, 0), (8, 4, 0), (8, 5, 0)])), (false, ac_873)]
noncomputable def con_1326 : Con2 := ((yX8_at, cX8_at, 3, (some .long)), (0, 0), ([(6, 0, 0), (0, 2, 0), (0, 3, 0)], gi_928, [.inl (8, [(6, 1, 0), (8, 4, 0), (8, 5, 0)]), ac_873], []), [((4, 6, 0), gi_929, hq_705, [], [1])])
theorem hd_1326 : con_1326.1 = (yX8_at, cX8_at, 3, (some .long)) := rfl
noncomputable def cu_1326 : List CUT2 := []
theorem ch_1326 : staG tb_X8_at 1 bt_RX8 [] ct_1253 [] [] cu_1326 11 con_1326 = true := by decide +kernel
theorem vl_1326 (l : Launch) : Vld2 l vwCl gTbl con_1326 := conR_ok3 gT_all (hd_1326) rfl pn_RX8 tk_X8_at bo_RX8 xo_RX8 (cto_1253 l) ch_1326 cut_nil
/-- RookHusting$Slots at -/
noncomputable def ac_874 : AC := .inr (2, jl_n [js_5 124 9223372036854775807 9223372036854775807, js_4 7 1, js_5 115 9223372036854775807 9223372036854775807])
noncomputable def hq_706 : HP := [(false, .inl (8, [(6, 1, 0), (8, 4, 0), (8, 5, 0)])), (false, ac_874)]
noncomputable def con_1327 : Con2 := ((yX8_at, cX8_at, 3, (some .long)), (0, 0), ([(6, 0, 0), (0, 2, 0), (0, 4, 0)], gi_928, [.inl (8, [(6, 1, 0), (8, 4, 0), (8, 5, 0)]), ac_874], []), [((4, 6, 0), gi_929, hq_706, [], [1])])
theorem hd_1327 : con_1327.1 = (yX8_at, cX8_at, 3, (some .long)) := rfl
noncomputable def cu_1327 : List CUT2 := []
theorem ch_1327 : staG tb_X8_at 1 bt_RX8 [] ct_1253 [] [] cu_1327 11 con_1327 = true := by decide +kernel
theorem vl_1327 (l : Launch) : Vld2 l vwCl gTbl con_1327 := conR_ok3 gT_all (hd_1327) rfl pn_RX8 tk_X8_at bo_RX8 xo_RX8 (cto_1253 l) ch_1327 cut_nil
/-- RookHusting$Slots at -/
noncomputable def ac_875 : AC := .inr (2, jl_n [js_5 125 9223372036854775807 9223372036854775807, js_4 7 1, js_5 114 9223372036854775807 9223372036854775807])
noncomputable def hq_707 : HP := [(false, .inl (8, [(6, 1, 0), (8, 4, 0), (8, 5, 0)])), (false, ac_875)]
noncomputable def con_1328 : Con2 := ((yX8_at, cX8_at, 3, (some .long)), (0, 0), ([(6, 0, 0), (0, 2, 0), (0, 5, 0)], gi_928, [.inl (8, [(6, 1, 0), (8, 4, 0), (8, 5, 0)]), ac_875], []), [((4, 6, 0), gi_929, hq_707, [], [1])])
theorem hd_1328 : con_1328.1 = (yX8_at, cX8_at, 3, (some .long)) := rfl
noncomputable def cu_1328 : List CUT2 := []
theorem ch_1328 : staG tb_X8_at 1 bt_RX8 [] ct_1253 [] [] cu_1328 11 con_1328 = true := by decide +kernel
theorem vl_1328 (l : Launch) : Vld2 l vwCl gTbl con_1328 := conR_ok3 gT_all (hd_1328) rfl pn_RX8 tk_X8_at bo_RX8 xo_RX8 (cto_1253 l) ch_1328 cut_nil
/-- RookHusting$Slots at -/
noncomputable def ac_876 : AC := .inr (2, jl_n [js_5 126 9223372036854775807 9223372036854775807, js_4 7 1, js_5 113 9223372036854775807 9223372036854775807])
noncomputable def hq_708 : HP := [(false, .inl (8, [(6, 1, 0), (8, 4, 0), (8, 5, 0)])), (false, ac_876)]
noncomputable def con_1329 : Con2 := ((yX8_at, cX8_at, 3, (some .long)), (0, 0), ([(6, 0, 0), (0, 2, 0), (0, 6, 0)], gi_928, [.inl (8, [(6, 1, 0), (8, 4, 0), (8, 5, 0)]), ac_876], []), [((4, 6, 0), gi_929, hq_708, [], [1])])
theorem hd_1329 : con_1329.1 = (yX8_at, cX8_at, 3, (some .long)) := rfl
noncomputable def cu_1329 : List CUT2 := []
theorem ch_1329 : staG tb_X8_at 1 bt_RX8 [] ct_1253 [] [] cu_1329 11 con_1329 = true := by decide +kernel
theorem vl_1329 (l : Launch) : Vld2 l vwCl gTbl con_1329 := conR_ok3 gT_all (hd_1329) rfl pn_RX8 tk_X8_at bo_RX8 xo_RX8 (cto_1253 l) ch_1329 cut_nil
/-- RookHusting$Slots at -/
noncomputable def ac_877 : AC := .inr (2, jl_n [js_5 127 9223372036854775807 9223372036854775807, js_4 7 1, js_5 112 9223372036854775807 9223372036854775807])
noncomputable def hq_709 : HP := [(false, .inl (8, [(6, 1, 0), (8, 4, 0), (8, 5, 0)])), (false, ac_877)]
noncomputable def con_1330 : Con2 := ((yX8_at, cX8_at, 3, (some .long)), (0, 0), ([(6, 0, 0), (0, 2, 0), (0, 7, 0)], gi_928, [.inl (8, [(6, 1, 0), (8, 4, 0), (8, 5, 0)]), ac_877], []), [((4, 6, 0), gi_929, hq_709, [], [1])])
theorem hd_1330 : con_1330.1 = (yX8_at, cX8_at, 3, (some .long)) := rfl
noncomputable def cu_1330 : List CUT2 := []
theorem ch_1330 : staG tb_X8_at 1 bt_RX8 [] ct_1253 [] [] cu_1330 11 con_1330 = true := by decide +kernel
theorem vl_1330 (l : Launch) : Vld2 l vwCl gTbl con_1330 := conR_ok3 gT_all (hd_1330) rfl pn_RX8 tk_X8_at bo_RX8 xo_RX8 (cto_1253 l) ch_1330 cut_nil
/-- RookHusting$Slots at -/
noncomputable def ac_878 : AC := .inr (2, jl_n [js_5 128 9223372036854775807 9223372036854775807, js_4 7 1, js_5 111 9223372036854775807 9223372036854775807])
noncomputable def hq_710 : HP := [(false, .inl (8, [(6, 1, 0), (8, 4, 0), (8, 5, 0)])), (false, ac_878)]
noncomputable def con_1331 : Con2 := ((yX8_at, cX8_at, 3, (some .long)), (0, 0), ([(6, 0, 0), (0, 2, 0), (0, 8, 0)], gi_928, [.inl (8, [(6, 1, 0), (8, 4, 0), (8, 5, 0)]), ac_878], []), [((4, 6, 0), gi_929, hq_710, [], [1])])
theorem hd_1331 : con_1331.1 = (yX8_at, cX8_at, 3, (some .long)) := rfl
noncomputable def cu_1331 : List CUT2 := []
theorem ch_1331 : staG tb_X8_at 1 bt_RX8 [] ct_1253 [] [] cu_1331 11 con_1331 = true := by decide +kernel
theorem vl_1331 (l : Launch) : Vld2 l vwCl gTbl con_1331 := conR_ok3 gT_all (hd_1331) rfl pn_RX8 tk_X8_at bo_RX8 xo_RX8 (cto_1253 l) ch_1331 cut_nil
/-- RookHusting$Slots at -/
noncomputable def ac_879 : AC := .inr (2, jl_n [js_5 129 9223372036854775807 9223372036854775807, js_4 7 1, js_5 110 9223372036854775807 9223372036854775807])
noncomputable def hq_711 : HP := [(false, .inl (8, [(6, 1, 0), (8, 4, 0), (8, 5, 0)])), (false, ac_879)]
noncomputable def con_1332 : Con2 := ((yX8_at, cX8_at, 3, (some .long)), (0, 0), ([(6, 0, 0), (0, 2, 0), (0, 9, 0)], gi_928, [.inl (8, [(6, 1, 0), (8, 4, 0), (8, 5, 0)]), ac_879], []), [((4, 6, 0), gi_929, hq_711, [], [1])])
theorem hd_1332 : con_1332.1 = (yX8_at, cX8_at, 3, (some .long)) := rfl
noncomputable def cu_1332 : List CUT2 := []
theorem ch_1332 : staG tb_X8_at 1 bt_RX8 [] ct_1253 [] [] cu_1332 11 con_1332 = true := by decide +kernel
theorem vl_1332 (l : Launch) : Vld2 l vwCl gTbl con_1332 := conR_ok3 gT_all (hd_1332) rfl pn_RX8 tk_X8_at bo_RX8 xo_RX8 (cto_1253 l) ch_1332 cut_nil
/-- RookHusting$Slots at -/
noncomputable def ac_880 : AC := .inr (2, jl_n [js_5 130 9223372036854775807 9223372036854775807, js_4 7 1, js_5 109 9223372036854775807 9223372036854775807])
noncomputable def hq_712 : HP := [(false, .inl (8, [(6, 1, 0), (8, 4, 0), (8, 5, 0)])), (false, ac_880)]
noncomputable def con_1333 : Con2 := ((yX8_at, cX8_at, 3, (some .long)), (0, 0), ([(6, 0, 0), (0, 2, 0), (0, 10, 0)], gi_928, [.inl (8, [(6, 1, 0), (8, 4, 0), (8, 5, 0)]), ac_880], []), [((4, 6, 0), gi_929, hq_712, [], [1])])
theorem hd_1333 : con_1333.1 = (yX8_at, cX8_at, 3, (some .long)) := rfl
noncomputable def cu_1333 : List CUT2 := []
theorem ch_1333 : staG tb_X8_at 1 bt_RX8 [] ct_1253 [] [] cu_1333 11 con_1333 = true := by decide +kernel
theorem vl_1333 (l : Launch) : Vld2 l vwCl gTbl con_1333 := conR_ok3 gT_all (hd_1333) rfl pn_RX8 tk_X8_at bo_RX8 xo_RX8 (cto_1253 l) ch_1333 cut_nil
/-- RookHusting$Slots at -/
noncomputable def ac_881 : AC := .inr (2, jl_n [js_5 131 9223372036854775807 9223372036854775807, js_4 7 1, js_5 108 9223372036854775807 9223372036854775807])
noncomputable def hq_713 : HP := [(false, .inl (8, [(6, 1, 0), (8, 4, 0), (8, 5, 0)])), (false, ac_881)]
noncomputable def con_1334 : Con2 := ((yX8_at, cX8_at, 3, (some .long)), (0, 0), ([(6, 0, 0), (0, 2, 0), (0, 11, 0)], gi_928, [.inl (8, [(6, 1, 0), (8, 4, 0), (8, 5, 0)]), ac_881], []), [((4, 6, 0), gi_929, hq_713, [], [1])])
theorem hd_1334 : con_1334.1 = (yX8_at, cX8_at, 3, (some .long)) := rfl
noncomputable def cu_1334 : List CUT2 := []
theorem ch_1334 : staG tb_X8_at 1 bt_RX8 [] ct_1253 [] [] cu_1334 11 con_1334 = true := by decide +kernel
theorem vl_1334 (l : Launch) : Vld2 l vwCl gTbl con_1334 := conR_ok3 gT_all (hd_1334) rfl pn_RX8 tk_X8_at bo_RX8 xo_RX8 (cto_1253 l) ch_1334 cut_nil
/-- RookHusting$Slots at -/
noncomputable def ac_882 : AC := .inr (2, jl_n [js_5 132 9223372036854775807 9223372036854775807, js_4 7 1, js_5 107 9223372036854775807 9223372036854775807])
noncomputable def hq_714 : HP := [(false, .inl (8, [(6, 1, 0), (8, 4, 0), (8, 5, 0)])), (false, ac_882)]
noncomputable def con_1335 : Con2 := ((yX8_at, cX8_at, 3, (some .long)), (0, 0), ([(6, 0, 0), (0, 2, 0), (0, 12, 0)], gi_928, [.inl (8, [(6, 1, 0), (8, 4, 0), (8, 5, 0)]), ac_882], []), [((4, 6, 0), gi_929, hq_714, [], [1])])
theorem hd_1335 : con_1335.1 = (yX8_at, cX8_at, 3, (some .long)) := rfl
noncomputable def cu_1335 : List CUT2 := []
theorem ch_1335 : staG tb_X8_at 1 bt_RX8 [] ct_1253 [] [] cu_1335 11 con_1335 = true := by decide +kernel
theorem vl_1335 (l : Launch) : Vld2 l vwCl gTbl con_1335 := conR_ok3 gT_all (hd_1335) rfl pn_RX8 tk_X8_at bo_RX8 xo_RX8 (cto_1253 l) ch_1335 cut_nil
/-- RookHusting$Slots at -/
noncomputable def ac_883 : AC := .inr (2, jl_n [js_5 133 9223372036854775807 9223372036854775807, js_4 7 1, js_5 106 9223372036854775807 9223372036854775807])
noncomputable def hq_715 : HP := [(false, .inl (8, [(6, 1, 0), (8, 4, 0), (8, 5, 0)])), (false, ac_883)]
noncomputable def con_1336 : Con2 := ((yX8_at, cX8_at, 3, (some .long)), (0, 0), ([(6, 0, 0), (0, 2, 0), (0, 13, 0)], gi_928, [.inl (8, [(6, 1, 0), (8, 4, 0), (8, 5, 0)]), ac_883], []), [((4, 6, 0), gi_929, hq_715, [], [1])])
theorem hd_1336 : con_1336.1 = (yX8_at, cX8_at, 3, (some .long)) := rfl
noncomputable def cu_1336 : List CUT2 := []
theorem ch_1336 : staG tb_X8_at 1 bt_RX8 [] ct_1253 [] [] cu_1336 11 con_1336 = true := by decide +kernel
theorem vl_1336 (l : Launch) : Vld2 l vwCl gTbl con_1336 := conR_ok3 gT_all (hd_1336) rfl pn_RX8 tk_X8_at bo_RX8 xo_RX8 (cto_1253 l) ch_1336 cut_nil
/-- RookHusting$Slots at -/
noncomputable def ac_884 : AC := .inr (2, jl_n [js_5 134 9223372036854775807 9223372036854775807, js_4 7 1, js_5 105 9223372036854775807 9223372036854775807])
noncomputable def hq_716 : HP := [(false, .inl (8, [(6, 1, 0), (8, 4, 0), (8, 5, 0)])), (false, ac_884)]
noncomputable def con_1337 : Con2 := ((yX8_at, cX8_at, 3, (some .long)), (0, 0), ([(6, 0, 0), (0, 2, 0), (0, 14, 0)], gi_928, [.inl (8, [(6, 1, 0), (8, 4, 0), (8, 5, 0)]), ac_884], []), [((4, 6, 0), gi_929, hq_716, [], [1])])
theorem hd_1337 : con_1337.1 = (yX8_at, cX8_at, 3, (some .long)) := rfl
noncomputable def cu_1337 : List CUT2 := []
theorem ch_1337 : staG tb_X8_at 1 bt_RX8 [] ct_1253 [] [] cu_1337 11 con_1337 = true := by decide +kernel
theorem vl_1337 (l : Launch) : Vld2 l vwCl gTbl con_1337 := conR_ok3 gT_all (hd_1337) rfl pn_RX8 tk_X8_at bo_RX8 xo_RX8 (cto_1253 l) ch_1337 cut_nil
/-- RookHusting$Slots at -/
noncomputable def ac_885 : AC := .inr (2, jl_n [js_5 135 9223372036854775807 9223372036854775807, js_4 7 1, js_5 104 9223372036854775807 9223372036854775807])
noncomputable def hq_717 : HP := [(false, .inl (8, [(6, 1, 0), (8, 4, 0), (8, 5, 0)])), (false, ac_885)]
noncomputable def con_1338 : Con2 := ((yX8_at, cX8_at, 3, (some .long)), (0, 0), ([(6, 0, 0), (0, 2, 0), (0, 15, 0)], gi_928, [.inl (8, [(6, 1, 0), (8, 4, 0), (8, 5, 0)]), ac_885], []), [((4, 6, 0), gi_929, hq_717, [], [1])])
theorem hd_1338 : con_1338.1 = (yX8_at, cX8_at, 3, (some .long)) := rfl
noncomputable def cu_1338 : List CUT2 := []
theorem ch_1338 : staG tb_X8_at 1 bt_RX8 [] ct_1253 [] [] cu_1338 11 con_1338 = true := by decide +kernel
theorem vl_1338 (l : Launch) : Vld2 l vwCl gTbl con_1338 := conR_ok3 gT_all (hd_1338) rfl pn_RX8 tk_X8_at bo_RX8 xo_RX8 (cto_1253 l) ch_1338 cut_nil
/-- RookHusting$Slots at -/
noncomputable def ac_886 : AC := .inr (2, jl_n [js_5 136 9223372036854775807 9223372036854775807, js_4 7 1, js_5 103 9223372036854775807 9223372036854775807])
noncomputable def hq_718 : HP := [(false, .inl (8, [(6, 1, 0), (8, 4, 0), (8, 5, 0)])), (false, ac_886)]
noncomputable def con_1339 : Con2 := ((yX8_at, cX8_at, 3, (some .long)), (0, 0), ([(6, 0, 0), (0, 2, 0), (0, 16, 0)], gi_928, [.inl (8, [(6, 1, 0), (8, 4, 0), (8, 5, 0)]), ac_886], []), [((4, 6, 0), gi_929, hq_718, [], [1])])
theorem hd_1339 : con_1339.1 = (yX8_at, cX8_at, 3, (some .long)) := rfl
noncomputable def cu_1339 : List CUT2 := []
theorem ch_1339 : staG tb_X8_at 1 bt_RX8 [] ct_1253 [] [] cu_1339 11 con_1339 = true := by decide +kernel
theorem vl_1339 (l : Launch) : Vld2 l vwCl gTbl con_1339 := conR_ok3 gT_all (hd_1339) rfl pn_RX8 tk_X8_at bo_RX8 xo_RX8 (cto_1253 l) ch_1339 cut_nil
/-- RookHusting$Slots at -/
noncomputable def ac_887 : AC := .inr (2, jl_n [js_5 137 9223372036854775807 9223372036854775807, js_4 7 1, js_5 102 9223372036854775807 9223372036854775807])
noncomputable def hq_719 : HP := [(false, .inl (8, [(6, 1, 0), (8, 4, 0), (8, 5, 0)])), (false, ac_887)]
noncomputable def con_1340 : Con2 := ((yX8_at, cX8_at, 3, (some .long)), (0, 0), ([(6, 0, 0), (0, 2, 0), (0, 17, 0)], gi_928, [.inl (8, [(6, 1, 0), (8, 4, 0), (8, 5, 0)]), ac_887], []), [((4, 6, 0), gi_929, hq_719, [], [1])])
theorem hd_1340 : con_1340.1 = (yX8_at, cX8_at, 3, (some .long)) := rfl
noncomputable def cu_1340 : List CUT2 := []
theorem ch_1340 : staG tb_X8_at 1 bt_RX8 [] ct_1253 [] [] cu_1340 11 con_1340 = true := by decide +kernel
theorem vl_1340 (l : Launch) : Vld2 l vwCl gTbl con_1340 := conR_ok3 gT_all (hd_1340) rfl pn_RX8 tk_X8_at bo_RX8 xo_RX8 (cto_1253 l) ch_1340 cut_nil
/-- RookHusting$Slots at -/
noncomputable def ac_888 : AC := .inr (2, jl_n [js_5 138 9223372036854775807 9223372036854775807, js_4 7 1, js_5 101 9223372036854775807 9223372036854775807])
noncomputable def hq_720 : HP := [(false, .inl (8, [(6, 1, 0), (8, 4, 0), (8, 5, 0)])), (false, ac_888)]
noncomputable def con_1341 : Con2 := ((yX8_at, cX8_at, 3, (some .long)), (0, 0), ([(6, 0, 0), (0, 2, 0), (0, 18, 0)], gi_928, [.inl (8, [(6, 1, 0), (8, 4, 0), (8, 5, 0)]), ac_888], []), [((4, 6, 0), gi_929, hq_720, [], [1])])
theorem hd_1341 : con_1341.1 = (yX8_at, cX8_at, 3, (some .long)) := rfl
noncomputable def cu_1341 : List CUT2 := []
theorem ch_1341 : staG tb_X8_at 1 bt_RX8 [] ct_1253 [] [] cu_1341 11 con_1341 = true := by decide +kernel
theorem vl_1341 (l : Launch) : Vld2 l vwCl gTbl con_1341 := conR_ok3 gT_all (hd_1341) rfl pn_RX8 tk_X8_at bo_RX8 xo_RX8 (cto_1253 l) ch_1341 cut_nil
/-- RookHusting$Slots at -/
noncomputable def ac_889 : AC := .inr (2, jl_n [js_5 139 9223372036854775807 9223372036854775807, js_4 7 1, js_5 100 9223372036854775807 9223372036854775807])
noncomputable def hq_721 : HP := [(false, .inl (8, [(6, 1, 0), (8, 4, 0), (8, 5, 0)])), (false, ac_889)]
noncomputable def con_1342 : Con2 := ((yX8_at, cX8_at, 3, (some .long)), (0, 0), ([(6, 0, 0), (0, 2, 0), (0, 19, 0)], gi_928, [.inl (8, [(6, 1, 0), (8, 4, 0), (8, 5, 0)]), ac_889], []), [((4, 6, 0), gi_929, hq_721, [], [1])])
theorem hd_1342 : con_1342.1 = (yX8_at, cX8_at, 3, (some .long)) := rfl
noncomputable def cu_1342 : List CUT2 := []
theorem ch_1342 : staG tb_X8_at 1 bt_RX8 [] ct_1253 [] [] cu_1342 11 con_1342 = true := by decide +kernel
theorem vl_1342 (l : Launch) : Vld2 l vwCl gTbl con_1342 := conR_ok3 gT_all (hd_1342) rfl pn_RX8 tk_X8_at bo_RX8 xo_RX8 (cto_1253 l) ch_1342 cut_nil
/-- RookHusting$Slots at -/
noncomputable def ac_890 : AC := .inr (2, jl_n [js_5 140 9223372036854775807 9223372036854775807, js_4 7 1, js_5 99 9223372036854775807 9223372036854775807])
noncomputable def hq_722 : HP := [(false, .inl (8, [(6, 1, 0), (8, 4, 0), (8, 5, 0)])), (false, ac_890)]
noncomputable def con_1343 : Con2 := ((yX8_at, cX8_at, 3, (some .long)), (0, 0), ([(6, 0, 0), (0, 2, 0), (0, 20, 0)], gi_928, [.inl (8, [(6, 1, 0), (8, 4, 0), (8, 5, 0)]), ac_890], []), [((4, 6, 0), gi_929, hq_722, [], [1])])
theorem hd_1343 : con_1343.1 = (yX8_at, cX8_at, 3, (some .long)) := rfl
noncomputable def cu_1343 : List CUT2 := []
theorem ch_1343 : staG tb_X8_at 1 bt_RX8 [] ct_1253 [] [] cu_1343 11 con_1343 = true := by decide +kernel
theorem vl_1343 (l : Launch) : Vld2 l vwCl gTbl con_1343 := conR_ok3 gT_all (hd_1343) rfl pn_RX8 tk_X8_at bo_RX8 xo_RX8 (cto_1253 l) ch_1343 cut_nil
