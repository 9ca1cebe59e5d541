/-! ===== contracts, 32 ===== -/
/-- RookHusting isAsSeen -/
noncomputable def gi_1251 : GI := jl_n [gp_651, jl_z 9]
noncomputable def gi_1252 : GI := jl_n [gp_651, jl_z 10]
noncomputable def con_1614 : Con2 := ((yX11_isAsSeen, cX11_isAsSeen, 4, (some .boolean)), (1, 22), ([(6, 0, 0), (0, 3, 0)], gi_1251, hc_196, []), [((0, 0, 0), gi_1252, hq_885, [], [1]), ((0, 1, 0), gi_1252, hq_885, [], [1])])
theorem hd_1614 : con_1614.1 = (yX11_isAsSeen, cX11_isAsSeen, 4, (some .boolean)) := rfl
noncomputable def ct_1614 : CTB2 := [(21, 473, 0, con_1532, [1, 3]), (21, 473, 0, con_1529, [1, 3]), (21, 473, 0, con_1518, [1, 3]), (21, 473, 0, con_1515, [1, 3]), (21, 473, 0, con_1512, [1, 3]), (36, 473, 0, con_1533, [1, 3]), (36, 473, 0, con_1530, [1, 3]), (36, 473, 0, con_1519, [1, 3]), (36, 473, 0, con_1516, [1, 3]), (36, 473, 0, con_1513, [1, 3]), (60, 473, 0, con_1534, [1, 3]), (60, 473, 0, con_1531, [1, 3]), (60, 473, 0, con_1520, [1, 3]), (60, 473, 0, con_1517, [1, 3]), (60, 473, 0, con_1514, [1, 3])]
noncomputable def gi_1253 : GI := jl_n [gp_651, jl_z 12]
noncomputable def gi_1254 : GI := jl_n [gp_651, gp_628]
noncomputable def cu_1614 : List CUT2 := [((2, [lq 0 6 0, lq 1 0 3, lq 2 0 0], [], gi_1253, hq_885), [], ([], 15)), ((2, [lq 0 6 0, lq 1 0 3, lq 2 0 3, lq 3 1 97], [], gi_1254, hq_885), [], ([], 12)), ((2, [lq 0 6 0, lq 1 0 3, lq 2 0 6, lq 3 1 97], [], gi_1254, hq_885), [], ([], 9)), ((2, [lq 0 6 0, lq 1 0 3, lq 2 0 9, lq 3 1 97], [], gi_1254, hq_885), [], ([], 6)), ((2, [lq 0 6 0, lq 1 0 3, lq 2 0 12, lq 3 1 97], [], gi_1254, hq_885), [], ([], 3)), ((2, [lq 0 6 0, lq 1 0 3, lq 2 0 15, lq 3 1 97], [], gi_1254, hq_885), [], ([], 0))]
theorem ch_1614 : staG tb_X11_isAsSeen 1 bt_RX11 [] ct_1614 [] [] cu_1614 44 con_1614 = true := by decide +kernel
theorem cc_1614 : cu_1614.all (cutG tb_X11_isAsSeen 1 bt_RX11 [] ct_1614 [] [] cu_1614 44 con_1614) = true := by decide +kernel
theorem cto_1614 (l : Launch) : CTOK2 l RX11 vwCl gTbl ct_1614 := ct2_cons (vl_1532 l) ck_RX11_473_1532 (ct2_cons (vl_1529 l) ck_RX11_473_1529 (ct2_cons (vl_1518 l) ck_RX11_473_1518 (ct2_cons (vl_1515 l) ck_RX11_473_1515 (ct2_cons (vl_1512 l) ck_RX11_473_1512 (ct2_cons (vl_1533 l) ck_RX11_473_1533 (ct2_cons (vl_1530 l) ck_RX11_473_1530 (ct2_cons (vl_1519 l) ck_RX11_473_1519 (ct2_cons (vl_1516 l) ck_RX11_473_1516 (ct2_cons (vl_1513 l) ck_RX11_473_1513 (ct2_cons (vl_1534 l) ck_RX11_473_1534 (ct2_cons (vl_1531 l) ck_RX11_473_1531 (ct2_cons (vl_1520 l) ck_RX11_473_1520 (ct2_cons (vl_1517 l) ck_RX11_473_1517 (ct2_cons (vl_1514 l) ck_RX11_473_1514 (ct2_nil)))))))))))))))
theorem vl_1614 (l : Launch) : Vld2 l vwCl gTbl con_1614 := conR_ok3 gT_all (hd_1614) rfl pn_RX11 tk_X11_isAsSeen bo_RX11 xo_RX11 (cto_1614 l) ch_1614 (cut_all cc_1614)
/-- RookHusting guessAll -/
noncomputable def gi_1255 : GI := jl_n [gp_631, gp_439]
noncomputable def gi_1256 : GI := jl_n [gp_631, gp_439, gp_632]
noncomputable def con_1615 : Con2 := ((yX11_guessAll, cX11_guessAll, 4, none), (6, 151), ([(6, 0, 0), (0, 3, 0), (1, 2, 0)], gi_1255, hc_198, rq_6), [((9, 0, 0), gi_1256, hq_887, [], tg_1)])
theorem hd_1615 : con_1615.1 = (yX11_guessAll, cX11_guessAll, 4, none) := rfl
theorem ck_RX11_483_1614 : COK2 RX11 vwCl gTbl 483 0 con_1614 := ⟨wd_1230, wd_125, mh_X11_isAsSeen, .inr (.inr ⟨rfl, wd_1227, wd_1229, wd_43, ⟨_, rfl, pd_X11_isAsSeen⟩, 11, _, TX11, 16, rfl, rfl⟩)⟩
noncomputable def ct_1615 : CTB2 := [(1, 208, 0, con_900, [0, 1, 2, 3, 4, 5, 6, 7, 8, 9, 10, 11, 12, 13, 14, 15, 16, 17, 18, 19, 20, 21, 22, 23, 24, 25, 26]), (36, 332, 0, con_1212, [28, 2, 29, 4, 30, 5, 31, 6]), (45, 480, 0, con_859, [28, 29]), (73, 372, 0, con_899, [32, 3, 28, 16, 33, 18, 34, 30, 35, 29, 36, 22, 23, 37, 38, 39, 31]), (78, 483, 0, con_1614, [0, 40, 41, 42, 32, 33]), (105, 486, 0, con_1522, [27, 33, 43]), (105, 486, 0, con_1527, [27, 33, 43])]
noncomputable def gi_1257 : GI := jl_n [gp_631, gp_439, gp_633]
noncomputable def cu_1615 : List CUT2 := [((14, [lq 0 6 0, lq 1 0 3, lq 2 1 2, lq 3 1 204], [], gi_1257, hq_888), rq_6, ([(204, (-1))], 5))]
theorem ch_1615 : staG tb_X11_guessAll 1 bt_RX11 [] ct_1615 [] [] cu_1615 48 con_1615 = true := by decide +kernel
theorem cc_1615 : cu_1615.all (cutG tb_X11_guessAll 1 bt_RX11 [] ct_1615 [] [] cu_1615 48 con_1615) = true := by decide +kernel
theorem cto_1615 (l : Launch) : CTOK2 l RX11 vwCl gTbl ct_1615 := ct2_cons (vl_900 l) ck_RX11_208_900 (ct2_cons (vl_1212 l) ck_RX11_332_1212 (ct2_cons (vl_859 l) ck_RX11_480_859 (ct2_cons (vl_899 l) ck_RX11_372_899 (ct2_cons (vl_1614 l) ck_RX11_483_1614 (ct2_cons (vl_1522 l) ck_RX11_486_1522 (ct2_cons (vl_1527 l) ck_RX11_486_1527 (ct2_nil)))))))
theorem vl_1615 (l : Launch) : Vld2 l vwCl gTbl con_1615 := conR_ok3 gT_all (hd_1615) rfl pn_RX11 tk_X11_guessAll bo_RX11 xo_RX11 (cto_1615 l) ch_1615 (cut_all cc_1615)
/-- RookHusting isAsSeen -/
noncomputable def gi_1258 : GI := jl_n [gp_652, jl_z 9]
noncomputable def gi_1259 : GI := jl_n [gp_652, jl_z 10]
noncomputable def con_1616 : Con2 := ((yX11_isAsSeen, cX11_isAsSeen, 4, (some .boolean)), (1, 22), ([(6, 0, 0), (0, 3, 0)], gi_1258, hc_196, []), [((0, 0, 0), gi_1259, hq_885, [], [1]), ((0, 1, 0), gi_1259, hq_885, [], [1])])
theorem hd_1616 : con_1616.1 = (yX11_isAsSeen, cX11_isAsSeen, 4, (some .boolean)) := rfl
noncomputable def ct_1616 : CTB2 := [(21, 473, 0, con_1529, [1, 3]), (21, 473, 0, con_1518, [1, 3]), (21, 473, 0, con_1515, [1, 3]), (21, 473, 0, con_1512, [1, 3]), (36, 473, 0, con_1530, [1, 3]), (36, 473, 0, con_1519, [1, 3]), (36, 473, 0, con_1516, [1, 3]), (36, 473, 0, con_1513, [1, 3]), (60, 473, 0, con_1531, [1, 3]), (60, 473, 0, con_1520, [1, 3]), (60, 473, 0, con_1517, [1, 3]), (60, 473, 0, con_1514, [1, 3])]
noncomputable def gi_1260 : GI := jl_n [gp_652, jl_z 12]
noncomputable def gi_1261 : GI := jl_n [gp_652, gp_628]
noncomputable def cu_1616 : List CUT2 := [((2, [lq 0 6 0, lq 1 0 3, lq 2 0 0], [], gi_1260, hq_885), [], ([], 12)), ((2, [lq 0 6 0, lq 1 0 3, lq 2 0 3, lq 3 1 97], [], gi_1261, hq_885), [], ([], 9)), ((2, [lq 0 6 0, lq 1 0 3, lq 2 0 6, lq 3 1 97], [], gi_1261, hq_885), [], ([], 6)), ((2, [lq 0 6 0, lq 1 0 3, lq 2 0 9, lq 3 1 97], [], gi_1261, hq_885), [], ([], 3)), ((2, [lq 0 6 0, lq 1 0 3, lq 2 0 12, lq 3 1 97], [], gi_1261, hq_885), [], ([], 0))]
theorem ch_1616 : staG tb_X11_isAsSeen 1 bt_RX11 [] ct_1616 [] [] cu_1616 44 con_1616 = true := by decide +kernel
theorem cc_1616 : cu_1616.all (cutG tb_X11_isAsSeen 1 bt_RX11 [] ct_1616 [] [] cu_1616 44 con_1616) = true := by decide +kernel
theorem cto_1616 (l : Launch) : CTOK2 l RX11 vwCl gTbl ct_1616 := ct2_cons (vl_1529 l) ck_RX11_473_1529 (ct2_cons (vl_1518 l) ck_RX11_473_1518 (ct2_cons (vl_1515 l) ck_RX11_473_1515 (ct2_cons (vl_1512 l) ck_RX11_473_1512 (ct2_cons (vl_1530 l) ck_RX11_473_1530 (ct2_cons (vl_1519 l) ck_RX11_473_1519 (ct2_cons (vl_1516 l) ck_RX11_473_1516 (ct2_cons (vl_1513 l) ck_RX11_473_1513 (ct2_cons (vl_1531 l) ck_RX11_473_1531 (ct2_cons (vl_1520 l) ck_RX11_473_1520 (ct2_cons (vl_1517 l) ck_RX11_473_1517 (ct2_cons (vl_1514 l) ck_RX11_473_1514 (ct2_nil))))))))))))
theorem vl_1616 (l : Launch) : Vld2 l vwCl gTbl con_1616 := conR_ok3 gT_all (hd_1616) rfl pn_RX11 tk_X11_isAsSeen bo_RX11 xo_RX11 (cto_1616 l) ch_1616 (cut_all cc_1616)
/-- RookHusting guessAll -/
noncomputable def gi_1262 : GI := jl_n [gp_631, gp_436]
noncomputable def gi_1263 : GI := jl_n [gp_631, gp_436, gp_632]
noncomputable def con_1617 : Con2 := ((yX11_guessAll, cX11_guessAll, 4, none), (6, 151), ([(6, 0, 0), (0, 3, 0), (1, 2, 0)], gi_1262, hc_198, rq_6), [((9, 0, 0), gi_1263, hq_887, [], tg_1)])
theorem hd_1617 : con_1617.1 = (yX11_guessAll, cX11_guessAll, 4, none) := rfl
theorem ck_RX11_483_1616 : COK2 RX11 vwCl gTbl 483 0 con_1616 := ⟨wd_1230, wd_125, mh_X11_isAsSeen, .inr (.inr ⟨rfl, wd_1227, wd_1229, wd_43, ⟨_, rfl, pd_X11_isAsSeen⟩, 11, _, TX11, 16, rfl, rfl⟩)⟩
noncomputable def ct_1617 : CTB2 := [(1, 208, 0, con_900, [0, 1, 2, 3, 4, 5, 6, 7, 8, 9, 10, 11, 12, 13, 14, 15, 16, 17, 18, 19, 20, 21, 22, 23, 24, 25, 26]), (36, 332, 0, con_1212, [28, 2, 29, 4, 30, 5, 31, 6]), (45, 480, 0, con_859, [28, 29]), (73, 372, 0, con_899, [32, 3, 28, 16, 33, 18, 34, 30, 35, 29, 36, 22, 23, 37, 38, 39, 31]), (78, 483, 0, con_1616, [0, 40, 41, 42, 32, 33]), (105, 486, 0, con_1522, [27, 33, 43]), (105, 486, 0, con_1527, [27, 33, 43])]
noncomputable def gi_1264 : GI := jl_n [gp_631, gp_436, gp_633]
noncomputable def cu_1617 : List CUT2 := [((14, [lq 0 6 0, lq 1 0 3, lq 2 1 2, lq 3 1 204], [], gi_1264, hq_888), rq_6, ([(204, (-1))], 5))]
theorem ch_1617 : staG tb_X11_guessAll 1 bt_RX11 [] ct_1617 [] [] cu_1617 48 con_1617 = true := by decide +kernel
theorem cc_1617 : cu_1617.all (cutG tb_X11_guessAll 1 bt_RX11 [] ct_1617 [] [] cu_1617 48 con_1617) = true := by decide +kernel
theorem cto_1617 (l : Launch) : CTOK2 l RX11 vwCl gTbl ct_1617 := ct2_cons (vl_900 l) ck_RX11_208_900 (ct2_cons (vl_1212 l) ck_RX11_332_1212 (ct2_cons (vl_859 l) ck_RX11_480_859 (ct2_cons (vl_899 l) ck_RX11_372_899 (ct2_cons (vl_1616 l) ck_RX11_483_1616 (ct2_cons (vl_1522 l) ck_RX11_486_1522 (ct2_cons (vl_1527 l) ck_RX11_486_1527 (ct2_nil)))))))
theorem vl_1617 (l : Launch) : Vld2 l vwCl gTbl con_1617 := conR_ok3 gT_all (hd_1617) rfl pn_RX11 tk_X11_guessAll bo_RX11 xo_RX11 (cto_1617 l) ch_1617 (cut_all cc_1617)
/-- RookHusting isAsSeen -/
noncomputable def gi_1265 : GI := jl_n [gp_626, gp_431, jl_z 9]
noncomputable def ac_1071 : AC := .inr (1, jl_n [js_1 24 3, jl_x (1, (0, 0, 0))])
noncomputable def hc_199 : List AC := [ac_1053, .inl (8, [(6, 3, 0), (8, 19, 0), (6, 2, 0)]), ac_1071, ac_1055, ac_1056, am_0]
noncomputable def gi_1266 : GI := jl_n [gp_626, gp_431, jl_z 10]
noncomputable def hq_889 : HP := [(false, ac_1053), (false, .inl (8, [(6, 3, 0), (8, 19, 0), (6, 2, 0)])), (false, ac_1071), (false, ac_1055), (false, ac_1056), (false, am_0)]
noncomputable def con_1618 : Con2 := ((yX11_isAsSeen, cX11_isAsSeen, 4, (some .boolean)), (0, 0), ([(6, 0, 0), (0, 3, 0)], gi_1265, hc_199, []), [((0, 1, 0), gi_1266, hq_889, [], [1])])
theorem hd_1618 : con_1618.1 = (yX11_isAsSeen, cX11_isAsSeen, 4, (some .boolean)) := rfl
noncomputable def gi_1267 : GI := jl_n [gp_626, gp_431, jl_z 12]
noncomputable def cu_1618 : List CUT2 := [((2, [lq 0 6 0, lq 1 0 3, lq 2 0 0], [], gi_1267, hq_889), [], ([], 0))]
theorem ch_1618 : staG tb_X11_isAsSeen 1 bt_RX11 [] ct_3 [] [] cu_1618 11 con_1618 = true := by decide +kernel
theorem cc_1618 : cu_1618.all (cutG tb_X11_isAsSeen 1 bt_RX11 [] ct_3 [] [] cu_1618 11 con_1618) = true := by decide +kernel
theorem vl_1618 (l : Launch) : Vld2 l vwCl gTbl con_1618 := conR_ok3 gT_all (hd_1618) rfl pn_RX11 tk_X11_isAsSeen bo_RX11 xo_RX11 (cto_3 l) ch_1618 (cut_all cc_1618)
/-- RookHusting guessAll -/
noncomputable def gi_1268 : GI := jl_n [gp_631, gp_431]
noncomputable def ac_1072 : AC := .inr (1, jl_n [js_1 140 3, jl_x (1, (0, 0, 0))])
noncomputable def hc_200 : List AC := [ac_1057, .inl (9, [(6, 3, 0), (6, 11, 0)]), .inl (7, [(6, 4, 0), (6, 5, 0), (6, 6, 0), (1, 24, 0)]), ac_1058, am_3, am_1, am_1, am_1, .inl (1, [(6, 3, 0), (8, 43, 0)]), am_5, am_7, .inl (0, [(1, 44, 0), (6, 12, 0), (6, 13, 0), (6, 14, 0)]), ac_642, am_12, ac_643, ac_1059, am_4, am_0, am_11, am_0, am_1, am_0, am_4, am_10, am_0, am_0, am_9, ac_1060, .inl (7, [(6, 29, 0), (6, 30, 0), (6, 31, 0), (1, 124, 0)]), am_3, am_1, am_1, ac_1061, am_0, am_0, am_1, am_0, am_0, am_0, am_9, .inl (8, [(6, 42, 0), (8, 135, 0), (6, 41, 0)]), ac_1072, ac_1063, am_16]
noncomputable def gi_1269 : GI := jl_n [gp_631, gp_431, gp_632]
noncomputable def hq_890 : HP := [(true, ac_1064), (false, .inl (9, [(6, 3, 0), (6, 11, 0)])), (true, .inl (7, [(6, 4, 0), (6, 5, 0), (6, 6, 0), (1, 220, 0)])), (false, ac_1058), (true, am_3), (true, am_1), (true, am_1), (false, am_1), (false, .inl (1, [(6, 3, 0), (8, 43, 0)])), (false, am_5), (false, am_7), (false, .inl (0, [(1, 44, 0), (6, 12, 0), (6, 13, 0), (6, 14, 0)])), (false, ac_642), (false, am_12), (false, ac_643), (true, ac_1065), (false, am_4), (true, am_0), (false, am_11), (true, am_0), (true, am_1), (true, am_0), (false, am_4), (false, am_10), (true, am_0), (true, am_0), (true, am_9), (true, ac_1066), (true, .inl (7, [(6, 29, 0), (6, 30, 0), (6, 31, 0), (1, 237, 0)])), (true, am_3), (true, am_1), (true, am_1), (true, ac_1067), (true, am_0), (true, am_0), (true, am_1), (true, am_0), (true, am_0), (true, am_0), (true, am_9), (false, .inl (8, [(6, 42, 0), (8, 135, 0), (6, 41, 0)])), (false, ac_1072), (false, ac_1063), (true, am_16)]
noncomputable def con_1619 : Con2 := ((yX11_guessAll, cX11_guessAll, 4, none), (6, 151), ([(6, 0, 0), (0, 3, 0), (1, 2, 0)], gi_1268, hc_200, rq_6), [((9, 0, 0), gi_1269, hq_890, [], tg_1)])
theorem hd_1619 : con_1619.1 = (yX11_guessAll, cX11_guessAll, 4, none) := rfl
theorem ck_RX11_483_1618 : COK2 RX11 vwCl gTbl 483 0 con_1618 := ⟨wd_1230, wd_125, mh_X11_isAsSeen, .inr (.inr ⟨rfl, wd_1227, wd_1229, wd_43, ⟨_, rfl, pd_X11_isAsSeen⟩, 11, _, TX11, 16, rfl, rfl⟩)⟩
noncomputable def ct_1619 : CTB2 := [(1, 208, 0, con_900, [0, 1, 2, 3, 4, 5, 6, 7, 8, 9, 10, 11, 12, 13, 14, 15, 16, 17, 18, 19, 20, 21, 22, 23, 24, 25, 26]), (36, 332, 0, con_1212, [28, 2, 29, 4, 30, 5, 31, 6]), (45, 480, 0, con_859, [28, 29]), (73, 372, 0, con_899, [32, 3, 28, 16, 33, 18, 34, 30, 35, 29, 36, 22, 23, 37, 38, 39, 31]), (78, 483, 0, con_1618, [0, 40, 41, 42, 32, 33]), (105, 486, 0, con_1522, [27, 33, 43]), (105, 486, 0, con_1527, [27, 33, 43])]
noncomputable def gi_1270 : GI := jl_n [gp_631, gp_431, gp_633]
noncomputable def hq_891 : HP := [(true, ac_1064), (false, .inl (9, [(6, 3, 0), (6, 11, 0)])), (true, .inl (7, [(6, 4, 0), (6, 5, 0), (6, 6, 0), (1, 224, 0)])), (false, ac_1058), (true, am_3), (true, am_1), (true, am_1), (false, am_1), (false, .inl (1, [(6, 3, 0), (8, 43, 0)])), (false, am_5), (false, am_7), (false, .inl (0, [(1, 44, 0), (6, 12, 0), (6, 13, 0), (6, 14, 0)])), (false, ac_642), (false, am_12), (false, ac_643), (true, ac_1068), (false, am_4), (true, am_0), (false, am_11), (true, am_0), (true, am_1), (true, am_0), (false, am_4), (false, am_10), (true, am_0), (true, am_0), (true, am_9), (true, ac_1069), (true, .inl (7, [(6, 29, 0), (6, 30, 0), (6, 31, 0), (1, 241, 0)])), (true, am_3), (true, am_1), (true, am_1), (true, ac_1070), (true, am_0), (true, am_0), (true, am_1), (true, am_0), (true, am_0), (true, am_0), (true, am_9), (false, .inl (8, [(6, 42, 0), (8, 135, 0), (6, 41, 0)])), (false, ac_1072), (false, ac_1063), (true, am_16)]
noncomputable def cu_1619 : List CUT2 := [((14, [lq 0 6 0, lq 1 0 3, lq 2 1 2, lq 3 1 204], [], gi_1270, hq_891), rq_6, ([(204, (-1))], 5))]
theorem ch_1619 : staG tb_X11_guessAll 1 bt_RX11 [] ct_1619 [] [] cu_1619 48 con_1619 = true := by decide +kernel
theorem cc_1619 : cu_1619.all (cutG tb_X11_guessAll 1 bt_RX11 [] ct_1619 [] [] cu_1619 48 con_1619) = true := by decide +kernel
theorem cto_1619 (l : Launch) : CTOK2 l RX11 vwCl gTbl ct_1619 := ct2_cons (vl_900 l) ck_RX11_208_900 (ct2_cons (vl_1212 l) ck_RX11_332_1212 (ct2_cons (vl_859 l) ck_RX11_480_859 (ct2_cons (vl_899 l) ck_RX11_372_899 (ct2_cons (vl_1618 l) ck_RX11_483_1618 (ct2_cons (vl_1522 l) ck_RX11_486_1522 (ct2_cons (vl_1527 l) ck_RX11_486_1527 (ct2_nil)))))))
theorem vl_1619 (l : Launch) : Vld2 l vwCl gTbl con_1619 := conR_ok3 gT_all (hd_1619) rfl pn_RX11 tk_X11_guessAll bo_RX11 xo_RX11 (cto_1619 l) ch_1619 (cut_all cc_1619)
/-- RookHusting$Slots at -/
noncomputable def con_1620 : Con2 := ((yX8_at, cX8_at, 3, (some .long)), (0, 0), ([(6, 0, 0), (0, 2, 0), (0, 0, 0)], [(0, 0), (0, 0), (0, 0), (0, 0), (0, 0), (0, 0), (0, 4)], [.inl (8, [(6, 1, 0), (8, 4, 0), (8, 5, 0)]), ac_870], []), [((4, 6, 0), gi_1117, hq_702, [], [1])])
theorem hd_1620 : con_1620.1 = (yX8_at, cX8_at, 3, (some .long)) := rfl
noncomputable def cu_1620 : List CUT2 := []
theorem ch_1620 : staG tb_X8_at 1 bt_RX8 [] ct_1253 [] [] cu_1620 11 con_1620 = true := by decide +kernel
theorem vl_1620 (l : Launch) : Vld2 l vwCl gTbl con_1620 := conR_ok3 gT_all (hd_1620) rfl pn_RX8 tk_X8_at bo_RX8 xo_RX8 (cto_1253 l) ch_1620 cut_nil
/-- RookHusting$Slots at -/
noncomputable def con_1621 : Con2 := ((yX8_at, cX8_at, 3, (some .long)), (0, 0), ([(6, 0, 0), (0, 2, 0), (0, 1, 0)], [(0, 0), (0, 0), (0, 0), (0, 0), (0, 0), (0, 0), (0, 16)], [.inl (8, [(6, 1, 0), (8, 4, 0), (8, 5, 0)]), ac_871], []), [((4, 6, 0), gi_1118, hq_703, [], [1])])
theorem hd_1621 : con_1621.1 = (yX8_at, cX8_at, 3, (some .long)) := rfl
noncomputable def cu_1621 : List CUT2 := []
theorem ch_1621 : staG tb_X8_at 1 bt_RX8 [] ct_1253 [] [] cu_1621 11 con_1621 = true := by decide +kernel
theorem vl_1621 (l : Launch) : Vld2 l vwCl gTbl con_1621 := conR_ok3 gT_all (hd_1621) rfl pn_RX8 tk_X8_at bo_RX8 xo_RX8 (cto_1253 l) ch_1621 cut_nil
/-- RookHusting$Slots at -/
noncomputable def con_1622 : Con2 := ((yX8_at, cX8_at, 3, (some .long)), (0, 0), ([(6, 0, 0), (0, 2, 0), (0, 2, 0)], [(0, 0), (0, 0), (0, 0), (0, 0), (0, 0), (0, 0), (0, 250)], [.inl (8, [(6, 1, 0), (8, 4, 0), (8, 5, 0)]), ac_872], []), [((4, 6, 0), gi_1119, hq_704, [], [1])])
theorem hd_1622 : con_1622.1 = (yX8_at, cX8_at, 3, (some .long)) := rfl
noncomputable def cu_1622 : List CUT2 := []
theorem ch_1622 : staG tb_X8_at 1 bt_RX8 [] ct_1253 [] [] cu_1622 11 con_1622 = true := by decide +kernel
theorem vl_1622 (l : Launch) : Vld2 l vwCl gTbl con_1622 := conR_ok3 gT_all (hd_1622) rfl pn_RX8 tk_X8_at bo_RX8 xo_RX8 (cto_1253 l) ch_1622 cut_nil
/-- RookHusting$Slots at -/
noncomputable def con_1623 : Con2 := ((yX8_at, cX8_at, 3, (some .long)), (0, 0), ([(6, 0, 0), (0, 2, 0), (0, 3, 0)], [(0, 0), (0, 0), (0, 0), (0, 0), (0, 0), (0, 0), (0, 4)], [.inl (8, [(6, 1, 0), (8, 4, 0), (8, 5, 0)]), ac_873], []), [((4, 6, 0), gi_1117, hq_705, [], [1])])
theorem hd_1623 : con_1623.1 = (yX8_at, cX8_at, 3, (some .long)) := rfl
noncomputable def cu_1623 : List CUT2 := []
theorem ch_1623 : staG tb_X8_at 1 bt_RX8 [] ct_1253 [] [] cu_1623 11 con_1623 = true := by decide +kernel
theorem vl_1623 (l : Launch) : Vld2 l vwCl gTbl con_1623 := conR_ok3 gT_all (hd_1623) rfl pn_RX8 tk_X8_at bo_RX8 xo_RX8 (cto_1253 l) ch_1623 cut_nil
/-- RookHusting$Slots at -/
noncomputable def con_1624 : Con2 := ((yX8_at, cX8_at, 3, (some .long)), (0, 0), ([(6, 0, 0), (0, 2, 0), (0, 4, 0)], [(0, 0), (0, 0), (0, 0), (0, 0), (0, 0), (0, 0), (0, 16)], [.inl (8, [(6, 1, 0), (8, 4, 0), (8, 5, 0)]), ac_874], []), [((4, 6, 0), gi_1118, hq_706, [], [1])])
theorem hd_1624 : con_1624.1 = (yX8_at, cX8_at, 3, (some .long)) := rfl
noncomputable def cu_1624 : List CUT2 := []
theorem ch_1624 : staG tb_X8_at 1 bt_RX8 [] ct_1253 [] [] cu_1624 11 con_1624 = true := by decide +kernel
theorem vl_1624 (l : Launch) : Vld2 l vwCl gTbl con_1624 := conR_ok3 gT_all (hd_1624) rfl pn_RX8 tk_X8_at bo_RX8 xo_RX8 (cto_1253 l) ch_1624 cut_nil
/-- RookHusting$Slots at -/
noncomputable def con_1625 : Con2 := ((yX8_at, cX8_at, 3, (some .long)), (0, 0), ([(6, 0, 0), (0, 2, 0), (0, 5, 0)], [(0, 0), (0, 0), (0, 0), (0, 0), (0, 0), (0, 0), (0, 250)], [.inl (8, [(6, 1, 0), (8, 4, 0), (8, 5, 0)]), ac_875], []), [((4, 6, 0), gi_1119, hq_707, [], [1])])
theorem hd_1625 : con_1625.1 = (yX8_at, cX8_at, 3, (some .long)) := rfl
noncomputable def cu_1625 : List CUT2 := []
theorem ch_1625 : staG tb_X8_at 1 bt_RX8 [] ct_1253 [] [] cu_1625 11 con_1625 = true := by decide +kernel
theorem vl_1625 (l : Launch) : Vld2 l vwCl gTbl con_1625 := conR_ok3 gT_all (hd_1625) rfl pn_RX8 tk_X8_at bo_RX8 xo_RX8 (cto_1253 l) ch_1625 cut_nil
/-- RookHusting$Slots at -/
noncomputable def con_1626 : Con2 := ((yX8_at, cX8_at, 3, (some .long)), (0, 0), ([(6, 0, 0), (0, 2, 0), (0, 6, 0)], [(0, 0), (0, 0), (0, 0), (0, 0), (0, 0), (0, 0), (0, 4)], [.inl (8, [(6, 1, 0), (8, 4, 0), (8, 5, 0)]), ac_876], []), [((4, 6, 0), gi_1117, hq_708, [], [1])])
theorem hd_1626 : con_1626.1 = (yX8_at, cX8_at, 3, (some .long)) := rfl
noncomputable def cu_1626 : List CUT2 := []
theorem ch_1626 : staG tb_X8_at 1 bt_RX8 [] ct_1253 [] [] cu_1626 11 con_1626 = true := by decide +kernel
theorem vl_1626 (l : Launch) : Vld2 l vwCl gTbl con_1626 := conR_ok3 gT_all (hd_1626) rfl pn_RX8 tk_X8_at bo_RX8 xo_RX8 (cto_1253 l) ch_1626 cut_nil
/-- RookHusting$Slots at -/
noncomputable def con_1627 : Con2 := ((yX8_at, cX8_at, 3, (some .long)), (0, 0), ([(6, 0, 0), (0, 2, 0), (0, 7, 0)], [(0, 0), (0, 0), (0, 0), (0, 0), (0, 0), (0, 0), (0, 16)], [.inl (8, [(6, 1, 0), (8, 4, 0), (8, 5, 0)]), ac_877], []), [((4, 6, 0), gi_1118, hq_709, [], [1])])
theorem hd_1627 : con_1627.1 = (yX8_at, cX8_at, 3, (some .long)) := rfl
noncomputable def cu_1627 : List CUT2 := []
theorem ch_1627 : staG tb_X8_at 1 bt_RX8 [] ct_1253 [] [] cu_1627 11 con_1627 = true := by decide +kernel
theorem vl_1627 (l : Launch) : Vld2 l vwCl gTbl con_1627 := conR_ok3 gT_all (hd_1627) rfl pn_RX8 tk_X8_at bo_RX8 xo_RX8 (cto_1253 l) ch_1627 cut_nil
/-- RookHusting$Slots at -/
noncomputable def con_1628 : Con2 := ((yX8_at, cX8_at, 3, (some .long)), (0, 0), ([(6, 0, 0), (0, 2, 0), (0, 8, 0)], [(0, 0), (0, 0), (0, 0), (0, 0), (0, 0), (0, 0), (0, 250)], [.inl (8, [(6, 1, 0), (8, 4, 0), (8, 5, 0)]), ac_878], []), [((4, 6, 0), gi_1119, hq_710, [], [1])])
theorem hd_1628 : con_1628.1 = (yX8_at, cX8_at, 3, (some .long)) := rfl
noncomputable def cu_1628 : List CUT2 := []
theorem ch_1628 : staG tb_X8_at 1 bt_RX8 [] ct_1253 [] [] cu_1628 11 con_1628 = true := by decide +kernel
theorem vl_1628 (l : Launch) : Vld2 l vwCl gTbl con_1628 := conR_ok3 gT_all (hd_1628) rfl pn_RX8 tk_X8_at bo_RX8 xo_RX8 (cto_1253 l) ch_1628 cut_nil
/-- RookHusting isAsSeen -/
noncomputable def gi_1271 : GI := jl_n [gp_654, jl_z 9]
noncomputable def ac_1073 : AC := .inr (2, jl_n [js_5 120 9223372036854775807 9223372036854775807, js_4 85 60, js_5 60 9223372036854775807 9223372036854775807])
noncomputable def hc_201 : List AC := [ac_1053, .inl (8, [(6, 3, 0), (8, 19, 0), (6, 2, 0)]), ac_1054, ac_1073, ac_1056, am_0]
noncomputable def gi_1272 : GI := jl_n [gp_654, jl_z 10]
noncomputable def hq_892 : HP := [(false, ac_1053), (false, .inl (8, [(6, 3, 0), (8, 19, 0), (6, 2, 0)])), (false, ac_1054), (false, ac_1073), (false, ac_1056), (false, am_0)]
noncomputable def con_1629 : Con2 := ((yX11_isAsSeen, cX11_isAsSeen, 4, (some .boolean)), (1, 22), ([(6, 0, 0), (0, 2, 0)], gi_1271, hc_201, []), [((0, 0, 0), gi_1272, hq_892, [], [1]), ((0, 1, 0), gi_1272, hq_892, [], [1])])
theorem hd_1629 : con_1629.1 = (yX11_isAsSeen, cX11_isAsSeen, 4, (some .boolean)) := rfl
theorem ck_RX11_473_1622 : COK2 RX11 vwCl gTbl 473 0 con_1622 := ⟨wd_1218, wd_131, mh_X8_at, .inr (.inr ⟨rfl, wd_1215, wd_1216, wd_1217, ⟨_, rfl, pd_X8_at⟩, 8, _, TX8, 3, rfl, rfl⟩)⟩
theorem ck_RX11_473_1625 : COK2 RX11 vwCl gTbl 473 0 con_1625 := ⟨wd_1218, wd_131, mh_X8_at, .inr (.inr ⟨rfl, wd_1215, wd_1216, wd_1217, ⟨_, rfl, pd_X8_at⟩, 8, _, TX8, 3, rfl, rfl⟩)⟩
theorem ck_RX11_473_1628 : COK2 RX11 vwCl gTbl 473 0 con_1628 := ⟨wd_1218, wd_131, mh_X8_at, .inr (.inr ⟨rfl, wd_1215, wd_1216, wd_1217, ⟨_, rfl, pd_X8_at⟩, 8, _, TX8, 3, rfl, rfl⟩)⟩
theorem ck_RX11_473_1621 : COK2 RX11 vwCl gTbl 473 0 con_1621 := ⟨wd_1218, wd_131, mh_X8_at, .inr (.inr ⟨rfl, wd_1215, wd_1216, wd_1217, ⟨_, rfl, pd_X8_at⟩, 8, _, TX8, 3, rfl, rfl⟩)⟩
theorem ck_RX11_473_1624 : COK2 RX11 vwCl gTbl 473 0 con_1624 := ⟨wd_1218, wd_131, mh_X8_at, .inr (.inr ⟨rfl, wd_1215, wd_1216, wd_1217, ⟨_, rfl, pd_X8_at⟩, 8, _, TX8, 3, rfl, rfl⟩)⟩
theorem ck_RX11_473_1627 : COK2 RX11 vwCl gTbl 473 0 con_1627 := ⟨wd_1218, wd_131, mh_X8_at, .inr (.inr ⟨rfl, wd_1215, wd_1216, wd_1217, ⟨_, rfl, pd_X8_at⟩, 8, _, TX8, 3, rfl, rfl⟩)⟩
theorem ck_RX11_473_1620 : COK2 RX11 vwCl gTbl 473 0 con_1620 := ⟨wd_1218, wd_131, mh_X8_at, .inr (.inr ⟨rfl, wd_1215, wd_1216, wd_1217, ⟨_, rfl, pd_X8_at⟩, 8, _, TX8, 3, rfl, rfl⟩)⟩
theorem ck_RX11_473_1623 : COK2 RX11 vwCl gTbl 473 0 con_1623 := ⟨wd_1218, wd_131, mh_X8_at, .inr (.inr ⟨rfl, wd_1215, wd_1216, wd_1217, ⟨_, rfl, pd_X8_at⟩, 8, _, TX8, 3, rfl, rfl⟩)⟩
theorem ck_RX11_473_1626 : COK2 RX11 vwCl gTbl 473 0 con_1626 := ⟨wd_1218, wd_131, mh_X8_at, .inr (.inr ⟨rfl, wd_1215, wd_1216, wd_1217, ⟨_, rfl, pd_X8_at⟩, 8, _, TX8, 3, rfl, rfl⟩)⟩
noncomputable def ct_1629 : CTB2 := [(21, 473, 0, con_1626, [1, 3]), (21, 473, 0, con_1623, [1, 3]), (21, 473, 0, con_1620, [1, 3]), (36, 473, 0, con_1627, [1, 3]), (36, 473, 0, con_1624, [1, 3]), (36, 473, 0, con_1621, [1, 3]), (60, 473, 0, con_1628, [1, 3]), (60, 473, 0, con_1625, [1, 3]), (60, 473, 0, con_1622, [1, 3])]
noncomputable def gi_1273 : GI := jl_n [gp_654, jl_z 12]
noncomputable def gi_1274 : GI := jl_n [gp_654, gp_628]
noncomputable def cu_1629 : List CUT2 := [((2, [lq 0 6 0, lq 1 0 2, lq 2 0 0], [], gi_1273, hq_892), [], ([], 9)), ((2, [lq 0 6 0, lq 1 0 2, lq 2 0 3, lq 3 1 97], [], gi_1274, hq_892), [], ([], 6)), ((2, [lq 0 6 0, lq 1 0 2, lq 2 0 6, lq 3 1 97], [], gi_1274, hq_892), [], ([], 3)), ((2, [lq 0 6 0, lq 1 0 2, lq 2 0 9, lq 3 1 97], [], gi_1274, hq_892), [], ([], 0))]
theorem ch_1629 : staG tb_X11_isAsSeen 1 bt_RX11 [] ct_1629 [] [] cu_1629 44 con_1629 = true := by decide +kernel
theorem cc_1629 : cu_1629.all (cutG tb_X11_isAsSeen 1 bt_RX11 [] ct_1629 [] [] cu_1629 44 con_1629) = true := by decide +kernel
theorem cto_1629 (l : Launch) : CTOK2 l RX11 vwCl gTbl ct_1629 := ct2_cons (vl_1626 l) ck_RX11_473_1626 (ct2_cons (vl_1623 l) ck_RX11_473_1623 (ct2_cons (vl_1620 l) ck_RX11_473_1620 (ct2_cons (vl_1627 l) ck_RX11_473_1627 (ct2_cons (vl_1624 l) ck_RX11_473_1624 (ct2_cons (vl_1621 l) ck_RX11_473_1621 (ct2_cons (vl_1628 l) ck_RX11_473_1628 (ct2_cons (vl_1625 l) ck_RX11_473_1625 (ct2_cons (vl_1622 l) ck_RX11_473_1622 (ct2_nil)))))))))
theorem vl_1629 (l : Launch) : Vld2 l vwCl gTbl con_1629 := conR_ok3 gT_all (hd_1629) rfl pn_RX11 tk_X11_isAsSeen bo_RX11 xo_RX11 (cto_1629 l) ch_1629 (cut_all cc_1629)
/-- RookHusting guessAll -/
noncomputable def gi_1275 : GI := jl_n [gp_655, gp_536]
noncomputable def ac_1074 : AC := .inr (2, jl_n [js_5 120 9223372036854775807 9223372036854775807, js_4 201 60, js_5 60 9223372036854775807 9223372036854775807])
noncomputable def hc_202 : List AC := [ac_1057, .inl (9, [(6, 3, 0), (6, 11, 0)]), .inl (7, [(6, 4, 0), (6, 5, 0), (6, 6, 0), (1, 24, 0)]), ac_1058, am_3, am_1, am_1, am_1, .inl (1, [(6, 3, 0), (8, 43, 0)]), am_5, am_7, .inl (0, [(1, 44, 0), (6, 12, 0), (6, 13, 0), (6, 14, 0)]), ac_642, am_12, ac_643, ac_1059, am_4, am_0, am_11, am_0, am_1, am_0, am_4, am_10, am_0, am_0, am_9, ac_1060, .inl (7, [(6, 29, 0), (6, 30, 0), (6, 31, 0), (1, 124, 0)]), am_3, am_1, am_1, ac_1061, am_0, am_0, am_1, am_0, am_0, am_0, am_9, .inl (8, [(6, 42, 0), (8, 135, 0), (6, 41, 0)]), ac_1062, ac_1074, am_16]
noncomputable def gi_1276 : GI := jl_n [gp_655, gp_536, gp_632]
noncomputable def hq_893 : HP := [(true, ac_1064), (false, .inl (9, [(6, 3, 0), (6, 11, 0)])), (true, .inl (7, [(6, 4, 0), (6, 5, 0), (6, 6, 0), (1, 220, 0)])), (false, ac_1058), (true, am_3), (true, am_1), (true, am_1), (false, am_1), (false, .inl (1, [(6, 3, 0), (8, 43, 0)])), (false, am_5), (false, am_7), (false, .inl (0, [(1, 44, 0), (6, 12, 0), (6, 13, 0), (6, 14, 0)])), (false, ac_642), (false, am_12), (false, ac_643), (true, ac_1065), (false, am_4), (true, am_0), (false, am_11), (true, am_0), (true, am_1), (true, am_0), (false, am_4), (false, am_10), (true, am_0), (true, am_0), (true, am_9), (true, ac_1066), (true, .inl (7, [(6, 29, 0), (6, 30, 0), (6, 31, 0), (1, 237, 0)])), (true, am_3), (true, am_1), (true, am_1), (true, ac_1067), (true, am_0), (true, am_0), (true, am_1), (true, am_0), (true, am_0), (true, am_0), (true, am_9), (false, .inl (8, [(6, 42, 0), (8, 135, 0), (6, 41, 0)])), (false, ac_1062), (false, ac_1074), (true, am_16)]
noncomputable def con_1630 : Con2 := ((yX11_guessAll, cX11_guessAll, 4, none), (6, 151), ([(6, 0, 0), (0, 2, 0), (1, 2, 0)], gi_1275, hc_202, rq_6), [((9, 0, 0), gi_1276, hq_893, [], tg_1)])
theorem hd_1630 : con_1630.1 = (yX11_guessAll, cX11_guessAll, 4, none) := rfl
theorem ck_RX11_483_1629 : COK2 RX11 vwCl gTbl 483 0 con_1629 := ⟨wd_1230, wd_125, mh_X11_isAsSeen, .inr (.inr ⟨rfl, wd_1227, wd_1229, wd_43, ⟨_, rfl, pd_X11_isAsSeen⟩, 11, _, TX11, 16, rfl, rfl⟩)⟩
noncomputable def ct_1630 : CTB2 := [(1, 208, 0, con_900, [0, 1, 2, 3, 4, 5, 6, 7, 8, 9, 10, 11, 12, 13, 14, 15, 16, 17, 18, 19, 20, 21, 22, 23, 24, 25, 26]), (36, 332, 0, con_1212, [28, 2, 29, 4, 30, 5, 31, 6]), (45, 480, 0, con_859, [28, 29]), (73, 372, 0, con_899, [32, 3, 28, 16, 33, 18, 34, 30, 35, 29, 36, 22, 23, 37, 38, 39, 31]), (78, 483, 0, con_1629, [0, 40, 41, 42, 32, 33]), (105, 486, 0, con_1522, [27, 33, 43]), (105, 486, 0, con_1527, [27, 33, 43])]
noncomputable def gi_1277 : GI := jl_n [gp_655, gp_536, gp_633]
noncomputable def hq_894 : HP := [(true, ac_1064), (false, .inl (9, [(6, 3, 0), (6, 11, 0)])), (true, .inl (7, [(6, 4, 0), (6, 5, 0), (6, 6, 0), (1, 224, 0)])), (false, ac_1058), (true, am_3), (true, am_1), (true, am_1), (false, am_1), (false, .inl (1, [(6, 3, 0), (8, 43, 0)])), (false, am_5), (false, am_7), (false, .inl (0, [(1, 44, 0), (6, 12, 0), (6, 13, 0), (6, 14, 0)])), (false, ac_642), (false, am_12), (false, ac_643), (true, ac_1068), (false, am_4), (true, am_0), (false, am_11), (true, am_0), (true, am_1), (true, am_0), (false, am_4), (false, am_10), (true, am_0), (true, am_0), (true, am_9), (true, ac_1069), (true, .inl (7, [(6, 29, 0), (6, 30, 0), (6, 31, 0), (1, 241, 0)])), (true, am_3), (true, am_1), (true, am_1), (true, ac_1070), (true, am_0), (true, am_0), (true, am_1), (true, am_0), (true, am_0), (true, am_0), (true, am_9), (false, .inl (8, [(6, 42, 0), (8, 135, 0), (6, 41, 0)])), (false, ac_1062), (false, ac_1074), (true, am_16)]
noncomputable def cu_1630 : List CUT2 := [((14, [lq 0 6 0, lq 1 0 2, lq 2 1 2, lq 3 1 204], [], gi_1277, hq_894), rq_6, ([(204, (-1))], 5))]
theorem ch_1630 : staG tb_X11_guessAll 1 bt_RX11 [] ct_1630 [] [] cu_1630 48 con_1630 = true := by decide +kernel
theorem cc_1630 : cu_1630.all (cutG tb_X11_guessAll 1 bt_RX11 [] ct_1630 [] [] cu_1630 48 con_1630) = true := by decide +kernel
theorem cto_1630 (l : Launch) : CTOK2 l RX11 vwCl gTbl ct_1630 := ct2_cons (vl_900 l) ck_RX11_208_900 (ct2_cons (vl_1212 l) ck_RX11_332_1212 (ct2_cons (vl_859 l) ck_RX11_480_859 (ct2_cons (vl_899 l) ck_RX11_372_899 (ct2_cons (vl_1629 l) ck_RX11_483_1629 (ct2_cons (vl_1522 l) ck_RX11_486_1522 (ct2_cons (vl_1527 l) ck_RX11_486_1527 (ct2_nil)))))))
theorem vl_1630 (l : Launch) : Vld2 l vwCl gTbl con_1630 := conR_ok3 gT_all (hd_1630) rfl pn_RX11 tk_X11_guessAll bo_RX11 xo_RX11 (cto_1630 l) ch_1630 (cut_all cc_1630)
/-- RookHusting$Slots at -/
noncomputable def con_1631 : Con2 := ((yX8_at, cX8_at, 3, (some .long)), (0, 0), ([(6, 0, 0), (0, 2, 0), (0, 9, 0)], [(0, 0), (0, 0), (0, 0), (0, 0), (0, 0), (0, 0), (0, 4)], [.inl (8, [(6, 1, 0), (8, 4, 0), (8, 5, 0)]), ac_879], []), [((4, 6, 0), gi_1117, hq_711, [], [1])])
theorem hd_1631 : con_1631.1 = (yX8_at, cX8_at, 3, (some .long)) := rfl
noncomputable def cu_1631 : List CUT2 := []
theorem ch_1631 : staG tb_X8_at 1 bt_RX8 [] ct_1253 [] [] cu_1631 11 con_1631 = true := by decide +kernel
theorem vl_1631 (l : Launch) : Vld2 l vwCl gTbl con_1631 := conR_ok3 gT_all (hd_1631) rfl pn_RX8 tk_X8_at bo_RX8 xo_RX8 (cto_1253 l) ch_1631 cut_nil
/-- RookHusting$Slots at -/
noncomputable def con_1632 : Con2 := ((yX8_at, cX8_at, 3, (some .long)), (0, 0), ([(6, 0, 0), (0, 2, 0), (0, 10, 0)], [(0, 0), (0, 0), (0, 0), (0, 0), (0, 0), (0, 0), (0, 16)], [.inl (8, [(6, 1, 0), (8, 4, 0), (8, 5, 0)]), ac_880], []), [((4, 6, 0), gi_1118, hq_712, [], [1])])
theorem hd_1632 : con_1632.1 = (yX8_at, cX8_at, 3, (some .long)) := rfl
noncomputable def cu_1632 : List CUT2 := []
theorem ch_1632 : staG tb_X8_at 1 bt_RX8 [] ct_1253 [] [] cu_1632 11 con_1632 = true := by decide +kernel
theorem vl_1632 (l : Launch) : Vld2 l vwCl gTbl con_1632 := conR_ok3 gT_all (hd_1632) rfl pn_RX8 tk_X8_at bo_RX8 xo_RX8 (cto_1253 l) ch_1632 cut_nil
/-- RookHusting$Slots at -/
noncomputable def con_1633 : Con2 := ((yX8_at, cX8_at, 3, (some .long)), (0, 0), ([(6, 0, 0), (0, 2, 0), (0, 11, 0)], [(0, 0), (0, 0), (0, 0), (0, 0), (0, 0), (0, 0), (0, 250)], [.inl (8, [(6, 1, 0), (8, 4, 0), (8, 5, 0)]), ac_881], []), [((4, 6, 0), gi_1119, hq_713, [], [1])])
theorem hd_1633 : con_1633.1 = (yX8_at, cX8_at, 3, (some .long)) := rfl
noncomputable def cu_1633 : List CUT2 := []
theorem ch_1633 : staG tb_X8_at 1 bt_RX8 [] ct_1253 [] [] cu_1633 11 con_1633 = true := by decide +kernel
theorem vl_1633 (l : Launch) : Vld2 l vwCl gTbl con_1633 := conR_ok3 gT_all (hd_1633) rfl pn_RX8 tk_X8_at bo_RX8 xo_RX8 (cto_1253 l) ch_1633 cut_nil
/-- RookHusting$Slots at -/
noncomputable def con_1634 : Con2 := ((yX8_at, cX8_at, 3, (some .long)), (0, 0), ([(6, 0, 0), (0, 2, 0), (0, 12, 0)], [(0, 0), (0, 0), (0, 0), (0, 0), (0, 0), (0, 0), (0, 4)], [.inl (8, [(6, 1, 0), (8, 4, 0), (8, 5, 0)]), ac_882], []), [((4, 6, 0), gi_1117, hq_714, [], [1])])
theorem hd_1634 : con_1634.1 = (yX8_at, cX8_at, 3, (some .long)) := rfl
noncomputable def cu_1634 : List CUT2 := []
theorem ch_1634 : staG tb_X8_at 1 bt_RX8 [] ct_1253 [] [] cu_1634 11 con_1634 = true := by decide +kernel
theorem vl_1634 (l : Launch) : Vld2 l vwCl gTbl con_1634 := conR_ok3 gT_all (hd_1634) rfl pn_RX8 tk_X8_at bo_RX8 xo_RX8 (cto_1253 l) ch_1634 cut_nil
/-- RookHusting$Slots at -/
noncomputable def con_1635 : Con2 := ((yX8_at, cX8_at, 3, (some .long)), (0, 0), ([(6, 0, 0), (0, 2, 0), (0, 13, 0)], [(0, 0), (0, 0), (0, 0), (0, 0), (0, 0), (0, 0), (0, 16)], [.inl (8, [(6, 1, 0), (8, 4, 0), (8, 5, 0)]), ac_883], []), [((4, 6, 0), gi_1118, hq_715, [], [1])])
theorem hd_1635 : con_1635.1 = (yX8_at, cX8_at, 3, (some .long)) := rfl
noncomputable def cu_1635 : List CUT2 := []
theorem ch_1635 : staG tb_X8_at 1 bt_RX8 [] ct_1253 [] [] cu_1635 11 con_1635 = true := by decide +kernel
theorem vl_1635 (l : Launch) : Vld2 l vwCl gTbl con_1635 := conR_ok3 gT_all (hd_1635) rfl pn_RX8 tk_X8_at bo_RX8 xo_RX8 (cto_1253 l) ch_1635 cut_nil
/-- RookHusting$Slots at -/
noncomputable def con_1636 : Con2 := ((yX8_at, cX8_at, 3, (some .long)), (0, 0), ([(6, 0, 0), (0, 2, 0), (0, 14, 0)], [(0, 0), (0, 0), (0, 0), (0, 0), (0, 0), (0, 0), (0, 250)], [.inl (8, [(6, 1, 0), (8, 4, 0), (8, 5, 0)]), ac_884], []), [((4, 6, 0), gi_1119, hq_716, [], [1])])
theorem hd_1636 : con_1636.1 = (yX8_at, cX8_at, 3, (some .long)) := rfl
noncomputable def cu_1636 : List CUT2 := []
theorem ch_1636 : staG tb_X8_at 1 bt_RX8 [] ct_1253 [] [] cu_1636 11 con_1636 = true := by decide +kernel
theorem vl_1636 (l : Launch) : Vld2 l vwCl gTbl con_1636 := conR_ok3 gT_all (hd_1636) rfl pn_RX8 tk_X8_at bo_RX8 xo_RX8 (cto_1253 l) ch_1636 cut_nil
/-- RookHusting$Slots at -/
noncomputable def con_1637 : Con2 := ((yX8_at, cX8_at, 3, (some .long)), (0, 0), ([(6, 0, 0), (0, 2, 0), (0, 15, 0)], [(0, 0), (0, 0), (0, 0), (0, 0), (0, 0), (0, 0), (0, 4)], [.inl (8, [(6, 1, 0), (8, 4, 0), (8, 5, 0)]), ac_885], []), [((4, 6, 0), gi_1117, hq_717, [], [1])])
theorem hd_1637 : con_1637.1 = (yX8_at, cX8_at, 3, (some .long)) := rfl
noncomputable def cu_1637 : List CUT2 := []
theorem ch_1637 : staG tb_X8_at 1 bt_RX8 [] ct_1253 [] [] cu_1637 11 con_1637 = true := by decide +kernel
theorem vl_1637 (l : Launch) : Vld2 l vwCl gTbl con_1637 := conR_ok3 gT_all (hd_1637) rfl pn_RX8 tk_X8_at bo_RX8 xo_RX8 (cto_1253 l) ch_1637 cut_nil
/-- RookHusting$Slots at -/
noncomputable def con_1638 : Con2 := ((yX8_at, cX8_at, 3, (some .long)), (0, 0), ([(6, 0, 0), (0, 2, 0), (0, 16, 0)], [(0, 0), (0, 0), (0, 0), (0, 0), (0, 0), (0, 0), (0, 16)], [.inl (8, [(6, 1, 0), (8, 4, 0), (8, 5, 0)]), ac_886], []), [((4, 6, 0), gi_1118, hq_718, [], [1])])
theorem hd_1638 : con_1638.1 = (yX8_at, cX8_at, 3, (some .long)) := rfl
noncomputable def cu_1638 : List CUT2 := []
theorem ch_1638 : staG tb_X8_at 1 bt_RX8 [] ct_1253 [] [] cu_1638 11 con_1638 = true := by decide +kernel
theorem vl_1638 (l : Launch) : Vld2 l vwCl gTbl con_1638 := conR_ok3 gT_all (hd_1638) rfl pn_RX8 tk_X8_at bo_RX8 xo_RX8 (cto_1253 l) ch_1638 cut_nil
/-- RookHusting$Slots at -/
noncomputable def con_1639 : Con2 := ((yX8_at, cX8_at, 3, (some .long)), (0, 0), ([(6, 0, 0), (0, 2, 0), (0, 17, 0)], [(0, 0), (0, 0), (0, 0), (0, 0), (0, 0), (0, 0), (0, 250)], [.inl (8, [(6, 1, 0), (8, 4, 0), (8, 5, 0)]), ac_887], []), [((4, 6, 0), gi_1119, hq_719, [], [1])])
theorem hd_1639 : con_1639.1 = (yX8_at, cX8_at, 3, (some .long)) := rfl
noncomputable def cu_1639 : List CUT2 := []
theorem ch_1639 : staG tb_X8_at 1 bt_RX8 [] ct_1253 [] [] cu_1639 11 con_1639 = true := by decide +kernel
theorem vl_1639 (l : Launch) : Vld2 l vwCl gTbl con_1639 := conR_ok3 gT_all (hd_1639) rfl pn_RX8 tk_X8_at bo_RX8 xo_RX8 (cto_1253 l) ch_1639 cut_nil
/-- RookHusting$Slots at -/
noncomputable def con_1640 : Con2 := ((yX8_at, cX8_at, 3, (some .long)), (0, 0), ([(6, 0, 0), (0, 2, 0), (0, 18, 0)], [(0, 0), (0, 0), (0, 0), (0, 0), (0, 0), (0, 0), (0, 4)], [.inl (8, [(6, 1, 0), (8, 4, 0), (8, 5, 0)]), ac_888], []), [((4, 6, 0), gi_1117, hq_720, [], [1])])
theorem hd_1640 : con_1640.1 = (yX8_at, cX8_at, 3, (some .long)) := rfl
noncomputable def cu_1640 : List CUT2 := []
theorem ch_1640 : staG tb_X8_at 1 bt_RX8 [] ct_1253 [] [] cu_1640 11 con_1640 = true := by decide +kernel
theorem vl_1640 (l : Launch) : Vld2 l vwCl gTbl con_1640 := conR_ok3 gT_all (hd_1640) rfl pn_RX8 tk_X8_at bo_RX8 xo_RX8 (cto_1253 l) ch_1640 cut_nil
/-- RookHusting$Slots at -/
noncomputable def con_1641 : Con2 := ((yX8_at, cX8_at, 3, (some .long)), (0, 0), ([(6, 0, 0), (0, 2, 0), (0, 19, 0)], [(0, 0), (0, 0), (0, 0), (0, 0), (0, 0), (0, 0), (0, 16)], [.inl (8, [(6, 1, 0), (8, 4, 0), (8, 5, 0)]), ac_889], []), [((4, 6, 0), gi_1118, hq_721, [], [1])])
theorem hd_1641 : con_1641.1 = (yX8_at, cX8_at, 3, (some .long)) := rfl
noncomputable def cu_1641 : List CUT2 := []
theorem ch_1641 : staG tb_X8_at 1 bt_RX8 [] ct_1253 [] [] cu_1641 11 con_1641 = true := by decide +kernel
theorem vl_1641 (l : Launch) : Vld2 l vwCl gTbl con_1641 := conR_ok3 gT_all (hd_1641) rfl pn_RX8 tk_X8_at bo_RX8 xo_RX8 (cto_1253 l) ch_1641 cut_nil
/-- RookHusting$Slots at -/
noncomputable def con_1642 : Con2 := ((yX8_at, cX8_at, 3, (some .long)), (0, 0), ([(6, 0, 0), (0, 2, 0), (0, 20, 0)], [(0, 0), (0, 0), (0, 0), (0, 0), (0, 0), (0, 0), (0, 250)], [.inl (8, [(6, 1, 0), (8, 4, 0), (8, 5, 0)]), ac_890], []), [((4, 6, 0), gi_1119, hq_722, [], [1])])
theorem hd_1642 : con_1642.1 = (yX8_at, cX8_at, 3, (some .long)) := rfl
noncomputable def cu_1642 : List CUT2 := []
theorem ch_1642 : staG tb_X8_at 1 bt_RX8 [] ct_1253 [] [] cu_1642 11 con_1642 = true := by decide +kernel
theorem vl_1642 (l : Launch) : Vld2 l vwCl gTbl con_1642 := conR_ok3 gT_all (hd_1642) rfl pn_RX8 tk_X8_at bo_RX8 xo_RX8 (cto_1253 l) ch_1642 cut_nil
/-- RookHusting$Slots at -/
noncomputable def con_1643 : Con2 := ((yX8_at, cX8_at, 3, (some .long)), (0, 0), ([(6, 0, 0), (0, 2, 0), (0, 21, 0)], [(0, 0), (0, 0), (0, 0), (0, 0), (0, 0), (0, 0), (0, 4)], [.inl (8, [(6, 1, 0), (8, 4, 0), (8, 5, 0)]), ac_891], []), [((4, 6, 0), gi_1117, hq_723, [], [1])])
theorem hd_1643 : con_1643.1 = (yX8_at, cX8_at, 3, (some .long)) := rfl
noncomputable def cu_1643 : List CUT2 := []
theorem ch_1643 : staG tb_X8_at 1 bt_RX8 [] ct_1253 [] [] cu_1643 11 con_1643 = true := by decide +kernel
theorem vl_1643 (l : Launch) : Vld2 l vwCl gTbl con_1643 := conR_ok3 gT_all (hd_1643) rfl pn_RX8 tk_X8_at bo_RX8 xo_RX8 (cto_1253 l) ch_1643 cut_nil
/-- RookHusting$Slots at -/
noncomputable def con_1644 : Con2 := ((yX8_at, cX8_at, 3, (some .long)), (0, 0), ([(6, 0, 0), (0, 2, 0), (0, 22, 0)], [(0, 0), (0, 0), (0, 0), (0, 0), (0, 0), (0, 0), (0, 16)], [.inl (8, [(6, 1, 0), (8, 4, 0), (8, 5, 0)]), ac_892], []), [((4, 6, 0), gi_1118, hq_724, [], [1])])
theorem hd_1644 : con_1644.1 = (yX8_at, cX8_at, 3, (some .long)) := rfl
noncomputable def cu_1644 : List CUT2 := []
theorem ch_1644 : staG tb_X8_at 1 bt_RX8 [] ct_1253 [] [] cu_1644 11 con_1644 = true := by decide +kernel
theorem vl_1644 (l : Launch) : Vld2 l vwCl gTbl con_1644 := conR_ok3 gT_all (hd_1644) rfl pn_RX8 tk_X8_at bo_RX8 xo_RX8 (cto_1253 l) ch_1644 cut_nil
/-- RookHusting$Slots at -/
noncomputable def con_1645 : Con2 := ((yX8_at, cX8_at, 3, (some .long)), (0, 0), ([(6, 0, 0), (0, 2, 0), (0, 23, 0)], [(0, 0), (0, 0), (0, 0), (0, 0), (0, 0), (0, 0), (0, 250)], [.inl (8, [(6, 1, 0), (8, 4, 0), (8, 5, 0)]), ac_893], []), [((4, 6, 0), gi_1119, hq_725, [], [1])])
theorem hd_1645 : con_1645.1 = (yX8_at, cX8_at, 3, (some .long)) := rfl
noncomputable def cu_1645 : List CUT2 := []
theorem ch_1645 : staG tb_X8_at 1 bt_RX8 [] ct_1253 [] [] cu_1645 11 con_1645 = true := by decide +kernel
theorem vl_1645 (l : Launch) : Vld2 l vwCl gTbl con_1645 := conR_ok3 gT_all (hd_1645) rfl pn_RX8 tk_X8_at bo_RX8 xo_RX8 (cto_1253 l) ch_1645 cut_nil
/-- RookHusting$Slots at -/
noncomputable def con_1646 : Con2 := ((yX8_at, cX8_at, 3, (some .long)), (0, 0), ([(6, 0, 0), (0, 2, 0), (0, 24, 0)], [(0, 0), (0, 0), (0, 0), (0, 0), (0, 0), (0, 0), (0, 4)], [.inl (8, [(6, 1, 0), (8, 4, 0), (8, 5, 0)]), ac_894], []), [((4, 6, 0), gi_1117, hq_726, [], [1])])
theorem hd_1646 : con_1646.1 = (yX8_at, cX8_at, 3, (some .long)) := rfl
noncomputable def cu_1646 : List CUT2 := []
theorem ch_1646 : staG tb_X8_at 1 bt_RX8 [] ct_1253 [] [] cu_1646 11 con_1646 = true := by decide +kernel
theorem vl_1646 (l : Launch) : Vld2 l vwCl gTbl con_1646 := conR_ok3 gT_all (hd_1646) rfl pn_RX8 tk_X8_at bo_RX8 xo_RX8 (cto_1253 l) ch_1646 cut_nil
/-- RookHusting$Slots at -/
noncomputable def con_1647 : Con2 := ((yX8_at, cX8_at, 3, (some .long)), (0, 0), ([(6, 0, 0), (0, 2, 0), (0, 25, 0)], [(0, 0), (0, 0), (0, 0), (0, 0), (0, 0), (0, 0), (0, 16)], [.inl (8, [(6, 1, 0), (8, 4, 0), (8, 5, 0)]), ac_895], []), [((4, 6, 0), gi_1118, hq_727, [], [1])])
theorem hd_1647 : con_1647.1 = (yX8_at, cX8_at, 3, (some .long)) := rfl
noncomputable def cu_1647 : List CUT2 := []
theorem ch_1647 : staG tb_X8_at 1 bt_RX8 [] ct_1253 [] [] cu_1647 11 con_1647 = true := by decide +kernel
theorem vl_1647 (l : Launch) : Vld2 l vwCl gTbl con_1647 := conR_ok3 gT_all (hd_1647) rfl pn_RX8 tk_X8_at bo_RX8 xo_RX8 (cto_1253 l) ch_1647 cut_nil
/-- RookHusting$Slots at -/
noncomputable def con_1648 : Con2 := ((yX8_at, cX8_at, 3, (some .long)), (0, 0), ([(6, 0, 0), (0, 2, 0), (0, 26, 0)], [(0, 0), (0, 0), (0, 0), (0, 0), (0, 0), (0, 0), (0, 250)], [.inl (8, [(6, 1, 0), (8, 4, 0), (8, 5, 0)]), ac_896], []), [((4, 6, 0), gi_1119, hq_728, [], [1])])
theorem hd_1648 : con_1648.1 = (yX8_at, cX8_at, 3, (some .long)) := rfl
noncomputable def cu_1648 : List CUT2 := []
theorem ch_1648 : staG tb_X8_at 1 bt_RX8 [] ct_1253 [] [] cu_1648 11 con_1648 = true := by decide +kernel
theorem vl_1648 (l : Launch) : Vld2 l vwCl gTbl con_1648 := conR_ok3 gT_all (hd_1648) rfl pn_RX8 tk_X8_at bo_RX8 xo_RX8 (cto_1253 l) ch_1648 cut_nil
/-- RookHusting$Slots at -/
noncomputable def con_1649 : Con2 := ((yX8_at, cX8_at, 3, (some .long)), (0, 0), ([(6, 0, 0), (0, 2, 0), (0, 27, 0)], [(0, 0), (0, 0), (0, 0), (0, 0), (0, 0), (0, 0), (0, 4)], [.inl (8, [(6, 1, 0), (8, 4, 0), (8, 5, 0)]), ac_897], []), [((4, 6, 0), gi_1117, hq_729, [], [1])])
theorem hd_1649 : con_1649.1 = (yX8_at, cX8_at, 3, (some .long)) := rfl
noncomputable def cu_1649 : List CUT2 := []
theorem ch_1649 : staG tb_X8_at 1 bt_RX8 [] ct_1253 [] [] cu_1649 11 con_1649 = true := by decide +kernel
theorem vl_1649 (l : Launch) : Vld2 l vwCl gTbl con_1649 := conR_ok3 gT_all (hd_1649) rfl pn_RX8 tk_X8_at bo_RX8 xo_RX8 (cto_1253 l) ch_1649 cut_nil
/-- RookHusting$Slots at -/
noncomputable def con_1650 : Con2 := ((yX8_at, cX8_at, 3, (some .long)), (0, 0), ([(6, 0, 0), (0, 2, 0), (0, 28, 0)], [(0, 0), (0, 0), (0, 0), (0, 0), (0, 0), (0, 0), (0, 16)], [.inl (8, [(6, 1, 0), (8, 4, 0), (8, 5, 0)]), ac_898], []), [((4, 6, 0), gi_1118, hq_730, [], [1])])
theorem hd_1650 : con_1650.1 = (yX8_at, cX8_at, 3, (some .long)) := rfl
noncomputable def cu_1650 : List CUT2 := []
theorem ch_1650 : staG tb_X8_at 1 bt_RX8 [] ct_1253 [] [] cu_1650 11 con_1650 = true := by decide +kernel
theorem vl_1650 (l : Launch) : Vld2 l vwCl gTbl con_1650 := conR_ok3 gT_all (hd_1650) rfl pn_RX8 tk_X8_at bo_RX8 xo_RX8 (cto_1253 l) ch_1650 cut_nil
/-- RookHusting$Slots at -/
noncomputable def con_1651 : Con2 := ((yX8_at, cX8_at, 3, (some .long)), (0, 0), ([(6, 0, 0), (0, 2, 0), (0, 29, 0)], [(0, 0), (0, 0), (0, 0), (0, 0), (0, 0), (0, 0), (0, 250)], [.inl (8, [(6, 1, 0), (8, 4, 0), (8, 5, 0)]), ac_899], []), [((4, 6, 0), gi_1119, hq_731, [], [1])])
theorem hd_1651 : con_1651.1 = (yX8_at, cX8_at, 3, (some .long)) := rfl
noncomputable def cu_1651 : List CUT2 := []
theorem ch_1651 : staG tb_X8_at 1 bt_RX8 [] ct_1253 [] [] cu_1651 11 con_1651 = true := by decide +kernel
theorem vl_1651 (l : Launch) : Vld2 l vwCl gTbl con_1651 := conR_ok3 gT_all (hd_1651) rfl pn_RX8 tk_X8_at bo_RX8 xo_RX8 (cto_1253 l) ch_1651 cut_nil
/-- RookHusting$Slots at -/
noncomputable def con_1652 : Con2 := ((yX8_at, cX8_at, 3, (some .long)), (0, 0), ([(6, 0, 0), (0, 2, 0), (0, 30, 0)], [(0, 0), (0, 0), (0, 0), (0, 0), (0, 0), (0, 0), (0, 4)], [.inl (8, [(6, 1, 0), (8, 4, 0), (8, 5, 0)]), ac_900], []), [((4, 6, 0), gi_1117, hq_732, [], [1])])
theorem hd_1652 : con_1652.1 = (yX8_at, cX8_at, 3, (some .long)) := rfl
noncomputable def cu_1652 : List CUT2 := []
theorem ch_1652 : staG tb_X8_at 1 bt_RX8 [] ct_1253 [] [] cu_1652 11 con_1652 = true := by decide +kernel
theorem vl_1652 (l : Launch) : Vld2 l vwCl gTbl con_1652 := conR_ok3 gT_all (hd_1652) rfl pn_RX8 tk_X8_at bo_RX8 xo_RX8 (cto_1253 l) ch_1652 cut_nil
/-- RookHusting$Slots at -/
noncomputable def con_1653 : Con2 := ((yX8_at, cX8_at, 3, (some .long)), (0, 0), ([(6, 0, 0), (0, 2, 0), (0, 31, 0)], [(0, 0), (0, 0), (0, 0), (0, 0), (0, 0), (0, 0), (0, 16)], [.inl (8, [(6, 1, 0), (8, 4, 0), (8, 5, 0)]), ac_901], []), [((4, 6, 0), gi_1118, hq_733, [], [1])])
theorem hd_1653 : con_1653.1 = (yX8_at, cX8_at, 3, (some .long)) := rfl
noncomputable def cu_1653 : List CUT2 := []
theorem ch_1653 : staG tb_X8_at 1 bt_RX8 [] ct_1253 [] [] cu_1653 11 con_1653 = true := by decide +kernel
theorem vl_1653 (l : Launch) : Vld2 l vwCl gTbl con_1653 := conR_ok3 gT_all (hd_1653) rfl pn_RX8 tk_X8_at bo_RX8 xo_RX8 (cto_1253 l) ch_1653 cut_nil
/-- RookHusting$Slots at -/
noncomputable def con_1654 : Con2 := ((yX8_at, cX8_at, 3, (some .long)), (0, 0), ([(6, 0, 0), (0, 2, 0), (0, 32, 0)], [(0, 0), (0, 0), (0, 0), (0, 0), (0, 0), (0, 0), (0, 250)], [.inl (8, [(6, 1, 0), (8, 4, 0), (8, 5, 0)]), ac_902], []), [((4, 6, 0), gi_1119, hq_734, [], [1])])
theorem hd_1654 : con_1654.1 = (yX8_at, cX8_at, 3, (some .long)) := rfl
noncomputable def cu_1654 : List CUT2 := []
theorem ch_1654 : staG tb_X8_at 1 bt_RX8 [] ct_1253 [] [] cu_1654 11 con_1654 = true := by decide +kernel
theorem vl_1654 (l : Launch) : Vld2 l vwCl gTbl con_1654 := conR_ok3 gT_all (hd_1654) rfl pn_RX8 tk_X8_at bo_RX8 xo_RX8 (cto_1253 l) ch_1654 cut_nil
/-- RookHusting$Slots at -/
noncomputable def con_1655 : Con2 := ((yX8_at, cX8_at, 3, (some .long)), (0, 0), ([(6, 0, 0), (0, 2, 0), (0, 33, 0)], [(0, 0), (0, 0), (0, 0), (0, 0), (0, 0), (0, 0), (0, 4)], [.inl (8, [(6, 1, 0), (8, 4, 0), (8, 5, 0)]), ac_903], []), [((4, 6, 0), gi_1117, hq_735, [], [1])])
theorem hd_1655 : con_1655.1 = (yX8_at, cX8_at, 3, (some .long)) := rfl
noncomputable def cu_1655 : List CUT2 := []
theorem ch_1655 : staG tb_X8_at 1 bt_RX8 [] ct_1253 [] [] cu_1655 11 con_1655 = true := by decide +kernel
theorem vl_1655 (l : Launch) : Vld2 l vwCl gTbl con_1655 := conR_ok3 gT_all (hd_1655) rfl pn_RX8 tk_X8_at bo_RX8 xo_RX8 (cto_1253 l) ch_1655 cut_nil
/-- RookHusting$Slots at -/
noncomputable def con_1656 : Con2 := ((yX8_at, cX8_at, 3, (some .long)), (0, 0), ([(6, 0, 0), (0, 2, 0), (0, 34, 0)], [(0, 0), (0, 0), (0, 0), (0, 0), (0, 0), (0, 0), (0, 16)], [.inl (8, [(6, 1, 0), (8, 4, 0), (8, 5, 0)]), ac_904], []), [((4, 6, 0), gi_1118, hq_736, [], [1])])
theorem hd_1656 : con_1656.1 = (yX8_at, cX8_at, 3, (some .long)) := rfl
noncomputable def cu_1656 : List CUT2 := []
theorem ch_1656 : staG tb_X8_at 1 bt_RX8 [] ct_1253 [] [] cu_1656 11 con_1656 = true := by decide +kernel
theorem vl_1656 (l : Launch) : Vld2 l vwCl gTbl con_1656 := conR_ok3 gT_all (hd_1656) rfl pn_RX8 tk_X8_at bo_RX8 xo_RX8 (cto_1253 l) ch_1656 cut_nil
/-- RookHusting$Slots at -/
noncomputable def con_1657 : Con2 := ((yX8_at, cX8_at, 3, (some .long)), (0, 0), ([(6, 0, 0), (0, 2, 0), (0, 35, 0)], [(0, 0), (0, 0), (0, 0), (0, 0), (0, 0), (0, 0), (0, 250)], [.inl (8, [(6, 1, 0), (8, 4, 0), (8, 5, 0)]), ac_905], []), [((4, 6, 0), gi_1119, hq_737, [], [1])])
theorem hd_1657 : con_1657.1 = (yX8_at, cX8_at, 3, (some .long)) := rfl
noncomputable def cu_1657 : List CUT2 := []
theorem ch_1657 : staG tb_X8_at 1 bt_RX8 [] ct_1253 [] [] cu_1657 11 con_1657 = true := by decide +kernel
theorem vl_1657 (l : Launch) : Vld2 l vwCl gTbl con_1657 := conR_ok3 gT_all (hd_1657) rfl pn_RX8 tk_X8_at bo_RX8 xo_RX8 (cto_1253 l) ch_1657 cut_nil
/-- RookHusting$Slots at -/
noncomputable def con_1658 : Con2 := ((yX8_at, cX8_at, 3, (some .long)), (0, 0), ([(6, 0, 0), (0, 2, 0), (0, 36, 0)], [(0, 0), (0, 0), (0, 0), (0, 0), (0, 0), (0, 0), (0, 4)], [.inl (8, [(6, 1, 0), (8, 4, 0), (8, 5, 0)]), ac_906], []), [((4, 6, 0), gi_1117, hq_738, [], [1])])
theorem hd_1658 : con_1658.1 = (yX8_at, cX8_at, 3, (some .long)) := rfl
noncomputable def cu_1658 : List CUT2 := []
theorem ch_1658 : staG tb_X8_at 1 bt_RX8 [] ct_1253 [] [] cu_1658 11 con_1658 = true := by decide +kernel
theorem vl_1658 (l : Launch) : Vld2 l vwCl gTbl con_1658 := conR_ok3 gT_all (hd_1658) rfl pn_RX8 tk_X8_at bo_RX8 xo_RX8 (cto_1253 l) ch_1658 cut_nil
/-- RookHusting$Slots at -/
noncomputable def con_1659 : Con2 := ((yX8_at, cX8_at, 3, (some .long)), (0, 0), ([(6, 0, 0), (0, 2, 0), (0, 37, 0)], [(0, 0), (0, 0), (0, 0), (0, 0), (0, 0), (0, 0), (0, 16)], [.inl (8, [(6, 1, 0), (8, 4, 0), (8, 5, 0)]), ac_907], []), [((4, 6, 0), gi_1118, hq_739, [], [1])])
theorem hd_1659 : con_1659.1 = (yX8_at, cX8_at, 3, (some .long)) := rfl
noncomputable def cu_1659 : List CUT2 := []
theorem ch_1659 : staG tb_X8_at 1 bt_RX8 [] ct_1253 [] [] cu_1659 11 con_1659 = true := by decide +kernel
theorem vl_1659 (l : Launch) : Vld2 l vwCl gTbl con_1659 := conR_ok3 gT_all (hd_1659) rfl pn_RX8 tk_X8_at bo_RX8 xo_RX8 (cto_1253 l) ch_1659 cut_nil
/-- RookHusting$Slots at -/
noncomputable def con_1660 : Con2 := ((yX8_at, cX8_at, 3, (some .long)), (0, 0), ([(6, 0, 0), (0, 2, 0), (0, 38, 0)], [(0, 0), (0, 0), (0, 0), (0, 0), (0, 0), (0, 0), (0, 250)], [.inl (8, [(6, 1, 0), (8, 4, 0), (8, 5, 0)]), ac_908], []), [((4, 6, 0), gi_1119, hq_740, [], [1])])
theorem hd_1660 : con_1660.1 = (yX8_at, cX8_at, 3, (some .long)) := rfl
noncomputable def cu_1660 : List CUT2 := []
theorem ch_1660 : staG tb_X8_at 1 bt_RX8 [] ct_1253 [] [] cu_1660 11 con_1660 = true := by decide +kernel
theorem vl_1660 (l : Launch) : Vld2 l vwCl gTbl con_1660 := conR_ok3 gT_all (hd_1660) rfl pn_RX8 tk_X8_at bo_RX8 xo_RX8 (cto_1253 l) ch_1660 cut_nil
/-- RookHusting$Slots at -/
noncomputable def con_1661 : Con2 := ((yX8_at, cX8_at, 3, (some .long)), (0, 0), ([(6, 0, 0), (0, 2, 0), (0, 39, 0)], [(0, 0), (0, 0), (0, 0), (0, 0), (0, 0), (0, 0), (0, 4)], [.inl (8, [(6, 1, 0), (8, 4, 0), (8, 5, 0)]), ac_909], []), [((4, 6, 0), gi_1117, hq_741, [], [1])])
theorem hd_1661 : con_1661.1 = (yX8_at, cX8_at, 3, (some .long)) := rfl
noncomputable def cu_1661 : List CUT2 := []
theorem ch_1661 : staG tb_X8_at 1 bt_RX8 [] ct_1253 [] [] cu_1661 11 con_1661 = true := by decide +kernel
theorem vl_1661 (l : Launch) : Vld2 l vwCl gTbl con_1661 := conR_ok3 gT_all (hd_1661) rfl pn_RX8 tk_X8_at bo_RX8 xo_RX8 (cto_1253 l) ch_1661 cut_nil
/-- RookHusting$Slots at -/
noncomputable def con_1662 : Con2 := ((yX8_at, cX8_at, 3, (some .long)), (0, 0), ([(6, 0, 0), (0, 2, 0), (0, 40, 0)], [(0, 0), (0, 0), (0, 0), (0, 0), (0, 0), (0, 0), (0, 16)], [.inl (8, [(6, 1, 0), (8, 4, 0), (8, 5, 0)]), ac_910], []), [((4, 6, 0), gi_1118, hq_742, [], [1])])
theorem hd_1662 : con_1662.1 = (yX8_at, cX8_at, 3, (some .long)) := rfl
noncomputable def cu_1662 : List CUT2 := []
theorem ch_1662 : staG tb_X8_at 1 bt_RX8 [] ct_1253 [] [] cu_1662 11 con_1662 = true := by decide +kernel
theorem vl_1662 (l : Launch) : Vld2 l vwCl gTbl con_1662 := conR_ok3 gT_all (hd_1662) rfl pn_RX8 tk_X8_at bo_RX8 xo_RX8 (cto_1253 l) ch_1662 cut_nil
/-- RookHusting$Slots at -/
noncomputable def con_1663 : Con2 := ((yX8_at, cX8_at, 3, (some .long)), (0, 0), ([(6, 0, 0), (0, 2, 0), (0, 41, 0)], [(0, 0), (0, 0), (0, 0), (0, 0), (0, 0), (0, 0), (0, 250)], [.inl (8, [(6, 1, 0), (8, 4, 0), (8, 5, 0)]), ac_911], []), [((4, 6, 0), gi_1119, hq_743, [], [1])])
theorem hd_1663 : con_1663.1 = (yX8_at, cX8_at, 3, (some .long)) := rfl
noncomputable def cu_1663 : List CUT2 := []
theorem ch_1663 : staG tb_X8_at 1 bt_RX8 [] ct_1253 [] [] cu_1663 11 con_1663 = true := by decide +kernel
theorem vl_1663 (l : Launch) : Vld2 l vwCl gTbl con_1663 := conR_ok3 gT_all (hd_1663) rfl pn_RX8 tk_X8_at bo_RX8 xo_RX8 (cto_1253 l) ch_1663 cut_nil
/-- RookHusting$Slots at -/
noncomputable def con_1664 : Con2 := ((yX8_at, cX8_at, 3, (some .long)), (0, 0), ([(6, 0, 0), (0, 2, 0), (0, 42, 0)], [(0, 0), (0, 0), (0, 0), (0, 0), (0, 0), (0, 0), (0, 4)], [.inl (8, [(6, 1, 0), (8, 4, 0), (8, 5, 0)]), ac_912], []), [((4, 6, 0), gi_1117, hq_744, [], [1])])
theorem hd_1664 : con_1664.1 = (yX8_at, cX8_at, 3, (some .long)) := rfl
noncomputable def cu_1664 : List CUT2 := []
theorem ch_1664 : staG tb_X8_at 1 bt_RX8 [] ct_1253 [] [] cu_1664 11 con_1664 = true := by decide +kernel
theorem vl_1664 (l : Launch) : Vld2 l vwCl gTbl con_1664 := conR_ok3 gT_all (hd_1664) rfl pn_RX8 tk_X8_at bo_RX8 xo_RX8 (cto_1253 l) ch_1664 cut_nil
/-- RookHusting$Slots at -/
noncomputable def con_1665 : Con2 := ((yX8_at, cX8_at, 3, (some .long)), (0, 0), ([(6, 0, 0), (0, 2, 0), (0, 43, 0)], [(0, 0), (0, 0), (0, 0), (0, 0), (0, 0), (0, 0), (0, 16)], [.inl (8, [(6, 1, 0), (8, 4, 0), (8, 5, 0)]), ac_913], []), [((4, 6, 0), gi_1118, hq_745, [], [1])])
theorem hd_1665 : con_1665.1 = (yX8_at, cX8_at, 3, (some .long)) := rfl
noncomputable def cu_1665 : List CUT2 := []
theorem ch_1665 : staG tb_X8_at 1 bt_RX8 [] ct_1253 [] [] cu_1665 11 con_1665 = true := by decide +kernel
theorem vl_1665 (l : Launch) : Vld2 l vwCl gTbl con_1665 := conR_ok3 gT_all (hd_1665) rfl pn_RX8 tk_X8_at bo_RX8 xo_RX8 (cto_1253 l) ch_1665 cut_nil
/-- RookHusting$Slots at -/
noncomputable def con_1666 : Con2 := ((yX8_at, cX8_at, 3, (some .long)), (0, 0), ([(6, 0, 0), (0, 2, 0), (0, 44, 0)], [(0, 0), (0, 0), (0, 0), (0, 0), (0, 0), (0, 0), (0, 250)], [.inl (8, [(6, 1, 0), (8, 4, 0), (8, 5, 0)]), ac_914], []), [((4, 6, 0), gi_1119, hq_746, [], [1])])
theorem hd_1666 : con_1666.1 = (yX8_at, cX8_at, 3, (some .long)) := rfl
noncomputable def cu_1666 : List CUT2 := []
theorem ch_1666 : staG tb_X8_at 1 bt_RX8 [] ct_1253 [] [] cu_1666 11 con_1666 = true := by decide +kernel
theorem vl_1666 (l : Launch) : Vld2 l vwCl gTbl con_1666 := conR_ok3 gT_all (hd_1666) rfl pn_RX8 tk_X8_at bo_RX8 xo_RX8 (cto_1253 l) ch_1666 cut_nil
/-- RookHusting$Slots at -/
noncomputable def con_1667 : Con2 := ((yX8_at, cX8_at, 3, (some .long)), (0, 0), ([(6, 0, 0), (0, 2, 0), (0, 45, 0)], [(0, 0), (0, 0), (0, 0), (0, 0), (0, 0), (0, 0), (0, 4)], [.inl (8, [(6, 1, 0), (8, 4, 0), (8, 5, 0)]), ac_915], []), [((4, 6, 0), gi_1117, hq_747, [], [1])])
theorem hd_1667 : con_1667.1 = (yX8_at, cX8_at, 3, (some .long)) := rfl
noncomputable def cu_1667 : List CUT2 := []
theorem ch_1667 : staG tb_X8_at 1 bt_RX8 [] ct_1253 [] [] cu_1667 11 con_1667 = true := by decide +kernel
theorem vl_1667 (l : Launch) : Vld2 l vwCl gTbl con_1667 := conR_ok3 gT_all (hd_1667) rfl pn_RX8 tk_X8_at bo_RX8 xo_RX8 (cto_1253 l) ch_1667 cut_nil
/-- RookHusting$Slots at -/
noncomputable def con_1668 : Con2 := ((yX8_at, cX8_at, 3, (some .long)), (0, 0), ([(6, 0, 0), (0, 2, 0), (0, 46, 0)], [(0, 0), (0, 0), (0, 0), (0, 0), (0, 0), (0, 0), (0, 16)], [.inl (8, [(6, 1, 0), (8, 4, 0), (8, 5, 0)]), ac_916], []), [((4, 6, 0), gi_1118, hq_748, [], [1])])
theorem hd_1668 : con_1668.1 = (yX8_at, cX8_at, 3, (some .long)) := rfl
noncomputable def cu_1668 : List CUT2 := []
theorem ch_1668 : staG tb_X8_at 1 bt_RX8 [] ct_1253 [] [] cu_1668 11 con_1668 = true := by decide +kernel
theorem vl_1668 (l : Launch) : Vld2 l vwCl gTbl con_1668 := conR_ok3 gT_all (hd_1668) rfl pn_RX8 tk_X8_at bo_RX8 xo_RX8 (cto_1253 l) ch_1668 cut_nil
/-- RookHusting$Slots at -/
noncomputable def con_1669 : Con2 := ((yX8_at, cX8_at, 3, (some .long)), (0, 0), ([(6, 0, 0), (0, 2, 0), (0, 47, 0)], [(0, 0), (0, 0), (0, 0), (0, 0), (0, 0), (0, 0), (0, 250)], [.inl (8, [(6, 1, 0), (8, 4, 0), (8, 5, 0)]), ac_917], []), [((4, 6, 0), gi_1119, hq_749, [], [1])])
theorem hd_1669 : con_1669.1 = (yX8_at, cX8_at, 3, (some .long)) := rfl
noncomputable def cu_1669 : List CUT2 := []
theorem ch_1669 : staG tb_X8_at 1 bt_RX8 [] ct_1253 [] [] cu_1669 11 con_1669 = true := by decide +kernel
theorem vl_1669 (l : Launch) : Vld2 l vwCl gTbl con_1669 := conR_ok3 gT_all (hd_1669) rfl pn_RX8 tk_X8_at bo_RX8 xo_RX8 (cto_1253 l) ch_1669 cut_nil
/-- RookHusting$Slots at -/
noncomputable def con_1670 : Con2 := ((yX8_at, cX8_at, 3, (some .long)), (0, 0), ([(6, 0, 0), (0, 2, 0), (0, 48, 0)], [(0, 0), (0, 0), (0, 0), (0, 0), (0, 0), (0, 0), (0, 4)], [.inl (8, [(6, 1, 0), (8, 4, 0), (8, 5, 0)]), ac_918], []), [((4, 6, 0), gi_1117, hq_750, [], [1])])
theorem hd_1670 : con_1670.1 = (yX8_at, cX8_at, 3, (some .long)) := rfl
noncomputable def cu_1670 : List CUT2 := []
theorem ch_1670 : staG tb_X8_at 1 bt_RX8 [] ct_1253 [] [] cu_1670 11 con_1670 = true := by decide +kernel
theorem vl_1670 (l : Launch) : Vld2 l vwCl gTbl con_1670 := conR_ok3 gT_all (hd_1670) rfl pn_RX8 tk_X8_at bo_RX8 xo_RX8 (cto_1253 l) ch_1670 cut_nil
/-- RookHusting$Slots at -/
noncomputable def con_1671 : Con2 := ((yX8_at, cX8_at, 3, (some .long)), (0, 0), ([(6, 0, 0), (0, 2, 0), (0, 49, 0)], [(0, 0), (0, 0), (0, 0), (0, 0), (0, 0), (0, 0), (0, 16)], [.inl (8, [(6, 1, 0), (8, 4, 0), (8, 5, 0)]), ac_919], []), [((4, 6, 0), gi_1118, hq_751, [], [1])])
theorem hd_1671 : con_1671.1 = (yX8_at, cX8_at, 3, (some .long)) := rfl
noncomputable def cu_1671 : List CUT2 := []
theorem ch_1671 : staG tb_X8_at 1 bt_RX8 [] ct_1253 [] [] cu_1671 11 con_1671 = true := by decide +kernel
theorem vl_1671 (l : Launch) : Vld2 l vwCl gTbl con_1671 := conR_ok3 gT_all (hd_1671) rfl pn_RX8 tk_X8_at bo_RX8 xo_RX8 (cto_1253 l) ch_1671 cut_nil
/-- RookHusting$Slots at -/
noncomputable def con_1672 : Con2 := ((yX8_at, cX8_at, 3, (some .long)), (0, 0), ([(6, 0, 0), (0, 2, 0), (0, 50, 0)], [(0, 0), (0, 0), (0, 0), (0, 0), (0, 0), (0, 0), (0, 250)], [.inl (8, [(6, 1, 0), (8, 4, 0), (8, 5, 0)]), ac_920], []), [((4, 6, 0), gi_1119, hq_752, [], [1])])
theorem hd_1672 : con_1672.1 = (yX8_at, cX8_at, 3, (some .long)) := rfl
noncomputable def cu_1672 : List CUT2 := []
theorem ch_1672 : staG tb_X8_at 1 bt_RX8 [] ct_1253 [] [] cu_1672 11 con_1672 = true := by decide +kernel
theorem vl_1672 (l : Launch) : Vld2 l vwCl gTbl con_1672 := conR_ok3 gT_all (hd_1672) rfl pn_RX8 tk_X8_at bo_RX8 xo_RX8 (cto_1253 l) ch_1672 cut_nil
/-- RookHusting$Slots at -/
noncomputable def con_1673 : Con2 := ((yX8_at, cX8_at, 3, (some .long)), (0, 0), ([(6, 0, 0), (0, 2, 0), (0, 51, 0)], [(0, 0), (0, 0), (0, 0), (0, 0), (0, 0), (0, 0), (0, 4)], [.inl (8, [(6, 1, 0), (8, 4, 0), (8, 5, 0)]), ac_921], []), [((4, 6, 0), gi_1117, hq_753, [], [1])])
theorem hd_1673 : con_1673.1 = (yX8_at, cX8_at, 3, (some .long)) := rfl
noncomputable def cu_1673 : List CUT2 := []
theorem ch_1673 : staG tb_X8_at 1 bt_RX8 [] ct_1253 [] [] cu_1673 11 con_1673 = true := by decide +kernel
theorem vl_1673 (l : Launch) : Vld2 l vwCl gTbl con_1673 := conR_ok3 gT_all (hd_1673) rfl pn_RX8 tk_X8_at bo_RX8 xo_RX8 (cto_1253 l) ch_1673 cut_nil
/-- RookHusting$Slots at -/
noncomputable def con_1674 : Con2 := ((yX8_at, cX8_at, 3, (some .long)), (0, 0), ([(6, 0, 0), (0, 2, 0), (0, 52, 0)], [(0, 0), (0, 0), (0, 0), (0, 0), (0, 0), (0, 0), (0, 16)], [.inl (8, [(6, 1, 0), (8, 4, 0), (8, 5, 0)]), ac_922], []), [((4, 6, 0), gi_1118, hq_754, [], [1])])
theorem hd_1674 : con_1674.1 = (yX8_at, cX8_at, 3, (some .long)) := rfl
noncomputable def cu_1674 : List CUT2 := []
theorem ch_1674 : staG tb_X8_at 1 bt_RX8 [] ct_1253 [] [] cu_1674 11 con_1674 = true := by decide +kernel
theorem vl_1674 (l : Launch) : Vld2 l vwCl gTbl con_1674 := conR_ok3 gT_all (hd_1674) rfl pn_RX8 tk_X8_at bo_RX8 xo_RX8 (cto_1253 l) ch_1674 cut_nil
/-- RookHusting$Slots at -/
noncomputable def con_1675 : Con2 := ((yX8_at, cX8_at, 3, (some .long)), (0, 0), ([(6, 0, 0), (0, 2, 0), (0, 53, 0)], [(0, 0), (0, 0), (0, 0), (0, 0), (0, 0), (0, 0), (0, 250)], [.inl (8, [(6, 1, 0), (8, 4, 0), (8, 5, 0)]), ac_923], []), [((4, 6, 0), gi_1119, hq_755, [], [1])])
theorem hd_1675 : con_1675.1 = (yX8_at, cX8_at, 3, (some .long)) := rfl
noncomputable def cu_1675 : List CUT2 := []
theorem ch_1675 : staG tb_X8_at 1 bt_RX8 [] ct_1253 [] [] cu_1675 11 con_1675 = true := by decide +kernel
theorem vl_1675 (l : Launch) : Vld2 l vwCl gTbl con_1675 := conR_ok3 gT_all (hd_1675) rfl pn_RX8 tk_X8_at bo_RX8 xo_RX8 (cto_1253 l) ch_1675 cut_nil
/-- RookHusting$Slots at -/
noncomputable def con_1676 : Con2 := ((yX8_at, cX8_at, 3, (some .long)), (0, 0), ([(6, 0, 0), (0, 2, 0), (0, 54, 0)], [(0, 0), (0, 0), (0, 0), (0, 0), (0, 0), (0, 0), (0, 4)], [.inl (8, [(6, 1, 0), (8, 4, 0), (8, 5, 0)]), ac_924], []), [((4, 6, 0), gi_1117, hq_756, [], [1])])
theorem hd_1676 : con_1676.1 = (yX8_at, cX8_at, 3, (some .long)) := rfl
noncomputable def cu_1676 : List CUT2 := []
theorem ch_1676 : staG tb_X8_at 1 bt_RX8 [] ct_1253 [] [] cu_1676 11 con_1676 = true := by decide +kernel
theorem vl_1676 (l : Launch) : Vld2 l vwCl gTbl con_1676 := conR_ok3 gT_all (hd_1676) rfl pn_RX8 tk_X8_at bo_RX8 xo_RX8 (cto_1253 l) ch_1676 cut_nil
/-- RookHusting$Slots at -/
noncomputable def con_1677 : Con2 := ((yX8_at, cX8_at, 3, (some .long)), (0, 0), ([(6, 0, 0), (0, 2, 0), (0, 55, 0)], [(0, 0), (0, 0), (0, 0), (0, 0), (0, 0), (0, 0), (0, 16)], [.inl (8, [(6, 1, 0), (8, 4, 0), (8, 5, 0)]), ac_925], []), [((4, 6, 0), gi_1118, hq_757, [], [1])])
theorem hd_1677 : con_1677.1 = (yX8_at, cX8_at, 3, (some .long)) := rfl
noncomputable def cu_1677 : List CUT2 := []
theorem ch_1677 : staG tb_X8_at 1 bt_RX8 [] ct_1253 [] [] cu_1677 11 con_1677 = true := by decide +kernel
theorem vl_1677 (l : Launch) : Vld2 l vwCl gTbl con_1677 := conR_ok3 gT_all (hd_1677) rfl pn_RX8 tk_X8_at bo_RX8 xo_RX8 (cto_1253 l) ch_1677 cut_nil
/-- RookHusting$Slots at -/
noncomputable def con_1678 : Con2 := ((yX8_at, cX8_at, 3, (some .long)), (0, 0), ([(6, 0, 0), (0, 2, 0), (0, 56, 0)], [(0, 0), (0, 0), (0, 0), (0, 0), (0, 0), (0, 0), (0, 250)], [.inl (8, [(6, 1, 0), (8, 4, 0), (8, 5, 0)]), ac_926], []), [((4, 6, 0), gi_1119, hq_758, [], [1])])
theorem hd_1678 : con_1678.1 = (yX8_at, cX8_at, 3, (some .long)) := rfl
noncomputable def cu_1678 : List CUT2 := []
theorem ch_1678 : staG tb_X8_at 1 bt_RX8 [] ct_1253 [] [] cu_1678 11 con_1678 = true := by decide +kernel
theorem vl_1678 (l : Launch) : Vld2 l vwCl gTbl con_1678 := conR_ok3 gT_all (hd_1678) rfl pn_RX8 tk_X8_at bo_RX8 xo_RX8 (cto_1253 l) ch_1678 cut_nil
/-- RookHusting$Slots at -/
noncomputable def con_1679 : Con2 := ((yX8_at, cX8_at, 3, (some .long)), (0, 0), ([(6, 0, 0), (0, 2, 0), (0, 57, 0)], [(0, 0), (0, 0), (0, 0), (0, 0), (0, 0), (0, 0), (0, 4)], [.inl (8, [(6, 1, 0), (8, 4, 0), (8, 5, 0)]), ac_927], []), [((4, 6, 0), gi_1117, hq_759, [], [1])])
theorem hd_1679 : con_1679.1 = (yX8_at, cX8_at, 3, (some .long)) := rfl
noncomputable def cu_1679 : List CUT2 := []
theorem ch_1679 : staG tb_X8_at 1 bt_RX8 [] ct_1253 [] [] cu_1679 11 con_1679 = true := by decide +kernel
theorem vl_1679 (l : Launch) : Vld2 l vwCl gTbl con_1679 := conR_ok3 gT_all (hd_1679) rfl pn_RX8 tk_X8_at bo_RX8 xo_RX8 (cto_1253 l) ch_1679 cut_nil
/-- RookHusting$Slots at -/
noncomputable def con_1680 : Con2 := ((yX8_at, cX8_at, 3, (some .long)), (0, 0), ([(6, 0, 0), (0, 2, 0), (0, 58, 0)], [(0, 0), (0, 0), (0, 0), (0, 0), (0, 0), (0, 0), (0, 16)], [.inl (8, [(6, 1, 0), (8, 4, 0), (8, 5, 0)]), ac_928], []), [((4, 6, 0), gi_1118, hq_760, [], [1])])
theorem hd_1680 : con_1680.1 = (yX8_at, cX8_at, 3, (some .long)) := rfl
noncomputable def cu_1680 : List CUT2 := []
theorem ch_1680 : staG tb_X8_at 1 bt_RX8 [] ct_1253 [] [] cu_1680 11 con_1680 = true := by decide +kernel
theorem vl_1680 (l : Launch) : Vld2 l vwCl gTbl con_1680 := conR_ok3 gT_all (hd_1680) rfl pn_RX8 tk_X8_at bo_RX8 xo_RX8 (cto_1253 l) ch_1680 cut_nil
/-- RookHusting$Slots at -/
noncomputable def con_1681 : Con2 := ((yX8_at, cX8_at, 3, (some .long)), (0, 0), ([(6, 0, 0), (0, 2, 0), (0, 59, 0)], [(0, 0), (0, 0), (0, 0), (0, 0), (0, 0), (0, 0), (0, 250)], [.inl (8, [(6, 1, 0), (8, 4, 0), (8, 5, 0)]), ac_929], []), [((4, 6, 0), gi_1119, hq_761, [], [1])])
theorem hd_1681 : con_1681.1 = (yX8_at, cX8_at, 3, (some .long)) := rfl
noncomputable def cu_1681 : List CUT2 := []
theorem ch_1681 : staG tb_X8_at 1 bt_RX8 [] ct_1253 [] [] cu_1681 11 con_1681 = true := by decide +kernel
theorem vl_1681 (l : Launch) : Vld2 l vwCl gTbl con_1681 := conR_ok3 gT_all (hd_1681) rfl pn_RX8 tk_X8_at bo_RX8 xo_RX8 (cto_1253 l) ch_1681 cut_nil
/-- RookHusting isAsSeen -/
noncomputable def gi_1278 : GI := jl_n [gp_656, jl_z 9]
noncomputable def gi_1279 : GI := jl_n [gp_656, jl_z 10]
noncomputable def con_1682 : Con2 := ((yX11_isAsSeen, cX11_isAsSeen, 4, (some .boolean)), (1, 22), ([(6, 0, 0), (0, 2, 0)], gi_1278, hc_201, []), [((0, 0, 0), gi_1279, hq_892, [], [1]), ((0, 1, 0), gi_1279, hq_892, [], [1])])
theorem hd_1682 : con_1682.1 = (yX11_isAsSeen, cX11_isAsSeen, 4, (some .boolean)) := rfl
theorem ck_RX11_473_1633 : COK2 RX11 vwCl gTbl 473 0 con_1633 := ⟨wd_1218, wd_131, mh_X8_at, .inr (.inr ⟨rfl, wd_1215, wd_1216, wd_1217, ⟨_, rfl, pd_X8_at⟩, 8, _, TX8, 3, rfl, rfl⟩)⟩
theorem ck_RX11_473_1636 : COK2 RX11 vwCl gTbl 473 0 con_1636 := ⟨wd_1218, wd_131, mh_X8_at, .inr (.inr ⟨rfl, wd_1215, wd_1216, wd_1217, ⟨_, rfl, pd_X8_at⟩, 8, _, TX8, 3, rfl, rfl⟩)⟩
theorem ck_RX11_473_1639 : COK2 RX11 vwCl gTbl 473 0 con_1639 := ⟨wd_1218, wd_131, mh_X8_at, .inr (.inr ⟨rfl, wd_1215, wd_1216, wd_1217, ⟨_, rfl, pd_X8_at⟩, 8, _, TX8, 3, rfl, rfl⟩)⟩
theorem ck_RX11_473_1642 : COK2 RX11 vwCl gTbl 473 0 con_1642 := ⟨wd_1218, wd_131, mh_X8_at, .inr (.inr ⟨rfl, wd_1215, wd_1216, wd_1217, ⟨_, rfl, pd_X8_at⟩, 8, _, TX8, 3, rfl, rfl⟩)⟩
theorem ck_RX11_473_1645 : COK2 RX11 vwCl gTbl 473 0 con_1645 := ⟨wd_1218, wd_131, mh_X8_at, .inr (.inr ⟨rfl, wd_1215, wd_1216, wd_1217, ⟨_, rfl, pd_X8_at⟩, 8, _, TX8, 3, rfl, rfl⟩)⟩
theorem ck_RX11_473_1648 : COK2 RX11 vwCl gTbl 473 0 con_1648 := ⟨wd_1218, wd_131, mh_X8_at, .inr (.inr ⟨rfl, wd_1215, wd_1216, wd_1217, ⟨_, rfl, pd_X8_at⟩, 8, _, TX8, 3, rfl, rfl⟩)⟩
theorem ck_RX11_473_1651 : COK2 RX11 vwCl gTbl 473 0 con_1651 := ⟨wd_1218, wd_131, mh_X8_at, .inr (.inr ⟨rfl, wd_1215, wd_1216, wd_1217, ⟨_, rfl, pd_X8_at⟩, 8, _, TX8, 3, rfl, rfl⟩)⟩
theorem ck_RX11_473_1654 : COK2 RX11 vwCl gTbl 473 0 con_1654 := ⟨wd_1218, wd_131, mh_X8_at, .inr (.inr ⟨rfl, wd_1215, wd_1216, wd_1217, ⟨_, rfl, pd_X8_at⟩, 8, _, TX8, 3, rfl, rfl⟩)⟩
theorem ck_RX11_473_1657 : COK2 RX11 vwCl gTbl 473 0 con_1657 := ⟨wd_1218, wd_131, mh_X8_at, .inr (.inr ⟨rfl, wd_1215, wd_1216, wd_1217, ⟨_, rfl, pd_X8_at⟩, 8, _, TX8, 3, rfl, rfl⟩)⟩
theorem ck_RX11_473_1660 : COK2 RX11 vwCl gTbl 473 0 con_1660 := ⟨wd_1218, wd_131, mh_X8_at, .inr (.inr ⟨rfl, wd_1215, wd_1216, wd_1217, ⟨_, rfl, pd_X8_at⟩, 8, _, TX8, 3, rfl, rfl⟩)⟩
theorem ck_RX11_473_1663 : COK2 RX11 vwCl gTbl 473 0 con_1663 := ⟨wd_1218, wd_131, mh_X8_at, .inr (.inr ⟨rfl, wd_1215, wd_1216, wd_1217, ⟨_, rfl, pd_X8_at⟩, 8, _, TX8, 3, rfl, rfl⟩)⟩
theorem ck_RX11_473_1666 : COK2 RX11 vwCl gTbl 473 0 con_1666 := ⟨wd_1218, wd_131, mh_X8_at, .inr (.inr ⟨rfl, wd_1215, wd_1216, wd_1217, ⟨_, rfl, pd_X8_at⟩, 8, _, TX8, 3, rfl, rfl⟩)⟩
theorem ck_RX11_473_1669 : COK2 RX11 vwCl gTbl 473 0 con_1669 := ⟨wd_1218, wd_131, mh_X8_at, .inr (.inr ⟨rfl, wd_1215, wd_1216, wd_1217, ⟨_, rfl, pd_X8_at⟩, 8, _, TX8, 3, rfl, rfl⟩)⟩
theorem ck_RX11_473_1672 : COK2 RX11 vwCl gTbl 473 0 con_1672 := ⟨wd_1218, wd_131, mh_X8_at, .inr (.inr ⟨rfl, wd_1215, wd_1216, wd_1217, ⟨_, rfl, pd_X8_at⟩, 8, _, TX8, 3, rfl, rfl⟩)⟩
theorem ck_RX11_473_1675 : COK2 RX11 vwCl gTbl 473 0 con_1675 := ⟨wd_1218, wd_131, mh_X8_at, .inr (.inr ⟨rfl, wd_1215, wd_1216, wd_1217, ⟨_, rfl, pd_X8_at⟩, 8, _, TX8, 3, rfl, rfl⟩)⟩
theorem ck_RX11_473_1678 : COK2 RX11 vwCl gTbl 473 0 con_1678 := ⟨wd_1218, wd_131, mh_X8_at, .inr (.inr ⟨rfl, wd_1215, wd_1216, wd_1217, ⟨_, rfl, pd_X8_at⟩, 8, _, TX8, 3, rfl, rfl⟩)⟩
theorem ck_RX11_473_1681 : COK2 RX11 vwCl gTbl 473 0 con_1681 := ⟨wd_1218, wd_131, mh_X8_at, .inr (.inr ⟨rfl, wd_1215, wd_1216, wd_1217, ⟨_, rfl, pd_X8_at⟩, 8, _, TX8, 3, rfl, rfl⟩)⟩
theorem ck_RX11_473_1632 : COK2 RX11 vwCl gTbl 473 0 con_1632 := ⟨wd_1218, wd_131, mh_X8_at, .inr (.inr ⟨rfl, wd_1215, wd_1216, wd_1217, ⟨_, rfl, pd_X8_at⟩, 8, _, TX8, 3, rfl, rfl⟩)⟩
theorem ck_RX11_473_1635 : COK2 RX11 vwCl gTbl 473 0 con_1635 := ⟨wd_1218, wd_131, mh_X8_at, .inr (.inr ⟨rfl, wd_1215, wd_1216, wd_1217, ⟨_, rfl, pd_X8_at⟩, 8, _, TX8, 3, rfl, rfl⟩)⟩
theorem ck_RX11_473_1638 : COK2 RX11 vwCl gTbl 473 0 con_1638 := ⟨wd_1218, wd_131, mh_X8_at, .inr (.inr ⟨rfl, wd_1215, wd_1216, wd_1217, ⟨_, rfl, pd_X8_at⟩, 8, _, TX8, 3, rfl, rfl⟩)⟩
theorem ck_RX11_473_1641 : COK2 RX11 vwCl gTbl 473 0 con_1641 := ⟨wd_1218, wd_131, mh_X8_at, .inr (.inr ⟨rfl, wd_1215, wd_1216, wd_1217, ⟨_, rfl, pd_X8_at⟩, 8, _, TX8, 3, rfl, rfl⟩)⟩
theorem ck_RX11_473_1644 : COK2 RX11 vwCl gTbl 473 0 con_1644 := ⟨wd_1218, wd_131, mh_X8_at, .inr (.inr ⟨rfl, wd_1215, wd_1216, wd_1217, ⟨_, rfl, pd_X8_at⟩, 8, _, TX8, 3, rfl, rfl⟩)⟩
theorem ck_RX11_473_1647 : COK2 RX11 vwCl gTbl 473 0 con_1647 := ⟨wd_1218, wd_131, mh_X8_at, .inr (.inr ⟨rfl, wd_1215, wd_1216, wd_1217, ⟨_, rfl, pd_X8_at⟩, 8, _, TX8, 3, rfl, rfl⟩)⟩
theorem ck_RX11_473_1650 : COK2 RX11 vwCl gTbl 473 0 con_1650 := ⟨wd_1218, wd_131, mh_X8_at, .inr (.inr ⟨rfl, wd_1215, wd_1216, wd_1217, ⟨_, rfl, pd_X8_at⟩, 8, _, TX8, 3, rfl, rfl⟩)⟩
theorem ck_RX11_473_1653 : COK2 RX11 vwCl gTbl 473 0 con_1653 := ⟨wd_1218, wd_131, mh_X8_at, .inr (.inr ⟨rfl, wd_1215, wd_1216, wd_1217, ⟨_, rfl, pd_X8_at⟩, 8, _, TX8, 3, rfl, rfl⟩)⟩
theorem ck_RX11_473_1656 : COK2 RX11 vwCl gTbl 473 0 con_1656 := ⟨wd_1218, wd_131, mh_X8_at, .inr (.inr ⟨rfl, wd_1215, wd_1216, wd_1217, ⟨_, rfl, pd_X8_at⟩, 8, _, TX8, 3, rfl, rfl⟩)⟩
theorem ck_RX11_473_1659 : COK2 RX11 vwCl gTbl 473 0 con_1659 := ⟨wd_1218, wd_131, mh_X8_at, .inr (.inr ⟨rfl, wd_1215, wd_1216, wd_1217, ⟨_, rfl, pd_X8_at⟩, 8, _, TX8, 3, rfl, rfl⟩)⟩
theorem ck_RX11_473_1662 : COK2 RX11 vwCl gTbl 473 0 con_1662 := ⟨wd_1218, wd_131, mh_X8_at, .inr (.inr ⟨rfl, wd_1215, wd_1216, wd_1217, ⟨_, rfl, pd_X8_at⟩, 8, _, TX8, 3, rfl, rfl⟩)⟩
theorem ck_RX11_473_1665 : COK2 RX11 vwCl gTbl 473 0 con_1665 := ⟨wd_1218, wd_131, mh_X8_at, .inr (.inr ⟨rfl, wd_1215, wd_1216, wd_1217, ⟨_, rfl, pd_X8_at⟩, 8, _, TX8, 3, rfl, rfl⟩)⟩
theorem ck_RX11_473_1668 : COK2 RX11 vwCl gTbl 473 0 con_1668 := ⟨wd_1218, wd_131, mh_X8_at, .inr (.inr ⟨rfl, wd_1215, wd_1216, wd_1217, ⟨_, rfl, pd_X8_at⟩, 8, _, TX8, 3, rfl, rfl⟩)⟩
theorem ck_RX11_473_1671 : COK2 RX11 vwCl gTbl 473 0 con_1671 := ⟨wd_1218, wd_131, mh_X8_at, .inr (.inr ⟨rfl, wd_1215, wd_1216, wd_1217, ⟨_, rfl, pd_X8_at⟩, 8, _, TX8, 3, rfl, rfl⟩)⟩
theorem ck_RX11_473_1674 : COK2 RX11 vwCl gTbl 473 0 con_1674 := ⟨wd_1218, wd_131, mh_X8_at, .inr (.inr ⟨rfl, wd_1215, wd_1216, wd_1217, ⟨_, rfl, pd_X8_at⟩, 8, _, TX8, 3, rfl, rfl⟩)⟩
theorem ck_RX11_473_1677 : COK2 RX11 vwCl gTbl 473 0 con_1677 := ⟨wd_1218, wd_131, mh_X8_at, .inr (.inr ⟨rfl, wd_1215, wd_1216, wd_1217, ⟨_, rfl, pd_X8_at⟩, 8, _, TX8, 3, rfl, rfl⟩)⟩
theorem ck_RX11_473_1680 : COK2 RX11 vwCl gTbl 473 0 con_1680 := ⟨wd_1218, wd_131, mh_X8_at, .inr (.inr ⟨rfl, wd_1215, wd_1216, wd_1217, ⟨_, rfl, pd_X8_at⟩, 8, _, TX8, 3, rfl, rfl⟩)⟩
theorem ck_RX11_473_1631 : COK2 RX11 vwCl gTbl 473 0 con_1631 := ⟨wd_1218, wd_131, mh_X8_at, .inr (.inr ⟨rfl, wd_1215, wd_1216, wd_1217, ⟨_, rfl, pd_X8_at⟩, 8, _, TX8, 3, rfl, rfl⟩)⟩
theorem ck_RX11_473_1634 : COK2 RX11 vwCl gTbl 473 0 con_1634 := ⟨wd_1218, wd_131, mh_X8_at, .inr (.inr ⟨rfl, wd_1215, wd_1216, wd_1217, ⟨_, rfl, pd_X8_at⟩, 8, _, TX8, 3, rfl, rfl⟩)⟩
theorem ck_RX11_473_1637 : COK2 RX11 vwCl gTbl 473 0 con_1637 := ⟨wd_1218, wd_131, mh_X8_at, .inr (.inr ⟨rfl, wd_1215, wd_1216, wd_1217, ⟨_, rfl, pd_X8_at⟩, 8, _, TX8, 3, rfl, rfl⟩)⟩
theorem ck_RX11_473_1640 : COK2 RX11 vwCl gTbl 473 0 con_1640 := ⟨wd_1218, wd_131, mh_X8_at, .inr (.inr ⟨rfl, wd_1215, wd_1216, wd_1217, ⟨_, rfl, pd_X8_at⟩, 8, _, TX8, 3, rfl, rfl⟩)⟩
theorem ck_RX11_473_1643 : COK2 RX11 vwCl gTbl 473 0 con_1643 := ⟨wd_1218, wd_131, mh_X8_at, .inr (.inr ⟨rfl, wd_1215, wd_1216, wd_1217, ⟨_, rfl, pd_X8_at⟩, 8, _, TX8, 3, rfl, rfl⟩)⟩
theorem ck_RX11_473_1646 : COK2 RX11 vwCl gTbl 473 0 con_1646 := ⟨wd_1218, wd_131, mh_X8_at, .inr (.inr ⟨rfl, wd_1215, wd_1216, wd_1217, ⟨_, rfl, pd_X8_at⟩, 8, _, TX8, 3, rfl, rfl⟩)⟩
theorem ck_RX11_473_1649 : COK2 RX11 vwCl gTbl 473 0 con_1649 := ⟨wd_1218, wd_131, mh_X8_at, .inr (.inr ⟨rfl, wd_1215, wd_1216, wd_1217, ⟨_, rfl, pd_X8_at⟩, 8, _, TX8, 3, rfl, rfl⟩)⟩
theorem ck_RX11_473_1652 : COK2 RX11 vwCl gTbl 473 0 con_1652 := ⟨wd_1218, wd_131, mh_X8_at, .inr (.inr ⟨rfl, wd_1215, wd_1216, wd_1217, ⟨_, rfl, pd_X8_at⟩, 8, _, TX8, 3, rfl, rfl⟩)⟩
theorem ck_RX11_473_1655 : COK2 RX11 vwCl gTbl 473 0 con_1655 := ⟨wd_1218, wd_131, mh_X8_at, .inr (.inr ⟨rfl, wd_1215, wd_1216, wd_1217, ⟨_, rfl, pd_X8_at⟩, 8, _, TX8, 3, rfl, rfl⟩)⟩
theorem ck_RX11_473_1658 : COK2 RX11 vwCl gTbl 473 0 con_1658 := ⟨wd_1218, wd_131, mh_X8_at, .inr (.inr ⟨rfl, wd_1215, wd_1216, wd_1217, ⟨_, rfl, pd_X8_at⟩, 8, _, TX8, 3, rfl, rfl⟩)⟩
theorem ck_RX11_473_1661 : COK2 RX11 vwCl gTbl 473 0 con_1661 := ⟨wd_1218, wd_131, mh_X8_at, .inr (.inr ⟨rfl, wd_1215, wd_1216, wd_1217, ⟨_, rfl, pd_X8_at⟩, 8, _, TX8, 3, rfl, rfl⟩)⟩
theorem ck_RX11_473_1664 : COK2 RX11 vwCl gTbl 473 0 con_1664 := ⟨wd_1218, wd_131, mh_X8_at, .inr (.inr ⟨rfl, wd_1215, wd_1216, wd_1217, ⟨_, rfl, pd_X8_at⟩, 8, _, TX8, 3, rfl, rfl⟩)⟩
theorem ck_RX11_473_1667 : COK2 RX11 vwCl gTbl 473 0 con_1667 := ⟨wd_1218, wd_131, mh_X8_at, .inr (.inr ⟨rfl, wd_1215, wd_1216, wd_1217, ⟨_, rfl, pd_X8_at⟩, 8, _, TX8, 3, rfl, rfl⟩)⟩
theorem ck_RX11_473_1670 : COK2 RX11 vwCl gTbl 473 0 con_1670 := ⟨wd_1218, wd_131, mh_X8_at, .inr (.inr ⟨rfl, wd_1215, wd_1216, wd_1217, ⟨_, rfl, pd_X8_at⟩, 8, _, TX8, 3, rfl, rfl⟩)⟩
theorem ck_RX11_473_1673 : COK2 RX11 vwCl gTbl 473 0 con_1673 := ⟨wd_1218, wd_131, mh_X8_at, .inr (.inr ⟨rfl, wd_1215, wd_1216, wd_1217, ⟨_, rfl, pd_X8_at⟩, 8, _, TX8, 3, rfl, rfl⟩)⟩
theorem ck_RX11_473_1676 : COK2 RX11 vwCl gTbl 473 0 con_1676 := ⟨wd_1218, wd_131, mh_X8_at, .inr (.inr ⟨rfl, wd_1215, wd_1216, wd_1217, ⟨_, rfl, pd_X8_at⟩, 8, _, TX8, 3, rfl, rfl⟩)⟩
theorem ck_RX11_473_1679 : COK2 RX11 vwCl gTbl 473 0 con_1679 := ⟨wd_1218, wd_131, mh_X8_at, .inr (.inr ⟨rfl, wd_1215, wd_1216, wd_1217, ⟨_, rfl, pd_X8_at⟩, 8, _, TX8, 3, rfl, rfl⟩)⟩
noncomputable def ct_1682 : CTB2 := [(21, 473, 0, con_1679, [1, 3]), (21, 473, 0, con_1676, [1, 3]), (21, 473, 0, con_1673, [1, 3]), (21, 473, 0, con_1670, [1, 3]), (21, 473, 0, con_1667, [1, 3]), (21, 473, 0, con_1664, [1, 3]), (21, 473, 0, con_1661, [1, 3]), (21, 473, 0, con_1658, [1, 3]), (21, 473, 0, con_1655, [1, 3]), (21, 473, 0, con_1652, [1, 3]), (21, 473, 0, con_1649, [1, 3]), (21, 473, 0, con_1646, [1, 3]), (21, 473, 0, con_1643, [1, 3]), (21, 473, 0, con_1640, [1, 3]), (21, 473, 0, con_1637, [1, 3]), (21, 473, 0, con_1634, [1, 3]), (21, 473, 0, con_1631, [1, 3]), (21, 473, 0, con_1626, [1, 3]), (21, 473, 0, con_1623, [1, 3]), (21, 473, 0, con_1620, [1, 3]), (36, 473, 0, con_1680, [1, 3]), (36, 473, 0, con_1677, [1, 3]), (36, 473, 0, con_1674, [1, 3]), (36, 473, 0, con_1671, [1, 3]), (36, 473, 0, con_1668, [1, 3]), (36, 473, 0, con_1665, [1, 3]), (36, 473, 0, con_1662, [1, 3]), (36, 473, 0, con_1659, [1, 3]), (36, 473, 0, con_1656, [1, 3]), (36, 473, 0, con_1653, [1, 3]), (36, 473, 0, con_1650, [1, 3]), (36, 473, 0, con_1647, [1, 3]), (36, 473, 0, con_1644, [1, 3]), (36, 473, 0, con_1641, [1, 3]), (36, 473, 0, con_1638, [1, 3]), (36, 473, 0, con_1635, [1, 3]), (36, 473, 0, con_1632, [1, 3]), (36, 473, 0, con_1627, [1, 3]), (36, 473, 0, con_1624, [1, 3]), (36, 473, 0, con_1621, [1, 3]), (60, 473, 0, con_1681, [1, 3]), (60, 473, 0, con_1678, [1, 3]), (60, 473, 0, con_1675, [1, 3]), (60, 473, 0, con_1672, [1, 3]), (60, 473, 0, con_1669, [1, 3]), (60, 473, 0, con_1666, [1, 3]), (60, 473, 0, con_1663, [1, 3]), (60, 473, 0, con_1660, [1, 3]), (60, 473, 0, con_1657, [1, 3]), (60, 473, 0, con_1654, [1, 3]), (60, 473, 0, con_1651, [1, 3]), (60, 473, 0, con_1648, [1, 3]), (60, 473, 0, con_1645, [1, 3]), (60, 473, 0, con_1642, [1, 3]), (60, 473, 0, con_1639, [1, 3]), (60, 473, 0, con_1636, [1, 3]), (60, 473, 0, con_1633, [1, 3]), (60, 473, 0, con_1628, [1, 3]), (60, 473, 0, con_1625, [1, 3]), (60, 473, 0, con_1622, [1, 3])]
noncomputable def gi_1280 : GI := jl_n [gp_656, jl_z 12]
noncomputable def gi_1281 : GI := jl_n [gp_656, gp_628]
noncomputable def cu_1682_0 : List CUT2 := [((2, [lq 0 6 0, lq 1 0 2, lq 2 0 0], [], gi_1280, hq_892), [], ([], 60)), ((2, [lq 0 6 0, lq 1 0 2, lq 2 0 3, lq 3 1 97], [], gi_1281, hq_892), [], ([], 57)), ((2, [lq 0 6 0, lq 1 0 2, lq 2 0 6, lq 3 1 97], [], gi_1281, hq_892), [], ([], 54)), ((2, [lq 0 6 0, lq 1 0 2, lq 2 0 9, lq 3 1 97], [], gi_1281, hq_892), [], ([], 51)), ((2, [lq 0 6 0, lq 1 0 2, lq 2 0 12, lq 3 1 97], [], gi_1281, hq_892), [], ([], 48)), ((2, [lq 0 6 0, lq 1 0 2, lq 2 0 15, lq 3 1 97], [], gi_1281, hq_892), [], ([], 45)), ((2, [lq 0 6 0, lq 1 0 2, lq 2 0 18, lq 3 1 97], [], gi_1281, hq_892), [], ([], 42)), ((2, [lq 0 6 0, lq 1 0 2, lq 2 0 21, lq 3 1 97], [], gi_1281, hq_892), [], ([], 39)), ((2, [lq 0 6 0, lq 1 0 2, lq 2 0 24, lq 3 1 97], [], gi_1281, hq_892), [], ([], 36)), ((2, [lq 0 6 0, lq 1 0 2, lq 2 0 27, lq 3 1 97], [], gi_1281, hq_892), [], ([], 33)), ((2, [lq 0 6 0, lq 1 0 2, lq 2 0 30, lq 3 1 97], [], gi_1281, hq_892), [], ([], 30)), ((2, [lq 0 6 0, lq 1 0 2, lq 2 0 33, lq 3 1 97], [], gi_1281, hq_892), [], ([], 27)), ((2, [lq 0 6 0, lq 1 0 2, lq 2 0 36, lq 3 1 97], [], gi_1281, hq_892), [], ([], 24)), ((2, [lq 0 6 0, lq 1 0 2, lq 2 0 39, lq 3 1 97], [], gi_1281, hq_892), [], ([], 21)), ((2, [lq 0 6 0, lq 1 0 2, lq 2 0 42, lq 3 1 97], [], gi_1281, hq_892), [], ([], 18)), ((2, [lq 0 6 0, lq 1 0 2, lq 2 0 45, lq 3 1 97], [], gi_1281, hq_892), [], ([], 15)), ((2, [lq 0 6 0, lq 1 0 2, lq 2 0 48, lq 3 1 97], [], gi_1281, hq_892), [], ([], 12))]
noncomputable def cu_1682_1 : List CUT2 := [((2, [lq 0 6 0, lq 1 0 2, lq 2 0 51, lq 3 1 97], [], gi_1281, hq_892), [], ([], 9)), ((2, [lq 0 6 0, lq 1 0 2, lq 2 0 54, lq 3 1 97], [], gi_1281, hq_892), [], ([], 6)), ((2, [lq 0 6 0, lq 1 0 2, lq 2 0 57, lq 3 1 97], [], gi_1281, hq_892), [], ([], 3)), ((2, [lq 0 6 0, lq 1 0 2, lq 2 0 60, lq 3 1 97], [], gi_1281, hq_892), [], ([], 0))]
noncomputable def cu_1682 : List CUT2 := cu_1682_0 ++ (cu_1682_1)
theorem ch_1682 : staG tb_X11_isAsSeen 1 bt_RX11 [] ct_1682 [] [] cu_1682 44 con_1682 = true := by decide +kernel
theorem cc_1682_0 : cu_1682_0.all (cutG tb_X11_isAsSeen 1 bt_RX11 [] ct_1682 [] [] cu_1682 44 con_1682) = true := by decide +kernel
theorem cc_1682_1 : cu_1682_1.all (cutG tb_X11_isAsSeen 1 bt_RX11 [] ct_1682 [] [] cu_1682 44 con_1682) = true := by decide +kernel
theorem cto_1682 (l : Launch) : CTOK2 l RX11 vwCl gTbl ct_1682 := ct2_cons (vl_1679 l) ck_RX11_473_1679 (ct2_cons (vl_1676 l) ck_RX11_473_1676 (ct2_cons (vl_1673 l) ck_RX11_473_1673 (ct2_cons (vl_1670 l) ck_RX11_473_1670 (ct2_cons (vl_1667 l) ck_RX11_473_1667 (ct2_cons (vl_1664 l) ck_RX11_473_1664 (ct2_cons (vl_1661 l) ck_RX11_473_1661 (ct2_cons (vl_1658 l) ck_RX11_473_1658 (ct2_cons (vl_1655 l) ck_RX11_473_1655 (ct2_cons (vl_1652 l) ck_RX11_473_1652 (ct2_cons (vl_1649 l) ck_RX11_473_1649 (ct2_cons (vl_1646 l) ck_RX11_473_1646 (ct2_cons (vl_1643 l) ck_RX11_473_1643 (ct2_cons (vl_1640 l) ck_RX11_473_1640 (ct2_cons (vl_1637 l) ck_RX11_473_1637 (ct2_cons (vl_1634 l) ck_RX11_473_1634 (ct2_cons (vl_1631 l) ck_RX11_473_1631 (ct2_cons (vl_1626 l) ck_RX11_473_1626 (ct2_cons (vl_1623 l) ck_RX11_473_1623 (ct2_cons (vl_1620 l) ck_RX11_473_1620 (ct2_cons (vl_1680 l) ck_RX11_473_1680 (ct2_cons (vl_1677 l) ck_RX11_473_1677 (ct2_cons (vl_1674 l) ck_RX11_473_1674 (ct2_cons (vl_1671 l) ck_RX11_473_1671 (ct2_cons (vl_1668 l) ck_RX11_473_1668 (ct2_cons (vl_1665 l) ck_RX11_473_1665 (ct2_cons (vl_1662 l) ck_RX11_473_1662 (ct2_cons (vl_1659 l) ck_RX11_473_1659 (ct2_cons (vl_1656 l) ck_RX11_473_1656 (ct2_cons (vl_1653 l) ck_RX11_473_1653 (ct2_cons (vl_1650 l) ck_RX11_473_1650 (ct2_cons (vl_1647 l) ck_RX11_473_1647 (ct2_cons (vl_1644 l) ck_RX11_473_1644 (ct2_cons (vl_1641 l) ck_RX11_473_1641 (ct2_cons (vl_1638 l) ck_RX11_473_1638 (ct2_cons (vl_1635 l) ck_RX11_473_1635 (ct2_cons (vl_1632 l) ck_RX11_473_1632 (ct2_cons (vl_1627 l) ck_RX11_473_1627 (ct2_cons (vl_1624 l) ck_RX11_473_1624 (ct2_cons (vl_1621 l) ck_RX11_473_1621 (ct2_cons (vl_1681 l) ck_RX11_473_1681 (ct2_cons (vl_1678 l) ck_RX11_473_1678 (ct2_cons (vl_1675 l) ck_RX11_473_1675 (ct2_cons (vl_1672 l) ck_RX11_473_1672 (ct2_cons (vl_1669 l) ck_RX11_473_1669 (ct2_cons (vl_1666 l) ck_RX11_473_1666 (ct2_cons (vl_1663 l) ck_RX11_473_1663 (ct2_cons (vl_1660 l) ck_RX11_473_1660 (ct2_cons (vl_1657 l) ck_RX11_473_1657 (ct2_cons (vl_1654 l) ck_RX11_473_1654 (ct2_cons (vl_1651 l) ck_RX11_473_1651 (ct2_cons (vl_1648 l) ck_RX11_473_1648 (ct2_cons (vl_1645 l) ck_RX11_473_1645 (ct2_cons (vl_1642 l) ck_RX11_473_1642 (ct2_cons (vl_1639 l) ck_RX11_473_1639 (ct2_cons (vl_1636 l) ck_RX11_473_1636 (ct2_cons (vl_1633 l) ck_RX11_473_1633 (ct2_cons (vl_1628 l) ck_RX11_473_1628 (ct2_cons (vl_1625 l) ck_RX11_473_1625 (ct2_cons (vl_1622 l) ck_RX11_473_1622 (ct2_nil))))))))))))))))))))))))))))))))))))))))))))))))))))))))))))
theorem vl_1682 (l : Launch) : Vld2 l vwCl gTbl con_1682 := conR_ok3 gT_all (hd_1682) rfl pn_RX11 tk_X11_isAsSeen bo_RX11 xo_RX11 (cto_1682 l) ch_1682 (cut_app (cut_all cc_1682_0) (cut_all cc_1682_1))
/-- RookHusting guessAll -/
noncomputable def gi_1282 : GI := jl_n [gp_655, gp_534]
noncomputable def gi_1283 : GI := jl_n [gp_655, gp_534, gp_632]
noncomputable def con_1683 : Con2 := ((yX11_guessAll, cX11_guessAll, 4, none), (6, 151), ([(6, 0, 0), (0, 2, 0), (1, 2, 0)], gi_1282, hc_202, rq_6), [((9, 0, 0), gi_1283, hq_893, [], tg_1)])
theorem hd_1683 : con_1683.1 = (yX11_guessAll, cX11_guessAll, 4, none) := rfl
theorem ck_RX11_483_1682 : COK2 RX11 vwCl gTbl 483 0 con_1682 := ⟨wd_1230, wd_125, mh_X11_isAsSeen, .inr (.inr ⟨rfl, wd_1227, wd_1229, wd_43, ⟨_, rfl, pd_X11_isAsSeen⟩, 11, _, TX11, 16, rfl, rfl⟩)⟩
noncomputable def ct_1683 : CTB2 := [(1, 208, 0, con_900, [0, 1, 2, 3, 4, 5, 6, 7, 8, 9, 10, 11, 12, 13, 14, 15, 16, 17, 18, 19, 20, 21, 22, 23, 24, 25, 26]), (36, 332, 0, con_1212, [28, 2, 29, 4, 30, 5, 31, 6]), (45, 480, 0, con_859, [28, 29]), (73, 372, 0, con_899, [32, 3, 28, 16, 33, 18, 34, 30, 35, 29, 36, 22, 23, 37, 38, 39, 31]), (78, 483, 0, con_1682, [0, 40, 41, 42, 32, 33]), (105, 486, 0, con_1522, [27, 33, 43]), (105, 486, 0, con_1527, [27, 33, 43])]
noncomputable def gi_1284 : GI := jl_n [gp_655, gp_534, gp_633]
noncomputable def cu_1683 : List CUT2 := [((14, [lq 0 6 0, lq 1 0 2, lq 2 1 2, lq 3 1 204], [], gi_1284, hq_894), rq_6, ([(204, (-1))], 5))]
theorem ch_1683 : staG tb_X11_guessAll 1 bt_RX11 [] ct_1683 [] [] cu_1683 48 con_1683 = true := by decide +kernel
theorem cc_1683 : cu_1683.all (cutG tb_X11_guessAll 1 bt_RX11 [] ct_1683 [] [] cu_1683 48 con_1683) = true := by decide +kernel
theorem cto_1683 (l : Launch) : CTOK2 l RX11 vwCl gTbl ct_1683 := ct2_cons (vl_900 l) ck_RX11_208_900 (ct2_cons (vl_1212 l) ck_RX11_332_1212 (ct2_cons (vl_859 l) ck_RX11_480_859 (ct2_cons (vl_899 l) ck_RX11_372_899 (ct2_cons (vl_1682 l) ck_RX11_483_1682 (ct2_cons (vl_1522 l) ck_RX11_486_1522 (ct2_cons (vl_1527 l) ck_RX11_486_1527 (ct2_nil)))))))
theorem vl_1683 (l : Launch) : Vld2 l vwCl gTbl con_1683 := conR_ok3 gT_all (hd_1683) rfl pn_RX11 tk_X11_guessAll bo_RX11 xo_RX11 (cto_1683 l) ch_1683 (cut_all cc_1683)
/-- RookHusting isAsSeen -/
noncomputable def gi_1285 : GI := jl_n [gp_657, jl_z 9]
noncomputable def gi_1286 : GI := jl_n [gp_657, jl_z 10]
noncomputable def con_1684 : Con2 := ((yX11_isAsSeen, cX11_isAsSeen, 4, (some .boolean)), (1, 22), ([(6, 0, 0), (0, 2, 0)], gi_1285, hc_201, []), [((0, 0, 0), gi_1286, hq_892, [], [1]), ((0, 1, 0), gi_1286, hq_892, [], [1])])
theorem hd_1684 : con_1684.1 = (yX11_isAsSeen, cX11_isAsSeen, 4, (some .boolean)) := rfl
noncomputable def ct_1684 : CTB2 := [(21, 473, 0, con_1623, [1, 3]), (21, 473, 0, con_1620, [1, 3]), (36, 473, 0, con_1624, [1, 3]), (36, 473, 0, con_1621, [1, 3]), (60, 473, 0, con_1625, [1, 3]), (60, 473, 0, con_1622, [1, 3])]
noncomputable def gi_1287 : GI := jl_n [gp_657, jl_z 12]
noncomputable def gi_1288 : GI := jl_n [gp_657, gp_628]
noncomputable def cu_1684 : List CUT2 := [((2, [lq 0 6 0, lq 1 0 2, lq 2 0 0], [], gi_1287, hq_892), [], ([], 6)), ((2, [lq 0 6 0, lq 1 0 2, lq 2 0 3, lq 3 1 97], [], gi_1288, hq_892), [], ([], 3)), ((2, [lq 0 6 0, lq 1 0 2, lq 2 0 6, lq 3 1 97], [], gi_1288, hq_892), [], ([], 0))]
theorem ch_1684 : staG tb_X11_isAsSeen 1 bt_RX11 [] ct_1684 [] [] cu_1684 44 con_1684 = true := by decide +kernel
theorem cc_1684 : cu_1684.all (cutG tb_X11_isAsSeen 1 bt_RX11 [] ct_1684 [] [] cu_1684 44 con_1684) = true := by decide +kernel
theorem cto_1684 (l : Launch) : CTOK2 l RX11 vwCl gTbl ct_1684 := ct2_cons (vl_1623 l) ck_RX11_473_1623 (ct2_cons (vl_1620 l) ck_RX11_473_1620 (ct2_cons (vl_1624 l) ck_RX11_473_1624 (ct2_cons (vl_1621 l) ck_RX11_473_1621 (ct2_cons (vl_1625 l) ck_RX11_473_1625 (ct2_cons (vl_1622 l) ck_RX11_473_1622 (ct2_nil))))))
theorem vl_1684 (l : Launch) : Vld2 l vwCl gTbl con_1684 := conR_ok3 gT_all (hd_1684) rfl pn_RX11 tk_X11_isAsSeen bo_RX11 xo_RX11 (cto_1684 l) ch_1684 (cut_all cc_1684)
/-- RookHusting guessAll -/
noncomputable def gi_1289 : GI := jl_n [gp_655, gp_533]
noncomputable def gi_1290 : GI := jl_n [gp_655, gp_533, gp_632]
noncomputable def con_1685 : Con2 := ((yX11_guessAll, cX11_guessAll, 4, none), (6, 151), ([(6, 0, 0), (0, 2, 0), (1, 2, 0)], gi_1289, hc_202, rq_6), [((9, 0, 0), gi_1290, hq_893, [], tg_1)])
theorem hd_1685 : con_1685.1 = (yX11_guessAll, cX11_guessAll, 4, none) := rfl
theorem ck_RX11_483_1684 : COK2 RX11 vwCl gTbl 483 0 con_1684 := ⟨wd_1230, wd_125, mh_X11_isAsSeen, .inr (.inr ⟨rfl, wd_1227, wd_1229, wd_43, ⟨_, rfl, pd_X11_isAsSeen⟩, 11, _, TX11, 16, rfl, rfl⟩)⟩
noncomputable def ct_1685 : CTB2 := [(1, 208, 0, con_900, [0, 1, 2, 3, 4, 5, 6, 7, 8, 9, 10, 11, 12, 13, 14, 15, 16, 17, 18, 19, 20, 21, 22, 23, 24, 25, 26]), (36, 332, 0, con_1212, [28, 2, 29, 4, 30, 5, 31, 6]), (45, 480, 0, con_859, [28, 29]), (73, 372, 0, con_899, [32, 3, 28, 16, 33, 18, 34, 30, 35, 29, 36, 22, 23, 37, 38, 39, 31]), (78, 483, 0, con_1684, [0, 40, 41, 42, 32, 33]), (105, 486, 0, con_1522, [27, 33, 43]), (105, 486, 0, con_1527, [27, 33, 43])]
noncomputable def gi_1291 : GI := jl_n [gp_655, gp_533, gp_633]
noncomputable def cu_1685 : List CUT2 := [((14, [lq 0 6 0, lq 1 0 2, lq 2 1 2, lq 3 1 204], [], gi_1291, hq_894), rq_6, ([(204, (-1))], 5))]
theorem ch_1685 : staG tb_X11_guessAll 1 bt_RX11 [] ct_1685 [] [] cu_1685 48 con_1685 = true := by decide +kernel
theorem cc_1685 : cu_1685.all (cutG tb_X11_guessAll 1 bt_RX11 [] ct_1685 [] [] cu_1685 48 con_1685) = true := by decide +kernel
theorem cto_1685 (l : Launch) : CTOK2 l RX11 vwCl gTbl ct_1685 := ct2_cons (vl_900 l) ck_RX11_208_900 (ct2_cons (vl_1212 l) ck_RX11_332_1212 (ct2_cons (vl_859 l) ck_RX11_480_859 (ct2_cons (vl_899 l) ck_RX11_372_899 (ct2_cons (vl_1684 l) ck_RX11_483_1684 (ct2_cons (vl_1522 l) ck_RX11_486_1522 (ct2_cons (vl_1527 l) ck_RX11_486_1527 (ct2_nil)))))))
theorem vl_1685 (l : Launch) : Vld2 l vwCl gTbl con_1685 := conR_ok3 gT_all (hd_1685) rfl pn_RX11 tk_X11_guessAll bo_RX11 xo_RX11 (cto_1685 l) ch_1685 (cut_all cc_1685)
/-- RookHusting isAsSeen -/
noncomputable def gi_1292 : GI := jl_n [gp_658, jl_z 9]
noncomputable def gi_1293 : GI := jl_n [gp_658, jl_z 10]
noncomputable def con_1686 : Con2 := ((yX11_isAsSeen, cX11_isAsSeen, 4, (some .boolean)), (1, 22), ([(6, 0, 0), (0, 2, 0)], gi_1292, hc_201, []), [((0, 0, 0), gi_1293, hq_892, [], [1]), ((0, 1, 0), gi_1293, hq_892, [], [1])])
theorem hd_1686 : con_1686.1 = (yX11_isAsSeen, cX11_isAsSeen, 4, (some .boolean)) := rfl
noncomputable def ct_1686 : CTB2 := [(21, 473, 0, con_1676, [1, 3]), (21, 473, 0, con_1673, [1, 3]), (21, 473, 0, con_1670, [1, 3]), (21, 473, 0, con_1667, [1, 3]), (21, 473, 0, con_1664, [1, 3]), (21, 473, 0, con_1661, [1, 3]), (21, 473, 0, con_1658, [1, 3]), (21, 473, 0, con_1655, [1, 3]), (21, 473, 0, con_1652, [1, 3]), (21, 473, 0, con_1649, [1, 3]), (21, 473, 0, con_1646, [1, 3]), (21, 473, 0, con_1643, [1, 3]), (21, 473, 0, con_1640, [1, 3]), (21, 473, 0, con_1637, [1, 3]), (21, 473, 0, con_1634, [1, 3]), (21, 473, 0, con_1631, [1, 3]), (21, 473, 0, con_1626, [1, 3]), (21, 473, 0, con_1623, [1, 3]), (21, 473, 0, con_1620, [1, 3]), (36, 473, 0, con_1677, [1, 3]), (36, 473, 0, con_1674, [1, 3]), (36, 473, 0, con_1671, [1, 3]), (36, 473, 0, con_1668, [1, 3]), (36, 473, 0, con_1665, [1, 3]), (36, 473, 0, con_1662, [1, 3]), (36, 473, 0, con_1659, [1, 3]), (36, 473, 0, con_1656, [1, 3]), (36, 473, 0, con_1653, [1, 3]), (36, 473, 0, con_1650, [1, 3]), (36, 473, 0, con_1647, [1, 3]), (36, 473, 0, con_1644, [1, 3]), (36, 473, 0, con_1641, [1, 3]), (36, 473, 0, con_1638, [1, 3]), (36, 473, 0, con_1635, [1, 3]), (36, 473, 0, con_1632, [1, 3]), (36, 473, 0, con_1627, [1, 3]), (36, 473, 0, con_1624, [1, 3]), (36, 473, 0, con_1621, [1, 3]), (60, 473, 0, con_1678, [1, 3]), (60, 473, 0, con_1675, [1, 3]), (60, 473, 0, con_1672, [1, 3]), (60, 473, 0, con_1669, [1, 3]), (60, 473, 0, con_1666, [1, 3]), (60, 473, 0, con_1663, [1, 3]), (60, 473, 0, con_1660, [1, 3]), (60, 473, 0, con_1657, [1, 3]), (60, 473, 0, con_1654, [1, 3]), (60, 473, 0, con_1651, [1, 3]), (60, 473, 0, con_1648, [1, 3]), (60, 473, 0, con_1645, [1, 3]), (60, 473, 0, con_1642, [1, 3]), (60, 473, 0, con_1639, [1, 3]), (60, 473, 0, con_1636, [1, 3]), (60, 473, 0, con_1633, [1, 3]), (60, 473, 0, con_1628, [1, 3]), (60, 473, 0, con_1625, [1, 3]), (60, 473, 0, con_1622, [1, 3])]
noncomputable def gi_1294 : GI := jl_n [gp_658, jl_z 12]
noncomputable def gi_1295 : GI := jl_n [gp_658, gp_628]
noncomputable def cu_1686_0 : List CUT2 := [((2, [lq 0 6 0, lq 1 0 2, lq 2 0 0], [], gi_1294, hq_892), [], ([], 57)), ((2, [lq 0 6 0, lq 1 0 2, lq 2 0 3, lq 3 1 97], [], gi_1295, hq_892), [], ([], 54)), ((2, [lq 0 6 0, lq 1 0 2, lq 2 0 6, lq 3 1 97], [], gi_1295, hq_892), [], ([], 51)), ((2, [lq 0 6 0, lq 1 0 2, lq 2 0 9, lq 3 1 97], [], gi_1295, hq_892), [], ([], 48)), ((2, [lq 0 6 0, lq 1 0 2, lq 2 0 12, lq 3 1 97], [], gi_1295, hq_892), [], ([], 45)), ((2, [lq 0 6 0, lq 1 0 2, lq 2 0 15, lq 3 1 97], [], gi_1295, hq_892), [], ([], 42)), ((2, [lq 0 6 0, lq 1 0 2, lq 2 0 18, lq 3 1 97], [], gi_1295, hq_892), [], ([], 39)), ((2, [lq 0 6 0, lq 1 0 2, lq 2 0 21, lq 3 1 97], [], gi_1295, hq_892), [], ([], 36)), ((2, [lq 0 6 0, lq 1 0 2, lq 2 0 24, lq 3 1 97], [], gi_1295, hq_892), [], ([], 33)), ((2, [lq 0 6 0, lq 1 0 2, lq 2 0 27, lq 3 1 97], [], gi_1295, hq_892), [], ([], 30)), ((2, [lq 0 6 0, lq 1 0 2, lq 2 0 30, lq 3 1 97], [], gi_1295, hq_892), [], ([], 27)), ((2, [lq 0 6 0, lq 1 0 2, lq 2 0 33, lq 3 1 97], [], gi_1295, hq_892), [], ([], 24)), ((2, [lq 0 6 0, lq 1 0 2, lq 2 0 36, lq 3 1 97], [], gi_1295, hq_892), [], ([], 21)), ((2, [lq 0 6 0, lq 1 0 2, lq 2 0 39, lq 3 1 97], [], gi_1295, hq_892), [], ([], 18)), ((2, [lq 0 6 0, lq 1 0 2, lq 2 0 42, lq 3 1 97], [], gi_1295, hq_892), [], ([], 15)), ((2, [lq 0 6 0, lq 1 0 2, lq 2 0 45, lq 3 1 97], [], gi_1295, hq_892), [], ([], 12)), ((2, [lq 0 6 0, lq 1 0 2, lq 2 0 48, lq 3 1 97], [], gi_1295, hq_892), [], ([], 9))]
noncomputable def cu_1686_1 : List CUT2 := [((2, [lq 0 6 0, lq 1 0 2, lq 2 0 51, lq 3 1 97], [], gi_1295, hq_892), [], ([], 6)), ((2, [lq 0 6 0, lq 1 0 2, lq 2 0 54, lq 3 1 97], [], gi_1295, hq_892), [], ([], 3)), ((2, [lq 0 6 0, lq 1 0 2, lq 2 0 57, lq 3 1 97], [], gi_1295, hq_892), [], ([], 0))]
noncomputable def cu_1686 : List CUT2 := cu_1686_0 ++ (cu_1686_1)
theorem ch_1686 : staG tb_X11_isAsSeen 1 bt_RX11 [] ct_1686 [] [] cu_1686 44 con_1686 = true := by decide +kernel
theorem cc_1686_0 : cu_1686_0.all (cutG tb_X11_isAsSeen 1 bt_RX11 [] ct_1686 [] [] cu_1686 44 con_1686) = true := by decide +kernel
theorem cc_1686_1 : cu_1686_1.all (cutG tb_X11_isAsSeen 1 bt_RX11 [] ct_1686 [] [] cu_1686 44 con_1686) = true := by decide +kernel
theorem cto_1686 (l : Launch) : CTOK2 l RX11 vwCl gTbl ct_1686 := ct2_cons (vl_1676 l) ck_RX11_473_1676 (ct2_cons (vl_1673 l) ck_RX11_473_1673 (ct2_cons (vl_1670 l) ck_RX11_473_1670 (ct2_cons (vl_1667 l) ck_RX11_473_1667 (ct2_cons (vl_1664 l) ck_RX11_473_1664 (ct2_cons (vl_1661 l) ck_RX11_473_1661 (ct2_cons (vl_1658 l) ck_RX11_473_1658 (ct2_cons (vl_1655 l) ck_RX11_473_1655 (ct2_cons (vl_1652 l) ck_RX11_473_1652 (ct2_cons (vl_1649 l) ck_RX11_473_1649 (ct2_cons (vl_1646 l) ck_RX11_473_1646 (ct2_cons (vl_1643 l) ck_RX11_473_1643 (ct2_cons (vl_1640 l) ck_RX11_473_1640 (ct2_cons (vl_1637 l) ck_RX11_473_1637 (ct2_cons (vl_1634 l) ck_RX11_473_1634 (ct2_cons (vl_1631 l) ck_RX11_473_1631 (ct2_cons (vl_1626 l) ck_RX11_473_1626 (ct2_cons (vl_1623 l) ck_RX11_473_1623 (ct2_cons (vl_1620 l) ck_RX11_473_1620 (ct2_cons (vl_1677 l) ck_RX11_473_1677 (ct2_cons (vl_1674 l) ck_RX11_473_1674 (ct2_cons (vl_1671 l) ck_RX11_473_1671 (ct2_cons (vl_1668 l) ck_RX11_473_1668 (ct2_cons (vl_1665 l) ck_RX11_473_1665 (ct2_cons (vl_1662 l) ck_RX11_473_1662 (ct2_cons (vl_1659 l) ck_RX11_473_1659 (ct2_cons (vl_1656 l) ck_RX11_473_1656 (ct2_cons (vl_1653 l) ck_RX11_473_1653 (ct2_cons (vl_1650 l) ck_RX11_473_1650 (ct2_cons (vl_1647 l) ck_RX11_473_1647 (ct2_cons (vl_1644 l) ck_RX11_473_1644 (ct2_cons (vl_1641 l) ck_RX11_473_1641 (ct2_cons (vl_1638 l) ck_RX11_473_1638 (ct2_cons (vl_1635 l) ck_RX11_473_1635 (ct2_cons (vl_1632 l) ck_RX11_473_1632 (ct2_cons (vl_1627 l) ck_RX11_473_1627 (ct2_cons (vl_1624 l) ck_RX11_473_1624 (ct2_cons (vl_1621 l) ck_RX11_473_1621 (ct2_cons (vl_1678 l) ck_RX11_473_1678 (ct2_cons (vl_1675 l) ck_RX11_473_1675 (ct2_cons (vl_1672 l) ck_RX11_473_1672 (ct2_cons (vl_1669 l) ck_RX11_473_1669 (ct2_cons (vl_1666 l) ck_RX11_473_1666 (ct2_cons (vl_1663 l) ck_RX11_473_1663 (ct2_cons (vl_1660 l) ck_RX11_473_1660 (ct2_cons (vl_1657 l) ck_RX11_473_1657 (ct2_cons (vl_1654 l) ck_RX11_473_1654 (ct2_cons (vl_1651 l) ck_RX11_473_1651 (ct2_cons (vl_1648 l) ck_RX11_473_1648 (ct2_cons (vl_1645 l) ck_RX11_473_1645 (ct2_cons (vl_1642 l) ck_RX11_473_1642 (ct2_cons (vl_1639 l) ck_RX11_473_1639 (ct2_cons (vl_1636 l) ck_RX11_473_1636 (ct2_cons (vl_1633 l) ck_RX11_473_1633 (ct2_cons (vl_1628 l) ck_RX11_473_1628 (ct2_cons (vl_1625 l) ck_RX11_473_1625 (ct2_cons (vl_1622 l) ck_RX11_473_1622 (ct2_nil)))))))))))))))))))))))))))))))))))))))))))))))))))))))))
theorem vl_1686 (l : Launch) : Vld2 l vwCl gTbl con_1686 := conR_ok3 gT_all (hd_1686) rfl pn_RX11 tk_X11_isAsSeen bo_RX11 xo_RX11 (cto_1686 l) ch_1686 (cut_app (cut_all cc_1686_0) (cut_all cc_1686_1))
/-- RookHusting guessAll -/
noncomputable def gi_1296 : GI := jl_n [gp_655, gp_531]
noncomputable def gi_1297 : GI := jl_n [gp_655, gp_531, gp_632]
noncomputable def con_1687 : Con2 := ((yX11_guessAll, cX11_guessAll, 4, none), (6, 151), ([(6, 0, 0), (0, 2, 0), (1, 2, 0)], gi_1296, hc_202, rq_6), [((9, 0, 0), gi_1297, hq_893, [], tg_1)])
theorem hd_1687 : con_1687.1 = (yX11_guessAll, cX11_guessAll, 4, none) := rfl
theorem ck_RX11_483_1686 : COK2 RX11 vwCl gTbl 483 0 con_1686 := ⟨wd_1230, wd_125, mh_X11_isAsSeen, .inr (.inr ⟨rfl, wd_1227, wd_1229, wd_43, ⟨_, rfl, pd_X11_isAsSeen⟩, 11, _, TX11, 16, rfl, rfl⟩)⟩
noncomputable def ct_1687 : CTB2 := [(1, 208, 0, con_900, [0, 1, 2, 3, 4, 5, 6, 7, 8, 9, 10, 11, 12, 13, 14, 15, 16, 17, 18, 19, 20, 21, 22, 23, 24, 25, 26]), (36, 332, 0, con_1212, [28, 2, 29, 4, 30, 5, 31, 6]), (45, 480, 0, con_859, [28, 29]), (73, 372, 0, con_899, [32, 3, 28, 16, 33, 18, 34, 30, 35, 29, 36, 22, 23, 37, 38, 39, 31]), (78, 483, 0, con_1686, [0, 40, 41, 42, 32, 33]), (105, 486, 0, con_1522, [27, 33, 43]), (105, 486, 0, con_1527, [27, 33, 43])]
noncomputable def gi_1298 : GI := jl_n [gp_655, gp_531, gp_633]
noncomputable def cu_1687 : List CUT2 := [((14, [lq 0 6 0, lq 1 0 2, lq 2 1 2, lq 3 1 204], [], gi_1298, hq_894), rq_6, ([(204, (-1))], 5))]
theorem ch_1687 : staG tb_X11_guessAll 1 bt_RX11 [] ct_1687 [] [] cu_1687 48 con_1687 = true := by decide +kernel
theorem cc_1687 : cu_1687.all (cutG tb_X11_guessAll 1 bt_RX11 [] ct_1687 [] [] cu_1687 48 con_1687) = true := by decide +kernel
theorem cto_1687 (l : Launch) : CTOK2 l RX11 vwCl gTbl ct_1687 := ct2_cons (vl_900 l) ck_RX11_208_900 (ct2_cons (vl_1212 l) ck_RX11_332_1212 (ct2_cons (vl_859 l) ck_RX11_480_859 (ct2_cons (vl_899 l) ck_RX11_372_899 (ct2_cons (vl_1686 l) ck_RX11_483_1686 (ct2_cons (vl_1522 l) ck_RX11_486_1522 (ct2_cons (vl_1527 l) ck_RX11_486_1527 (ct2_nil)))))))
theorem vl_1687 (l : Launch) : Vld2 l vwCl gTbl con_1687 := conR_ok3 gT_all (hd_1687) rfl pn_RX11 tk_X11_guessAll bo_RX11 xo_RX11 (cto_1687 l) ch_1687 (cut_all cc_1687)
/-- RookHusting isAsSeen -/
noncomputable def gi_1299 : GI := jl_n [gp_659, jl_z 9]
noncomputable def gi_1300 : GI := jl_n [gp_659, jl_z 10]
noncomputable def con_1688 : Con2 := ((yX11_isAsSeen, cX11_isAsSeen, 4, (some .boolean)), (1, 22), ([(6, 0, 0), (0, 2, 0)], gi_1299, hc_201, []), [((0, 0, 0), gi_1300, hq_892, [], [1]), ((0, 1, 0), gi_1300, hq_892, [], [1])])
theorem hd_1688 : con_1688.1 = (yX11_isAsSeen, cX11_isAsSeen, 4, (some .boolean)) := rfl
noncomputable def ct_1688 : CTB2 := [(21, 473, 0, con_1673, [1, 3]), (21, 473, 0, con_1670, [1, 3]), (21, 473, 0, con_1667, [1, 3]), (21, 473, 0, con_1664, [1, 3]), (21, 473, 0, con_1661, [1, 3]), (21, 473, 0, con_1658, [1, 3]), (21, 473, 0, con_1655, [1, 3]), (21, 473, 0, con_1652, [1, 3]), (21, 473, 0, con_1649, [1, 3]), (21, 473, 0, con_1646, [1, 3]), (21, 473, 0, con_1643, [1, 3]), (21, 473, 0, con_1640, [1, 3]), (21, 473, 0, con_1637, [1, 3]), (21, 473, 0, con_1634, [1, 3]), (21, 473, 0, con_1631, [1, 3]), (21, 473, 0, con_1626, [1, 3]), (21, 473, 0, con_1623, [1, 3]), (21, 473, 0, con_1620, [1, 3]), (36, 473, 0, con_1674, [1, 3]), (36, 473, 0, con_1671, [1, 3]), (36, 473, 0, con_1668, [1, 3]), (36, 473, 0, con_1665, [1, 3]), (36, 473, 0, con_1662, [1, 3]), (36, 473, 0, con_1659, [1, 3]), (36, 473, 0, con_1656, [1, 3]), (36, 473, 0, con_1653, [1, 3]), (36, 473, 0, con_1650, [1, 3]), (36, 473, 0, con_1647, [1, 3]), (36, 473, 0, con_1644, [1, 3]), (36, 473, 0, con_1641, [1, 3]), (36, 473, 0, con_1638, [1, 3]), (36, 473, 0, con_1635, [1, 3]), (36, 473, 0, con_1632, [1, 3]), (36, 473, 0, con_1627, [1, 3]), (36, 473, 0, con_1624, [1, 3]), (36, 473, 0, con_1621, [1, 3]), (60, 473, 0, con_1675, [1, 3]), (60, 473, 0, con_1672, [1, 3]), (60, 473, 0, con_1669, [1, 3]), (60, 473, 0, con_1666, [1, 3]), (60, 473, 0, con_1663, [1, 3]), (60, 473, 0, con_1660, [1, 3]), (60, 473, 0, con_1657, [1, 3]), (60, 473, 0, con_1654, [1, 3]), (60, 473, 0, con_1651, [1, 3]), (60, 473, 0, con_1648, [1, 3]), (60, 473, 0, con_1645, [1, 3]), (60, 473, 0, con_1642, [1, 3]), (60, 473, 0, con_1639, [1, 3]), (60, 473, 0, con_1636, [1, 3]), (60, 473, 0, con_1633, [1, 3]), (60, 473, 0, con_1628, [1, 3]), (60, 473, 0, con_1625, [1, 3]), (60, 473, 0, con_1622, [1, 3])]
noncomputable def gi_1301 : GI := jl_n [gp_659, jl_z 12]
noncomputable def gi_1302 : GI := jl_n [gp_659, gp_628]
noncomputable def cu_1688_0 : List CUT2 := [((2, [lq 0 6 0, lq 1 0 2, lq 2 0 0], [], gi_1301, hq_892), [], ([], 54)), ((2, [lq 0 6 0, lq 1 0 2, lq 2 0 3, lq 3 1 97], [], gi_1302, hq_892), [], ([], 51)), ((2, [lq 0 6 0, lq 1 0 2, lq 2 0 6, lq 3 1 97], [], gi_1302, hq_892), [], ([], 48)), ((2, [lq 0 6 0, lq 1 0 2, lq 2 0 9, lq 3 1 97], [], gi_1302, hq_892), [], ([], 45)), ((2, [lq 0 6 0, lq 1 0 2, lq 2 0 12, lq 3 1 97], [], gi_1302, hq_892), [], ([], 42)), ((2, [lq 0 6 0, lq 1 0 2, lq 2 0 15, lq 3 1 97], [], gi_1302, hq_892), [], ([], 39)), ((2, [lq 0 6 0, lq 1 0 2, lq 2 0 18, lq 3 1 97], [], gi_1302, hq_892), [], ([], 36)), ((2, [lq 0 6 0, lq 1 0 2, lq 2 0 21, lq 3 1 97], [], gi_1302, hq_892), [], ([], 33)), ((2, [lq 0 6 0, lq 1 0 2, lq 2 0 24, lq 3 1 97], [], gi_1302, hq_892), [], ([], 30)), ((2, [lq 0 6 0, lq 1 0 2, lq 2 0 27, lq 3 1 97], [], gi_1302, hq_892), [], ([], 27)), ((2, [lq 0 6 0, lq 1 0 2, lq 2 0 30, lq 3 1 97], [], gi_1302, hq_892), [], ([], 24)), ((2, [lq 0 6 0, lq 1 0 2, lq 2 0 33, lq 3 1 97], [], gi_1302, hq_892), [], ([], 21)), ((2, [lq 0 6 0, lq 1 0 2, lq 2 0 36, lq 3 1 97], [], gi_1302, hq_892), [], ([], 18)), ((2, [lq 0 6 0, lq 1 0 2, lq 2 0 39, lq 3 1 97], [], gi_1302, hq_892), [], ([], 15)), ((2, [lq 0 6 0, lq 1 0 2, lq 2 0 42, lq 3 1 97], [], gi_1302, hq_892), [], ([], 12)), ((2, [lq 0 6 0, lq 1 0 2, lq 2 0 45, lq 3 1 97], [], gi_1302, hq_892), [], ([], 9)), ((2, [lq 0 6 0, lq 1 0 2, lq 2 0 48, lq 3 1 97], [], gi_1302, hq_892), [], ([], 6))]
noncomputable def cu_1688_1 : List CUT2 := [((2, [lq 0 6 0, lq 1 0 2, lq 2 0 51, lq 3 1 97], [], gi_1302, hq_892), [], ([], 3)), ((2, [lq 0 6 0, lq 1 0 2, lq 2 0 54, lq 3 1 97], [], gi_1302, hq_892), [], ([], 0))]
noncomputable def cu_1688 : List CUT2 := cu_1688_0 ++ (cu_1688_1)
theorem ch_1688 : staG tb_X11_isAsSeen 1 bt_RX11 [] ct_1688 [] [] cu_1688 44 con_1688 = true := by decide +kernel
theorem cc_1688_0 : cu_1688_0.all (cutG tb_X11_isAsSeen 1 bt_RX11 [] ct_1688 [] [] cu_1688 44 con_1688) = true := by decide +kernel
theorem cc_1688_1 : cu_1688_1.all (cutG tb_X11_isAsSeen 1 bt_RX11 [] ct_1688 [] [] cu_1688 44 con_1688) = true := by decide +kernel
theorem cto_1688 (l : Launch) : CTOK2 l RX11 vwCl gTbl ct_1688 := ct2_cons (vl_1673 l) ck_RX11_473_1673 (ct2_cons (vl_1670 l) ck_RX11_473_1670 (ct2_cons (vl_1667 l) ck_RX11_473_1667 (ct2_cons (vl_1664 l) ck_RX11_473_1664 (ct2_cons (vl_1661 l) ck_RX11_473_1661 (ct2_cons (vl_1658 l) ck_RX11_473_1658 (ct2_cons (vl_1655 l) ck_RX11_473_1655 (ct2_cons (vl_1652 l) ck_RX11_473_1652 (ct2_cons (vl_1649 l) ck_RX11_473_1649 (ct2_cons (vl_1646 l) ck_RX11_473_1646 (ct2_cons (vl_1643 l) ck_RX11_473_1643 (ct2_cons (vl_1640 l) ck_RX11_473_1640 (ct2_cons (vl_1637 l) ck_RX11_473_1637 (ct2_cons (vl_1634 l) ck_RX11_473_1634 (ct2_cons (vl_1631 l) ck_RX11_473_1631 (ct2_cons (vl_1626 l) ck_RX11_473_1626 (ct2_cons (vl_1623 l) ck_RX11_473_1623 (ct2_cons (vl_1620 l) ck_RX11_473_1620 (ct2_cons (vl_1674 l) ck_RX11_473_1674 (ct2_cons (vl_1671 l) ck_RX11_473_1671 (ct2_cons (vl_1668 l) ck_RX11_473_1668 (ct2_cons (vl_1665 l) ck_RX11_473_1665 (ct2_cons (vl_1662 l) ck_RX11_473_1662 (ct2_cons (vl_1659 l) ck_RX11_473_1659 (ct2_cons (vl_1656 l) ck_RX11_473_1656 (ct2_cons (vl_1653 l) ck_RX11_473_1653 (ct2_cons (vl_1650 l) ck_RX11_473_1650 (ct2_cons (vl_1647 l) ck_RX11_473_1647 (ct2_cons (vl_1644 l) ck_RX11_473_1644 (ct2_cons (vl_1641 l) ck_RX11_473_1641 (ct2_cons (vl_1638 l) ck_RX11_473_1638 (ct2_cons (vl_1635 l) ck_RX11_473_1635 (ct2_cons (vl_1632 l) ck_RX11_473_1632 (ct2_cons (vl_1627 l) ck_RX11_473_1627 (ct2_cons (vl_1624 l) ck_RX11_473_1624 (ct2_cons (vl_1621 l) ck_RX11_473_1621 (ct2_cons (vl_1675 l) ck_RX11_473_1675 (ct2_cons (vl_1672 l) ck_RX11_473_1672 (ct2_cons (vl_1669 l) ck_RX11_473_1669 (ct2_cons (vl_1666 l) ck_RX11_473_1666 (ct2_cons (vl_1663 l) ck_RX11_473_1663 (ct2_cons (vl_1660 l) ck_RX11_473_1660 (ct2_cons (vl_1657 l) ck_RX11_473_1657 (ct2_cons (vl_1654 l) ck_RX11_473_1654 (ct2_cons (vl_1651 l) ck_RX11_473_1651 (ct2_cons (vl_1648 l) ck_RX11_473_1648 (ct2_cons (vl_1645 l) ck_RX11_473_1645 (ct2_cons (vl_1642 l) ck_RX11_473_1642 (ct2_cons (vl_1639 l) ck_RX11_473_1639 (ct2_cons (vl_1636 l) ck_RX11_473_1636 (ct2_cons (vl_1633 l) ck_RX11_473_1633 (ct2_cons (vl_1628 l) ck_RX11_473_1628 (ct2_cons (vl_1625 l) ck_RX11_473_1625 (ct2_cons (vl_1622 l) ck_RX11_473_1622 (ct2_nil))))))))))))))))))))))))))))))))))))))))))))))))))))))
theorem vl_1688 (l : Launch) : Vld2 l vwCl gTbl con_1688 := conR_ok3 gT_all (hd_1688) rfl pn_RX11 tk_X11_isAsSeen bo_RX11 xo_RX11 (cto_1688 l) ch_1688 (cut_app (cut_all cc_1688_0) (cut_all cc_1688_1))
/-- RookHusting guessAll -/
noncomputable def gi_1303 : GI := jl_n [gp_655, gp_529]
noncomputable def gi_1304 : GI := jl_n [gp_655, gp_529, gp_632]
noncomputable def con_1689 : Con2 := ((yX11_guessAll, cX11_guessAll, 4, none), (6, 151), ([(6, 0, 0), (0, 2, 0), (1, 2, 0)], gi_1303, hc_202, rq_6), [((9, 0, 0), gi_1304, hq_893, [], tg_1)])
theorem hd_1689 : con_1689.1 = (yX11_guessAll, cX11_guessAll, 4, none) := rfl
theorem ck_RX11_483_1688 : COK2 RX11 vwCl gTbl 483 0 con_1688 := ⟨wd_1230, wd_125, mh_X11_isAsSeen, .inr (.inr ⟨rfl, wd_1227, wd_1229, wd_43, ⟨_, rfl, pd_X11_isAsSeen⟩, 11, _, TX11, 16, rfl, rfl⟩)⟩
noncomputable def ct_1689 : CTB2 := [(1, 208, 0, con_900, [0, 1, 2, 3, 4, 5, 6, 7, 8, 9, 10, 11, 12, 13, 14, 15, 16, 17, 18, 19, 20, 21, 22, 23, 24, 25, 26]), (36, 332, 0, con_1212, [28, 2, 29, 4, 30, 5, 31, 6]), (45, 480, 0, con_859, [28, 29]), (73, 372, 0, con_899, [32, 3, 28, 16, 33, 18, 34, 30, 35, 29, 36, 22, 23, 37, 38, 39, 31]), (78, 483, 0, con_1688, [0, 40, 41, 42, 32, 33]), (105, 486, 0, con_1522, [27, 33, 43]), (105, 486, 0, con_1527, [27, 33, 43])]
noncomputable def gi_1305 : GI := jl_n [gp_655, gp_529, gp_633]
noncomputable def cu_1689 : List CUT2 := [((14, [lq 0 6 0, lq 1 0 2, lq 2 1 2, lq 3 1 204], [], gi_1305, hq_894), rq_6, ([(204, (-1))], 5))]
theorem ch_1689 : staG tb_X11_guessAll 1 bt_RX11 [] ct_1689 [] [] cu_1689 48 con_1689 = true := by decide +kernel
theorem cc_1689 : cu_1689.all (cutG tb_X11_guessAll 1 bt_RX11 [] ct_1689 [] [] cu_1689 48 con_1689) = true := by decide +kernel
theorem cto_1689 (l : Launch) : CTOK2 l RX11 vwCl gTbl ct_1689 := ct2_cons (vl_900 l) ck_RX11_208_900 (ct2_cons (vl_1212 l) ck_RX11_332_1212 (ct2_cons (vl_859 l) ck_RX11_480_859 (ct2_cons (vl_899 l) ck_RX11_372_899 (ct2_cons (vl_1688 l) ck_RX11_483_1688 (ct2_cons (vl_1522 l) ck_RX11_486_1522 (ct2_cons (vl_1527 l) ck_RX11_486_1527 (ct2_nil)))))))
theorem vl_1689 (l : Launch) : Vld2 l vwCl gTbl con_1689 := conR_ok3 gT_all (hd_1689) rfl pn_RX11 tk_X11_guessAll bo_RX11 xo_RX11 (cto_1689 l) ch_1689 (cut_all cc_1689)
