/-! ===== contracts, 31 ===== -/
/-- RookHusting isAsSeen -/
noncomputable def gi_1209 : GI := jl_n [jl_z 21, jl_r 3 (jl_m 0 60), jl_i 28 30, jl_i 0 4, jl_i 0 16, jl_i 0 250, jl_i 0 4, jl_i 0 16, jl_i 0 250, jl_i 0 4, jl_i 0 16, jl_i 0 250, jl_i 0 4, jl_i 0 16, jl_i 0 250, jl_i 0 4, jl_i 0 16, jl_i 0 250, jl_i 0 4, jl_i 0 16, jl_i 0 250, jl_i 0 4, jl_i 0 16, jl_i 0 250, jl_i 0 4, jl_i 0 16, jl_i 0 250, jl_i 0 4, jl_i 0 16, jl_i 0 250, jl_i 0 4, jl_i 0 16, jl_i 0 250, jl_r 30 (jl_u), jl_z 9]
noncomputable def gi_1210 : GI := jl_n [jl_z 21, jl_r 3 (jl_m 0 60), jl_i 28 30, jl_i 0 4, jl_i 0 16, jl_i 0 250, jl_i 0 4, jl_i 0 16, jl_i 0 250, jl_i 0 4, jl_i 0 16, jl_i 0 250, jl_i 0 4, jl_i 0 16, jl_i 0 250, jl_i 0 4, jl_i 0 16, jl_i 0 250, jl_i 0 4, jl_i 0 16, jl_i 0 250, jl_i 0 4, jl_i 0 16, jl_i 0 250, jl_i 0 4, jl_i 0 16, jl_i 0 250, jl_i 0 4, jl_i 0 16, jl_i 0 250, jl_i 0 4, jl_i 0 16, jl_i 0 250, jl_r 30 (jl_u), jl_z 10]
noncomputable def con_1602 : Con2 := ((yX11_isAsSeen, cX11_isAsSeen, 4, (some .boolean)), (1, 22), ([(6, 0, 0), (0, 3, 0)], gi_1209, hc_196, []), [((0, 0, 0), gi_1210, hq_885, [], [1]), ((0, 1, 0), gi_1210, hq_885, [], [1])])
theorem hd_1602 : con_1602.1 = (yX11_isAsSeen, cX11_isAsSeen, 4, (some .boolean)) := rfl
noncomputable def ct_1602 : CTB2 := [(21, 473, 0, con_1547, [1, 3]), (21, 473, 0, con_1544, [1, 3]), (21, 473, 0, con_1541, [1, 3]), (21, 473, 0, con_1538, [1, 3]), (21, 473, 0, con_1535, [1, 3]), (21, 473, 0, con_1532, [1, 3]), (21, 473, 0, con_1529, [1, 3]), (21, 473, 0, con_1518, [1, 3]), (21, 473, 0, con_1515, [1, 3]), (21, 473, 0, con_1512, [1, 3]), (36, 473, 0, con_1548, [1, 3]), (36, 473, 0, con_1545, [1, 3]), (36, 473, 0, con_1542, [1, 3]), (36, 473, 0, con_1539, [1, 3]), (36, 473, 0, con_1536, [1, 3]), (36, 473, 0, con_1533, [1, 3]), (36, 473, 0, con_1530, [1, 3]), (36, 473, 0, con_1519, [1, 3]), (36, 473, 0, con_1516, [1, 3]), (36, 473, 0, con_1513, [1, 3]), (60, 473, 0, con_1549, [1, 3]), (60, 473, 0, con_1546, [1, 3]), (60, 473, 0, con_1543, [1, 3]), (60, 473, 0, con_1540, [1, 3]), (60, 473, 0, con_1537, [1, 3]), (60, 473, 0, con_1534, [1, 3]), (60, 473, 0, con_1531, [1, 3]), (60, 473, 0, con_1520, [1, 3]), (60, 473, 0, con_1517, [1, 3]), (60, 473, 0, con_1514, [1, 3])]
noncomputable def gi_1211 : GI := jl_n [jl_z 21, jl_r 3 (jl_m 0 60), jl_i 28 30, jl_i 0 4, jl_i 0 16, jl_i 0 250, jl_i 0 4, jl_i 0 16, jl_i 0 250, jl_i 0 4, jl_i 0 16, jl_i 0 250, jl_i 0 4, jl_i 0 16, jl_i 0 250, jl_i 0 4, jl_i 0 16, jl_i 0 250, jl_i 0 4, jl_i 0 16, jl_i 0 250, jl_i 0 4, jl_i 0 16, jl_i 0 250, jl_i 0 4, jl_i 0 16, jl_i 0 250, jl_i 0 4, jl_i 0 16, jl_i 0 250, jl_i 0 4, jl_i 0 16, jl_i 0 250, jl_r 30 (jl_u), jl_z 12]
noncomputable def gi_1212 : GI := jl_n [jl_z 21, jl_r 3 (jl_m 0 60), jl_i 28 30, jl_i 0 4, jl_i 0 16, jl_i 0 250, jl_i 0 4, jl_i 0 16, jl_i 0 250, jl_i 0 4, jl_i 0 16, jl_i 0 250, jl_i 0 4, jl_i 0 16, jl_i 0 250, jl_i 0 4, jl_i 0 16, jl_i 0 250, jl_i 0 4, jl_i 0 16, jl_i 0 250, jl_i 0 4, jl_i 0 16, jl_i 0 250, jl_i 0 4, jl_i 0 16, jl_i 0 250, jl_i 0 4, jl_i 0 16, jl_i 0 250, jl_i 0 4, jl_i 0 16, jl_i 0 250, jl_r 30 (jl_u), jl_z 12, jl_i 0 84]
noncomputable def cu_1602 : List CUT2 := [((2, [(0, (6, 0, 0)), (1, (0, 3, 0)), (2, (0, 0, 0))], [], gi_1211, hq_885), [], ([], 30)), ((2, [(0, (6, 0, 0)), (1, (0, 3, 0)), (2, (0, 3, 0)), (3, (1, 97, 0))], [], gi_1212, hq_885), [], ([], 27)), ((2, [(0, (6, 0, 0)), (1, (0, 3, 0)), (2, (0, 6, 0)), (3, (1, 97, 0))], [], gi_1212, hq_885), [], ([], 24)), ((2, [(0, (6, 0, 0)), (1, (0, 3, 0)), (2, (0, 9, 0)), (3, (1, 97, 0))], [], gi_1212, hq_885), [], ([], 21)), ((2, [(0, (6, 0, 0)), (1, (0, 3, 0)), (2, (0, 12, 0)), (3, (1, 97, 0))], [], gi_1212, hq_885), [], ([], 18)), ((2, [(0, (6, 0, 0)), (1, (0, 3, 0)), (2, (0, 15, 0)), (3, (1, 97, 0))], [], gi_1212, hq_885), [], ([], 15)), ((2, [(0, (6, 0, 0)), (1, (0, 3, 0)), (2, (0, 18, 0)), (3, (1, 97, 0))], [], gi_1212, hq_885), [], ([], 12)), ((2, [(0, (6, 0, 0)), (1, (0, 3, 0)), (2, (0, 21, 0)), (3, (1, 97, 0))], [], gi_1212, hq_885), [], ([], 9)), ((2, [(0, (6, 0, 0)), (1, (0, 3, 0)), (2, (0, 24, 0)), (3, (1, 97, 0))], [], gi_1212, hq_885), [], ([], 6)), ((2, [(0, (6, 0, 0)), (1, (0, 3, 0)), (2, (0, 27, 0)), (3, (1, 97, 0))], [], gi_1212, hq_885), [], ([], 3)), ((2, [(0, (6, 0, 0)), (1, (0, 3, 0)), (2, (0, 30, 0)), (3, (1, 97, 0))], [], gi_1212, hq_885), [], ([], 0))]
theorem ch_1602 : staG tb_X11_isAsSeen 1 bt_RX11 [] ct_1602 [] [] cu_1602 44 con_1602 = true := by decide +kernel
theorem cc_1602 : cu_1602.all (cutG tb_X11_isAsSeen 1 bt_RX11 [] ct_1602 [] [] cu_1602 44 con_1602) = true := by decide +kernel
theorem cto_1602 (l : Launch) : CTOK2 l RX11 vwCl gTbl ct_1602 := ct2_cons (vl_1547 l) ck_RX11_473_1547 (ct2_cons (vl_1544 l) ck_RX11_473_1544 (ct2_cons (vl_1541 l) ck_RX11_473_1541 (ct2_cons (vl_1538 l) ck_RX11_473_1538 (ct2_cons (vl_1535 l) ck_RX11_473_1535 (ct2_cons (vl_1532 l) ck_RX11_473_1532 (ct2_cons (vl_1529 l) ck_RX11_473_1529 (ct2_cons (vl_1518 l) ck_RX11_473_1518 (ct2_cons (vl_1515 l) ck_RX11_473_1515 (ct2_cons (vl_1512 l) ck_RX11_473_1512 (ct2_cons (vl_1548 l) ck_RX11_473_1548 (ct2_cons (vl_1545 l) ck_RX11_473_1545 (ct2_cons (vl_1542 l) ck_RX11_473_1542 (ct2_cons (vl_1539 l) ck_RX11_473_1539 (ct2_cons (vl_1536 l) ck_RX11_473_1536 (ct2_cons (vl_1533 l) ck_RX11_473_1533 (ct2_cons (vl_1530 l) ck_RX11_473_1530 (ct2_cons (vl_1519 l) ck_RX11_473_1519 (ct2_cons (vl_1516 l) ck_RX11_473_1516 (ct2_cons (vl_1513 l) ck_RX11_473_1513 (ct2_cons (vl_1549 l) ck_RX11_473_1549 (ct2_cons (vl_1546 l) ck_RX11_473_1546 (ct2_cons (vl_1543 l) ck_RX11_473_1543 (ct2_cons (vl_1540 l) ck_RX11_473_1540 (ct2_cons (vl_1537 l) ck_RX11_473_1537 (ct2_cons (vl_1534 l) ck_RX11_473_1534 (ct2_cons (vl_1531 l) ck_RX11_473_1531 (ct2_cons (vl_1520 l) ck_RX11_473_1520 (ct2_cons (vl_1517 l) ck_RX11_473_1517 (ct2_cons (vl_1514 l) ck_RX11_473_1514 (ct2_nil))))))))))))))))))))))))))))))
theorem vl_1602 (l : Launch) : Vld2 l vwCl gTbl con_1602 := conR_ok3 gT_all (hd_1602) rfl pn_RX11 tk_X11_isAsSeen bo_RX11 xo_RX11 (cto_1602 l) ch_1602 (cut_all cc_1602)
/-- RookHusting guessAll -/
noncomputable def gi_1213 : GI := jl_n [jl_z 2, jl_i 0 4, jl_z 13, jl_i 0 1, jl_z 7, jl_t, jl_z 1, jl_i 0 16, jl_i 0 3, jl_z 1, jl_i 0 5, jl_z 1, jl_i 0 5, jl_i 0 7, jl_z 11, jl_i 0 30, jl_z 3, jl_r 30 (jl_i 0 1), jl_r 30 (jl_m 0 15), jl_z 7, jl_i 0 5, jl_i 0 16, jl_t, jl_z 6, jl_t, jl_z 7, jl_i 0 5, jl_i 0 16, jl_z 3, jl_r 3 (jl_m 0 60), jl_i 28 30, jl_i 0 4, jl_i 0 16, jl_i 0 250, jl_i 0 4, jl_i 0 16, jl_i 0 250, jl_i 0 4, jl_i 0 16, jl_i 0 250, jl_i 0 4, jl_i 0 16, jl_i 0 250, jl_i 0 4, jl_i 0 16, jl_i 0 250, jl_i 0 4, jl_i 0 16, jl_i 0 250, jl_i 0 4, jl_i 0 16, jl_i 0 250, jl_i 0 4, jl_i 0 16, jl_i 0 250, jl_i 0 4, jl_i 0 16, jl_i 0 250, jl_i 0 4, jl_i 0 16, jl_i 0 250, jl_r 30 (jl_u)]
noncomputable def gi_1214 : GI := jl_n [jl_z 2, jl_i 0 4, jl_z 13, jl_i 0 1, jl_z 7, jl_t, jl_z 1, jl_i 0 16, jl_i 0 3, jl_z 1, jl_i 0 5, jl_z 1, jl_i 0 5, jl_i 0 7, jl_z 11, jl_i 0 30, jl_z 3, jl_r 30 (jl_i 0 1), jl_r 30 (jl_m 0 15), jl_z 7, jl_i 0 5, jl_i 0 16, jl_t, jl_z 6, jl_t, jl_z 7, jl_i 0 5, jl_i 0 16, jl_z 3, jl_r 3 (jl_m 0 60), jl_i 28 30, jl_i 0 4, jl_i 0 16, jl_i 0 250, jl_i 0 4, jl_i 0 16, jl_i 0 250, jl_i 0 4, jl_i 0 16, jl_i 0 250, jl_i 0 4, jl_i 0 16, jl_i 0 250, jl_i 0 4, jl_i 0 16, jl_i 0 250, jl_i 0 4, jl_i 0 16, jl_i 0 250, jl_i 0 4, jl_i 0 16, jl_i 0 250, jl_i 0 4, jl_i 0 16, jl_i 0 250, jl_i 0 4, jl_i 0 16, jl_i 0 250, jl_i 0 4, jl_i 0 16, jl_i 0 250, jl_r 30 (jl_u), jl_z 19, jl_t, jl_z 7, jl_i 0 5, jl_i 0 16, jl_t, jl_z 6, jl_t, jl_z 7, jl_i 0 5, jl_i 0 16]
noncomputable def con_1603 : Con2 := ((yX11_guessAll, cX11_guessAll, 4, none), (6, 151), ([(6, 0, 0), (0, 3, 0), (1, 2, 0)], gi_1213, hc_198, rq_6), [((9, 0, 0), gi_1214, hq_887, [], [1, 1, 1, 1, 1, 1, 1, 1, 1, 1, 1, 1, 1, 1, 1, 1, 1, 1, 1, 1, 1, 1, 1, 1, 1, 1, 1, 1, 1, 1, 1, 1, 1, 1, 1, 1, 1, 1, 1, 1, 1, 1, 1, 1, 1, 1])])
theorem hd_1603 : con_1603.1 = (yX11_guessAll, cX11_guessAll, 4, none) := rfl
theorem ck_RX11_483_1602 : COK2 RX11 vwCl gTbl 483 0 con_1602 := ⟨wd_1230, wd_125, mh_X11_isAsSeen, .inr (.inr ⟨rfl, wd_1227, wd_1229, wd_43, ⟨_, rfl, pd_X11_isAsSeen⟩, 11, _, TX11, 16, rfl, rfl⟩)⟩
noncomputable def ct_1603 : CTB2 := [(1, 208, 0, con_900, [0, 1, 2, 3, 4, 5, 6, 7, 8, 9, 10, 11, 12, 13, 14, 15, 16, 17, 18, 19, 20, 21, 22, 23, 24, 25, 26]), (36, 332, 0, con_1212, [28, 2, 29, 4, 30, 5, 31, 6]), (45, 480, 0, con_859, [28, 29]), (73, 372, 0, con_899, [32, 3, 28, 16, 33, 18, 34, 30, 35, 29, 36, 22, 23, 37, 38, 39, 31]), (78, 483, 0, con_1602, [0, 40, 41, 42, 32, 33]), (105, 486, 0, con_1522, [27, 33, 43]), (105, 486, 0, con_1527, [27, 33, 43])]
noncomputable def gi_1215 : GI := jl_n [jl_z 2, jl_i 0 4, jl_z 13, jl_i 0 1, jl_z 7, jl_t, jl_z 1, jl_i 0 16, jl_i 0 3, jl_z 1, jl_i 0 5, jl_z 1, jl_i 0 5, jl_i 0 7, jl_z 11, jl_i 0 30, jl_z 3, jl_r 30 (jl_i 0 1), jl_r 30 (jl_m 0 15), jl_z 7, jl_i 0 5, jl_i 0 16, jl_t, jl_z 6, jl_t, jl_z 7, jl_i 0 5, jl_i 0 16, jl_z 3, jl_r 3 (jl_m 0 60), jl_i 28 30, jl_i 0 4, jl_i 0 16, jl_i 0 250, jl_i 0 4, jl_i 0 16, jl_i 0 250, jl_i 0 4, jl_i 0 16, jl_i 0 250, jl_i 0 4, jl_i 0 16, jl_i 0 250, jl_i 0 4, jl_i 0 16, jl_i 0 250, jl_i 0 4, jl_i 0 16, jl_i 0 250, jl_i 0 4, jl_i 0 16, jl_i 0 250, jl_i 0 4, jl_i 0 16, jl_i 0 250, jl_i 0 4, jl_i 0 16, jl_i 0 250, jl_i 0 4, jl_i 0 16, jl_i 0 250, jl_r 30 (jl_u), jl_z 3, jl_m 0 5, jl_z 19, jl_t, jl_z 7, jl_i 0 5, jl_i 0 16, jl_t, jl_z 6, jl_t, jl_z 7, jl_i 0 5, jl_i 0 16]
noncomputable def cu_1603 : List CUT2 := [((14, [(0, (6, 0, 0)), (1, (0, 3, 0)), (2, (1, 2, 0)), (3, (1, 204, 0))], [], gi_1215, hq_888), rq_6, ([(204, (-1))], 5))]
theorem ch_1603 : staG tb_X11_guessAll 1 bt_RX11 [] ct_1603 [] [] cu_1603 48 con_1603 = true := by decide +kernel
theorem cc_1603 : cu_1603.all (cutG tb_X11_guessAll 1 bt_RX11 [] ct_1603 [] [] cu_1603 48 con_1603) = true := by decide +kernel
theorem cto_1603 (l : Launch) : CTOK2 l RX11 vwCl gTbl ct_1603 := ct2_cons (vl_900 l) ck_RX11_208_900 (ct2_cons (vl_1212 l) ck_RX11_332_1212 (ct2_cons (vl_859 l) ck_RX11_480_859 (ct2_cons (vl_899 l) ck_RX11_372_899 (ct2_cons (vl_1602 l) ck_RX11_483_1602 (ct2_cons (vl_1522 l) ck_RX11_486_1522 (ct2_cons (vl_1527 l) ck_RX11_486_1527 (ct2_nil)))))))
theorem vl_1603 (l : Launch) : Vld2 l vwCl gTbl con_1603 := conR_ok3 gT_all (hd_1603) rfl pn_RX11 tk_X11_guessAll bo_RX11 xo_RX11 (cto_1603 l) ch_1603 (cut_all cc_1603)
/-- RookHusting isAsSeen -/
noncomputable def gi_1216 : GI := jl_n [jl_z 21, jl_r 3 (jl_m 0 60), jl_i 1 3, jl_i 0 4, jl_i 0 16, jl_i 0 250, jl_r 57 (jl_u), jl_z 9]
noncomputable def gi_1217 : GI := jl_n [jl_z 21, jl_r 3 (jl_m 0 60), jl_i 1 3, jl_i 0 4, jl_i 0 16, jl_i 0 250, jl_r 57 (jl_u), jl_z 10]
noncomputable def con_1604 : Con2 := ((yX11_isAsSeen, cX11_isAsSeen, 4, (some .boolean)), (1, 22), ([(6, 0, 0), (0, 3, 0)], gi_1216, hc_196, []), [((0, 0, 0), gi_1217, hq_885, [], [1]), ((0, 1, 0), gi_1217, hq_885, [], [1])])
theorem hd_1604 : con_1604.1 = (yX11_isAsSeen, cX11_isAsSeen, 4, (some .boolean)) := rfl
noncomputable def ct_1604 : CTB2 := [(21, 473, 0, con_1512, [1, 3]), (36, 473, 0, con_1513, [1, 3]), (60, 473, 0, con_1514, [1, 3])]
noncomputable def gi_1218 : GI := jl_n [jl_z 21, jl_r 3 (jl_m 0 60), jl_i 1 3, jl_i 0 4, jl_i 0 16, jl_i 0 250, jl_r 57 (jl_u), jl_z 12]
noncomputable def gi_1219 : GI := jl_n [jl_z 21, jl_r 3 (jl_m 0 60), jl_i 1 3, jl_i 0 4, jl_i 0 16, jl_i 0 250, jl_r 57 (jl_u), jl_z 12, jl_i 0 84]
noncomputable def cu_1604 : List CUT2 := [((2, [(0, (6, 0, 0)), (1, (0, 3, 0)), (2, (0, 0, 0))], [], gi_1218, hq_885), [], ([], 3)), ((2, [(0, (6, 0, 0)), (1, (0, 3, 0)), (2, (0, 3, 0)), (3, (1, 97, 0))], [], gi_1219, hq_885), [], ([], 0))]
theorem ch_1604 : staG tb_X11_isAsSeen 1 bt_RX11 [] ct_1604 [] [] cu_1604 44 con_1604 = true := by decide +kernel
theorem cc_1604 : cu_1604.all (cutG tb_X11_isAsSeen 1 bt_RX11 [] ct_1604 [] [] cu_1604 44 con_1604) = true := by decide +kernel
theorem cto_1604 (l : Launch) : CTOK2 l RX11 vwCl gTbl ct_1604 := ct2_cons (vl_1512 l) ck_RX11_473_1512 (ct2_cons (vl_1513 l) ck_RX11_473_1513 (ct2_cons (vl_1514 l) ck_RX11_473_1514 (ct2_nil)))
theorem vl_1604 (l : Launch) : Vld2 l vwCl gTbl con_1604 := conR_ok3 gT_all (hd_1604) rfl pn_RX11 tk_X11_isAsSeen bo_RX11 xo_RX11 (cto_1604 l) ch_1604 (cut_all cc_1604)
/-- RookHusting guessAll -/
noncomputable def gi_1220 : GI := jl_n [jl_z 2, jl_i 0 4, jl_z 13, jl_i 0 1, jl_z 7, jl_t, jl_z 1, jl_i 0 16, jl_i 0 3, jl_z 1, jl_i 0 5, jl_z 1, jl_i 0 5, jl_i 0 7, jl_z 11, jl_i 0 30, jl_z 3, jl_r 30 (jl_i 0 1), jl_r 30 (jl_m 0 15), jl_z 7, jl_i 0 5, jl_i 0 16, jl_t, jl_z 6, jl_t, jl_z 7, jl_i 0 5, jl_i 0 16, jl_z 3, jl_r 3 (jl_m 0 60), jl_i 1 3, jl_i 0 4, jl_i 0 16, jl_i 0 250, jl_r 57 (jl_u)]
noncomputable def gi_1221 : GI := jl_n [jl_z 2, jl_i 0 4, jl_z 13, jl_i 0 1, jl_z 7, jl_t, jl_z 1, jl_i 0 16, jl_i 0 3, jl_z 1, jl_i 0 5, jl_z 1, jl_i 0 5, jl_i 0 7, jl_z 11, jl_i 0 30, jl_z 3, jl_r 30 (jl_i 0 1), jl_r 30 (jl_m 0 15), jl_z 7, jl_i 0 5, jl_i 0 16, jl_t, jl_z 6, jl_t, jl_z 7, jl_i 0 5, jl_i 0 16, jl_z 3, jl_r 3 (jl_m 0 60), jl_i 1 3, jl_i 0 4, jl_i 0 16, jl_i 0 250, jl_r 57 (jl_u), jl_z 19, jl_t, jl_z 7, jl_i 0 5, jl_i 0 16, jl_t, jl_z 6, jl_t, jl_z 7, jl_i 0 5, jl_i 0 16]
noncomputable def con_1605 : Con2 := ((yX11_guessAll, cX11_guessAll, 4, none), (6, 151), ([(6, 0, 0), (0, 3, 0), (1, 2, 0)], gi_1220, hc_198, rq_6), [((9, 0, 0), gi_1221, hq_887, [], [1, 1, 1, 1, 1, 1, 1, 1, 1, 1, 1, 1, 1, 1, 1, 1, 1, 1, 1, 1, 1, 1, 1, 1, 1, 1, 1, 1, 1, 1, 1, 1, 1, 1, 1, 1, 1, 1, 1, 1, 1, 1, 1, 1, 1, 1])])
theorem hd_1605 : con_1605.1 = (yX11_guessAll, cX11_guessAll, 4, none) := rfl
theorem ck_RX11_483_1604 : COK2 RX11 vwCl gTbl 483 0 con_1604 := ⟨wd_1230, wd_125, mh_X11_isAsSeen, .inr (.inr ⟨rfl, wd_1227, wd_1229, wd_43, ⟨_, rfl, pd_X11_isAsSeen⟩, 11, _, TX11, 16, rfl, rfl⟩)⟩
noncomputable def ct_1605 : CTB2 := [(1, 208, 0, con_900, [0, 1, 2, 3, 4, 5, 6, 7, 8, 9, 10, 11, 12, 13, 14, 15, 16, 17, 18, 19, 20, 21, 22, 23, 24, 25, 26]), (36, 332, 0, con_1212, [28, 2, 29, 4, 30, 5, 31, 6]), (45, 480, 0, con_859, [28, 29]), (73, 372, 0, con_899, [32, 3, 28, 16, 33, 18, 34, 30, 35, 29, 36, 22, 23, 37, 38, 39, 31]), (78, 483, 0, con_1604, [0, 40, 41, 42, 32, 33]), (105, 486, 0, con_1522, [27, 33, 43]), (105, 486, 0, con_1527, [27, 33, 43])]
noncomputable def gi_1222 : GI := jl_n [jl_z 2, jl_i 0 4, jl_z 13, jl_i 0 1, jl_z 7, jl_t, jl_z 1, jl_i 0 16, jl_i 0 3, jl_z 1, jl_i 0 5, jl_z 1, jl_i 0 5, jl_i 0 7, jl_z 11, jl_i 0 30, jl_z 3, jl_r 30 (jl_i 0 1), jl_r 30 (jl_m 0 15), jl_z 7, jl_i 0 5, jl_i 0 16, jl_t, jl_z 6, jl_t, jl_z 7, jl_i 0 5, jl_i 0 16, jl_z 3, jl_r 3 (jl_m 0 60), jl_i 1 3, jl_i 0 4, jl_i 0 16, jl_i 0 250, jl_r 57 (jl_u), jl_z 3, jl_m 0 5, jl_z 19, jl_t, jl_z 7, jl_i 0 5, jl_i 0 16, jl_t, jl_z 6, jl_t, jl_z 7, jl_i 0 5, jl_i 0 16]
noncomputable def cu_1605 : List CUT2 := [((14, [(0, (6, 0, 0)), (1, (0, 3, 0)), (2, (1, 2, 0)), (3, (1, 204, 0))], [], gi_1222, hq_888), rq_6, ([(204, (-1))], 5))]
theorem ch_1605 : staG tb_X11_guessAll 1 bt_RX11 [] ct_1605 [] [] cu_1605 48 con_1605 = true := by decide +kernel
theorem cc_1605 : cu_1605.all (cutG tb_X11_guessAll 1 bt_RX11 [] ct_1605 [] [] cu_1605 48 con_1605) = true := by decide +kernel
theorem cto_1605 (l : Launch) : CTOK2 l RX11 vwCl gTbl ct_1605 := ct2_cons (vl_900 l) ck_RX11_208_900 (ct2_cons (vl_1212 l) ck_RX11_332_1212 (ct2_cons (vl_859 l) ck_RX11_480_859 (ct2_cons (vl_899 l) ck_RX11_372_899 (ct2_cons (vl_1604 l) ck_RX11_483_1604 (ct2_cons (vl_1522 l) ck_RX11_486_1522 (ct2_cons (vl_1527 l) ck_RX11_486_1527 (ct2_nil)))))))
theorem vl_1605 (l : Launch) : Vld2 l vwCl gTbl con_1605 := conR_ok3 gT_all (hd_1605) rfl pn_RX11 tk_X11_guessAll bo_RX11 xo_RX11 (cto_1605 l) ch_1605 (cut_all cc_1605)
/-- RookHusting isAsSeen -/
noncomputable def gi_1223 : GI := jl_n [jl_z 21, jl_r 3 (jl_m 0 60), jl_i 25 27, jl_i 0 4, jl_i 0 16, jl_i 0 250, jl_i 0 4, jl_i 0 16, jl_i 0 250, jl_i 0 4, jl_i 0 16, jl_i 0 250, jl_i 0 4, jl_i 0 16, jl_i 0 250, jl_i 0 4, jl_i 0 16, jl_i 0 250, jl_i 0 4, jl_i 0 16, jl_i 0 250, jl_i 0 4, jl_i 0 16, jl_i 0 250, jl_i 0 4, jl_i 0 16, jl_i 0 250, jl_i 0 4, jl_i 0 16, jl_i 0 250, jl_r 33 (jl_u), jl_z 9]
noncomputable def gi_1224 : GI := jl_n [jl_z 21, jl_r 3 (jl_m 0 60), jl_i 25 27, jl_i 0 4, jl_i 0 16, jl_i 0 250, jl_i 0 4, jl_i 0 16, jl_i 0 250, jl_i 0 4, jl_i 0 16, jl_i 0 250, jl_i 0 4, jl_i 0 16, jl_i 0 250, jl_i 0 4, jl_i 0 16, jl_i 0 250, jl_i 0 4, jl_i 0 16, jl_i 0 250, jl_i 0 4, jl_i 0 16, jl_i 0 250, jl_i 0 4, jl_i 0 16, jl_i 0 250, jl_i 0 4, jl_i 0 16, jl_i 0 250, jl_r 33 (jl_u), jl_z 10]
noncomputable def con_1606 : Con2 := ((yX11_isAsSeen, cX11_isAsSeen, 4, (some .boolean)), (1, 22), ([(6, 0, 0), (0, 3, 0)], gi_1223, hc_196, []), [((0, 0, 0), gi_1224, hq_885, [], [1]), ((0, 1, 0), gi_1224, hq_885, [], [1])])
theorem hd_1606 : con_1606.1 = (yX11_isAsSeen, cX11_isAsSeen, 4, (some .boolean)) := rfl
noncomputable def ct_1606 : CTB2 := [(21, 473, 0, con_1544, [1, 3]), (21, 473, 0, con_1541, [1, 3]), (21, 473, 0, con_1538, [1, 3]), (21, 473, 0, con_1535, [1, 3]), (21, 473, 0, con_1532, [1, 3]), (21, 473, 0, con_1529, [1, 3]), (21, 473, 0, con_1518, [1, 3]), (21, 473, 0, con_1515, [1, 3]), (21, 473, 0, con_1512, [1, 3]), (36, 473, 0, con_1545, [1, 3]), (36, 473, 0, con_1542, [1, 3]), (36, 473, 0, con_1539, [1, 3]), (36, 473, 0, con_1536, [1, 3]), (36, 473, 0, con_1533, [1, 3]), (36, 473, 0, con_1530, [1, 3]), (36, 473, 0, con_1519, [1, 3]), (36, 473, 0, con_1516, [1, 3]), (36, 473, 0, con_1513, [1, 3]), (60, 473, 0, con_1546, [1, 3]), (60, 473, 0, con_1543, [1, 3]), (60, 473, 0, con_1540, [1, 3]), (60, 473, 0, con_1537, [1, 3]), (60, 473, 0, con_1534, [1, 3]), (60, 473, 0, con_1531, [1, 3]), (60, 473, 0, con_1520, [1, 3]), (60, 473, 0, con_1517, [1, 3]), (60, 473, 0, con_1514, [1, 3])]
noncomputable def gi_1225 : GI := jl_n [jl_z 21, jl_r 3 (jl_m 0 60), jl_i 25 27, jl_i 0 4, jl_i 0 16, jl_i 0 250, jl_i 0 4, jl_i 0 16, jl_i 0 250, jl_i 0 4, jl_i 0 16, jl_i 0 250, jl_i 0 4, jl_i 0 16, jl_i 0 250, jl_i 0 4, jl_i 0 16, jl_i 0 250, jl_i 0 4, jl_i 0 16, jl_i 0 250, jl_i 0 4, jl_i 0 16, jl_i 0 250, jl_i 0 4, jl_i 0 16, jl_i 0 250, jl_i 0 4, jl_i 0 16, jl_i 0 250, jl_r 33 (jl_u), jl_z 12]
noncomputable def gi_1226 : GI := jl_n [jl_z 21, jl_r 3 (jl_m 0 60), jl_i 25 27, jl_i 0 4, jl_i 0 16, jl_i 0 250, jl_i 0 4, jl_i 0 16, jl_i 0 250, jl_i 0 4, jl_i 0 16, jl_i 0 250, jl_i 0 4, jl_i 0 16, jl_i 0 250, jl_i 0 4, jl_i 0 16, jl_i 0 250, jl_i 0 4, jl_i 0 16, jl_i 0 250, jl_i 0 4, jl_i 0 16, jl_i 0 250, jl_i 0 4, jl_i 0 16, jl_i 0 250, jl_i 0 4, jl_i 0 16, jl_i 0 250, jl_r 33 (jl_u), jl_z 12, jl_i 0 84]
noncomputable def cu_1606 : List CUT2 := [((2, [(0, (6, 0, 0)), (1, (0, 3, 0)), (2, (0, 0, 0))], [], gi_1225, hq_885), [], ([], 27)), ((2, [(0, (6, 0, 0)), (1, (0, 3, 0)), (2, (0, 3, 0)), (3, (1, 97, 0))], [], gi_1226, hq_885), [], ([], 24)), ((2, [(0, (6, 0, 0)), (1, (0, 3, 0)), (2, (0, 6, 0)), (3, (1, 97, 0))], [], gi_1226, hq_885), [], ([], 21)), ((2, [(0, (6, 0, 0)), (1, (0, 3, 0)), (2, (0, 9, 0)), (3, (1, 97, 0))], [], gi_1226, hq_885), [], ([], 18)), ((2, [(0, (6, 0, 0)), (1, (0, 3, 0)), (2, (0, 12, 0)), (3, (1, 97, 0))], [], gi_1226, hq_885), [], ([], 15)), ((2, [(0, (6, 0, 0)), (1, (0, 3, 0)), (2, (0, 15, 0)), (3, (1, 97, 0))], [], gi_1226, hq_885), [], ([], 12)), ((2, [(0, (6, 0, 0)), (1, (0, 3, 0)), (2, (0, 18, 0)), (3, (1, 97, 0))], [], gi_1226, hq_885), [], ([], 9)), ((2, [(0, (6, 0, 0)), (1, (0, 3, 0)), (2, (0, 21, 0)), (3, (1, 97, 0))], [], gi_1226, hq_885), [], ([], 6)), ((2, [(0, (6, 0, 0)), (1, (0, 3, 0)), (2, (0, 24, 0)), (3, (1, 97, 0))], [], gi_1226, hq_885), [], ([], 3)), ((2, [(0, (6, 0, 0)), (1, (0, 3, 0)), (2, (0, 27, 0)), (3, (1, 97, 0))], [], gi_1226, hq_885), [], ([], 0))]
theorem ch_1606 : staG tb_X11_isAsSeen 1 bt_RX11 [] ct_1606 [] [] cu_1606 44 con_1606 = true := by decide +kernel
theorem cc_1606 : cu_1606.all (cutG tb_X11_isAsSeen 1 bt_RX11 [] ct_1606 [] [] cu_1606 44 con_1606) = true := by decide +kernel
theorem cto_1606 (l : Launch) : CTOK2 l RX11 vwCl gTbl ct_1606 := ct2_cons (vl_1544 l) ck_RX11_473_1544 (ct2_cons (vl_1541 l) ck_RX11_473_1541 (ct2_cons (vl_1538 l) ck_RX11_473_1538 (ct2_cons (vl_1535 l) ck_RX11_473_1535 (ct2_cons (vl_1532 l) ck_RX11_473_1532 (ct2_cons (vl_1529 l) ck_RX11_473_1529 (ct2_cons (vl_1518 l) ck_RX11_473_1518 (ct2_cons (vl_1515 l) ck_RX11_473_1515 (ct2_cons (vl_1512 l) ck_RX11_473_1512 (ct2_cons (vl_1545 l) ck_RX11_473_1545 (ct2_cons (vl_1542 l) ck_RX11_473_1542 (ct2_cons (vl_1539 l) ck_RX11_473_1539 (ct2_cons (vl_1536 l) ck_RX11_473_1536 (ct2_cons (vl_1533 l) ck_RX11_473_1533 (ct2_cons (vl_1530 l) ck_RX11_473_1530 (ct2_cons (vl_1519 l) ck_RX11_473_1519 (ct2_cons (vl_1516 l) ck_RX11_473_1516 (ct2_cons (vl_1513 l) ck_RX11_473_1513 (ct2_cons (vl_1546 l) ck_RX11_473_1546 (ct2_cons (vl_1543 l) ck_RX11_473_1543 (ct2_cons (vl_1540 l) ck_RX11_473_1540 (ct2_cons (vl_1537 l) ck_RX11_473_1537 (ct2_cons (vl_1534 l) ck_RX11_473_1534 (ct2_cons (vl_1531 l) ck_RX11_473_1531 (ct2_cons (vl_1520 l) ck_RX11_473_1520 (ct2_cons (vl_1517 l) ck_RX11_473_1517 (ct2_cons (vl_1514 l) ck_RX11_473_1514 (ct2_nil)))))))))))))))))))))))))))
theorem vl_1606 (l : Launch) : Vld2 l vwCl gTbl con_1606 := conR_ok3 gT_all (hd_1606) rfl pn_RX11 tk_X11_isAsSeen bo_RX11 xo_RX11 (cto_1606 l) ch_1606 (cut_all cc_1606)
/-- RookHusting guessAll -/
noncomputable def gi_1227 : GI := jl_n [jl_z 2, jl_i 0 4, jl_z 13, jl_i 0 1, jl_z 7, jl_t, jl_z 1, jl_i 0 16, jl_i 0 3, jl_z 1, jl_i 0 5, jl_z 1, jl_i 0 5, jl_i 0 7, jl_z 11, jl_i 0 30, jl_z 3, jl_r 30 (jl_i 0 1), jl_r 30 (jl_m 0 15), jl_z 7, jl_i 0 5, jl_i 0 16, jl_t, jl_z 6, jl_t, jl_z 7, jl_i 0 5, jl_i 0 16, jl_z 3, jl_r 3 (jl_m 0 60), jl_i 25 27, jl_i 0 4, jl_i 0 16, jl_i 0 250, jl_i 0 4, jl_i 0 16, jl_i 0 250, jl_i 0 4, jl_i 0 16, jl_i 0 250, jl_i 0 4, jl_i 0 16, jl_i 0 250, jl_i 0 4, jl_i 0 16, jl_i 0 250, jl_i 0 4, jl_i 0 16, jl_i 0 250, jl_i 0 4, jl_i 0 16, jl_i 0 250, jl_i 0 4, jl_i 0 16, jl_i 0 250, jl_i 0 4, jl_i 0 16, jl_i 0 250, jl_r 33 (jl_u)]
noncomputable def gi_1228 : GI := jl_n [jl_z 2, jl_i 0 4, jl_z 13, jl_i 0 1, jl_z 7, jl_t, jl_z 1, jl_i 0 16, jl_i 0 3, jl_z 1, jl_i 0 5, jl_z 1, jl_i 0 5, jl_i 0 7, jl_z 11, jl_i 0 30, jl_z 3, jl_r 30 (jl_i 0 1), jl_r 30 (jl_m 0 15), jl_z 7, jl_i 0 5, jl_i 0 16, jl_t, jl_z 6, jl_t, jl_z 7, jl_i 0 5, jl_i 0 16, jl_z 3, jl_r 3 (jl_m 0 60), jl_i 25 27, jl_i 0 4, jl_i 0 16, jl_i 0 250, jl_i 0 4, jl_i 0 16, jl_i 0 250, jl_i 0 4, jl_i 0 16, jl_i 0 250, jl_i 0 4, jl_i 0 16, jl_i 0 250, jl_i 0 4, jl_i 0 16, jl_i 0 250, jl_i 0 4, jl_i 0 16, jl_i 0 250, jl_i 0 4, jl_i 0 16, jl_i 0 250, jl_i 0 4, jl_i 0 16, jl_i 0 250, jl_i 0 4, jl_i 0 16, jl_i 0 250, jl_r 33 (jl_u), jl_z 19, jl_t, jl_z 7, jl_i 0 5, jl_i 0 16, jl_t, jl_z 6, jl_t, jl_z 7, jl_i 0 5, jl_i 0 16]
noncomputable def con_1607 : Con2 := ((yX11_guessAll, cX11_guessAll, 4, none), (6, 151), ([(6, 0, 0), (0, 3, 0), (1, 2, 0)], gi_1227, hc_198, rq_6), [((9, 0, 0), gi_1228, hq_887, [], [1, 1, 1, 1, 1, 1, 1, 1, 1, 1, 1, 1, 1, 1, 1, 1, 1, 1, 1, 1, 1, 1, 1, 1, 1, 1, 1, 1, 1, 1, 1, 1, 1, 1, 1, 1, 1, 1, 1, 1, 1, 1, 1, 1, 1, 1])])
theorem hd_1607 : con_1607.1 = (yX11_guessAll, cX11_guessAll, 4, none) := rfl
theorem ck_RX11_483_1606 : COK2 RX11 vwCl gTbl 483 0 con_1606 := ⟨wd_1230, wd_125, mh_X11_isAsSeen, .inr (.inr ⟨rfl, wd_1227, wd_1229, wd_43, ⟨_, rfl, pd_X11_isAsSeen⟩, 11, _, TX11, 16, rfl, rfl⟩)⟩
noncomputable def ct_1607 : CTB2 := [(1, 208, 0, con_900, [0, 1, 2, 3, 4, 5, 6, 7, 8, 9, 10, 11, 12, 13, 14, 15, 16, 17, 18, 19, 20, 21, 22, 23, 24, 25, 26]), (36, 332, 0, con_1212, [28, 2, 29, 4, 30, 5, 31, 6]), (45, 480, 0, con_859, [28, 29]), (73, 372, 0, con_899, [32, 3, 28, 16, 33, 18, 34, 30, 35, 29, 36, 22, 23, 37, 38, 39, 31]), (78, 483, 0, con_1606, [0, 40, 41, 42, 32, 33]), (105, 486, 0, con_1522, [27, 33, 43]), (105, 486, 0, con_1527, [27, 33, 43])]
noncomputable def gi_1229 : GI := jl_n [jl_z 2, jl_i 0 4, jl_z 13, jl_i 0 1, jl_z 7, jl_t, jl_z 1, jl_i 0 16, jl_i 0 3, jl_z 1, jl_i 0 5, jl_z 1, jl_i 0 5, jl_i 0 7, jl_z 11, jl_i 0 30, jl_z 3, jl_r 30 (jl_i 0 1), jl_r 30 (jl_m 0 15), jl_z 7, jl_i 0 5, jl_i 0 16, jl_t, jl_z 6, jl_t, jl_z 7, jl_i 0 5, jl_i 0 16, jl_z 3, jl_r 3 (jl_m 0 60), jl_i 25 27, jl_i 0 4, jl_i 0 16, jl_i 0 250, jl_i 0 4, jl_i 0 16, jl_i 0 250, jl_i 0 4, jl_i 0 16, jl_i 0 250, jl_i 0 4, jl_i 0 16, jl_i 0 250, jl_i 0 4, jl_i 0 16, jl_i 0 250, jl_i 0 4, jl_i 0 16, jl_i 0 250, jl_i 0 4, jl_i 0 16, jl_i 0 250, jl_i 0 4, jl_i 0 16, jl_i 0 250, jl_i 0 4, jl_i 0 16, jl_i 0 250, jl_r 33 (jl_u), jl_z 3, jl_m 0 5, jl_z 19, jl_t, jl_z 7, jl_i 0 5, jl_i 0 16, jl_t, jl_z 6, jl_t, jl_z 7, jl_i 0 5, jl_i 0 16]
noncomputable def cu_1607 : List CUT2 := [((14, [(0, (6, 0, 0)), (1, (0, 3, 0)), (2, (1, 2, 0)), (3, (1, 204, 0))], [], gi_1229, hq_888), rq_6, ([(204, (-1))], 5))]
theorem ch_1607 : staG tb_X11_guessAll 1 bt_RX11 [] ct_1607 [] [] cu_1607 48 con_1607 = true := by decide +kernel
theorem cc_1607 : cu_1607.all (cutG tb_X11_guessAll 1 bt_RX11 [] ct_1607 [] [] cu_1607 48 con_1607) = true := by decide +kernel
theorem cto_1607 (l : Launch) : CTOK2 l RX11 vwCl gTbl ct_1607 := ct2_cons (vl_900 l) ck_RX11_208_900 (ct2_cons (vl_1212 l) ck_RX11_332_1212 (ct2_cons (vl_859 l) ck_RX11_480_859 (ct2_cons (vl_899 l) ck_RX11_372_899 (ct2_cons (vl_1606 l) ck_RX11_483_1606 (ct2_cons (vl_1522 l) ck_RX11_486_1522 (ct2_cons (vl_1527 l) ck_RX11_486_1527 (ct2_nil)))))))
theorem vl_1607 (l : Launch) : Vld2 l vwCl gTbl con_1607 := conR_ok3 gT_all (hd_1607) rfl pn_RX11 tk_X11_guessAll bo_RX11 xo_RX11 (cto_1607 l) ch_1607 (cut_all cc_1607)
/-- RookHusting isAsSeen -/
noncomputable def gi_1230 : GI := jl_n [jl_z 21, jl_r 3 (jl_m 0 60), jl_i 22 24, jl_i 0 4, jl_i 0 16, jl_i 0 250, jl_i 0 4, jl_i 0 16, jl_i 0 250, jl_i 0 4, jl_i 0 16, jl_i 0 250, jl_i 0 4, jl_i 0 16, jl_i 0 250, jl_i 0 4, jl_i 0 16, jl_i 0 250, jl_i 0 4, jl_i 0 16, jl_i 0 250, jl_i 0 4, jl_i 0 16, jl_i 0 250, jl_i 0 4, jl_i 0 16, jl_i 0 250, jl_r 36 (jl_u), jl_z 9]
noncomputable def gi_1231 : GI := jl_n [jl_z 21, jl_r 3 (jl_m 0 60), jl_i 22 24, jl_i 0 4, jl_i 0 16, jl_i 0 250, jl_i 0 4, jl_i 0 16, jl_i 0 250, jl_i 0 4, jl_i 0 16, jl_i 0 250, jl_i 0 4, jl_i 0 16, jl_i 0 250, jl_i 0 4, jl_i 0 16, jl_i 0 250, jl_i 0 4, jl_i 0 16, jl_i 0 250, jl_i 0 4, jl_i 0 16, jl_i 0 250, jl_i 0 4, jl_i 0 16, jl_i 0 250, jl_r 36 (jl_u), jl_z 10]
noncomputable def con_1608 : Con2 := ((yX11_isAsSeen, cX11_isAsSeen, 4, (some .boolean)), (1, 22), ([(6, 0, 0), (0, 3, 0)], gi_1230, hc_196, []), [((0, 0, 0), gi_1231, hq_885, [], [1]), ((0, 1, 0), gi_1231, hq_885, [], [1])])
theorem hd_1608 : con_1608.1 = (yX11_isAsSeen, cX11_isAsSeen, 4, (some .boolean)) := rfl
noncomputable def ct_1608 : CTB2 := [(21, 473, 0, con_1541, [1, 3]), (21, 473, 0, con_1538, [1, 3]), (21, 473, 0, con_1535, [1, 3]), (21, 473, 0, con_1532, [1, 3]), (21, 473, 0, con_1529, [1, 3]), (21, 473, 0, con_1518, [1, 3]), (21, 473, 0, con_1515, [1, 3]), (21, 473, 0, con_1512, [1, 3]), (36, 473, 0, con_1542, [1, 3]), (36, 473, 0, con_1539, [1, 3]), (36, 473, 0, con_1536, [1, 3]), (36, 473, 0, con_1533, [1, 3]), (36, 473, 0, con_1530, [1, 3]), (36, 473, 0, con_1519, [1, 3]), (36, 473, 0, con_1516, [1, 3]), (36, 473, 0, con_1513, [1, 3]), (60, 473, 0, con_1543, [1, 3]), (60, 473, 0, con_1540, [1, 3]), (60, 473, 0, con_1537, [1, 3]), (60, 473, 0, con_1534, [1, 3]), (60, 473, 0, con_1531, [1, 3]), (60, 473, 0, con_1520, [1, 3]), (60, 473, 0, con_1517, [1, 3]), (60, 473, 0, con_1514, [1, 3])]
noncomputable def gi_1232 : GI := jl_n [jl_z 21, jl_r 3 (jl_m 0 60), jl_i 22 24, jl_i 0 4, jl_i 0 16, jl_i 0 250, jl_i 0 4, jl_i 0 16, jl_i 0 250, jl_i 0 4, jl_i 0 16, jl_i 0 250, jl_i 0 4, jl_i 0 16, jl_i 0 250, jl_i 0 4, jl_i 0 16, jl_i 0 250, jl_i 0 4, jl_i 0 16, jl_i 0 250, jl_i 0 4, jl_i 0 16, jl_i 0 250, jl_i 0 4, jl_i 0 16, jl_i 0 250, jl_r 36 (jl_u), jl_z 12]
noncomputable def gi_1233 : GI := jl_n [jl_z 21, jl_r 3 (jl_m 0 60), jl_i 22 24, jl_i 0 4, jl_i 0 16, jl_i 0 250, jl_i 0 4, jl_i 0 16, jl_i 0 250, jl_i 0 4, jl_i 0 16, jl_i 0 250, jl_i 0 4, jl_i 0 16, jl_i 0 250, jl_i 0 4, jl_i 0 16, jl_i 0 250, jl_i 0 4, jl_i 0 16, jl_i 0 250, jl_i 0 4, jl_i 0 16, jl_i 0 250, jl_i 0 4, jl_i 0 16, jl_i 0 250, jl_r 36 (jl_u), jl_z 12, jl_i 0 84]
noncomputable def cu_1608 : List CUT2 := [((2, [(0, (6, 0, 0)), (1, (0, 3, 0)), (2, (0, 0, 0))], [], gi_1232, hq_885), [], ([], 24)), ((2, [(0, (6, 0, 0)), (1, (0, 3, 0)), (2, (0, 3, 0)), (3, (1, 97, 0))], [], gi_1233, hq_885), [], ([], 21)), ((2, [(0, (6, 0, 0)), (1, (0, 3, 0)), (2, (0, 6, 0)), (3, (1, 97, 0))], [], gi_1233, hq_885), [], ([], 18)), ((2, [(0, (6, 0, 0)), (1, (0, 3, 0)), (2, (0, 9, 0)), (3, (1, 97, 0))], [], gi_1233, hq_885), [], ([], 15)), ((2, [(0, (6, 0, 0)), (1, (0, 3, 0)), (2, (0, 12, 0)), (3, (1, 97, 0))], [], gi_1233, hq_885), [], ([], 12)), ((2, [(0, (6, 0, 0)), (1, (0, 3, 0)), (2, (0, 15, 0)), (3, (1, 97, 0))], [], gi_1233, hq_885), [], ([], 9)), ((2, [(0, (6, 0, 0)), (1, (0, 3, 0)), (2, (0, 18, 0)), (3, (1, 97, 0))], [], gi_1233, hq_885), [], ([], 6)), ((2, [(0, (6, 0, 0)), (1, (0, 3, 0)), (2, (0, 21, 0)), (3, (1, 97, 0))], [], gi_1233, hq_885), [], ([], 3)), ((2, [(0, (6, 0, 0)), (1, (0, 3, 0)), (2, (0, 24, 0)), (3, (1, 97, 0))], [], gi_1233, hq_885), [], ([], 0))]
theorem ch_1608 : staG tb_X11_isAsSeen 1 bt_RX11 [] ct_1608 [] [] cu_1608 44 con_1608 = true := by decide +kernel
theorem cc_1608 : cu_1608.all (cutG tb_X11_isAsSeen 1 bt_RX11 [] ct_1608 [] [] cu_1608 44 con_1608) = true := by decide +kernel
theorem cto_1608 (l : Launch) : CTOK2 l RX11 vwCl gTbl ct_1608 := ct2_cons (vl_1541 l) ck_RX11_473_1541 (ct2_cons (vl_1538 l) ck_RX11_473_1538 (ct2_cons (vl_1535 l) ck_RX11_473_1535 (ct2_cons (vl_1532 l) ck_RX11_473_1532 (ct2_cons (vl_1529 l) ck_RX11_473_1529 (ct2_cons (vl_1518 l) ck_RX11_473_1518 (ct2_cons (vl_1515 l) ck_RX11_473_1515 (ct2_cons (vl_1512 l) ck_RX11_473_1512 (ct2_cons (vl_1542 l) ck_RX11_473_1542 (ct2_cons (vl_1539 l) ck_RX11_473_1539 (ct2_cons (vl_1536 l) ck_RX11_473_1536 (ct2_cons (vl_1533 l) ck_RX11_473_1533 (ct2_cons (vl_1530 l) ck_RX11_473_1530 (ct2_cons (vl_1519 l) ck_RX11_473_1519 (ct2_cons (vl_1516 l) ck_RX11_473_1516 (ct2_cons (vl_1513 l) ck_RX11_473_1513 (ct2_cons (vl_1543 l) ck_RX11_473_1543 (ct2_cons (vl_1540 l) ck_RX11_473_1540 (ct2_cons (vl_1537 l) ck_RX11_473_1537 (ct2_cons (vl_1534 l) ck_RX11_473_1534 (ct2_cons (vl_1531 l) ck_RX11_473_1531 (ct2_cons (vl_1520 l) ck_RX11_473_1520 (ct2_cons (vl_1517 l) ck_RX11_473_1517 (ct2_cons (vl_1514 l) ck_RX11_473_1514 (ct2_nil))))))))))))))))))))))))
theorem vl_1608 (l : Launch) : Vld2 l vwCl gTbl con_1608 := conR_ok3 gT_all (hd_1608) rfl pn_RX11 tk_X11_isAsSeen bo_RX11 xo_RX11 (cto_1608 l) ch_1608 (cut_all cc_1608)
/-- RookHusting guessAll -/
noncomputable def gi_1234 : GI := jl_n [jl_z 2, jl_i 0 4, jl_z 13, jl_i 0 1, jl_z 7, jl_t, jl_z 1, jl_i 0 16, jl_i 0 3, jl_z 1, jl_i 0 5, jl_z 1, jl_i 0 5, jl_i 0 7, jl_z 11, jl_i 0 30, jl_z 3, jl_r 30 (jl_i 0 1), jl_r 30 (jl_m 0 15), jl_z 7, jl_i 0 5, jl_i 0 16, jl_t, jl_z 6, jl_t, jl_z 7, jl_i 0 5, jl_i 0 16, jl_z 3, jl_r 3 (jl_m 0 60), jl_i 22 24, jl_i 0 4, jl_i 0 16, jl_i 0 250, jl_i 0 4, jl_i 0 16, jl_i 0 250, jl_i 0 4, jl_i 0 16, jl_i 0 250, jl_i 0 4, jl_i 0 16, jl_i 0 250, jl_i 0 4, jl_i 0 16, jl_i 0 250, jl_i 0 4, jl_i 0 16, jl_i 0 250, jl_i 0 4, jl_i 0 16, jl_i 0 250, jl_i 0 4, jl_i 0 16, jl_i 0 250, jl_r 36 (jl_u)]
noncomputable def gi_1235 : GI := jl_n [jl_z 2, jl_i 0 4, jl_z 13, jl_i 0 1, jl_z 7, jl_t, jl_z 1, jl_i 0 16, jl_i 0 3, jl_z 1, jl_i 0 5, jl_z 1, jl_i 0 5, jl_i 0 7, jl_z 11, jl_i 0 30, jl_z 3, jl_r 30 (jl_i 0 1), jl_r 30 (jl_m 0 15), jl_z 7, jl_i 0 5, jl_i 0 16, jl_t, jl_z 6, jl_t, jl_z 7, jl_i 0 5, jl_i 0 16, jl_z 3, jl_r 3 (jl_m 0 60), jl_i 22 24, jl_i 0 4, jl_i 0 16, jl_i 0 250, jl_i 0 4, jl_i 0 16, jl_i 0 250, jl_i 0 4, jl_i 0 16, jl_i 0 250, jl_i 0 4, jl_i 0 16, jl_i 0 250, jl_i 0 4, jl_i 0 16, jl_i 0 250, jl_i 0 4, jl_i 0 16, jl_i 0 250, jl_i 0 4, jl_i 0 16, jl_i 0 250, jl_i 0 4, jl_i 0 16, jl_i 0 250, jl_r 36 (jl_u), jl_z 19, jl_t, jl_z 7, jl_i 0 5, jl_i 0 16, jl_t, jl_z 6, jl_t, jl_z 7, jl_i 0 5, jl_i 0 16]
noncomputable def con_1609 : Con2 := ((yX11_guessAll, cX11_guessAll, 4, none), (6, 151), ([(6, 0, 0), (0, 3, 0), (1, 2, 0)], gi_1234, hc_198, rq_6), [((9, 0, 0), gi_1235, hq_887, [], [1, 1, 1, 1, 1, 1, 1, 1, 1, 1, 1, 1, 1, 1, 1, 1, 1, 1, 1, 1, 1, 1, 1, 1, 1, 1, 1, 1, 1, 1, 1, 1, 1, 1, 1, 1, 1, 1, 1, 1, 1, 1, 1, 1, 1, 1])])
theorem hd_1609 : con_1609.1 = (yX11_guessAll, cX11_guessAll, 4, none) := rfl
theorem ck_RX11_483_1608 : COK2 RX11 vwCl gTbl 483 0 con_1608 := ⟨wd_1230, wd_125, mh_X11_isAsSeen, .inr (.inr ⟨rfl, wd_1227, wd_1229, wd_43, ⟨_, rfl, pd_X11_isAsSeen⟩, 11, _, TX11, 16, rfl, rfl⟩)⟩
noncomputable def ct_1609 : CTB2 := [(1, 208, 0, con_900, [0, 1, 2, 3, 4, 5, 6, 7, 8, 9, 10, 11, 12, 13, 14, 15, 16, 17, 18, 19, 20, 21, 22, 23, 24, 25, 26]), (36, 332, 0, con_1212, [28, 2, 29, 4, 30, 5, 31, 6]), (45, 480, 0, con_859, [28, 29]), (73, 372, 0, con_899, [32, 3, 28, 16, 33, 18, 34, 30, 35, 29, 36, 22, 23, 37, 38, 39, 31]), (78, 483, 0, con_1608, [0, 40, 41, 42, 32, 33]), (105, 486, 0, con_1522, [27, 33, 43]), (105, 486, 0, con_1527, [27, 33, 43])]
noncomputable def gi_1236 : GI := jl_n [jl_z 2, jl_i 0 4, jl_z 13, jl_i 0 1, jl_z 7, jl_t, jl_z 1, jl_i 0 16, jl_i 0 3, jl_z 1, jl_i 0 5, jl_z 1, jl_i 0 5, jl_i 0 7, jl_z 11, jl_i 0 30, jl_z 3, jl_r 30 (jl_i 0 1), jl_r 30 (jl_m 0 15), jl_z 7, jl_i 0 5, jl_i 0 16, jl_t, jl_z 6, jl_t, jl_z 7, jl_i 0 5, jl_i 0 16, jl_z 3, jl_r 3 (jl_m 0 60), jl_i 22 24, jl_i 0 4, jl_i 0 16, jl_i 0 250, jl_i 0 4, jl_i 0 16, jl_i 0 250, jl_i 0 4, jl_i 0 16, jl_i 0 250, jl_i 0 4, jl_i 0 16, jl_i 0 250, jl_i 0 4, jl_i 0 16, jl_i 0 250, jl_i 0 4, jl_i 0 16, jl_i 0 250, jl_i 0 4, jl_i 0 16, jl_i 0 250, jl_i 0 4, jl_i 0 16, jl_i 0 250, jl_r 36 (jl_u), jl_z 3, jl_m 0 5, jl_z 19, jl_t, jl_z 7, jl_i 0 5, jl_i 0 16, jl_t, jl_z 6, jl_t, jl_z 7, jl_i 0 5, jl_i 0 16]
noncomputable def cu_1609 : List CUT2 := [((14, [(0, (6, 0, 0)), (1, (0, 3, 0)), (2, (1, 2, 0)), (3, (1, 204, 0))], [], gi_1236, hq_888), rq_6, ([(204, (-1))], 5))]
theorem ch_1609 : staG tb_X11_guessAll 1 bt_RX11 [] ct_1609 [] [] cu_1609 48 con_1609 = true := by decide +kernel
theorem cc_1609 : cu_1609.all (cutG tb_X11_guessAll 1 bt_RX11 [] ct_1609 [] [] cu_1609 48 con_1609) = true := by decide +kernel
theorem cto_1609 (l : Launch) : CTOK2 l RX11 vwCl gTbl ct_1609 := ct2_cons (vl_900 l) ck_RX11_208_900 (ct2_cons (vl_1212 l) ck_RX11_332_1212 (ct2_cons (vl_859 l) ck_RX11_480_859 (ct2_cons (vl_899 l) ck_RX11_372_899 (ct2_cons (vl_1608 l) ck_RX11_483_1608 (ct2_cons (vl_1522 l) ck_RX11_486_1522 (ct2_cons (vl_1527 l) ck_RX11_486_1527 (ct2_nil)))))))
theorem vl_1609 (l : Launch) : Vld2 l vwCl gTbl con_1609 := conR_ok3 gT_all (hd_1609) rfl pn_RX11 tk_X11_guessAll bo_RX11 xo_RX11 (cto_1609 l) ch_1609 (cut_all cc_1609)
/-- RookHusting isAsSeen -/
noncomputable def gi_1237 : GI := jl_n [jl_z 21, jl_r 3 (jl_m 0 60), jl_i 19 21, jl_i 0 4, jl_i 0 16, jl_i 0 250, jl_i 0 4, jl_i 0 16, jl_i 0 250, jl_i 0 4, jl_i 0 16, jl_i 0 250, jl_i 0 4, jl_i 0 16, jl_i 0 250, jl_i 0 4, jl_i 0 16, jl_i 0 250, jl_i 0 4, jl_i 0 16, jl_i 0 250, jl_i 0 4, jl_i 0 16, jl_i 0 250, jl_r 39 (jl_u), jl_z 9]
noncomputable def gi_1238 : GI := jl_n [jl_z 21, jl_r 3 (jl_m 0 60), jl_i 19 21, jl_i 0 4, jl_i 0 16, jl_i 0 250, jl_i 0 4, jl_i 0 16, jl_i 0 250, jl_i 0 4, jl_i 0 16, jl_i 0 250, jl_i 0 4, jl_i 0 16, jl_i 0 250, jl_i 0 4, jl_i 0 16, jl_i 0 250, jl_i 0 4, jl_i 0 16, jl_i 0 250, jl_i 0 4, jl_i 0 16, jl_i 0 250, jl_r 39 (jl_u), jl_z 10]
noncomputable def con_1610 : Con2 := ((yX11_isAsSeen, cX11_isAsSeen, 4, (some .boolean)), (1, 22), ([(6, 0, 0), (0, 3, 0)], gi_1237, hc_196, []), [((0, 0, 0), gi_1238, hq_885, [], [1]), ((0, 1, 0), gi_1238, hq_885, [], [1])])
theorem hd_1610 : con_1610.1 = (yX11_isAsSeen, cX11_isAsSeen, 4, (some .boolean)) := rfl
noncomputable def ct_1610 : CTB2 := [(21, 473, 0, con_1538, [1, 3]), (21, 473, 0, con_1535, [1, 3]), (21, 473, 0, con_1532, [1, 3]), (21, 473, 0, con_1529, [1, 3]), (21, 473, 0, con_1518, [1, 3]), (21, 473, 0, con_1515, [1, 3]), (21, 473, 0, con_1512, [1, 3]), (36, 473, 0, con_1539, [1, 3]), (36, 473, 0, con_1536, [1, 3]), (36, 473, 0, con_1533, [1, 3]), (36, 473, 0, con_1530, [1, 3]), (36, 473, 0, con_1519, [1, 3]), (36, 473, 0, con_1516, [1, 3]), (36, 473, 0, con_1513, [1, 3]), (60, 473, 0, con_1540, [1, 3]), (60, 473, 0, con_1537, [1, 3]), (60, 473, 0, con_1534, [1, 3]), (60, 473, 0, con_1531, [1, 3]), (60, 473, 0, con_1520, [1, 3]), (60, 473, 0, con_1517, [1, 3]), (60, 473, 0, con_1514, [1, 3])]
noncomputable def gi_1239 : GI := jl_n [jl_z 21, jl_r 3 (jl_m 0 60), jl_i 19 21, jl_i 0 4, jl_i 0 16, jl_i 0 250, jl_i 0 4, jl_i 0 16, jl_i 0 250, jl_i 0 4, jl_i 0 16, jl_i 0 250, jl_i 0 4, jl_i 0 16, jl_i 0 250, jl_i 0 4, jl_i 0 16, jl_i 0 250, jl_i 0 4, jl_i 0 16, jl_i 0 250, jl_i 0 4, jl_i 0 16, jl_i 0 250, jl_r 39 (jl_u), jl_z 12]
noncomputable def gi_1240 : GI := jl_n [jl_z 21, jl_r 3 (jl_m 0 60), jl_i 19 21, jl_i 0 4, jl_i 0 16, jl_i 0 250, jl_i 0 4, jl_i 0 16, jl_i 0 250, jl_i 0 4, jl_i 0 16, jl_i 0 250, jl_i 0 4, jl_i 0 16, jl_i 0 250, jl_i 0 4, jl_i 0 16, jl_i 0 250, jl_i 0 4, jl_i 0 16, jl_i 0 250, jl_i 0 4, jl_i 0 16, jl_i 0 250, jl_r 39 (jl_u), jl_z 12, jl_i 0 84]
noncomputable def cu_1610 : List CUT2 := [((2, [(0, (6, 0, 0)), (1, (0, 3, 0)), (2, (0, 0, 0))], [], gi_1239, hq_885), [], ([], 21)), ((2, [(0, (6, 0, 0)), (1, (0, 3, 0)), (2, (0, 3, 0)), (3, (1, 97, 0))], [], gi_1240, hq_885), [], ([], 18)), ((2, [(0, (6, 0, 0)), (1, (0, 3, 0)), (2, (0, 6, 0)), (3, (1, 97, 0))], [], gi_1240, hq_885), [], ([], 15)), ((2, [(0, (6, 0, 0)), (1, (0, 3, 0)), (2, (0, 9, 0)), (3, (1, 97, 0))], [], gi_1240, hq_885), [], ([], 12)), ((2, [(0, (6, 0, 0)), (1, (0, 3, 0)), (2, (0, 12, 0)), (3, (1, 97, 0))], [], gi_1240, hq_885), [], ([], 9)), ((2, [(0, (6, 0, 0)), (1, (0, 3, 0)), (2, (0, 15, 0)), (3, (1, 97, 0))], [], gi_1240, hq_885), [], ([], 6)), ((2, [(0, (6, 0, 0)), (1, (0, 3, 0)), (2, (0, 18, 0)), (3, (1, 97, 0))], [], gi_1240, hq_885), [], ([], 3)), ((2, [(0, (6, 0, 0)), (1, (0, 3, 0)), (2, (0, 21, 0)), (3, (1, 97, 0))], [], gi_1240, hq_885), [], ([], 0))]
theorem ch_1610 : staG tb_X11_isAsSeen 1 bt_RX11 [] ct_1610 [] [] cu_1610 44 con_1610 = true := by decide +kernel
theorem cc_1610 : cu_1610.all (cutG tb_X11_isAsSeen 1 bt_RX11 [] ct_1610 [] [] cu_1610 44 con_1610) = true := by decide +kernel
theorem cto_1610 (l : Launch) : CTOK2 l RX11 vwCl gTbl ct_1610 := ct2_cons (vl_1538 l) ck_RX11_473_1538 (ct2_cons (vl_1535 l) ck_RX11_473_1535 (ct2_cons (vl_1532 l) ck_RX11_473_1532 (ct2_cons (vl_1529 l) ck_RX11_473_1529 (ct2_cons (vl_1518 l) ck_RX11_473_1518 (ct2_cons (vl_1515 l) ck_RX11_473_1515 (ct2_cons (vl_1512 l) ck_RX11_473_1512 (ct2_cons (vl_1539 l) ck_RX11_473_1539 (ct2_cons (vl_1536 l) ck_RX11_473_1536 (ct2_cons (vl_1533 l) ck_RX11_473_1533 (ct2_cons (vl_1530 l) ck_RX11_473_1530 (ct2_cons (vl_1519 l) ck_RX11_473_1519 (ct2_cons (vl_1516 l) ck_RX11_473_1516 (ct2_cons (vl_1513 l) ck_RX11_473_1513 (ct2_cons (vl_1540 l) ck_RX11_473_1540 (ct2_cons (vl_1537 l) ck_RX11_473_1537 (ct2_cons (vl_1534 l) ck_RX11_473_1534 (ct2_cons (vl_1531 l) ck_RX11_473_1531 (ct2_cons (vl_1520 l) ck_RX11_473_1520 (ct2_cons (vl_1517 l) ck_RX11_473_1517 (ct2_cons (vl_1514 l) ck_RX11_473_1514 (ct2_nil)))))))))))))))))))))
theorem vl_1610 (l : Launch) : Vld2 l vwCl gTbl con_1610 := conR_ok3 gT_all (hd_1610) rfl pn_RX11 tk_X11_isAsSeen bo_RX11 xo_RX11 (cto_1610 l) ch_1610 (cut_all cc_1610)
/-- RookHusting guessAll -/
noncomputable def gi_1241 : GI := jl_n [jl_z 2, jl_i 0 4, jl_z 13, jl_i 0 1, jl_z 7, jl_t, jl_z 1, jl_i 0 16, jl_i 0 3, jl_z 1, jl_i 0 5, jl_z 1, jl_i 0 5, jl_i 0 7, jl_z 11, jl_i 0 30, jl_z 3, jl_r 30 (jl_i 0 1), jl_r 30 (jl_m 0 15), jl_z 7, jl_i 0 5, jl_i 0 16, jl_t, jl_z 6, jl_t, jl_z 7, jl_i 0 5, jl_i 0 16, jl_z 3, jl_r 3 (jl_m 0 60), jl_i 19 21, jl_i 0 4, jl_i 0 16, jl_i 0 250, jl_i 0 4, jl_i 0 16, jl_i 0 250, jl_i 0 4, jl_i 0 16, jl_i 0 250, jl_i 0 4, jl_i 0 16, jl_i 0 250, jl_i 0 4, jl_i 0 16, jl_i 0 250, jl_i 0 4, jl_i 0 16, jl_i 0 250, jl_i 0 4, jl_i 0 16, jl_i 0 250, jl_r 39 (jl_u)]
noncomputable def gi_1242 : GI := jl_n [jl_z 2, jl_i 0 4, jl_z 13, jl_i 0 1, jl_z 7, jl_t, jl_z 1, jl_i 0 16, jl_i 0 3, jl_z 1, jl_i 0 5, jl_z 1, jl_i 0 5, jl_i 0 7, jl_z 11, jl_i 0 30, jl_z 3, jl_r 30 (jl_i 0 1), jl_r 30 (jl_m 0 15), jl_z 7, jl_i 0 5, jl_i 0 16, jl_t, jl_z 6, jl_t, jl_z 7, jl_i 0 5, jl_i 0 16, jl_z 3, jl_r 3 (jl_m 0 60), jl_i 19 21, jl_i 0 4, jl_i 0 16, jl_i 0 250, jl_i 0 4, jl_i 0 16, jl_i 0 250, jl_i 0 4, jl_i 0 16, jl_i 0 250, jl_i 0 4, jl_i 0 16, jl_i 0 250, jl_i 0 4, jl_i 0 16, jl_i 0 250, jl_i 0 4, jl_i 0 16, jl_i 0 250, jl_i 0 4, jl_i 0 16, jl_i 0 250, jl_r 39 (jl_u), jl_z 19, jl_t, jl_z 7, jl_i 0 5, jl_i 0 16, jl_t, jl_z 6, jl_t, jl_z 7, jl_i 0 5, jl_i 0 16]
noncomputable def con_1611 : Con2 := ((yX11_guessAll, cX11_guessAll, 4, none), (6, 151), ([(6, 0, 0), (0, 3, 0), (1, 2, 0)], gi_1241, hc_198, rq_6), [((9, 0, 0), gi_1242, hq_887, [], [1, 1, 1, 1, 1, 1, 1, 1, 1, 1, 1, 1, 1, 1, 1, 1, 1, 1, 1, 1, 1, 1, 1, 1, 1, 1, 1, 1, 1, 1, 1, 1, 1, 1, 1, 1, 1, 1, 1, 1, 1, 1, 1, 1, 1, 1])])
theorem hd_1611 : con_1611.1 = (yX11_guessAll, cX11_guessAll, 4, none) := rfl
theorem ck_RX11_483_1610 : COK2 RX11 vwCl gTbl 483 0 con_1610 := ⟨wd_1230, wd_125, mh_X11_isAsSeen, .inr (.inr ⟨rfl, wd_1227, wd_1229, wd_43, ⟨_, rfl, pd_X11_isAsSeen⟩, 11, _, TX11, 16, rfl, rfl⟩)⟩
noncomputable def ct_1611 : CTB2 := [(1, 208, 0, con_900, [0, 1, 2, 3, 4, 5, 6, 7, 8, 9, 10, 11, 12, 13, 14, 15, 16, 17, 18, 19, 20, 21, 22, 23, 24, 25, 26]), (36, 332, 0, con_1212, [28, 2, 29, 4, 30, 5, 31, 6]), (45, 480, 0, con_859, [28, 29]), (73, 372, 0, con_899, [32, 3, 28, 16, 33, 18, 34, 30, 35, 29, 36, 22, 23, 37, 38, 39, 31]), (78, 483, 0, con_1610, [0, 40, 41, 42, 32, 33]), (105, 486, 0, con_1522, [27, 33, 43]), (105, 486, 0, con_1527, [27, 33, 43])]
noncomputable def gi_1243 : GI := jl_n [jl_z 2, jl_i 0 4, jl_z 13, jl_i 0 1, jl_z 7, jl_t, jl_z 1, jl_i 0 16, jl_i 0 3, jl_z 1, jl_i 0 5, jl_z 1, jl_i 0 5, jl_i 0 7, jl_z 11, jl_i 0 30, jl_z 3, jl_r 30 (jl_i 0 1), jl_r 30 (jl_m 0 15), jl_z 7, jl_i 0 5, jl_i 0 16, jl_t, jl_z 6, jl_t, jl_z 7, jl_i 0 5, jl_i 0 16, jl_z 3, jl_r 3 (jl_m 0 60), jl_i 19 21, jl_i 0 4, jl_i 0 16, jl_i 0 250, jl_i 0 4, jl_i 0 16, jl_i 0 250, jl_i 0 4, jl_i 0 16, jl_i 0 250, jl_i 0 4, jl_i 0 16, jl_i 0 250, jl_i 0 4, jl_i 0 16, jl_i 0 250, jl_i 0 4, jl_i 0 16, jl_i 0 250, jl_i 0 4, jl_i 0 16, jl_i 0 250, jl_r 39 (jl_u), jl_z 3, jl_m 0 5, jl_z 19, jl_t, jl_z 7, jl_i 0 5, jl_i 0 16, jl_t, jl_z 6, jl_t, jl_z 7, jl_i 0 5, jl_i 0 16]
noncomputable def cu_1611 : List CUT2 := [((14, [(0, (6, 0, 0)), (1, (0, 3, 0)), (2, (1, 2, 0)), (3, (1, 204, 0))], [], gi_1243, hq_888), rq_6, ([(204, (-1))], 5))]
theorem ch_1611 : staG tb_X11_guessAll 1 bt_RX11 [] ct_1611 [] [] cu_1611 48 con_1611 = true := by decide +kernel
theorem cc_1611 : cu_1611.all (cutG tb_X11_guessAll 1 bt_RX11 [] ct_1611 [] [] cu_1611 48 con_1611) = true := by decide +kernel
theorem cto_1611 (l : Launch) : CTOK2 l RX11 vwCl gTbl ct_1611 := ct2_cons (vl_900 l) ck_RX11_208_900 (ct2_cons (vl_1212 l) ck_RX11_332_1212 (ct2_cons (vl_859 l) ck_RX11_480_859 (ct2_cons (vl_899 l) ck_RX11_372_899 (ct2_cons (vl_1610 l) ck_RX11_483_1610 (ct2_cons (vl_1522 l) ck_RX11_486_1522 (ct2_cons (vl_1527 l) ck_RX11_486_1527 (ct2_nil)))))))
theorem vl_1611 (l : Launch) : Vld2 l vwCl gTbl con_1611 := conR_ok3 gT_all (hd_1611) rfl pn_RX11 tk_X11_guessAll bo_RX11 xo_RX11 (cto_1611 l) ch_1611 (cut_all cc_1611)
/-- RookHusting isAsSeen -/
noncomputable def gi_1244 : GI := jl_n [jl_z 21, jl_r 3 (jl_m 0 60), jl_i 16 18, jl_i 0 4, jl_i 0 16, jl_i 0 250, jl_i 0 4, jl_i 0 16, jl_i 0 250, jl_i 0 4, jl_i 0 16, jl_i 0 250, jl_i 0 4, jl_i 0 16, jl_i 0 250, jl_i 0 4, jl_i 0 16, jl_i 0 250, jl_i 0 4, jl_i 0 16, jl_i 0 250, jl_r 42 (jl_u), jl_z 9]
noncomputable def gi_1245 : GI := jl_n [jl_z 21, jl_r 3 (jl_m 0 60), jl_i 16 18, jl_i 0 4, jl_i 0 16, jl_i 0 250, jl_i 0 4, jl_i 0 16, jl_i 0 250, jl_i 0 4, jl_i 0 16, jl_i 0 250, jl_i 0 4, jl_i 0 16, jl_i 0 250, jl_i 0 4, jl_i 0 16, jl_i 0 250, jl_i 0 4, jl_i 0 16, jl_i 0 250, jl_r 42 (jl_u), jl_z 10]
noncomputable def con_1612 : Con2 := ((yX11_isAsSeen, cX11_isAsSeen, 4, (some .boolean)), (1, 22), ([(6, 0, 0), (0, 3, 0)], gi_1244, hc_196, []), [((0, 0, 0), gi_1245, hq_885, [], [1]), ((0, 1, 0), gi_1245, hq_885, [], [1])])
theorem hd_1612 : con_1612.1 = (yX11_isAsSeen, cX11_isAsSeen, 4, (some .boolean)) := rfl
noncomputable def ct_1612 : CTB2 := [(21, 473, 0, con_1535, [1, 3]), (21, 473, 0, con_1532, [1, 3]), (21, 473, 0, con_1529, [1, 3]), (21, 473, 0, con_1518, [1, 3]), (21, 473, 0, con_1515, [1, 3]), (21, 473, 0, con_1512, [1, 3]), (36, 473, 0, con_1536, [1, 3]), (36, 473, 0, con_1533, [1, 3]), (36, 473, 0, con_1530, [1, 3]), (36, 473, 0, con_1519, [1, 3]), (36, 473, 0, con_1516, [1, 3]), (36, 473, 0, con_1513, [1, 3]), (60, 473, 0, con_1537, [1, 3]), (60, 473, 0, con_1534, [1, 3]), (60, 473, 0, con_1531, [1, 3]), (60, 473, 0, con_1520, [1, 3]), (60, 473, 0, con_1517, [1, 3]), (60, 473, 0, con_1514, [1, 3])]
noncomputable def gi_1246 : GI := jl_n [jl_z 21, jl_r 3 (jl_m 0 60), jl_i 16 18, jl_i 0 4, jl_i 0 16, jl_i 0 250, jl_i 0 4, jl_i 0 16, jl_i 0 250, jl_i 0 4, jl_i 0 16, jl_i 0 250, jl_i 0 4, jl_i 0 16, jl_i 0 250, jl_i 0 4, jl_i 0 16, jl_i 0 250, jl_i 0 4, jl_i 0 16, jl_i 0 250, jl_r 42 (jl_u), jl_z 12]
noncomputable def gi_1247 : GI := jl_n [jl_z 21, jl_r 3 (jl_m 0 60), jl_i 16 18, jl_i 0 4, jl_i 0 16, jl_i 0 250, jl_i 0 4, jl_i 0 16, jl_i 0 250, jl_i 0 4, jl_i 0 16, jl_i 0 250, jl_i 0 4, jl_i 0 16, jl_i 0 250, jl_i 0 4, jl_i 0 16, jl_i 0 250, jl_i 0 4, jl_i 0 16, jl_i 0 250, jl_r 42 (jl_u), jl_z 12, jl_i 0 84]
noncomputable def cu_1612 : List CUT2 := [((2, [(0, (6, 0, 0)), (1, (0, 3, 0)), (2, (0, 0, 0))], [], gi_1246, hq_885), [], ([], 18)), ((2, [(0, (6, 0, 0)), (1, (0, 3, 0)), (2, (0, 3, 0)), (3, (1, 97, 0))], [], gi_1247, hq_885), [], ([], 15)), ((2, [(0, (6, 0, 0)), (1, (0, 3, 0)), (2, (0, 6, 0)), (3, (1, 97, 0))], [], gi_1247, hq_885), [], ([], 12)), ((2, [(0, (6, 0, 0)), (1, (0, 3, 0)), (2, (0, 9, 0)), (3, (1, 97, 0))], [], gi_1247, hq_885), [], ([], 9)), ((2, [(0, (6, 0, 0)), (1, (0, 3, 0)), (2, (0, 12, 0)), (3, (1, 97, 0))], [], gi_1247, hq_885), [], ([], 6)), ((2, [(0, (6, 0, 0)), (1, (0, 3, 0)), (2, (0, 15, 0)), (3, (1, 97, 0))], [], gi_1247, hq_885), [], ([], 3)), ((2, [(0, (6, 0, 0)), (1, (0, 3, 0)), (2, (0, 18, 0)), (3, (1, 97, 0))], [], gi_1247, hq_885), [], ([], 0))]
theorem ch_1612 : staG tb_X11_isAsSeen 1 bt_RX11 [] ct_1612 [] [] cu_1612 44 con_1612 = true := by decide +kernel
theorem cc_1612 : cu_1612.all (cutG tb_X11_isAsSeen 1 bt_RX11 [] ct_1612 [] [] cu_1612 44 con_1612) = true := by decide +kernel
theorem cto_1612 (l : Launch) : CTOK2 l RX11 vwCl gTbl ct_1612 := ct2_cons (vl_1535 l) ck_RX11_473_1535 (ct2_cons (vl_1532 l) ck_RX11_473_1532 (ct2_cons (vl_1529 l) ck_RX11_473_1529 (ct2_cons (vl_1518 l) ck_RX11_473_1518 (ct2_cons (vl_1515 l) ck_RX11_473_1515 (ct2_cons (vl_1512 l) ck_RX11_473_1512 (ct2_cons (vl_1536 l) ck_RX11_473_1536 (ct2_cons (vl_1533 l) ck_RX11_473_1533 (ct2_cons (vl_1530 l) ck_RX11_473_1530 (ct2_cons (vl_1519 l) ck_RX11_473_1519 (ct2_cons (vl_1516 l) ck_RX11_473_1516 (ct2_cons (vl_1513 l) ck_RX11_473_1513 (ct2_cons (vl_1537 l) ck_RX11_473_1537 (ct2_cons (vl_1534 l) ck_RX11_473_1534 (ct2_cons (vl_1531 l) ck_RX11_473_1531 (ct2_cons (vl_1520 l) ck_RX11_473_1520 (ct2_cons (vl_1517 l) ck_RX11_473_1517 (ct2_cons (vl_1514 l) ck_RX11_473_1514 (ct2_nil))))))))))))))))))
theorem vl_1612 (l : Launch) : Vld2 l vwCl gTbl con_1612 := conR_ok3 gT_all (hd_1612) rfl pn_RX11 tk_X11_isAsSeen bo_RX11 xo_RX11 (cto_1612 l) ch_1612 (cut_all cc_1612)
/-- RookHusting guessAll -/
noncomputable def gi_1248 : GI := jl_n [jl_z 2, jl_i 0 4, jl_z 13, jl_i 0 1, jl_z 7, jl_t, jl_z 1, jl_i 0 16, jl_i 0 3, jl_z 1, jl_i 0 5, jl_z 1, jl_i 0 5, jl_i 0 7, jl_z 11, jl_i 0 30, jl_z 3, jl_r 30 (jl_i 0 1), jl_r 30 (jl_m 0 15), jl_z 7, jl_i 0 5, jl_i 0 16, jl_t, jl_z 6, jl_t, jl_z 7, jl_i 0 5, jl_i 0 16, jl_z 3, jl_r 3 (jl_m 0 60), jl_i 16 18, jl_i 0 4, jl_i 0 16, jl_i 0 250, jl_i 0 4, jl_i 0 16, jl_i 0 250, jl_i 0 4, jl_i 0 16, jl_i 0 250, jl_i 0 4, jl_i 0 16, jl_i 0 250, jl_i 0 4, jl_i 0 16, jl_i 0 250, jl_i 0 4, jl_i 0 16, jl_i 0 250, jl_r 42 (jl_u)]
noncomputable def gi_1249 : GI := jl_n [jl_z 2, jl_i 0 4, jl_z 13, jl_i 0 1, jl_z 7, jl_t, jl_z 1, jl_i 0 16, jl_i 0 3, jl_z 1, jl_i 0 5, jl_z 1, jl_i 0 5, jl_i 0 7, jl_z 11, jl_i 0 30, jl_z 3, jl_r 30 (jl_i 0 1), jl_r 30 (jl_m 0 15), jl_z 7, jl_i 0 5, jl_i 0 16, jl_t, jl_z 6, jl_t, jl_z 7, jl_i 0 5, jl_i 0 16, jl_z 3, jl_r 3 (jl_m 0 60), jl_i 16 18, jl_i 0 4, jl_i 0 16, jl_i 0 250, jl_i 0 4, jl_i 0 16, jl_i 0 250, jl_i 0 4, jl_i 0 16, jl_i 0 250, jl_i 0 4, jl_i 0 16, jl_i 0 250, jl_i 0 4, jl_i 0 16, jl_i 0 250, jl_i 0 4, jl_i 0 16, jl_i 0 250, jl_r 42 (jl_u), jl_z 19, jl_t, jl_z 7, jl_i 0 5, jl_i 0 16, jl_t, jl_z 6, jl_t, jl_z 7, jl_i 0 5, jl_i 0 16]
noncomputable def con_1613 : Con2 := ((yX11_guessAll, cX11_guessAll, 4, none), (6, 151), ([(6, 0, 0), (0, 3, 0), (1, 2, 0)], gi_1248, hc_198, rq_6), [((9, 0, 0), gi_1249, hq_887, [], [1, 1, 1, 1, 1, 1, 1, 1, 1, 1, 1, 1, 1, 1, 1, 1, 1, 1, 1, 1, 1, 1, 1, 1, 1, 1, 1, 1, 1, 1, 1, 1, 1, 1, 1, 1, 1, 1, 1, 1, 1, 1, 1, 1, 1, 1])])
theorem hd_1613 : con_1613.1 = (yX11_guessAll, cX11_guessAll, 4, none) := rfl
theorem ck_RX11_483_1612 : COK2 RX11 vwCl gTbl 483 0 con_1612 := ⟨wd_1230, wd_125, mh_X11_isAsSeen, .inr (.inr ⟨rfl, wd_1227, wd_1229, wd_43, ⟨_, rfl, pd_X11_isAsSeen⟩, 11, _, TX11, 16, rfl, rfl⟩)⟩
noncomputable def ct_1613 : CTB2 := [(1, 208, 0, con_900, [0, 1, 2, 3, 4, 5, 6, 7, 8, 9, 10, 11, 12, 13, 14, 15, 16, 17, 18, 19, 20, 21, 22, 23, 24, 25, 26]), (36, 332, 0, con_1212, [28, 2, 29, 4, 30, 5, 31, 6]), (45, 480, 0, con_859, [28, 29]), (73, 372, 0, con_899, [32, 3, 28, 16, 33, 18, 34, 30, 35, 29, 36, 22, 23, 37, 38, 39, 31]), (78, 483, 0, con_1612, [0, 40, 41, 42, 32, 33]), (105, 486, 0, con_1522, [27, 33, 43]), (105, 486, 0, con_1527, [27, 33, 43])]
noncomputable def gi_1250 : GI := jl_n [jl_z 2, jl_i 0 4, jl_z 13, jl_i 0 1, jl_z 7, jl_t, jl_z 1, jl_i 0 16, jl_i 0 3, jl_z 1, jl_i 0 5, jl_z 1, jl_i 0 5, jl_i 0 7, jl_z 11, jl_i 0 30, jl_z 3, jl_r 30 (jl_i 0 1), jl_r 30 (jl_m 0 15), jl_z 7, jl_i 0 5, jl_i 0 16, jl_t, jl_z 6, jl_t, jl_z 7, jl_i 0 5, jl_i 0 16, jl_z 3, jl_r 3 (jl_m 0 60), jl_i 16 18, jl_i 0 4, jl_i 0 16, jl_i 0 250, jl_i 0 4, jl_i 0 16, jl_i 0 250, jl_i 0 4, jl_i 0 16, jl_i 0 250, jl_i 0 4, jl_i 0 16, jl_i 0 250, jl_i 0 4, jl_i 0 16, jl_i 0 250, jl_i 0 4, jl_i 0 16, jl_i 0 250, jl_r 42 (jl_u), jl_z 3, jl_m 0 5, jl_z 19, jl_t, jl_z 7, jl_i 0 5, jl_i 0 16, jl_t, jl_z 6, jl_t, jl_z 7, jl_i 0 5, jl_i 0 16]
noncomputable def cu_1613 : List CUT2 := [((14, [(0, (6, 0, 0)), (1, (0, 3, 0)), (2, (1, 2, 0)), (3, (1, 204, 0))], [], gi_1250, hq_888), rq_6, ([(204, (-1))], 5))]
theorem ch_1613 : staG tb_X11_guessAll 1 bt_RX11 [] ct_1613 [] [] cu_1613 48 con_1613 = true := by decide +kernel
theorem cc_1613 : cu_1613.all (cutG tb_X11_guessAll 1 bt_RX11 [] ct_1613 [] [] cu_1613 48 con_1613) = true := by decide +kernel
theorem cto_1613 (l : Launch) : CTOK2 l RX11 vwCl gTbl ct_1613 := ct2_cons (vl_900 l) ck_RX11_208_900 (ct2_cons (vl_1212 l) ck_RX11_332_1212 (ct2_cons (vl_859 l) ck_RX11_480_859 (ct2_cons (vl_899 l) ck_RX11_372_899 (ct2_cons (vl_1612 l) ck_RX11_483_1612 (ct2_cons (vl_1522 l) ck_RX11_486_1522 (ct2_cons (vl_1527 l) ck_RX11_486_1527 (ct2_nil)))))))
theorem vl_1613 (l : Launch) : Vld2 l vwCl gTbl con_1613 := conR_ok3 gT_all (hd_1613) rfl pn_RX11 tk_X11_guessAll bo_RX11 xo_RX11 (cto_1613 l) ch_1613 (cut_all cc_1613)
/-- RookHusting isAsSeen -/
noncomputable def gi_1251 : GI := jl_n [jl_z 21, jl_r 3 (jl_m 0 60), jl_i 13 15, jl_i 0 4, jl_i 0 16, jl_i 0 250, jl_i 0 4, jl_i 0 16, jl_i 0 250, jl_i 0 4, jl_i 0 16, jl_i 0 250, jl_i 0 4, jl_i 0 16, jl_i 0 250, jl_i 0 4, jl_i 0 16, jl_i 0 250, jl_r 45 (jl_u), jl_z 9]
noncomputable def gi_1252 : GI := jl_n [jl_z 21, jl_r 3 (jl_m 0 60), jl_i 13 15, jl_i 0 4, jl_i 0 16, jl_i 0 250, jl_i 0 4, jl_i 0 16, jl_i 0 250, jl_i 0 4, jl_i 0 16, jl_i 0 250, jl_i 0 4, jl_i 0 16, jl_i 0 250, jl_i 0 4, jl_i 0 16, jl_i 0 250, jl_r 45 (jl_u), jl_z 10]
noncomputable def con_1614 : Con2 := ((yX11_isAsSeen, cX11_isAsSeen, 4, (some .boolean)), (1, 22), ([(6, 0, 0), (0, 3, 0)], gi_1251, hc_196, []), [((0, 0, 0), gi_1252, hq_885, [], [1]), ((0, 1, 0), gi_1252, hq_885, [], [1])])
theorem hd_1614 : con_1614.1 = (yX11_isAsSeen, cX11_isAsSeen, 4, (some .boolean)) := rfl
noncomputable def ct_1614 : CTB2 := [(21, 473, 0, con_1532, [1, 3]), (21, 473, 0, con_1529, [1, 3]), (21, 473, 0, con_1518, [1, 3]), (21, 473, 0, con_1515, [1, 3]), (21, 473, 0, con_1512, [1, 3]), (36, 473, 0, con_1533, [1, 3]), (36, 473, 0, con_1530, [1, 3]), (36, 473, 0, con_1519, [1, 3]), (36, 473, 0, con_1516, [1, 3]), (36, 473, 0, con_1513, [1, 3]), (60, 473, 0, con_1534, [1, 3]), (60, 473, 0, con_1531, [1, 3]), (60, 473, 0, con_1520, [1, 3]), (60, 473, 0, con_1517, [1, 3]), (60, 473, 0, con_1514, [1, 3])]
noncomputable def gi_1253 : GI := jl_n [jl_z 21, jl_r 3 (jl_m 0 60), jl_i 13 15, jl_i 0 4, jl_i 0 16, jl_i 0 250, jl_i 0 4, jl_i 0 16, jl_i 0 250, jl_i 0 4, jl_i 0 16, jl_i 0 250, jl_i 0 4, jl_i 0 16, jl_i 0 250, jl_i 0 4, jl_i 0 16, jl_i 0 250, jl_r 45 (jl_u), jl_z 12]
noncomputable def gi_1254 : GI := jl_n [jl_z 21, jl_r 3 (jl_m 0 60), jl_i 13 15, jl_i 0 4, jl_i 0 16, jl_i 0 250, jl_i 0 4, jl_i 0 16, jl_i 0 250, jl_i 0 4, jl_i 0 16, jl_i 0 250, jl_i 0 4, jl_i 0 16, jl_i 0 250, jl_i 0 4, jl_i 0 16, jl_i 0 250, jl_r 45 (jl_u), jl_z 12, jl_i 0 84]
noncomputable def cu_1614 : List CUT2 := [((2, [(0, (6, 0, 0)), (1, (0, 3, 0)), (2, (0, 0, 0))], [], gi_1253, hq_885), [], ([], 15)), ((2, [(0, (6, 0, 0)), (1, (0, 3, 0)), (2, (0, 3, 0)), (3, (1, 97, 0))], [], gi_1254, hq_885), [], ([], 12)), ((2, [(0, (6, 0, 0)), (1, (0, 3, 0)), (2, (0, 6, 0)), (3, (1, 97, 0))], [], gi_1254, hq_885), [], ([], 9)), ((2, [(0, (6, 0, 0)), (1, (0, 3, 0)), (2, (0, 9, 0)), (3, (1, 97, 0))], [], gi_1254, hq_885), [], ([], 6)), ((2, [(0, (6, 0, 0)), (1, (0, 3, 0)), (2, (0, 12, 0)), (3, (1, 97, 0))], [], gi_1254, hq_885), [], ([], 3)), ((2, [(0, (6, 0, 0)), (1, (0, 3, 0)), (2, (0, 15, 0)), (3, (1, 97, 0))], [], gi_1254, hq_885), [], ([], 0))]
theorem ch_1614 : staG tb_X11_isAsSeen 1 bt_RX11 [] ct_1614 [] [] cu_1614 44 con_1614 = true := by decide +kernel
theorem cc_1614 : cu_1614.all (cutG tb_X11_isAsSeen 1 bt_RX11 [] ct_1614 [] [] cu_1614 44 con_1614) = true := by decide +kernel
theorem cto_1614 (l : Launch) : CTOK2 l RX11 vwCl gTbl ct_1614 := ct2_cons (vl_1532 l) ck_RX11_473_1532 (ct2_cons (vl_1529 l) ck_RX11_473_1529 (ct2_cons (vl_1518 l) ck_RX11_473_1518 (ct2_cons (vl_1515 l) ck_RX11_473_1515 (ct2_cons (vl_1512 l) ck_RX11_473_1512 (ct2_cons (vl_1533 l) ck_RX11_473_1533 (ct2_cons (vl_1530 l) ck_RX11_473_1530 (ct2_cons (vl_1519 l) ck_RX11_473_1519 (ct2_cons (vl_1516 l) ck_RX11_473_1516 (ct2_cons (vl_1513 l) ck_RX11_473_1513 (ct2_cons (vl_1534 l) ck_RX11_473_1534 (ct2_cons (vl_1531 l) ck_RX11_473_1531 (ct2_cons (vl_1520 l) ck_RX11_473_1520 (ct2_cons (vl_1517 l) ck_RX11_473_1517 (ct2_cons (vl_1514 l) ck_RX11_473_1514 (ct2_nil)))))))))))))))
theorem vl_1614 (l : Launch) : Vld2 l vwCl gTbl con_1614 := conR_ok3 gT_all (hd_1614) rfl pn_RX11 tk_X11_isAsSeen bo_RX11 xo_RX11 (cto_1614 l) ch_1614 (cut_all cc_1614)
/-- RookHusting guessAll -/
noncomputable def gi_1255 : GI := jl_n [jl_z 2, jl_i 0 4, jl_z 13, jl_i 0 1, jl_z 7, jl_t, jl_z 1, jl_i 0 16, jl_i 0 3, jl_z 1, jl_i 0 5, jl_z 1, jl_i 0 5, jl_i 0 7, jl_z 11, jl_i 0 30, jl_z 3, jl_r 30 (jl_i 0 1), jl_r 30 (jl_m 0 15), jl_z 7, jl_i 0 5, jl_i 0 16, jl_t, jl_z 6, jl_t, jl_z 7, jl_i 0 5, jl_i 0 16, jl_z 3, jl_r 3 (jl_m 0 60), jl_i 13 15, jl_i 0 4, jl_i 0 16, jl_i 0 250, jl_i 0 4, jl_i 0 16, jl_i 0 250, jl_i 0 4, jl_i 0 16, jl_i 0 250, jl_i 0 4, jl_i 0 16, jl_i 0 250, jl_i 0 4, jl_i 0 16, jl_i 0 250, jl_r 45 (jl_u)]
noncomputable def gi_1256 : GI := jl_n [jl_z 2, jl_i 0 4, jl_z 13, jl_i 0 1, jl_z 7, jl_t, jl_z 1, jl_i 0 16, jl_i 0 3, jl_z 1, jl_i 0 5, jl_z 1, jl_i 0 5, jl_i 0 7, jl_z 11, jl_i 0 30, jl_z 3, jl_r 30 (jl_i 0 1), jl_r 30 (jl_m 0 15), jl_z 7, jl_i 0 5, jl_i 0 16, jl_t, jl_z 6, jl_t, jl_z 7, jl_i 0 5, jl_i 0 16, jl_z 3, jl_r 3 (jl_m 0 60), jl_i 13 15, jl_i 0 4, jl_i 0 16, jl_i 0 250, jl_i 0 4, jl_i 0 16, jl_i 0 250, jl_i 0 4, jl_i 0 16, jl_i 0 250, jl_i 0 4, jl_i 0 16, jl_i 0 250, jl_i 0 4, jl_i 0 16, jl_i 0 250, jl_r 45 (jl_u), jl_z 19, jl_t, jl_z 7, jl_i 0 5, jl_i 0 16, jl_t, jl_z 6, jl_t, jl_z 7, jl_i 0 5, jl_i 0 16]
noncomputable def con_1615 : Con2 := ((yX11_guessAll, cX11_guessAll, 4, none), (6, 151), ([(6, 0, 0), (0, 3, 0), (1, 2, 0)], gi_1255, hc_198, rq_6), [((9, 0, 0), gi_1256, hq_887, [], [1, 1, 1, 1, 1, 1, 1, 1, 1, 1, 1, 1, 1, 1, 1, 1, 1, 1, 1, 1, 1, 1, 1, 1, 1, 1, 1, 1, 1, 1, 1, 1, 1, 1, 1, 1, 1, 1, 1, 1, 1, 1, 1, 1, 1, 1])])
theorem hd_1615 : con_1615.1 = (yX11_guessAll, cX11_guessAll, 4, none) := rfl
theorem ck_RX11_483_1614 : COK2 RX11 vwCl gTbl 483 0 con_1614 := ⟨wd_1230, wd_125, mh_X11_isAsSeen, .inr (.inr ⟨rfl, wd_1227, wd_1229, wd_43, ⟨_, rfl, pd_X11_isAsSeen⟩, 11, _, TX11, 16, rfl, rfl⟩)⟩
noncomputable def ct_1615 : CTB2 := [(1, 208, 0, con_900, [0, 1, 2, 3, 4, 5, 6, 7, 8, 9, 10, 11, 12, 13, 14, 15, 16, 17, 18, 19, 20, 21, 22, 23, 24, 25, 26]), (36, 332, 0, con_1212, [28, 2, 29, 4, 30, 5, 31, 6]), (45, 480, 0, con_859, [28, 29]), (73, 372, 0, con_899, [32, 3, 28, 16, 33, 18, 34, 30, 35, 29, 36, 22, 23, 37, 38, 39, 31]), (78, 483, 0, con_1614, [0, 40, 41, 42, 32, 33]), (105, 486, 0, con_1522, [27, 33, 43]), (105, 486, 0, con_1527, [27, 33, 43])]
noncomputable def gi_1257 : GI := jl_n [jl_z 2, jl_i 0 4, jl_z 13, jl_i 0 1, jl_z 7, jl_t, jl_z 1, jl_i 0 16, jl_i 0 3, jl_z 1, jl_i 0 5, jl_z 1, jl_i 0 5, jl_i 0 7, jl_z 11, jl_i 0 30, jl_z 3, jl_r 30 (jl_i 0 1), jl_r 30 (jl_m 0 15), jl_z 7, jl_i 0 5, jl_i 0 16, jl_t, jl_z 6, jl_t, jl_z 7, jl_i 0 5, jl_i 0 16, jl_z 3, jl_r 3 (jl_m 0 60), jl_i 13 15, jl_i 0 4, jl_i 0 16, jl_i 0 250, jl_i 0 4, jl_i 0 16, jl_i 0 250, jl_i 0 4, jl_i 0 16, jl_i 0 250, jl_i 0 4, jl_i 0 16, jl_i 0 250, jl_i 0 4, jl_i 0 16, jl_i 0 250, jl_r 45 (jl_u), jl_z 3, jl_m 0 5, jl_z 19, jl_t, jl_z 7, jl_i 0 5, jl_i 0 16, jl_t, jl_z 6, jl_t, jl_z 7, jl_i 0 5, jl_i 0 16]
noncomputable def cu_1615 : List CUT2 := [((14, [(0, (6, 0, 0)), (1, (0, 3, 0)), (2, (1, 2, 0)), (3, (1, 204, 0))], [], gi_1257, hq_888), rq_6, ([(204, (-1))], 5))]
theorem ch_1615 : staG tb_X11_guessAll 1 bt_RX11 [] ct_1615 [] [] cu_1615 48 con_1615 = true := by decide +kernel
theorem cc_1615 : cu_1615.all (cutG tb_X11_guessAll 1 bt_RX11 [] ct_1615 [] [] cu_1615 48 con_1615) = true := by decide +kernel
theorem cto_1615 (l : Launch) : CTOK2 l RX11 vwCl gTbl ct_1615 := ct2_cons (vl_900 l) ck_RX11_208_900 (ct2_cons (vl_1212 l) ck_RX11_332_1212 (ct2_cons (vl_859 l) ck_RX11_480_859 (ct2_cons (vl_899 l) ck_RX11_372_899 (ct2_cons (vl_1614 l) ck_RX11_483_1614 (ct2_cons (vl_1522 l) ck_RX11_486_1522 (ct2_cons (vl_1527 l) ck_RX11_486_1527 (ct2_nil)))))))
theorem vl_1615 (l : Launch) : Vld2 l vwCl gTbl con_1615 := conR_ok3 gT_all (hd_1615) rfl pn_RX11 tk_X11_guessAll bo_RX11 xo_RX11 (cto_1615 l) ch_1615 (cut_all cc_1615)
/-- RookHusting isAsSeen -/
noncomputable def gi_1258 : GI := jl_n [jl_z 21, jl_r 3 (jl_m 0 60), jl_i 10 12, jl_i 0 4, jl_i 0 16, jl_i 0 250, jl_i 0 4, jl_i 0 16, jl_i 0 250, jl_i 0 4, jl_i 0 16, jl_i 0 250, jl_i 0 4, jl_i 0 16, jl_i 0 250, jl_r 48 (jl_u), jl_z 9]
noncomputable def gi_1259 : GI := jl_n [jl_z 21, jl_r 3 (jl_m 0 60), jl_i 10 12, jl_i 0 4, jl_i 0 16, jl_i 0 250, jl_i 0 4, jl_i 0 16, jl_i 0 250, jl_i 0 4, jl_i 0 16, jl_i 0 250, jl_i 0 4, jl_i 0 16, jl_i 0 250, jl_r 48 (jl_u), jl_z 10]
noncomputable def con_1616 : Con2 := ((yX11_isAsSeen, cX11_isAsSeen, 4, (some .boolean)), (1, 22), ([(6, 0, 0), (0, 3, 0)], gi_1258, hc_196, []), [((0, 0, 0), gi_1259, hq_885, [], [1]), ((0, 1, 0), gi_1259, hq_885, [], [1])])
theorem hd_1616 : con_1616.1 = (yX11_isAsSeen, cX11_isAsSeen, 4, (some .boolean)) := rfl
noncomputable def ct_1616 : CTB2 := [(21, 473, 0, con_1529, [1, 3]), (21, 473, 0, con_1518, [1, 3]), (21, 473, 0, con_1515, [1, 3]), (21, 473, 0, con_1512, [1, 3]), (36, 473, 0, con_1530, [1, 3]), (36, 473, 0, con_1519, [1, 3]), (36, 473, 0, con_1516, [1, 3]), (36, 473, 0, con_1513, [1, 3]), (60, 473, 0, con_1531, [1, 3]), (60, 473, 0, con_1520, [1, 3]), (60, 473, 0, con_1517, [1, 3]), (60, 473, 0, con_1514, [1, 3])]
noncomputable def gi_1260 : GI := jl_n [jl_z 21, jl_r 3 (jl_m 0 60), jl_i 10 12, jl_i 0 4, jl_i 0 16, jl_i 0 250, jl_i 0 4, jl_i 0 16, jl_i 0 250, jl_i 0 4, jl_i 0 16, jl_i 0 250, jl_i 0 4, jl_i 0 16, jl_i 0 250, jl_r 48 (jl_u), jl_z 12]
noncomputable def gi_1261 : GI := jl_n [jl_z 21, jl_r 3 (jl_m 0 60), jl_i 10 12, jl_i 0 4, jl_i 0 16, jl_i 0 250, jl_i 0 4, jl_i 0 16, jl_i 0 250, jl_i 0 4, jl_i 0 16, jl_i 0 250, jl_i 0 4, jl_i 0 16, jl_i 0 250, jl_r 48 (jl_u), jl_z 12, jl_i 0 84]
noncomputable def cu_1616 : List CUT2 := [((2, [(0, (6, 0, 0)), (1, (0, 3, 0)), (2, (0, 0, 0))], [], gi_1260, hq_885), [], ([], 12)), ((2, [(0, (6, 0, 0)), (1, (0, 3, 0)), (2, (0, 3, 0)), (3, (1, 97, 0))], [], gi_1261, hq_885), [], ([], 9)), ((2, [(0, (6, 0, 0)), (1, (0, 3, 0)), (2, (0, 6, 0)), (3, (1, 97, 0))], [], gi_1261, hq_885), [], ([], 6)), ((2, [(0, (6, 0, 0)), (1, (0, 3, 0)), (2, (0, 9, 0)), (3, (1, 97, 0))], [], gi_1261, hq_885), [], ([], 3)), ((2, [(0, (6, 0, 0)), (1, (0, 3, 0)), (2, (0, 12, 0)), (3, (1, 97, 0))], [], gi_1261, hq_885), [], ([], 0))]
theorem ch_1616 : staG tb_X11_isAsSeen 1 bt_RX11 [] ct_1616 [] [] cu_1616 44 con_1616 = true := by decide +kernel
theorem cc_1616 : cu_1616.all (cutG tb_X11_isAsSeen 1 bt_RX11 [] ct_1616 [] [] cu_1616 44 con_1616) = true := by decide +kernel
theorem cto_1616 (l : Launch) : CTOK2 l RX11 vwCl gTbl ct_1616 := ct2_cons (vl_1529 l) ck_RX11_473_1529 (ct2_cons (vl_1518 l) ck_RX11_473_1518 (ct2_cons (vl_1515 l) ck_RX11_473_1515 (ct2_cons (vl_1512 l) ck_RX11_473_1512 (ct2_cons (vl_1530 l) ck_RX11_473_1530 (ct2_cons (vl_1519 l) ck_RX11_473_1519 (ct2_cons (vl_1516 l) ck_RX11_473_1516 (ct2_cons (vl_1513 l) ck_RX11_473_1513 (ct2_cons (vl_1531 l) ck_RX11_473_1531 (ct2_cons (vl_1520 l) ck_RX11_473_1520 (ct2_cons (vl_1517 l) ck_RX11_473_1517 (ct2_cons (vl_1514 l) ck_RX11_473_1514 (ct2_nil))))))))))))
theorem vl_1616 (l : Launch) : Vld2 l vwCl gTbl con_1616 := conR_ok3 gT_all (hd_1616) rfl pn_RX11 tk_X11_isAsSeen bo_RX11 xo_RX11 (cto_1616 l) ch_1616 (cut_all cc_1616)
/-- RookHusting guessAll -/
noncomputable def gi_1262 : GI := jl_n [jl_z 2, jl_i 0 4, jl_z 13, jl_i 0 1, jl_z 7, jl_t, jl_z 1, jl_i 0 16, jl_i 0 3, jl_z 1, jl_i 0 5, jl_z 1, jl_i 0 5, jl_i 0 7, jl_z 11, jl_i 0 30, jl_z 3, jl_r 30 (jl_i 0 1), jl_r 30 (jl_m 0 15), jl_z 7, jl_i 0 5, jl_i 0 16, jl_t, jl_z 6, jl_t, jl_z 7, jl_i 0 5, jl_i 0 16, jl_z 3, jl_r 3 (jl_m 0 60), jl_i 10 12, jl_i 0 4, jl_i 0 16, jl_i 0 250, jl_i 0 4, jl_i 0 16, jl_i 0 250, jl_i 0 4, jl_i 0 16, jl_i 0 250, jl_i 0 4, jl_i 0 16, jl_i 0 250, jl_r 48 (jl_u)]
noncomputable def gi_1263 : GI := jl_n [jl_z 2, jl_i 0 4, jl_z 13, jl_i 0 1, jl_z 7, jl_t, jl_z 1, jl_i 0 16, jl_i 0 3, jl_z 1, jl_i 0 5, jl_z 1, jl_i 0 5, jl_i 0 7, jl_z 11, jl_i 0 30, jl_z 3, jl_r 30 (jl_i 0 1), jl_r 30 (jl_m 0 15), jl_z 7, jl_i 0 5, jl_i 0 16, jl_t, jl_z 6, jl_t, jl_z 7, jl_i 0 5, jl_i 0 16, jl_z 3, jl_r 3 (jl_m 0 60), jl_i 10 12, jl_i 0 4, jl_i 0 16, jl_i 0 250, jl_i 0 4, jl_i 0 16, jl_i 0 250, jl_i 0 4, jl_i 0 16, jl_i 0 250, jl_i 0 4, jl_i 0 16, jl_i 0 250, jl_r 48 (jl_u), jl_z 19, jl_t, jl_z 7, jl_i 0 5, jl_i 0 16, jl_t, jl_z 6, jl_t, jl_z 7, jl_i 0 5, jl_i 0 16]
noncomputable def con_1617 : Con2 := ((yX11_guessAll, cX11_guessAll, 4, none), (6, 151), ([(6, 0, 0), (0, 3, 0), (1, 2, 0)], gi_1262, hc_198, rq_6), [((9, 0, 0), gi_1263, hq_887, [], [1, 1, 1, 1, 1, 1, 1, 1, 1, 1, 1, 1, 1, 1, 1, 1, 1, 1, 1, 1, 1, 1, 1, 1, 1, 1, 1, 1, 1, 1, 1, 1, 1, 1, 1, 1, 1, 1, 1, 1, 1, 1, 1, 1, 1, 1])])
theorem hd_1617 : con_1617.1 = (yX11_guessAll, cX11_guessAll, 4, none) := rfl
theorem ck_RX11_483_1616 : COK2 RX11 vwCl gTbl 483 0 con_1616 := ⟨wd_1230, wd_125, mh_X11_isAsSeen, .inr (.inr ⟨rfl, wd_1227, wd_1229, wd_43, ⟨_, rfl, pd_X11_isAsSeen⟩, 11, _, TX11, 16, rfl, rfl⟩)⟩
noncomputable def ct_1617 : CTB2 := [(1, 208, 0, con_900, [0, 1, 2, 3, 4, 5, 6, 7, 8, 9, 10, 11, 12, 13, 14, 15, 16, 17, 18, 19, 20, 21, 22, 23, 24, 25, 26]), (36, 332, 0, con_1212, [28, 2, 29, 4, 30, 5, 31, 6]), (45, 480, 0, con_859, [28, 29]), (73, 372, 0, con_899, [32, 3, 28, 16, 33, 18, 34, 30, 35, 29, 36, 22, 23, 37, 38, 39, 31]), (78, 483, 0, con_1616, [0, 40, 41, 42, 32, 33]), (105, 486, 0, con_1522, [27, 33, 43]), (105, 486, 0, con_1527, [27, 33, 43])]
noncomputable def gi_1264 : GI := jl_n [jl_z 2, jl_i 0 4, jl_z 13, jl_i 0 1, jl_z 7, jl_t, jl_z 1, jl_i 0 16, jl_i 0 3, jl_z 1, jl_i 0 5, jl_z 1, jl_i 0 5, jl_i 0 7, jl_z 11, jl_i 0 30, jl_z 3, jl_r 30 (jl_i 0 1), jl_r 30 (jl_m 0 15), jl_z 7, jl_i 0 5, jl_i 0 16, jl_t, jl_z 6, jl_t, jl_z 7, jl_i 0 5, jl_i 0 16, jl_z 3, jl_r 3 (jl_m 0 60), jl_i 10 12, jl_i 0 4, jl_i 0 16, jl_i 0 250, jl_i 0 4, jl_i 0 16, jl_i 0 250, jl_i 0 4, jl_i 0 16, jl_i 0 250, jl_i 0 4, jl_i 0 16, jl_i 0 250, jl_r 48 (jl_u), jl_z 3, jl_m 0 5, jl_z 19, jl_t, jl_z 7, jl_i 0 5, jl_i 0 16, jl_t, jl_z 6, jl_t, jl_z 7, jl_i 0 5, jl_i 0 16]
noncomputable def cu_1617 : List CUT2 := [((14, [(0, (6, 0, 0)), (1, (0, 3, 0)), (2, (1, 2, 0)), (3, (1, 204, 0))], [], gi_1264, hq_888), rq_6, ([(204, (-1))], 5))]
theorem ch_1617 : staG tb_X11_guessAll 1 bt_RX11 [] ct_1617 [] [] cu_1617 48 con_1617 = true := by decide +kernel
theorem cc_1617 : cu_1617.all (cutG tb_X11_guessAll 1 bt_RX11 [] ct_1617 [] [] cu_1617 48 con_1617) = true := by decide +kernel
theorem cto_1617 (l : Launch) : CTOK2 l RX11 vwCl gTbl ct_1617 := ct2_cons (vl_900 l) ck_RX11_208_900 (ct2_cons (vl_1212 l) ck_RX11_332_1212 (ct2_cons (vl_859 l) ck_RX11_480_859 (ct2_cons (vl_899 l) ck_RX11_372_899 (ct2_cons (vl_1616 l) ck_RX11_483_1616 (ct2_cons (vl_1522 l) ck_RX11_486_1522 (ct2_cons (vl_1527 l) ck_RX11_486_1527 (ct2_nil)))))))
theorem vl_1617 (l : Launch) : Vld2 l vwCl gTbl con_1617 := conR_ok3 gT_all (hd_1617) rfl pn_RX11 tk_X11_guessAll bo_RX11 xo_RX11 (cto_1617 l) ch_1617 (cut_all cc_1617)
/-- RookHusting isAsSeen -/
noncomputable def gi_1265 : GI := jl_n [jl_z 21, jl_r 3 (jl_m 0 60), jl_z 1, jl_r 60 (jl_u), jl_z 9]
noncomputable def ac_1071 : AC := .inr (1, jl_n [js_1 24 3, jl_x (1, (0, 0, 0))])
noncomputable def hc_199 : List AC := [ac_1053, .inl (8, [(6, 3, 0), (8, 19, 0), (6, 2, 0)]), ac_1071, ac_1055, ac_1056, .inr (1, [(85, (2, (-2147483648), 2147483647))])]
noncomputable def gi_1266 : GI := jl_n [jl_z 21, jl_r 3 (jl_m 0 60), jl_z 1, jl_r 60 (jl_u), jl_z 10]
noncomputable def hq_889 : HP := [(false, ac_1053), (false, .inl (8, [(6, 3, 0), (8, 19, 0), (6, 2, 0)])), (false, ac_1071), (false, ac_1055), (false, ac_1056), (false, .inr (1, [(85, (2, (-2147483648), 2147483647))]))]
noncomputable def con_1618 : Con2 := ((yX11_isAsSeen, cX11_isAsSeen, 4, (some .boolean)), (0, 0), ([(6, 0, 0), (0, 3, 0)], gi_1265, hc_199, []), [((0, 1, 0), gi_1266, hq_889, [], [1])])
theorem hd_1618 : con_1618.1 = (yX11_isAsSeen, cX11_isAsSeen, 4, (some .boolean)) := rfl
noncomputable def ct_1618 : CTB2 := []
noncomputable def gi_1267 : GI := jl_n [jl_z 21, jl_r 3 (jl_m 0 60), jl_z 1, jl_r 60 (jl_u), jl_z 12]
noncomputable def cu_1618 : List CUT2 := [((2, [(0, (6, 0, 0)), (1, (0, 3, 0)), (2, (0, 0, 0))], [], gi_1267, hq_889), [], ([], 0))]
theorem ch_1618 : staG tb_X11_isAsSeen 1 bt_RX11 [] ct_1618 [] [] cu_1618 11 con_1618 = true := by decide +kernel
theorem cc_1618 : cu_1618.all (cutG tb_X11_isAsSeen 1 bt_RX11 [] ct_1618 [] [] cu_1618 11 con_1618) = true := by decide +kernel
theorem cto_1618 (l : Launch) : CTOK2 l RX11 vwCl gTbl ct_1618 := ct2_nil
theorem vl_1618 (l : Launch) : Vld2 l vwCl gTbl con_1618 := conR_ok3 gT_all (hd_1618) rfl pn_RX11 tk_X11_isAsSeen bo_RX11 xo_RX11 (cto_1618 l) ch_1618 (cut_all cc_1618)
/-- RookHusting guessAll -/
noncomputable def gi_1268 : GI := jl_n [jl_z 2, jl_i 0 4, jl_z 13, jl_i 0 1, jl_z 7, jl_t, jl_z 1, jl_i 0 16, jl_i 0 3, jl_z 1, jl_i 0 5, jl_z 1, jl_i 0 5, jl_i 0 7, jl_z 11, jl_i 0 30, jl_z 3, jl_r 30 (jl_i 0 1), jl_r 30 (jl_m 0 15), jl_z 7, jl_i 0 5, jl_i 0 16, jl_t, jl_z 6, jl_t, jl_z 7, jl_i 0 5, jl_i 0 16, jl_z 3, jl_r 3 (jl_m 0 60), jl_z 1, jl_r 60 (jl_u)]
noncomputable def ac_1072 : AC := .inr (1, jl_n [js_1 140 3, jl_x (1, (0, 0, 0))])
noncomputable def hc_200 : List AC := [ac_1057, .inl (9, [(6, 3, 0), (6, 11, 0)]), .inl (7, [(6, 4, 0), (6, 5, 0), (6, 6, 0), (1, 24, 0)]), ac_1058, .inr (1, [(5, (2, (-1), 4))]), .inr (1, [(5, (2, (-2147483648), 2147483647))]), .inr (1, [(5, (2, (-2147483648), 2147483647))]), .inr (1, [(5, (2, (-2147483648), 2147483647))]), .inl (1, [(6, 3, 0), (8, 43, 0)]), .inr (1, [(35, (2, (-2147483648), 2147483647))]), .inr (1, [(7, (2, 0, 9))]), .inl (0, [(1, 44, 0), (6, 12, 0), (6, 13, 0), (6, 14, 0)]), ac_642, .inr (1, [(30, (2, 0, 4))]), ac_643, ac_1059, .inr (1, [(5, (2, 0, 40))]), .inr (1, [(85, (2, (-2147483648), 2147483647))]), .inr (1, [(5, (2, 0, 300))]), .inr (1, [(85, (2, (-2147483648), 2147483647))]), .inr (1, [(5, (2, (-2147483648), 2147483647))]), .inr (1, [(85, (2, (-2147483648), 2147483647))]), .inr (1, [(5, (2, 0, 40))]), .inr (1, [(5, (2, 0, 9))]), .inr (1, [(85, (2, (-2147483648), 2147483647))]), .inr (1, [(85, (2, (-2147483648), 2147483647))]), .inr (1, [(85, (2, (-1), 4))]), ac_1060, .inl (7, [(6, 29, 0), (6, 30, 0), (6, 31, 0), (1, 124, 0)]), .inr (1, [(5, (2, (-1), 4))]), .inr (1, [(5, (2, (-2147483648), 2147483647))]), .inr (1, [(5, (2, (-2147483648), 2147483647))]), ac_1061, .inr (1, [(85, (2, (-2147483648), 2147483647))]), .inr (1, [(85, (2, (-2147483648), 2147483647))]), .inr (1, [(5, (2, (-2147483648), 2147483647))]), .inr (1, [(85, (2, (-2147483648), 2147483647))]), .inr (1, [(85, (2, (-2147483648), 2147483647))]), .inr (1, [(85, (2, (-2147483648), 2147483647))]), .inr (1, [(85, (2, (-1), 4))]), .inl (8, [(6, 42, 0), (8, 135, 0), (6, 41, 0)]), ac_1072, ac_1063, .inr (1, [(510, (2, (-2147483648), 2147483647))])]
noncomputable def gi_1269 : GI := jl_n [jl_z 2, jl_i 0 4, jl_z 13, jl_i 0 1, jl_z 7, jl_t, jl_z 1, jl_i 0 16, jl_i 0 3, jl_z 1, jl_i 0 5, jl_z 1, jl_i 0 5, jl_i 0 7, jl_z 11, jl_i 0 30, jl_z 3, jl_r 30 (jl_i 0 1), jl_r 30 (jl_m 0 15), jl_z 7, jl_i 0 5, jl_i 0 16, jl_t, jl_z 6, jl_t, jl_z 7, jl_i 0 5, jl_i 0 16, jl_z 3, jl_r 3 (jl_m 0 60), jl_z 1, jl_r 60 (jl_u), jl_z 19, jl_t, jl_z 7, jl_i 0 5, jl_i 0 16, jl_t, jl_z 6, jl_t, jl_z 7, jl_i 0 5, jl_i 0 16]
noncomputable def hq_890 : HP := [(true, ac_1064), (false, .inl (9, [(6, 3, 0), (6, 11, 0)])), (true, .inl (7, [(6, 4, 0), (6, 5, 0), (6, 6, 0), (1, 220, 0)])), (false, ac_1058), (true, .inr (1, [(5, (2, (-1), 4))])), (true, .inr (1, [(5, (2, (-2147483648), 2147483647))])), (true, .inr (1, [(5, (2, (-2147483648), 2147483647))])), (false, .inr (1, [(5, (2, (-2147483648), 2147483647))])), (false, .inl (1, [(6, 3, 0), (8, 43, 0)])), (false, .inr (1, [(35, (2, (-2147483648), 2147483647))])), (false, .inr (1, [(7, (2, 0, 9))])), (false, .inl (0, [(1, 44, 0), (6, 12, 0), (6, 13, 0), (6, 14, 0)])), (false, ac_642), (false, .inr (1, [(30, (2, 0, 4))])), (false, ac_643), (true, ac_1065), (false, .inr (1, [(5, (2, 0, 40))])), (true, .inr (1, [(85, (2, (-2147483648), 2147483647))])), (false, .inr (1, [(5, (2, 0, 300))])), (true, .inr (1, [(85, (2, (-2147483648), 2147483647))])), (true, .inr (1, [(5, (2, (-2147483648), 2147483647))])), (true, .inr (1, [(85, (2, (-2147483648), 2147483647))])), (false, .inr (1, [(5, (2, 0, 40))])), (false, .inr (1, [(5, (2, 0, 9))])), (true, .inr (1, [(85, (2, (-2147483648), 2147483647))])), (true, .inr (1, [(85, (2, (-2147483648), 2147483647))])), (true, .inr (1, [(85, (2, (-1), 4))])), (true, ac_1066), (true, .inl (7, [(6, 29, 0), (6, 30, 0), (6, 31, 0), (1, 237, 0)])), (true, .inr (1, [(5, (2, (-1), 4))])), (true, .inr (1, [(5, (2, (-2147483648), 2147483647))])), (true, .inr (1, [(5, (2, (-2147483648), 2147483647))])), (true, ac_1067), (true, .inr (1, [(85, (2, (-2147483648), 2147483647))])), (true, .inr (1, [(85, (2, (-2147483648), 2147483647))])), (true, .inr (1, [(5, (2, (-2147483648), 2147483647))])), (true, .inr (1, [(85, (2, (-2147483648), 2147483647))])), (true, .inr (1, [(85, (2, (-2147483648), 2147483647))])), (true, .inr (1, [(85, (2, (-2147483648), 2147483647))])), (true, .inr (1, [(85, (2, (-1), 4))])), (false, .inl (8, [(6, 42, 0), (8, 135, 0), (6, 41, 0)])), (false, ac_1072), (false, ac_1063), (true, .inr (1, [(510, (2, (-2147483648), 2147483647))]))]
noncomputable def con_1619 : Con2 := ((yX11_guessAll, cX11_guessAll, 4, none), (6, 151), ([(6, 0, 0), (0, 3, 0), (1, 2, 0)], gi_1268, hc_200, rq_6), [((9, 0, 0), gi_1269, hq_890, [], [1, 1, 1, 1, 1, 1, 1, 1, 1, 1, 1, 1, 1, 1, 1, 1, 1, 1, 1, 1, 1, 1, 1, 1, 1, 1, 1, 1, 1, 1, 1, 1, 1, 1, 1, 1, 1, 1, 1, 1, 1, 1, 1, 1, 1, 1])])
theorem hd_1619 : con_1619.1 = (yX11_guessAll, cX11_guessAll, 4, none) := rfl
theorem ck_RX11_483_1618 : COK2 RX11 vwCl gTbl 483 0 con_1618 := ⟨wd_1230, wd_125, mh_X11_isAsSeen, .inr (.inr ⟨rfl, wd_1227, wd_1229, wd_43, ⟨_, rfl, pd_X11_isAsSeen⟩, 11, _, TX11, 16, rfl, rfl⟩)⟩
noncomputable def ct_1619 : CTB2 := [(1, 208, 0, con_900, [0, 1, 2, 3, 4, 5, 6, 7, 8, 9, 10, 11, 12, 13, 14, 15, 16, 17, 18, 19, 20, 21, 22, 23, 24, 25, 26]), (36, 332, 0, con_1212, [28, 2, 29, 4, 30, 5, 31, 6]), (45, 480, 0, con_859, [28, 29]), (73, 372, 0, con_899, [32, 3, 28, 16, 33, 18, 34, 30, 35, 29, 36, 22, 23, 37, 38, 39, 31]), (78, 483, 0, con_1618, [0, 40, 41, 42, 32, 33]), (105, 486, 0, con_1522, [27, 33, 43]), (105, 486, 0, con_1527, [27, 33, 43])]
noncomputable def gi_1270 : GI := jl_n [jl_z 2, jl_i 0 4, jl_z 13, jl_i 0 1, jl_z 7, jl_t, jl_z 1, jl_i 0 16, jl_i 0 3, jl_z 1, jl_i 0 5, jl_z 1, jl_i 0 5, jl_i 0 7, jl_z 11, jl_i 0 30, jl_z 3, jl_r 30 (jl_i 0 1), jl_r 30 (jl_m 0 15), jl_z 7, jl_i 0 5, jl_i 0 16, jl_t, jl_z 6, jl_t, jl_z 7, jl_i 0 5, jl_i 0 16, jl_z 3, jl_r 3 (jl_m 0 60), jl_z 1, jl_r 60 (jl_u), jl_z 3, jl_m 0 5, jl_z 19, jl_t, jl_z 7, jl_i 0 5, jl_i 0 16, jl_t, jl_z 6, jl_t, jl_z 7, jl_i 0 5, jl_i 0 16]
noncomputable def hq_891 : HP := [(true, ac_1064), (false, .inl (9, [(6, 3, 0), (6, 11, 0)])), (true, .inl (7, [(6, 4, 0), (6, 5, 0), (6, 6, 0), (1, 224, 0)])), (false, ac_1058), (true, .inr (1, [(5, (2, (-1), 4))])), (true, .inr (1, [(5, (2, (-2147483648), 2147483647))])), (true, .inr (1, [(5, (2, (-2147483648), 2147483647))])), (false, .inr (1, [(5, (2, (-2147483648), 2147483647))])), (false, .inl (1, [(6, 3, 0), (8, 43, 0)])), (false, .inr (1, [(35, (2, (-2147483648), 2147483647))])), (false, .inr (1, [(7, (2, 0, 9))])), (false, .inl (0, [(1, 44, 0), (6, 12, 0), (6, 13, 0), (6, 14, 0)])), (false, ac_642), (false, .inr (1, [(30, (2, 0, 4))])), (false, ac_643), (true, ac_1068), (false, .inr (1, [(5, (2, 0, 40))])), (true, .inr (1, [(85, (2, (-2147483648), 2147483647))])), (false, .inr (1, [(5, (2, 0, 300))])), (true, .inr (1, [(85, (2, (-2147483648), 2147483647))])), (true, .inr (1, [(5, (2, (-2147483648), 2147483647))])), (true, .inr (1, [(85, (2, (-2147483648), 2147483647))])), (false, .inr (1, [(5, (2, 0, 40))])), (false, .inr (1, [(5, (2, 0, 9))])), (true, .inr (1, [(85, (2, (-2147483648), 2147483647))])), (true, .inr (1, [(85, (2, (-2147483648), 2147483647))])), (true, .inr (1, [(85, (2, (-1), 4))])), (true, ac_1069), (true, .inl (7, [(6, 29, 0), (6, 30, 0), (6, 31, 0), (1, 241, 0)])), (true, .inr (1, [(5, (2, (-1), 4))])), (true, .inr (1, [(5, (2, (-2147483648), 2147483647))])), (true, .inr (1, [(5, (2, (-2147483648), 2147483647))])), (true, ac_1070), (true, .inr (1, [(85, (2, (-2147483648), 2147483647))])), (true, .inr (1, [(85, (2, (-2147483648), 2147483647))])), (true, .inr (1, [(5, (2, (-2147483648), 2147483647))])), (true, .inr (1, [(85, (2, (-2147483648), 2147483647))])), (true, .inr (1, [(85, (2, (-2147483648), 2147483647))])), (true, .inr (1, [(85, (2, (-2147483648), 2147483647))])), (true, .inr (1, [(85, (2, (-1), 4))])), (false, .inl (8, [(6, 42, 0), (8, 135, 0), (6, 41, 0)])), (false, ac_1072), (false, ac_1063), (true, .inr (1, [(510, (2, (-2147483648), 2147483647))]))]
noncomputable def cu_1619 : List CUT2 := [((14, [(0, (6, 0, 0)), (1, (0, 3, 0)), (2, (1, 2, 0)), (3, (1, 204, 0))], [], gi_1270, hq_891), rq_6, ([(204, (-1))], 5))]
theorem ch_1619 : staG tb_X11_guessAll 1 bt_RX11 [] ct_1619 [] [] cu_1619 48 con_1619 = true := by decide +kernel
theorem cc_1619 : cu_1619.all (cutG tb_X11_guessAll 1 bt_RX11 [] ct_1619 [] [] cu_1619 48 con_1619) = true := by decide +kernel
theorem cto_1619 (l : Launch) : CTOK2 l RX11 vwCl gTbl ct_1619 := ct2_cons (vl_900 l) ck_RX11_208_900 (ct2_cons (vl_1212 l) ck_RX11_332_1212 (ct2_cons (vl_859 l) ck_RX11_480_859 (ct2_cons (vl_899 l) ck_RX11_372_899 (ct2_cons (vl_1618 l) ck_RX11_483_1618 (ct2_cons (vl_1522 l) ck_RX11_486_1522 (ct2_cons (vl_1527 l) ck_RX11_486_1527 (ct2_nil)))))))
theorem vl_1619 (l : Launch) : Vld2 l vwCl gTbl con_1619 := conR_ok3 gT_all (hd_1619) rfl pn_RX11 tk_X11_guessAll bo_RX11 xo_RX11 (cto_1619 l) ch_1619 (cut_all cc_1619)
/-- RookHusting$Slots at -/
noncomputable def con_1620 : Con2 := ((yX8_at, cX8_at, 3, (some .long)), (0, 0), ([(6, 0, 0), (0, 2, 0), (0, 0, 0)], [(0, 0), (0, 0), (0, 0), (0, 0), (0, 0), (0, 0), (0, 4)], [.inl (8, [(6, 1, 0), (8, 4, 0), (8, 5, 0)]), ac_870], []), [((4, 6, 0), gi_1117, hq_702, [], [1])])
theorem hd_1620 : con_1620.1 = (yX8_at, cX8_at, 3, (some .long)) := rfl
noncomputable def ct_1620 : CTB2 := []
noncomputable def cu_1620 : List CUT2 := []
theorem ch_1620 : staG tb_X8_at 1 bt_RX8 [] ct_1620 [] [] cu_1620 11 con_1620 = true := by decide +kernel
theorem cto_1620 (l : Launch) : CTOK2 l RX8 vwCl gTbl ct_1620 := ct2_nil
theorem vl_1620 (l : Launch) : Vld2 l vwCl gTbl con_1620 := conR_ok3 gT_all (hd_1620) rfl pn_RX8 tk_X8_at bo_RX8 xo_RX8 (cto_1620 l) ch_1620 cut_nil
/-- RookHusting$Slots at -/
noncomputable def con_1621 : Con2 := ((yX8_at, cX8_at, 3, (some .long)), (0, 0), ([(6, 0, 0), (0, 2, 0), (0, 1, 0)], [(0, 0), (0, 0), (0, 0), (0, 0), (0, 0), (0, 0), (0, 16)], [.inl (8, [(6, 1, 0), (8, 4, 0), (8, 5, 0)]), ac_871], []), [((4, 6, 0), gi_1118, hq_703, [], [1])])
theorem hd_1621 : con_1621.1 = (yX8_at, cX8_at, 3, (some .long)) := rfl
noncomputable def ct_1621 : CTB2 := []
noncomputable def cu_1621 : List CUT2 := []
theorem ch_1621 : staG tb_X8_at 1 bt_RX8 [] ct_1621 [] [] cu_1621 11 con_1621 = true := by decide +kernel
theorem cto_1621 (l : Launch) : CTOK2 l RX8 vwCl gTbl ct_1621 := ct2_nil
theorem vl_1621 (l : Launch) : Vld2 l vwCl gTbl con_1621 := conR_ok3 gT_all (hd_1621) rfl pn_RX8 tk_X8_at bo_RX8 xo_RX8 (cto_1621 l) ch_1621 cut_nil
/-- RookHusting$Slots at -/
noncomputable def con_1622 : Con2 := ((yX8_at, cX8_at, 3, (some .long)), (0, 0), ([(6, 0, 0), (0, 2, 0), (0, 2, 0)], [(0, 0), (0, 0), (0, 0), (0, 0), (0, 0), (0, 0), (0, 250)], [.inl (8, [(6, 1, 0), (8, 4, 0), (8, 5, 0)]), ac_872], []), [((4, 6, 0), gi_1119, hq_704, [], [1])])
theorem hd_1622 : con_1622.1 = (yX8_at, cX8_at, 3, (some .long)) := rfl
noncomputable def ct_1622 : CTB2 := []
noncomputable def cu_1622 : List CUT2 := []
theorem ch_1622 : staG tb_X8_at 1 bt_RX8 [] ct_1622 [] [] cu_1622 11 con_1622 = true := by decide +kernel
theorem cto_1622 (l : Launch) : CTOK2 l RX8 vwCl gTbl ct_1622 := ct2_nil
theorem vl_1622 (l : Launch) : Vld2 l vwCl gTbl con_1622 := conR_ok3 gT_all (hd_1622) rfl pn_RX8 tk_X8_at bo_RX8 xo_RX8 (cto_1622 l) ch_1622 cut_nil
/-- RookHusting$Slots at -/
noncomputable def con_1623 : Con2 := ((yX8_at, cX8_at, 3, (some .long)), (0, 0), ([(6, 0, 0), (0, 2, 0), (0, 3, 0)], [(0, 0), (0, 0), (0, 0), (0, 0), (0, 0), (0, 0), (0, 4)], [.inl (8, [(6, 1, 0), (8, 4, 0), (8, 5, 0)]), ac_873], []), [((4, 6, 0), gi_1117, hq_705, [], [1])])
theorem hd_1623 : con_1623.1 = (yX8_at, cX8_at, 3, (some .long)) := rfl
noncomputable def ct_1623 : CTB2 := []
noncomputable def cu_1623 : List CUT2 := []
theorem ch_1623 : staG tb_X8_at 1 bt_RX8 [] ct_1623 [] [] cu_1623 11 con_1623 = true := by decide +kernel
theorem cto_1623 (l : Launch) : CTOK2 l RX8 vwCl gTbl ct_1623 := ct2_nil
theorem vl_1623 (l : Launch) : Vld2 l vwCl gTbl con_1623 := conR_ok3 gT_all (hd_1623) rfl pn_RX8 tk_X8_at bo_RX8 xo_RX8 (cto_1623 l) ch_1623 cut_nil
/-- RookHusting$Slots at -/
noncomputable def con_1624 : Con2 := ((yX8_at, cX8_at, 3, (some .long)), (0, 0), ([(6, 0, 0), (0, 2, 0), (0, 4, 0)], [(0, 0), (0, 0), (0, 0), (0, 0), (0, 0), (0, 0), (0, 16)], [.inl (8, [(6, 1, 0), (8, 4, 0), (8, 5, 0)]), ac_874], []), [((4, 6, 0), gi_1118, hq_706, [], [1])])
theorem hd_1624 : con_1624.1 = (yX8_at, cX8_at, 3, (some .long)) := rfl
noncomputable def ct_1624 : CTB2 := []
noncomputable def cu_1624 : List CUT2 := []
theorem ch_1624 : staG tb_X8_at 1 bt_RX8 [] ct_1624 [] [] cu_1624 11 con_1624 = true := by decide +kernel
theorem cto_1624 (l : Launch) : CTOK2 l RX8 vwCl gTbl ct_1624 := ct2_nil
theorem vl_1624 (l : Launch) : Vld2 l vwCl gTbl con_1624 := conR_ok3 gT_all (hd_1624) rfl pn_RX8 tk_X8_at bo_RX8 xo_RX8 (cto_1624 l) ch_1624 cut_nil
/-- RookHusting$Slots at -/
noncomputable def con_1625 : Con2 := ((yX8_at, cX8_at, 3, (some .long)), (0, 0), ([(6, 0, 0), (0, 2, 0), (0, 5, 0)], [(0, 0), (0, 0), (0, 0), (0, 0), (0, 0), (0, 0), (0, 250)], [.inl (8, [(6, 1, 0), (8, 4, 0), (8, 5, 0)]), ac_875], []), [((4, 6, 0), gi_1119, hq_707, [], [1])])
theorem hd_1625 : con_1625.1 = (yX8_at, cX8_at, 3, (some .long)) := rfl
noncomputable def ct_1625 : CTB2 := []
noncomputable def cu_1625 : List CUT2 := []
theorem ch_1625 : staG tb_X8_at 1 bt_RX8 [] ct_1625 [] [] cu_1625 11 con_1625 = true := by decide +kernel
theorem cto_1625 (l : Launch) : CTOK2 l RX8 vwCl gTbl ct_1625 := ct2_nil
theorem vl_1625 (l : Launch) : Vld2 l vwCl gTbl con_1625 := conR_ok3 gT_all (hd_1625) rfl pn_RX8 tk_X8_at bo_RX8 xo_RX8 (cto_1625 l) ch_1625 cut_nil
/-- RookHusting$Slots at -/
noncomputable def con_1626 : Con2 := ((yX8_at, cX8_at, 3, (some .long)), (0, 0), ([(6, 0, 0), (0, 2, 0), (0, 6, 0)], [(0, 0), (0, 0), (0, 0), (0, 0), (0, 0), (0, 0), (0, 4)], [.inl (8, [(6, 1, 0), (8, 4, 0), (8, 5, 0)]), ac_876], []), [((4, 6, 0), gi_1117, hq_708, [], [1])])
theorem hd_1626 : con_1626.1 = (yX8_at, cX8_at, 3, (some .long)) := rfl
noncomputable def ct_1626 : CTB2 := []
noncomputable def cu_1626 : List CUT2 := []
theorem ch_1626 : staG tb_X8_at 1 bt_RX8 [] ct_1626 [] [] cu_1626 11 con_1626 = true := by decide +kernel
theorem cto_1626 (l : Launch) : CTOK2 l RX8 vwCl gTbl ct_1626 := ct2_nil
theorem vl_1626 (l : Launch) : Vld2 l vwCl gTbl con_1626 := conR_ok3 gT_all (hd_1626) rfl pn_RX8 tk_X8_at bo_RX8 xo_RX8 (cto_1626 l) ch_1626 cut_nil
/-- RookHusting$Slots at -/
noncomputable def con_1627 : Con2 := ((yX8_at, cX8_at, 3, (some .long)), (0, 0), ([(6, 0, 0), (0, 2, 0), (0, 7, 0)], [(0, 0), (0, 0), (0, 0), (0, 0), (0, 0), (0, 0), (0, 16)], [.inl (8, [(6, 1, 0), (8, 4, 0), (8, 5, 0)]), ac_877], []), [((4, 6, 0), gi_1118, hq_709, [], [1])])
theorem hd_1627 : con_1627.1 = (yX8_at, cX8_at, 3, (some .long)) := rfl
noncomputable def ct_1627 : CTB2 := []
noncomputable def cu_1627 : List CUT2 := []
theorem ch_1627 : staG tb_X8_at 1 bt_RX8 [] ct_1627 [] [] cu_1627 11 con_1627 = true := by decide +kernel
theorem cto_1627 (l : Launch) : CTOK2 l RX8 vwCl gTbl ct_1627 := ct2_nil
theorem vl_1627 (l : Launch) : Vld2 l vwCl gTbl con_1627 := conR_ok3 gT_all (hd_1627) rfl pn_RX8 tk_X8_at bo_RX8 xo_RX8 (cto_1627 l) ch_1627 cut_nil
/-- RookHusting$Slots at -/
noncomputable def con_1628 : Con2 := ((yX8_at, cX8_at, 3, (some .long)), (0, 0), ([(6, 0, 0), (0, 2, 0), (0, 8, 0)], [(0, 0), (0, 0), (0, 0), (0, 0), (0, 0), (0, 0), (0, 250)], [.inl (8, [(6, 1, 0), (8, 4, 0), (8, 5, 0)]), ac_878], []), [((4, 6, 0), gi_1119, hq_710, [], [1])])
theorem hd_1628 : con_1628.1 = (yX8_at, cX8_at, 3, (some .long)) := rfl
noncomputable def ct_1628 : CTB2 := []
noncomputable def cu_1628 : List CUT2 := []
theorem ch_1628 : staG tb_X8_at 1 bt_RX8 [] ct_1628 [] [] cu_1628 11 con_1628 = true := by decide +kernel
theorem cto_1628 (l : Launch) : CTOK2 l RX8 vwCl gTbl ct_1628 := ct2_nil
theorem vl_1628 (l : Launch) : Vld2 l vwCl gTbl con_1628 := conR_ok3 gT_all (hd_1628) rfl pn_RX8 tk_X8_at bo_RX8 xo_RX8 (cto_1628 l) ch_1628 cut_nil
/-- RookHusting isAsSeen -/
noncomputable def gi_1271 : GI := jl_n [jl_z 21, jl_r 2 (jl_m 0 60), jl_i 7 9, jl_m 0 60, jl_i 0 4, jl_i 0 16, jl_i 0 250, jl_i 0 4, jl_i 0 16, jl_i 0 250, jl_i 0 4, jl_i 0 16, jl_i 0 250, jl_r 51 (jl_u), jl_z 9]
noncomputable def ac_1073 : AC := .inr (2, jl_n [js_5 120 9223372036854775807 9223372036854775807, js_4 85 60, js_5 60 9223372036854775807 9223372036854775807])
noncomputable def hc_201 : List AC := [ac_1053, .inl (8, [(6, 3, 0), (8, 19, 0), (6, 2, 0)]), ac_1054, ac_1073, ac_1056, .inr (1, [(85, (2, (-2147483648), 2147483647))])]
noncomputable def gi_1272 : GI := jl_n [jl_z 21, jl_r 2 (jl_m 0 60), jl_i 7 9, jl_m 0 60, jl_i 0 4, jl_i 0 16, jl_i 0 250, jl_i 0 4, jl_i 0 16, jl_i 0 250, jl_i 0 4, jl_i 0 16, jl_i 0 250, jl_r 51 (jl_u), jl_z 10]
noncomputable def hq_892 : HP := [(false, ac_1053), (false, .inl (8, [(6, 3, 0), (8, 19, 0), (6, 2, 0)])), (false, ac_1054), (false, ac_1073), (false, ac_1056), (false, .inr (1, [(85, (2, (-2147483648), 2147483647))]))]
noncomputable def con_1629 : Con2 := ((yX11_isAsSeen, cX11_isAsSeen, 4, (some .boolean)), (1, 22), ([(6, 0, 0), (0, 2, 0)], gi_1271, hc_201, []), [((0, 0, 0), gi_1272, hq_892, [], [1]), ((0, 1, 0), gi_1272, hq_892, [], [1])])
theorem hd_1629 : con_1629.1 = (yX11_isAsSeen, cX11_isAsSeen, 4, (some .boolean)) := rfl
theorem ck_RX11_473_1622 : COK2 RX11 vwCl gTbl 473 0 con_1622 := ⟨wd_1218, wd_131, mh_X8_at, .inr (.inr ⟨rfl, wd_1215, wd_1216, wd_1217, ⟨_, rfl, pd_X8_at⟩, 8, _, TX8, 3, rfl, rfl⟩)⟩
theorem ck_RX11_473_1625 : COK2 RX11 vwCl gTbl 473 0 con_1625 := ⟨wd_1218, wd_131, mh_X8_at, .inr (.inr ⟨rfl, wd_1215, wd_1216, wd_1217, ⟨_, rfl, pd_X8_at⟩, 8, _, TX8, 3, rfl, rfl⟩)⟩
theorem ck_RX11_473_1628 : COK2 RX11 vwCl gTbl 473 0 con_1628 := ⟨wd_1218, wd_131, mh_X8_at, .inr (.inr ⟨rfl, wd_1215, wd_1216, wd_1217, ⟨_, rfl, pd_X8_at⟩, 8, _, TX8, 3, rfl, rfl⟩)⟩
theorem ck_RX11_473_1621 : COK2 RX11 vwCl gTbl 473 0 con_1621 := ⟨wd_1218, wd_131, mh_X8_at, .inr (.inr ⟨rfl, wd_1215, wd_1216, wd_1217, ⟨_, rfl, pd_X8_at⟩, 8, _, TX8, 3, rfl, rfl⟩)⟩
theorem ck_RX11_473_1624 : COK2 RX11 vwCl gTbl 473 0 con_1624 := ⟨wd_1218, wd_131, mh_X8_at, .inr (.inr ⟨rfl, wd_1215, wd_1216, wd_1217, ⟨_, rfl, pd_X8_at⟩, 8, _, TX8, 3, rfl, rfl⟩)⟩
theorem ck_RX11_473_1627 : COK2 RX11 vwCl gTbl 473 0 con_1627 := ⟨wd_1218, wd_131, mh_X8_at, .inr (.inr ⟨rfl, wd_1215, wd_1216, wd_1217, ⟨_, rfl, pd_X8_at⟩, 8, _, TX8, 3, rfl, rfl⟩)⟩
theorem ck_RX11_473_1620 : COK2 RX11 vwCl gTbl 473 0 con_1620 := ⟨wd_1218, wd_131, mh_X8_at, .inr (.inr ⟨rfl, wd_1215, wd_1216, wd_1217, ⟨_, rfl, pd_X8_at⟩, 8, _, TX8, 3, rfl, rfl⟩)⟩
theorem ck_RX11_473_1623 : COK2 RX11 vwCl gTbl 473 0 con_1623 := ⟨wd_1218, wd_131, mh_X8_at, .inr (.inr ⟨rfl, wd_1215, wd_1216, wd_1217, ⟨_, rfl, pd_X8_at⟩, 8, _, TX8, 3, rfl, rfl⟩)⟩
theorem ck_RX11_473_1626 : COK2 RX11 vwCl gTbl 473 0 con_1626 := ⟨wd_1218, wd_131, mh_X8_at, .inr (.inr ⟨rfl, wd_1215, wd_1216, wd_1217, ⟨_, rfl, pd_X8_at⟩, 8, _, TX8, 3, rfl, rfl⟩)⟩
noncomputable def ct_1629 : CTB2 := [(21, 473, 0, con_1626, [1, 3]), (21, 473, 0, con_1623, [1, 3]), (21, 473, 0, con_1620, [1, 3]), (36, 473, 0, con_1627, [1, 3]), (36, 473, 0, con_1624, [1, 3]), (36, 473, 0, con_1621, [1, 3]), (60, 473, 0, con_1628, [1, 3]), (60, 473, 0, con_1625, [1, 3]), (60, 473, 0, con_1622, [1, 3])]
noncomputable def gi_1273 : GI := jl_n [jl_z 21, jl_r 2 (jl_m 0 60), jl_i 7 9, jl_m 0 60, jl_i 0 4, jl_i 0 16, jl_i 0 250, jl_i 0 4, jl_i 0 16, jl_i 0 250, jl_i 0 4, jl_i 0 16, jl_i 0 250, jl_r 51 (jl_u), jl_z 12]
noncomputable def gi_1274 : GI := jl_n [jl_z 21, jl_r 2 (jl_m 0 60), jl_i 7 9, jl_m 0 60, jl_i 0 4, jl_i 0 16, jl_i 0 250, jl_i 0 4, jl_i 0 16, jl_i 0 250, jl_i 0 4, jl_i 0 16, jl_i 0 250, jl_r 51 (jl_u), jl_z 12, jl_i 0 84]
noncomputable def cu_1629 : List CUT2 := [((2, [(0, (6, 0, 0)), (1, (0, 2, 0)), (2, (0, 0, 0))], [], gi_1273, hq_892), [], ([], 9)), ((2, [(0, (6, 0, 0)), (1, (0, 2, 0)), (2, (0, 3, 0)), (3, (1, 97, 0))], [], gi_1274, hq_892), [], ([], 6)), ((2, [(0, (6, 0, 0)), (1, (0, 2, 0)), (2, (0, 6, 0)), (3, (1, 97, 0))], [], gi_1274, hq_892), [], ([], 3)), ((2, [(0, (6, 0, 0)), (1, (0, 2, 0)), (2, (0, 9, 0)), (3, (1, 97, 0))], [], gi_1274, hq_892), [], ([], 0))]
theorem ch_1629 : staG tb_X11_isAsSeen 1 bt_RX11 [] ct_1629 [] [] cu_1629 44 con_1629 = true := by decide +kernel
theorem cc_1629 : cu_1629.all (cutG tb_X11_isAsSeen 1 bt_RX11 [] ct_1629 [] [] cu_1629 44 con_1629) = true := by decide +kernel
theorem cto_1629 (l : Launch) : CTOK2 l RX11 vwCl gTbl ct_1629 := ct2_cons (vl_1626 l) ck_RX11_473_1626 (ct2_cons (vl_1623 l) ck_RX11_473_1623 (ct2_cons (vl_1620 l) ck_RX11_473_1620 (ct2_cons (vl_1627 l) ck_RX11_473_1627 (ct2_cons (vl_1624 l) ck_RX11_473_1624 (ct2_cons (vl_1621 l) ck_RX11_473_1621 (ct2_cons (vl_1628 l) ck_RX11_473_1628 (ct2_cons (vl_1625 l) ck_RX11_473_1625 (ct2_cons (vl_1622 l) ck_RX11_473_1622 (ct2_nil)))))))))
theorem vl_1629 (l : Launch) : Vld2 l vwCl gTbl con_1629 := conR_ok3 gT_all (hd_1629) rfl pn_RX11 tk_X11_isAsSeen bo_RX11 xo_RX11 (cto_1629 l) ch_1629 (cut_all cc_1629)
/-- RookHusting guessAll -/
noncomputable def gi_1275 : GI := jl_n [jl_z 2, jl_i 0 4, jl_z 13, jl_i 0 1, jl_z 7, jl_t, jl_z 1, jl_i 0 16, jl_i 0 3, jl_z 1, jl_i 0 5, jl_z 1, jl_i 0 5, jl_i 0 7, jl_z 11, jl_i 0 30, jl_z 3, jl_r 30 (jl_i 0 1), jl_r 30 (jl_m 0 15), jl_z 7, jl_i 0 5, jl_i 0 16, jl_t, jl_z 6, jl_t, jl_z 7, jl_i 0 5, jl_i 0 16, jl_z 3, jl_r 2 (jl_m 0 60), jl_i 7 9, jl_m 0 60, jl_i 0 4, jl_i 0 16, jl_i 0 250, jl_i 0 4, jl_i 0 16, jl_i 0 250, jl_i 0 4, jl_i 0 16, jl_i 0 250, jl_r 51 (jl_u)]
noncomputable def ac_1074 : AC := .inr (2, jl_n [js_5 120 9223372036854775807 9223372036854775807, js_4 201 60, js_5 60 9223372036854775807 9223372036854775807])
noncomputable def hc_202 : List AC := [ac_1057, .inl (9, [(6, 3, 0), (6, 11, 0)]), .inl (7, [(6, 4, 0), (6, 5, 0), (6, 6, 0), (1, 24, 0)]), ac_1058, .inr (1, [(5, (2, (-1), 4))]), .inr (1, [(5, (2, (-2147483648), 2147483647))]), .inr (1, [(5, (2, (-2147483648), 2147483647))]), .inr (1, [(5, (2, (-2147483648), 2147483647))]), .inl (1, [(6, 3, 0), (8, 43, 0)]), .inr (1, [(35, (2, (-2147483648), 2147483647))]), .inr (1, [(7, (2, 0, 9))]), .inl (0, [(1, 44, 0), (6, 12, 0), (6, 13, 0), (6, 14, 0)]), ac_642, .inr (1, [(30, (2, 0, 4))]), ac_643, ac_1059, .inr (1, [(5, (2, 0, 40))]), .inr (1, [(85, (2, (-2147483648), 2147483647))]), .inr (1, [(5, (2, 0, 300))]), .inr (1, [(85, (2, (-2147483648), 2147483647))]), .inr (1, [(5, (2, (-2147483648), 2147483647))]), .inr (1, [(85, (2, (-2147483648), 2147483647))]), .inr (1, [(5, (2, 0, 40))]), .inr (1, [(5, (2, 0, 9))]), .inr (1, [(85, (2, (-2147483648), 2147483647))]), .inr (1, [(85, (2, (-2147483648), 2147483647))]), .inr (1, [(85, (2, (-1), 4))]), ac_1060, .inl (7, [(6, 29, 0), (6, 30, 0), (6, 31, 0), (1, 124, 0)]), .inr (1, [(5, (2, (-1), 4))]), .inr (1, [(5, (2, (-2147483648), 2147483647))]), .inr (1, [(5, (2, (-2147483648), 2147483647))]), ac_1061, .inr (1, [(85, (2, (-2147483648), 2147483647))]), .inr (1, [(85, (2, (-2147483648), 2147483647))]), .inr (1, [(5, (2, (-2147483648), 2147483647))]), .inr (1, [(85, (2, (-2147483648), 2147483647))]), .inr (1, [(85, (2, (-2147483648), 2147483647))]), .inr (1, [(85, (2, (-2147483648), 2147483647))]), .inr (1, [(85, (2, (-1), 4))]), .inl (8, [(6, 42, 0), (8, 135, 0), (6, 41, 0)]), ac_1062, ac_1074, .inr (1, [(510, (2, (-2147483648), 2147483647))])]
noncomputable def gi_1276 : GI := jl_n [jl_z 2, jl_i 0 4, jl_z 13, jl_i 0 1, jl_z 7, jl_t, jl_z 1, jl_i 0 16, jl_i 0 3, jl_z 1, jl_i 0 5, jl_z 1, jl_i 0 5, jl_i 0 7, jl_z 11, jl_i 0 30, jl_z 3, jl_r 30 (jl_i 0 1), jl_r 30 (jl_m 0 15), jl_z 7, jl_i 0 5, jl_i 0 16, jl_t, jl_z 6, jl_t, jl_z 7, jl_i 0 5, jl_i 0 16, jl_z 3, jl_r 2 (jl_m 0 60), jl_i 7 9, jl_m 0 60, jl_i 0 4, jl_i 0 16, jl_i 0 250, jl_i 0 4, jl_i 0 16, jl_i 0 250, jl_i 0 4, jl_i 0 16, jl_i 0 250, jl_r 51 (jl_u), jl_z 19, jl_t, jl_z 7, jl_i 0 5, jl_i 0 16, jl_t, jl_z 6, jl_t, jl_z 7, jl_i 0 5, jl_i 0 16]
noncomputable def hq_893 : HP := [(true, ac_1064), (false, .inl (9, [(6, 3, 0), (6, 11, 0)])), (true, .inl (7, [(6, 4, 0), (6, 5, 0), (6, 6, 0), (1, 220, 0)])), (false, ac_1058), (true, .inr (1, [(5, (2, (-1), 4))])), (true, .inr (1, [(5, (2, (-2147483648), 2147483647))])), (true, .inr (1, [(5, (2, (-2147483648), 2147483647))])), (false, .inr (1, [(5, (2, (-2147483648), 2147483647))])), (false, .inl (1, [(6, 3, 0), (8, 43, 0)])), (false, .inr (1, [(35, (2, (-2147483648), 2147483647))])), (false, .inr (1, [(7, (2, 0, 9))])), (false, .inl (0, [(1, 44, 0), (6, 12, 0), (6, 13, 0), (6, 14, 0)])), (false, ac_642), (false, .inr (1, [(30, (2, 0, 4))])), (false, ac_643), (true, ac_1065), (false, .inr (1, [(5, (2, 0, 40))])), (true, .inr (1, [(85, (2, (-2147483648), 2147483647))])), (false, .inr (1, [(5, (2, 0, 300))])), (true, .inr (1, [(85, (2, (-2147483648), 2147483647))])), (true, .inr (1, [(5, (2, (-2147483648), 2147483647))])), (true, .inr (1, [(85, (2, (-2147483648), 2147483647))])), (false, .inr (1, [(5, (2, 0, 40))])), (false, .inr (1, [(5, (2, 0, 9))])), (true, .inr (1, [(85, (2, (-2147483648), 2147483647))])), (true, .inr (1, [(85, (2, (-2147483648), 2147483647))])), (true, .inr (1, [(85, (2, (-1), 4))])), (true, ac_1066), (true, .inl (7, [(6, 29, 0), (6, 30, 0), (6, 31, 0), (1, 237, 0)])), (true, .inr (1, [(5, (2, (-1), 4))])), (true, .inr (1, [(5, (2, (-2147483648), 2147483647))])), (true, .inr (1, [(5, (2, (-2147483648), 2147483647))])), (true, ac_1067), (true, .inr (1, [(85, (2, (-2147483648), 2147483647))])), (true, .inr (1, [(85, (2, (-2147483648), 2147483647))])), (true, .inr (1, [(5, (2, (-2147483648), 2147483647))])), (true, .inr (1, [(85, (2, (-2147483648), 2147483647))])), (true, .inr (1, [(85, (2, (-2147483648), 2147483647))])), (true, .inr (1, [(85, (2, (-2147483648), 2147483647))])), (true, .inr (1, [(85, (2, (-1), 4))])), (false, .inl (8, [(6, 42, 0), (8, 135, 0), (6, 41, 0)])), (false, ac_1062), (false, ac_1074), (true, .inr (1, [(510, (2, (-2147483648), 2147483647))]))]
noncomputable def con_1630 : Con2 := ((yX11_guessAll, cX11_guessAll, 4, none), (6, 151), ([(6, 0, 0), (0, 2, 0), (1, 2, 0)], gi_1275, hc_202, rq_6), [((9, 0, 0), gi_1276, hq_893, [], [1, 1, 1, 1, 1, 1, 1, 1, 1, 1, 1, 1, 1, 1, 1, 1, 1, 1, 1, 1, 1, 1, 1, 1, 1, 1, 1, 1, 1, 1, 1, 1, 1, 1, 1, 1, 1, 1, 1, 1, 1, 1, 1, 1, 1, 1])])
theorem hd_1630 : con_1630.1 = (yX11_guessAll, cX11_guessAll, 4, none) := rfl
theorem ck_RX11_483_1629 : COK2 RX11 vwCl gTbl 483 0 con_1629 := ⟨wd_1230, wd_125, mh_X11_isAsSeen, .inr (.inr ⟨rfl, wd_1227, wd_1229, wd_43, ⟨_, rfl, pd_X11_isAsSeen⟩, 11, _, TX11, 16, rfl, rfl⟩)⟩
noncomputable def ct_1630 : CTB2 := [(1, 208, 0, con_900, [0, 1, 2, 3, 4, 5, 6, 7, 8, 9, 10, 11, 12, 13, 14, 15, 16, 17, 18, 19, 20, 21, 22, 23, 24, 25, 26]), (36, 332, 0, con_1212, [28, 2, 29, 4, 30, 5, 31, 6]), (45, 480, 0, con_859, [28, 29]), (73, 372, 0, con_899, [32, 3, 28, 16, 33, 18, 34, 30, 35, 29, 36, 22, 23, 37, 38, 39, 31]), (78, 483, 0, con_1629, [0, 40, 41, 42, 32, 33]), (105, 486, 0, con_1522, [27, 33, 43]), (105, 486, 0, con_1527, [27, 33, 43])]
noncomputable def gi_1277 : GI := jl_n [jl_z 2, jl_i 0 4, jl_z 13, jl_i 0 1, jl_z 7, jl_t, jl_z 1, jl_i 0 16, jl_i 0 3, jl_z 1, jl_i 0 5, jl_z 1, jl_i 0 5, jl_i 0 7, jl_z 11, jl_i 0 30, jl_z 3, jl_r 30 (jl_i 0 1), jl_r 30 (jl_m 0 15), jl_z 7, jl_i 0 5, jl_i 0 16, jl_t, jl_z 6, jl_t, jl_z 7, jl_i 0 5, jl_i 0 16, jl_z 3, jl_r 2 (jl_m 0 60), jl_i 7 9, jl_m 0 60, jl_i 0 4, jl_i 0 16, jl_i 0 250, jl_i 0 4, jl_i 0 16, jl_i 0 250, jl_i 0 4, jl_i 0 16, jl_i 0 250, jl_r 51 (jl_u), jl_z 3, jl_m 0 5, jl_z 19, jl_t, jl_z 7, jl_i 0 5, jl_i 0 16, jl_t, jl_z 6, jl_t, jl_z 7, jl_i 0 5, jl_i 0 16]
noncomputable def hq_894 : HP := [(true, ac_1064), (false, .inl (9, [(6, 3, 0), (6, 11, 0)])), (true, .inl (7, [(6, 4, 0), (6, 5, 0), (6, 6, 0), (1, 224, 0)])), (false, ac_1058), (true, .inr (1, [(5, (2, (-1), 4))])), (true, .inr (1, [(5, (2, (-2147483648), 2147483647))])), (true, .inr (1, [(5, (2, (-2147483648), 2147483647))])), (false, .inr (1, [(5, (2, (-2147483648), 2147483647))])), (false, .inl (1, [(6, 3, 0), (8, 43, 0)])), (false, .inr (1, [(35, (2, (-2147483648), 2147483647))])), (false, .inr (1, [(7, (2, 0, 9))])), (false, .inl (0, [(1, 44, 0), (6, 12, 0), (6, 13, 0), (6, 14, 0)])), (false, ac_642), (false, .inr (1, [(30, (2, 0, 4))])), (false, ac_643), (true, ac_1068), (false, .inr (1, [(5, (2, 0, 40))])), (true, .inr (1, [(85, (2, (-2147483648), 2147483647))])), (false, .inr (1, [(5, (2, 0, 300))])), (true, .inr (1, [(85, (2, (-2147483648), 2147483647))])), (true, .inr (1, [(5, (2, (-2147483648), 2147483647))])), (true, .inr (1, [(85, (2, (-2147483648), 2147483647))])), (false, .inr (1, [(5, (2, 0, 40))])), (false, .inr (1, [(5, (2, 0, 9))])), (true, .inr (1, [(85, (2, (-2147483648), 2147483647))])), (true, .inr (1, [(85, (2, (-2147483648), 2147483647))])), (true, .inr (1, [(85, (2, (-1), 4))])), (true, ac_1069), (true, .inl (7, [(6, 29, 0), (6, 30, 0), (6, 31, 0), (1, 241, 0)])), (true, .inr (1, [(5, (2, (-1), 4))])), (true, .inr (1, [(5, (2, (-2147483648), 2147483647))])), (true, .inr (1, [(5, (2, (-2147483648), 2147483647))])), (true, ac_1070), (true, .inr (1, [(85, (2, (-2147483648), 2147483647))])), (true, .inr (1, [(85, (2, (-2147483648), 2147483647))])), (true, .inr (1, [(5, (2, (-2147483648), 2147483647))])), (true, .inr (1, [(85, (2, (-2147483648), 2147483647))])), (true, .inr (1, [(85, (2, (-2147483648), 2147483647))])), (true, .inr (1, [(85, (2, (-2147483648), 2147483647))])), (true, .inr (1, [(85, (2, (-1), 4))])), (false, .inl (8, [(6, 42, 0), (8, 135, 0), (6, 41, 0)])), (false, ac_1062), (false, ac_1074), (true, .inr (1, [(510, (2, (-2147483648), 2147483647))]))]
noncomputable def cu_1630 : List CUT2 := [((14, [(0, (6, 0, 0)), (1, (0, 2, 0)), (2, (1, 2, 0)), (3, (1, 204, 0))], [], gi_1277, hq_894), rq_6, ([(204, (-1))], 5))]
theorem ch_1630 : staG tb_X11_guessAll 1 bt_RX11 [] ct_1630 [] [] cu_1630 48 con_1630 = true := by decide +kernel
theorem cc_1630 : cu_1630.all (cutG tb_X11_guessAll 1 bt_RX11 [] ct_1630 [] [] cu_1630 48 con_1630) = true := by decide +kernel
theorem cto_1630 (l : Launch) : CTOK2 l RX11 vwCl gTbl ct_1630 := ct2_cons (vl_900 l) ck_RX11_208_900 (ct2_cons (vl_1212 l) ck_RX11_332_1212 (ct2_cons (vl_859 l) ck_RX11_480_859 (ct2_cons (vl_899 l) ck_RX11_372_899 (ct2_cons (vl_1629 l) ck_RX11_483_1629 (ct2_cons (vl_1522 l) ck_RX11_486_1522 (ct2_cons (vl_1527 l) ck_RX11_486_1527 (ct2_nil)))))))
theorem vl_1630 (l : Launch) : Vld2 l vwCl gTbl con_1630 := conR_ok3 gT_all (hd_1630) rfl pn_RX11 tk_X11_guessAll bo_RX11 xo_RX11 (cto_1630 l) ch_1630 (cut_all cc_1630)
/-- RookHusting$Slots at -/
noncomputable def con_1631 : Con2 := ((yX8_at, cX8_at, 3, (some .long)), (0, 0), ([(6, 0, 0), (0, 2, 0), (0, 9, 0)], [(0, 0), (0, 0), (0, 0), (0, 0), (0, 0), (0, 0), (0, 4)], [.inl (8, [(6, 1, 0), (8, 4, 0), (8, 5, 0)]), ac_879], []), [((4, 6, 0), gi_1117, hq_711, [], [1])])
theorem hd_1631 : con_1631.1 = (yX8_at, cX8_at, 3, (some .long)) := rfl
noncomputable def ct_1631 : CTB2 := []
noncomputable def cu_1631 : List CUT2 := []
theorem ch_1631 : staG tb_X8_at 1 bt_RX8 [] ct_1631 [] [] cu_1631 11 con_1631 = true := by decide +kernel
theorem cto_1631 (l : Launch) : CTOK2 l RX8 vwCl gTbl ct_1631 := ct2_nil
theorem vl_1631 (l : Launch) : Vld2 l vwCl gTbl con_1631 := conR_ok3 gT_all (hd_1631) rfl pn_RX8 tk_X8_at bo_RX8 xo_RX8 (cto_1631 l) ch_1631 cut_nil
/-- RookHusting$Slots at -/
noncomputable def con_1632 : Con2 := ((yX8_at, cX8_at, 3, (some .long)), (0, 0), ([(6, 0, 0), (0, 2, 0), (0, 10, 0)], [(0, 0), (0, 0), (0, 0), (0, 0), (0, 0), (0, 0), (0, 16)], [.inl (8, [(6, 1, 0), (8, 4, 0), (8, 5, 0)]), ac_880], []), [((4, 6, 0), gi_1118, hq_712, [], [1])])
theorem hd_1632 : con_1632.1 = (yX8_at, cX8_at, 3, (some .long)) := rfl
noncomputable def ct_1632 : CTB2 := []
noncomputable def cu_1632 : List CUT2 := []
theorem ch_1632 : staG tb_X8_at 1 bt_RX8 [] ct_1632 [] [] cu_1632 11 con_1632 = true := by decide +kernel
theorem cto_1632 (l : Launch) : CTOK2 l RX8 vwCl gTbl ct_1632 := ct2_nil
theorem vl_1632 (l : Launch) : Vld2 l vwCl gTbl con_1632 := conR_ok3 gT_all (hd_1632) rfl pn_RX8 tk_X8_at bo_RX8 xo_RX8 (cto_1632 l) ch_1632 cut_nil
/-- RookHusting$Slots at -/
noncomputable def con_1633 : Con2 := ((yX8_at, cX8_at, 3, (some .long)), (0, 0), ([(6, 0, 0), (0, 2, 0), (0, 11, 0)], [(0, 0), (0, 0), (0, 0), (0, 0), (0, 0), (0, 0), (0, 250)], [.inl (8, [(6, 1, 0), (8, 4, 0), (8, 5, 0)]), ac_881], []), [((4, 6, 0), gi_1119, hq_713, [], [1])])
theorem hd_1633 : con_1633.1 = (yX8_at, cX8_at, 3, (some .long)) := rfl
noncomputable def ct_1633 : CTB2 := []
noncomputable def cu_1633 : List CUT2 := []
theorem ch_1633 : staG tb_X8_at 1 bt_RX8 [] ct_1633 [] [] cu_1633 11 con_1633 = true := by decide +kernel
theorem cto_1633 (l : Launch) : CTOK2 l RX8 vwCl gTbl ct_1633 := ct2_nil
theorem vl_1633 (l : Launch) : Vld2 l vwCl gTbl con_1633 := conR_ok3 gT_all (hd_1633) rfl pn_RX8 tk_X8_at bo_RX8 xo_RX8 (cto_1633 l) ch_1633 cut_nil
/-- RookHusting$Slots at -/
noncomputable def con_1634 : Con2 := ((yX8_at, cX8_at, 3, (some .long)), (0, 0), ([(6, 0, 0), (0, 2, 0), (0, 12, 0)], [(0, 0), (0, 0), (0, 0), (0, 0), (0, 0), (0, 0), (0, 4)], [.inl (8, [(6, 1, 0), (8, 4, 0), (8, 5, 0)]), ac_882], []), [((4, 6, 0), gi_1117, hq_714, [], [1])])
theorem hd_1634 : con_1634.1 = (yX8_at, cX8_at, 3, (some .long)) := rfl
noncomputable def ct_1634 : CTB2 := []
noncomputable def cu_1634 : List CUT2 := []
theorem ch_1634 : staG tb_X8_at 1 bt_RX8 [] ct_1634 [] [] cu_1634 11 con_1634 = true := by decide +kernel
theorem cto_1634 (l : Launch) : CTOK2 l RX8 vwCl gTbl ct_1634 := ct2_nil
theorem vl_1634 (l : Launch) : Vld2 l vwCl gTbl con_1634 := conR_ok3 gT_all (hd_1634) rfl pn_RX8 tk_X8_at bo_RX8 xo_RX8 (cto_1634 l) ch_1634 cut_nil
/-- RookHusting$Slots at -/
noncomputable def con_1635 : Con2 := ((yX8_at, cX8_at, 3, (some .long)), (0, 0), ([(6, 0, 0), (0, 2, 0), (0, 13, 0)], [(0, 0), (0, 0), (0, 0), (0, 0), (0, 0), (0, 0), (0, 16)], [.inl (8, [(6, 1, 0), (8, 4, 0), (8, 5, 0)]), ac_883], []), [((4, 6, 0), gi_1118, hq_715, [], [1])])
theorem hd_1635 : con_1635.1 = (yX8_at, cX8_at, 3, (some .long)) := rfl
noncomputable def ct_1635 : CTB2 := []
noncomputable def cu_1635 : List CUT2 := []
theorem ch_1635 : staG tb_X8_at 1 bt_RX8 [] ct_1635 [] [] cu_1635 11 con_1635 = true := by decide +kernel
theorem cto_1635 (l : Launch) : CTOK2 l RX8 vwCl gTbl ct_1635 := ct2_nil
theorem vl_1635 (l : Launch) : Vld2 l vwCl gTbl con_1635 := conR_ok3 gT_all (hd_1635) rfl pn_RX8 tk_X8_at bo_RX8 xo_RX8 (cto_1635 l) ch_1635 cut_nil
/-- RookHusting$Slots at -/
noncomputable def con_1636 : Con2 := ((yX8_at, cX8_at, 3, (some .long)), (0, 0), ([(6, 0, 0), (0, 2, 0), (0, 14, 0)], [(0, 0), (0, 0), (0, 0), (0, 0), (0, 0), (0, 0), (0, 250)], [.inl (8, [(6, 1, 0), (8, 4, 0), (8, 5, 0)]), ac_884], []), [((4, 6, 0), gi_1119, hq_716, [], [1])])
theorem hd_1636 : con_1636.1 = (yX8_at, cX8_at, 3, (some .long)) := rfl
noncomputable def ct_1636 : CTB2 := []
noncomputable def cu_1636 : List CUT2 := []
theorem ch_1636 : staG tb_X8_at 1 bt_RX8 [] ct_1636 [] [] cu_1636 11 con_1636 = true := by decide +kernel
theorem cto_1636 (l : Launch) : CTOK2 l RX8 vwCl gTbl ct_1636 := ct2_nil
theorem vl_1636 (l : Launch) : Vld2 l vwCl gTbl con_1636 := conR_ok3 gT_all (hd_1636) rfl pn_RX8 tk_X8_at bo_RX8 xo_RX8 (cto_1636 l) ch_1636 cut_nil
/-- RookHusting$Slots at -/
noncomputable def con_1637 : Con2 := ((yX8_at, cX8_at, 3, (some .long)), (0, 0), ([(6, 0, 0), (0, 2, 0), (0, 15, 0)], [(0, 0), (0, 0), (0, 0), (0, 0), (0, 0), (0, 0), (0, 4)], [.inl (8, [(6, 1, 0), (8, 4, 0), (8, 5, 0)]), ac_885], []), [((4, 6, 0), gi_1117, hq_717, [], [1])])
theorem hd_1637 : con_1637.1 = (yX8_at, cX8_at, 3, (some .long)) := rfl
noncomputable def ct_1637 : CTB2 := []
noncomputable def cu_1637 : List CUT2 := []
theorem ch_1637 : staG tb_X8_at 1 bt_RX8 [] ct_1637 [] [] cu_1637 11 con_1637 = true := by decide +kernel
theorem cto_1637 (l : Launch) : CTOK2 l RX8 vwCl gTbl ct_1637 := ct2_nil
theorem vl_1637 (l : Launch) : Vld2 l vwCl gTbl con_1637 := conR_ok3 gT_all (hd_1637) rfl pn_RX8 tk_X8_at bo_RX8 xo_RX8 (cto_1637 l) ch_1637 cut_nil
/-- RookHusting$Slots at -/
noncomputable def con_1638 : Con2 := ((yX8_at, cX8_at, 3, (some .long)), (0, 0), ([(6, 0, 0), (0, 2, 0), (0, 16, 0)], [(0, 0), (0, 0), (0, 0), (0, 0), (0, 0), (0, 0), (0, 16)], [.inl (8, [(6, 1, 0), (8, 4, 0), (8, 5, 0)]), ac_886], []), [((4, 6, 0), gi_1118, hq_718, [], [1])])
theorem hd_1638 : con_1638.1 = (yX8_at, cX8_at, 3, (some .long)) := rfl
noncomputable def ct_1638 : CTB2 := []
noncomputable def cu_1638 : List CUT2 := []
theorem ch_1638 : staG tb_X8_at 1 bt_RX8 [] ct_1638 [] [] cu_1638 11 con_1638 = true := by decide +kernel
theorem cto_1638 (l : Launch) : CTOK2 l RX8 vwCl gTbl ct_1638 := ct2_nil
theorem vl_1638 (l : Launch) : Vld2 l vwCl gTbl con_1638 := conR_ok3 gT_all (hd_1638) rfl pn_RX8 tk_X8_at bo_RX8 xo_RX8 (cto_1638 l) ch_1638 cut_nil
/-- RookHusting$Slots at -/
noncomputable def con_1639 : Con2 := ((yX8_at, cX8_at, 3, (some .long)), (0, 0), ([(6, 0, 0), (0, 2, 0), (0, 17, 0)], [(0, 0), (0, 0), (0, 0), (0, 0), (0, 0), (0, 0), (0, 250)], [.inl (8, [(6, 1, 0), (8, 4, 0), (8, 5, 0)]), ac_887], []), [((4, 6, 0), gi_1119, hq_719, [], [1])])
theorem hd_1639 : con_1639.1 = (yX8_at, cX8_at, 3, (some .long)) := rfl
noncomputable def ct_1639 : CTB2 := []
noncomputable def cu_1639 : List CUT2 := []
theorem ch_1639 : staG tb_X8_at 1 bt_RX8 [] ct_1639 [] [] cu_1639 11 con_1639 = true := by decide +kernel
theorem cto_1639 (l : Launch) : CTOK2 l RX8 vwCl gTbl ct_1639 := ct2_nil
theorem vl_1639 (l : Launch) : Vld2 l vwCl gTbl con_1639 := conR_ok3 gT_all (hd_1639) rfl pn_RX8 tk_X8_at bo_RX8 xo_RX8 (cto_1639 l) ch_1639 cut_nil
/-- RookHusting$Slots at -/
noncomputable def con_1640 : Con2 := ((yX8_at, cX8_at, 3, (some .long)), (0, 0), ([(6, 0, 0), (0, 2, 0), (0, 18, 0)], [(0, 0), (0, 0), (0, 0), (0, 0), (0, 0), (0, 0), (0, 4)], [.inl (8, [(6, 1, 0), (8, 4, 0), (8, 5, 0)]), ac_888], []), [((4, 6, 0), gi_1117, hq_720, [], [1])])
theorem hd_1640 : con_1640.1 = (yX8_at, cX8_at, 3, (some .long)) := rfl
noncomputable def ct_1640 : CTB2 := []
noncomputable def cu_1640 : List CUT2 := []
theorem ch_1640 : staG tb_X8_at 1 bt_RX8 [] ct_1640 [] [] cu_1640 11 con_1640 = true := by decide +kernel
theorem cto_1640 (l : Launch) : CTOK2 l RX8 vwCl gTbl ct_1640 := ct2_nil
theorem vl_1640 (l : Launch) : Vld2 l vwCl gTbl con_1640 := conR_ok3 gT_all (hd_1640) rfl pn_RX8 tk_X8_at bo_RX8 xo_RX8 (cto_1640 l) ch_1640 cut_nil
/-- RookHusting$Slots at -/
noncomputable def con_1641 : Con2 := ((yX8_at, cX8_at, 3, (some .long)), (0, 0), ([(6, 0, 0), (0, 2, 0), (0, 19, 0)], [(0, 0), (0, 0), (0, 0), (0, 0), (0, 0), (0, 0), (0, 16)], [.inl (8, [(6, 1, 0), (8, 4, 0), (8, 5, 0)]), ac_889], []), [((4, 6, 0), gi_1118, hq_721, [], [1])])
theorem hd_1641 : con_1641.1 = (yX8_at, cX8_at, 3, (some .long)) := rfl
noncomputable def ct_1641 : CTB2 := []
noncomputable def cu_1641 : List CUT2 := []
theorem ch_1641 : staG tb_X8_at 1 bt_RX8 [] ct_1641 [] [] cu_1641 11 con_1641 = true := by decide +kernel
theorem cto_1641 (l : Launch) : CTOK2 l RX8 vwCl gTbl ct_1641 := ct2_nil
theorem vl_1641 (l : Launch) : Vld2 l vwCl gTbl con_1641 := conR_ok3 gT_all (hd_1641) rfl pn_RX8 tk_X8_at bo_RX8 xo_RX8 (cto_1641 l) ch_1641 cut_nil
/-- RookHusting$Slots at -/
noncomputable def con_1642 : Con2 := ((yX8_at, cX8_at, 3, (some .long)), (0, 0), ([(6, 0, 0), (0, 2, 0), (0, 20, 0)], [(0, 0), (0, 0), (0, 0), (0, 0), (0, 0), (0, 0), (0, 250)], [.inl (8, [(6, 1, 0), (8, 4, 0), (8, 5, 0)]), ac_890], []), [((4, 6, 0), gi_1119, hq_722, [], [1])])
theorem hd_1642 : con_1642.1 = (yX8_at, cX8_at, 3, (some .long)) := rfl
noncomputable def ct_1642 : CTB2 := []
noncomputable def cu_1642 : List CUT2 := []
theorem ch_1642 : staG tb_X8_at 1 bt_RX8 [] ct_1642 [] [] cu_1642 11 con_1642 = true := by decide +kernel
theorem cto_1642 (l : Launch) : CTOK2 l RX8 vwCl gTbl ct_1642 := ct2_nil
theorem vl_1642 (l : Launch) : Vld2 l vwCl gTbl con_1642 := conR_ok3 gT_all (hd_1642) rfl pn_RX8 tk_X8_at bo_RX8 xo_RX8 (cto_1642 l) ch_1642 cut_nil
/-- RookHusting$Slots at -/
noncomputable def con_1643 : Con2 := ((yX8_at, cX8_at, 3, (some .long)), (0, 0), ([(6, 0, 0), (0, 2, 0), (0, 21, 0)], [(0, 0), (0, 0), (0, 0), (0, 0), (0, 0), (0, 0), (0, 4)], [.inl (8, [(6, 1, 0), (8, 4, 0), (8, 5, 0)]), ac_891], []), [((4, 6, 0), gi_1117, hq_723, [], [1])])
theorem hd_1643 : con_1643.1 = (yX8_at, cX8_at, 3, (some .long)) := rfl
noncomputable def ct_1643 : CTB2 := []
noncomputable def cu_1643 : List CUT2 := []
theorem ch_1643 : staG tb_X8_at 1 bt_RX8 [] ct_1643 [] [] cu_1643 11 con_1643 = true := by decide +kernel
theorem cto_1643 (l : Launch) : CTOK2 l RX8 vwCl gTbl ct_1643 := ct2_nil
theorem vl_1643 (l : Launch) : Vld2 l vwCl gTbl con_1643 := conR_ok3 gT_all (hd_1643) rfl pn_RX8 tk_X8_at bo_RX8 xo_RX8 (cto_1643 l) ch_1643 cut_nil
/-- RookHusting$Slots at -/
noncomputable def con_1644 : Con2 := ((yX8_at, cX8_at, 3, (some .long)), (0, 0), ([(6, 0, 0), (0, 2, 0), (0, 22, 0)], [(0, 0), (0, 0), (0, 0), (0, 0), (0, 0), (0, 0), (0, 16)], [.inl (8, [(6, 1, 0), (8, 4, 0), (8, 5, 0)]), ac_892], []), [((4, 6, 0), gi_1118, hq_724, [], [1])])
theorem hd_1644 : con_1644.1 = (yX8_at, cX8_at, 3, (some .long)) := rfl
noncomputable def ct_1644 : CTB2 := []
noncomputable def cu_1644 : List CUT2 := []
theorem ch_1644 : staG tb_X8_at 1 bt_RX8 [] ct_1644 [] [] cu_1644 11 con_1644 = true := by decide +kernel
theorem cto_1644 (l : Launch) : CTOK2 l RX8 vwCl gTbl ct_1644 := ct2_nil
theorem vl_1644 (l : Launch) : Vld2 l vwCl gTbl con_1644 := conR_ok3 gT_all (hd_1644) rfl pn_RX8 tk_X8_at bo_RX8 xo_RX8 (cto_1644 l) ch_1644 cut_nil
/-- RookHusting$Slots at -/
noncomputable def con_1645 : Con2 := ((yX8_at, cX8_at, 3, (some .long)), (0, 0), ([(6, 0, 0), (0, 2, 0), (0, 23, 0)], [(0, 0), (0, 0), (0, 0), (0, 0), (0, 0), (0, 0), (0, 250)], [.inl (8, [(6, 1, 0), (8, 4, 0), (8, 5, 0)]), ac_893], []), [((4, 6, 0), gi_1119, hq_725, [], [1])])
theorem hd_1645 : con_1645.1 = (yX8_at, cX8_at, 3, (some .long)) := rfl
noncomputable def ct_1645 : CTB2 := []
noncomputable def cu_1645 : List CUT2 := []
theorem ch_1645 : staG tb_X8_at 1 bt_RX8 [] ct_1645 [] [] cu_1645 11 con_1645 = true := by decide +kernel
theorem cto_1645 (l : Launch) : CTOK2 l RX8 vwCl gTbl ct_1645 := ct2_nil
theorem vl_1645 (l : Launch) : Vld2 l vwCl gTbl con_1645 := conR_ok3 gT_all (hd_1645) rfl pn_RX8 tk_X8_at bo_RX8 xo_RX8 (cto_1645 l) ch_1645 cut_nil
/-- RookHusting$Slots at -/
noncomputable def con_1646 : Con2 := ((yX8_at, cX8_at, 3, (some .long)), (0, 0), ([(6, 0, 0), (0, 2, 0), (0, 24, 0)], [(0, 0), (0, 0), (0, 0), (0, 0), (0, 0), (0, 0), (0, 4)], [.inl (8, [(6, 1, 0), (8, 4, 0), (8, 5, 0)]), ac_894], []), [((4, 6, 0), gi_1117, hq_726, [], [1])])
theorem hd_1646 : con_1646.1 = (yX8_at, cX8_at, 3, (some .long)) := rfl
noncomputable def ct_1646 : CTB2 := []
noncomputable def cu_1646 : List CUT2 := []
theorem ch_1646 : staG tb_X8_at 1 bt_RX8 [] ct_1646 [] [] cu_1646 11 con_1646 = true := by decide +kernel
theorem cto_1646 (l : Launch) : CTOK2 l RX8 vwCl gTbl ct_1646 := ct2_nil
theorem vl_1646 (l : Launch) : Vld2 l vwCl gTbl con_1646 := conR_ok3 gT_all (hd_1646) rfl pn_RX8 tk_X8_at bo_RX8 xo_RX8 (cto_1646 l) ch_1646 cut_nil
/-- RookHusting$Slots at -/
noncomputable def con_1647 : Con2 := ((yX8_at, cX8_at, 3, (some .long)), (0, 0), ([(6, 0, 0), (0, 2, 0), (0, 25, 0)], [(0, 0), (0, 0), (0, 0), (0, 0), (0, 0), (0, 0), (0, 16)], [.inl (8, [(6, 1, 0), (8, 4, 0), (8, 5, 0)]), ac_895], []), [((4, 6, 0), gi_1118, hq_727, [], [1])])
theorem hd_1647 : con_1647.1 = (yX8_at, cX8_at, 3, (some .long)) := rfl
noncomputable def ct_1647 : CTB2 := []
noncomputable def cu_1647 : List CUT2 := []
theorem ch_1647 : staG tb_X8_at 1 bt_RX8 [] ct_1647 [] [] cu_1647 11 con_1647 = true := by decide +kernel
theorem cto_1647 (l : Launch) : CTOK2 l RX8 vwCl gTbl ct_1647 := ct2_nil
theorem vl_1647 (l : Launch) : Vld2 l vwCl gTbl con_1647 := conR_ok3 gT_all (hd_1647) rfl pn_RX8 tk_X8_at bo_RX8 xo_RX8 (cto_1647 l) ch_1647 cut_nil
/-- RookHusting$Slots at -/
noncomputable def con_1648 : Con2 := ((yX8_at, cX8_at, 3, (some .long)), (0, 0), ([(6, 0, 0), (0, 2, 0), (0, 26, 0)], [(0, 0), (0, 0), (0, 0), (0, 0), (0, 0), (0, 0), (0, 250)], [.inl (8, [(6, 1, 0), (8, 4, 0), (8, 5, 0)]), ac_896], []), [((4, 6, 0), gi_1119, hq_728, [], [1])])
theorem hd_1648 : con_1648.1 = (yX8_at, cX8_at, 3, (some .long)) := rfl
noncomputable def ct_1648 : CTB2 := []
noncomputable def cu_1648 : List CUT2 := []
theorem ch_1648 : staG tb_X8_at 1 bt_RX8 [] ct_1648 [] [] cu_1648 11 con_1648 = true := by decide +kernel
theorem cto_1648 (l : Launch) : CTOK2 l RX8 vwCl gTbl ct_1648 := ct2_nil
theorem vl_1648 (l : Launch) : Vld2 l vwCl gTbl con_1648 := conR_ok3 gT_all (hd_1648) rfl pn_RX8 tk_X8_at bo_RX8 xo_RX8 (cto_1648 l) ch_1648 cut_nil
/-- RookHusting$Slots at -/
noncomputable def con_1649 : Con2 := ((yX8_at, cX8_at, 3, (some .long)), (0, 0), ([(6, 0, 0), (0, 2, 0), (0, 27, 0)], [(0, 0), (0, 0), (0, 0), (0, 0), (0, 0), (0, 0), (0, 4)], [.inl (8, [(6, 1, 0), (8, 4, 0), (8, 5, 0)]), ac_897], []), [((4, 6, 0), gi_1117, hq_729, [], [1])])
theorem hd_1649 : con_1649.1 = (yX8_at, cX8_at, 3, (some .long)) := rfl
noncomputable def ct_1649 : CTB2 := []
noncomputable def cu_1649 : List CUT2 := []
theorem ch_1649 : staG tb_X8_at 1 bt_RX8 [] ct_1649 [] [] cu_1649 11 con_1649 = true := by decide +kernel
theorem cto_1649 (l : Launch) : CTOK2 l RX8 vwCl gTbl ct_1649 := ct2_nil
theorem vl_1649 (l : Launch) : Vld2 l vwCl gTbl con_1649 := conR_ok3 gT_all (hd_1649) rfl pn_RX8 tk_X8_at bo_RX8 xo_RX8 (cto_1649 l) ch_1649 cut_nil
/-- RookHusting$Slots at -/
noncomputable def con_1650 : Con2 := ((yX8_at, cX8_at, 3, (some .long)), (0, 0), ([(6, 0, 0), (0, 2, 0), (0, 28, 0)], [(0, 0), (0, 0), (0, 0), (0, 0), (0, 0), (0, 0), (0, 16)], [.inl (8, [(6, 1, 0), (8, 4, 0), (8, 5, 0)]), ac_898], []), [((4, 6, 0), gi_1118, hq_730, [], [1])])
theorem hd_1650 : con_1650.1 = (yX8_at, cX8_at, 3, (some .long)) := rfl
noncomputable def ct_1650 : CTB2 := []
noncomputable def cu_1650 : List CUT2 := []
theorem ch_1650 : staG tb_X8_at 1 bt_RX8 [] ct_1650 [] [] cu_1650 11 con_1650 = true := by decide +kernel
theorem cto_1650 (l : Launch) : CTOK2 l RX8 vwCl gTbl ct_1650 := ct2_nil
theorem vl_1650 (l : Launch) : Vld2 l vwCl gTbl con_1650 := conR_ok3 gT_all (hd_1650) rfl pn_RX8 tk_X8_at bo_RX8 xo_RX8 (cto_1650 l) ch_1650 cut_nil
/-- RookHusting$Slots at -/
noncomputable def con_1651 : Con2 := ((yX8_at, cX8_at, 3, (some .long)), (0, 0), ([(6, 0, 0), (0, 2, 0), (0, 29, 0)], [(0, 0), (0, 0), (0, 0), (0, 0), (0, 0), (0, 0), (0, 250)], [.inl (8, [(6, 1, 0), (8, 4, 0), (8, 5, 0)]), ac_899], []), [((4, 6, 0), gi_1119, hq_731, [], [1])])
theorem hd_1651 : con_1651.1 = (yX8_at, cX8_at, 3, (some .long)) := rfl
noncomputable def ct_1651 : CTB2 := []
noncomputable def cu_1651 : List CUT2 := []
theorem ch_1651 : staG tb_X8_at 1 bt_RX8 [] ct_1651 [] [] cu_1651 11 con_1651 = true := by decide +kernel
theorem cto_1651 (l : Launch) : CTOK2 l RX8 vwCl gTbl ct_1651 := ct2_nil
theorem vl_1651 (l : Launch) : Vld2 l vwCl gTbl con_1651 := conR_ok3 gT_all (hd_1651) rfl pn_RX8 tk_X8_at bo_RX8 xo_RX8 (cto_1651 l) ch_1651 cut_nil
/-- RookHusting$Slots at -/
noncomputable def con_1652 : Con2 := ((yX8_at, cX8_at, 3, (some .long)), (0, 0), ([(6, 0, 0), (0, 2, 0), (0, 30, 0)], [(0, 0), (0, 0), (0, 0), (0, 0), (0, 0), (0, 0), (0, 4)], [.inl (8, [(6, 1, 0), (8, 4, 0), (8, 5, 0)]), ac_900], []), [((4, 6, 0), gi_1117, hq_732, [], [1])])
theorem hd_1652 : con_1652.1 = (yX8_at, cX8_at, 3, (some .long)) := rfl
noncomputable def ct_1652 : CTB2 := []
noncomputable def cu_1652 : List CUT2 := []
theorem ch_1652 : staG tb_X8_at 1 bt_RX8 [] ct_1652 [] [] cu_1652 11 con_1652 = true := by decide +kernel
theorem cto_1652 (l : Launch) : CTOK2 l RX8 vwCl gTbl ct_1652 := ct2_nil
theorem vl_1652 (l : Launch) : Vld2 l vwCl gTbl con_1652 := conR_ok3 gT_all (hd_1652) rfl pn_RX8 tk_X8_at bo_RX8 xo_RX8 (cto_1652 l) ch_1652 cut_nil
/-- RookHusting$Slots at -/
noncomputable def con_1653 : Con2 := ((yX8_at, cX8_at, 3, (some .long)), (0, 0), ([(6, 0, 0), (0, 2, 0), (0, 31, 0)], [(0, 0), (0, 0), (0, 0), (0, 0), (0, 0), (0, 0), (0, 16)], [.inl (8, [(6, 1, 0), (8, 4, 0), (8, 5, 0)]), ac_901], []), [((4, 6, 0), gi_1118, hq_733, [], [1])])
theorem hd_1653 : con_1653.1 = (yX8_at, cX8_at, 3, (some .long)) := rfl
noncomputable def ct_1653 : CTB2 := []
noncomputable def cu_1653 : List CUT2 := []
theorem ch_1653 : staG tb_X8_at 1 bt_RX8 [] ct_1653 [] [] cu_1653 11 con_1653 = true := by decide +kernel
theorem cto_1653 (l : Launch) : CTOK2 l RX8 vwCl gTbl ct_1653 := ct2_nil
theorem vl_1653 (l : Launch) : Vld2 l vwCl gTbl con_1653 := conR_ok3 gT_all (hd_1653) rfl pn_RX8 tk_X8_at bo_RX8 xo_RX8 (cto_1653 l) ch_1653 cut_nil
/-- RookHusting$Slots at -/
noncomputable def con_1654 : Con2 := ((yX8_at, cX8_at, 3, (some .long)), (0, 0), ([(6, 0, 0), (0, 2, 0), (0, 32, 0)], [(0, 0), (0, 0), (0, 0), (0, 0), (0, 0), (0, 0), (0, 250)], [.inl (8, [(6, 1, 0), (8, 4, 0), (8, 5, 0)]), ac_902], []), [((4, 6, 0), gi_1119, hq_734, [], [1])])
theorem hd_1654 : con_1654.1 = (yX8_at, cX8_at, 3, (some .long)) := rfl
noncomputable def ct_1654 : CTB2 := []
noncomputable def cu_1654 : List CUT2 := []
theorem ch_1654 : staG tb_X8_at 1 bt_RX8 [] ct_1654 [] [] cu_1654 11 con_1654 = true := by decide +kernel
theorem cto_1654 (l : Launch) : CTOK2 l RX8 vwCl gTbl ct_1654 := ct2_nil
theorem vl_1654 (l : Launch) : Vld2 l vwCl gTbl con_1654 := conR_ok3 gT_all (hd_1654) rfl pn_RX8 tk_X8_at bo_RX8 xo_RX8 (cto_1654 l) ch_1654 cut_nil
/-- RookHusting$Slots at -/
noncomputable def con_1655 : Con2 := ((yX8_at, cX8_at, 3, (some .long)), (0, 0), ([(6, 0, 0), (0, 2, 0), (0, 33, 0)], [(0, 0), (0, 0), (0, 0), (0, 0), (0, 0), (0, 0), (0, 4)], [.inl (8, [(6, 1, 0), (8, 4, 0), (8, 5, 0)]), ac_903], []), [((4, 6, 0), gi_1117, hq_735, [], [1])])
theorem hd_1655 : con_1655.1 = (yX8_at, cX8_at, 3, (some .long)) := rfl
noncomputable def ct_1655 : CTB2 := []
noncomputable def cu_1655 : List CUT2 := []
theorem ch_1655 : staG tb_X8_at 1 bt_RX8 [] ct_1655 [] [] cu_1655 11 con_1655 = true := by decide +kernel
theorem cto_1655 (l : Launch) : CTOK2 l RX8 vwCl gTbl ct_1655 := ct2_nil
theorem vl_1655 (l : Launch) : Vld2 l vwCl gTbl con_1655 := conR_ok3 gT_all (hd_1655) rfl pn_RX8 tk_X8_at bo_RX8 xo_RX8 (cto_1655 l) ch_1655 cut_nil
/-- RookHusting$Slots at -/
noncomputable def con_1656 : Con2 := ((yX8_at, cX8_at, 3, (some .long)), (0, 0), ([(6, 0, 0), (0, 2, 0), (0, 34, 0)], [(0, 0), (0, 0), (0, 0), (0, 0), (0, 0), (0, 0), (0, 16)], [.inl (8, [(6, 1, 0), (8, 4, 0), (8, 5, 0)]), ac_904], []), [((4, 6, 0), gi_1118, hq_736, [], [1])])
theorem hd_1656 : con_1656.1 = (yX8_at, cX8_at, 3, (some .long)) := rfl
noncomputable def ct_1656 : CTB2 := []
noncomputable def cu_1656 : List CUT2 := []
theorem ch_1656 : staG tb_X8_at 1 bt_RX8 [] ct_1656 [] [] cu_1656 11 con_1656 = true := by decide +kernel
theorem cto_1656 (l : Launch) : CTOK2 l RX8 vwCl gTbl ct_1656 := ct2_nil
theorem vl_1656 (l : Launch) : Vld2 l vwCl gTbl con_1656 := conR_ok3 gT_all (hd_1656) rfl pn_RX8 tk_X8_at bo_RX8 xo_RX8 (cto_1656 l) ch_1656 cut_nil
/-- RookHusting$Slots at -/
noncomputable def con_1657 : Con2 := ((yX8_at, cX8_at, 3, (some .long)), (0, 0), ([(6, 0, 0), (0, 2, 0), (0, 35, 0)], [(0, 0), (0, 0), (0, 0), (0, 0), (0, 0), (0, 0), (0, 250)], [.inl (8, [(6, 1, 0), (8, 4, 0), (8, 5, 0)]), ac_905], []), [((4, 6, 0), gi_1119, hq_737, [], [1])])
theorem hd_1657 : con_1657.1 = (yX8_at, cX8_at, 3, (some .long)) := rfl
noncomputable def ct_1657 : CTB2 := []
noncomputable def cu_1657 : List CUT2 := []
theorem ch_1657 : staG tb_X8_at 1 bt_RX8 [] ct_1657 [] [] cu_1657 11 con_1657 = true := by decide +kernel
theorem cto_1657 (l : Launch) : CTOK2 l RX8 vwCl gTbl ct_1657 := ct2_nil
theorem vl_1657 (l : Launch) : Vld2 l vwCl gTbl con_1657 := conR_ok3 gT_all (hd_1657) rfl pn_RX8 tk_X8_at bo_RX8 xo_RX8 (cto_1657 l) ch_1657 cut_nil
/-- RookHusting$Slots at -/
noncomputable def con_1658 : Con2 := ((yX8_at, cX8_at, 3, (some .long)), (0, 0), ([(6, 0, 0), (0, 2, 0), (0, 36, 0)], [(0, 0), (0, 0), (0, 0), (0, 0), (0, 0), (0, 0), (0, 4)], [.inl (8, [(6, 1, 0), (8, 4, 0), (8, 5, 0)]), ac_906], []), [((4, 6, 0), gi_1117, hq_738, [], [1])])
theorem hd_1658 : con_1658.1 = (yX8_at, cX8_at, 3, (some .long)) := rfl
noncomputable def ct_1658 : CTB2 := []
noncomputable def cu_1658 : List CUT2 := []
theorem ch_1658 : staG tb_X8_at 1 bt_RX8 [] ct_1658 [] [] cu_1658 11 con_1658 = true := by decide +kernel
theorem cto_1658 (l : Launch) : CTOK2 l RX8 vwCl gTbl ct_1658 := ct2_nil
theorem vl_1658 (l : Launch) : Vld2 l vwCl gTbl con_1658 := conR_ok3 gT_all (hd_1658) rfl pn_RX8 tk_X8_at bo_RX8 xo_RX8 (cto_1658 l) ch_1658 cut_nil
/-- RookHusting$Slots at -/
noncomputable def con_1659 : Con2 := ((yX8_at, cX8_at, 3, (some .long)), (0, 0), ([(6, 0, 0), (0, 2, 0), (0, 37, 0)], [(0, 0), (0, 0), (0, 0), (0, 0), (0, 0), (0, 0), (0, 16)], [.inl (8, [(6, 1, 0), (8, 4, 0), (8, 5, 0)]), ac_907], []), [((4, 6, 0), gi_1118, hq_739, [], [1])])
theorem hd_1659 : con_1659.1 = (yX8_at, cX8_at, 3, (some .long)) := rfl
noncomputable def ct_1659 : CTB2 := []
noncomputable def cu_1659 : List CUT2 := []
theorem ch_1659 : staG tb_X8_at 1 bt_RX8 [] ct_1659 [] [] cu_1659 11 con_1659 = true := by decide +kernel
theorem cto_1659 (l : Launch) : CTOK2 l RX8 vwCl gTbl ct_1659 := ct2_nil
theorem vl_1659 (l : Launch) : Vld2 l vwCl gTbl con_1659 := conR_ok3 gT_all (hd_1659) rfl pn_RX8 tk_X8_at bo_RX8 xo_RX8 (cto_1659 l) ch_1659 cut_nil
/-- RookHusting$Slots at -/
noncomputable def con_1660 : Con2 := ((yX8_at, cX8_at, 3, (some .long)), (0, 0), ([(6, 0, 0), (0, 2, 0), (0, 38, 0)], [(0, 0), (0, 0), (0, 0), (0, 0), (0, 0), (0, 0), (0, 250)], [.inl (8, [(6, 1, 0), (8, 4, 0), (8, 5, 0)]), ac_908], []), [((4, 6, 0), gi_1119, hq_740, [], [1])])
theorem hd_1660 : con_1660.1 = (yX8_at, cX8_at, 3, (some .long)) := rfl
noncomputable def ct_1660 : CTB2 := []
noncomputable def cu_1660 : List CUT2 := []
theorem ch_1660 : staG tb_X8_at 1 bt_RX8 [] ct_1660 [] [] cu_1660 11 con_1660 = true := by decide +kernel
theorem cto_1660 (l : Launch) : CTOK2 l RX8 vwCl gTbl ct_1660 := ct2_nil
theorem vl_1660 (l : Launch) : Vld2 l vwCl gTbl con_1660 := conR_ok3 gT_all (hd_1660) rfl pn_RX8 tk_X8_at bo_RX8 xo_RX8 (cto_1660 l) ch_1660 cut_nil
/-- RookHusting$Slots at -/
noncomputable def con_1661 : Con2 := ((yX8_at, cX8_at, 3, (some .long)), (0, 0), ([(6, 0, 0), (0, 2, 0), (0, 39, 0)], [(0, 0), (0, 0), (0, 0), (0, 0), (0, 0), (0, 0), (0, 4)], [.inl (8, [(6, 1, 0), (8, 4, 0), (8, 5, 0)]), ac_909], []), [((4, 6, 0), gi_1117, hq_741, [], [1])])
theorem hd_1661 : con_1661.1 = (yX8_at, cX8_at, 3, (some .long)) := rfl
noncomputable def ct_1661 : CTB2 := []
noncomputable def cu_1661 : List CUT2 := []
theorem ch_1661 : staG tb_X8_at 1 bt_RX8 [] ct_1661 [] [] cu_1661 11 con_1661 = true := by decide +kernel
theorem cto_1661 (l : Launch) : CTOK2 l RX8 vwCl gTbl ct_1661 := ct2_nil
theorem vl_1661 (l : Launch) : Vld2 l vwCl gTbl con_1661 := conR_ok3 gT_all (hd_1661) rfl pn_RX8 tk_X8_at bo_RX8 xo_RX8 (cto_1661 l) ch_1661 cut_nil
/-- RookHusting$Slots at -/
noncomputable def con_1662 : Con2 := ((yX8_at, cX8_at, 3, (some .long)), (0, 0), ([(6, 0, 0), (0, 2, 0), (0, 40, 0)], [(0, 0), (0, 0), (0, 0), (0, 0), (0, 0), (0, 0), (0, 16)], [.inl (8, [(6, 1, 0), (8, 4, 0), (8, 5, 0)]), ac_910], []), [((4, 6, 0), gi_1118, hq_742, [], [1])])
theorem hd_1662 : con_1662.1 = (yX8_at, cX8_at, 3, (some .long)) := rfl
noncomputable def ct_1662 : CTB2 := []
noncomputable def cu_1662 : List CUT2 := []
theorem ch_1662 : staG tb_X8_at 1 bt_RX8 [] ct_1662 [] [] cu_1662 11 con_1662 = true := by decide +kernel
theorem cto_1662 (l : Launch) : CTOK2 l RX8 vwCl gTbl ct_1662 := ct2_nil
theorem vl_1662 (l : Launch) : Vld2 l vwCl gTbl con_1662 := conR_ok3 gT_all (hd_1662) rfl pn_RX8 tk_X8_at bo_RX8 xo_RX8 (cto_1662 l) ch_1662 cut_nil
/-- RookHusting$Slots at -/
noncomputable def con_1663 : Con2 := ((yX8_at, cX8_at, 3, (some .long)), (0, 0), ([(6, 0, 0), (0, 2, 0), (0, 41, 0)], [(0, 0), (0, 0), (0, 0), (0, 0), (0, 0), (0, 0), (0, 250)], [.inl (8, [(6, 1, 0), (8, 4, 0), (8, 5, 0)]), ac_911], []), [((4, 6, 0), gi_1119, hq_743, [], [1])])
theorem hd_1663 : con_1663.1 = (yX8_at, cX8_at, 3, (some .long)) := rfl
noncomputable def ct_1663 : CTB2 := []
noncomputable def cu_1663 : List CUT2 := []
theorem ch_1663 : staG tb_X8_at 1 bt_RX8 [] ct_1663 [] [] cu_1663 11 con_1663 = true := by decide +kernel
theorem cto_1663 (l : Launch) : CTOK2 l RX8 vwCl gTbl ct_1663 := ct2_nil
theorem vl_1663 (l : Launch) : Vld2 l vwCl gTbl con_1663 := conR_ok3 gT_all (hd_1663) rfl pn_RX8 tk_X8_at bo_RX8 xo_RX8 (cto_1663 l) ch_1663 cut_nil
/-- RookHusting$Slots at -/
noncomputable def con_1664 : Con2 := ((yX8_at, cX8_at, 3, (some .long)), (0, 0), ([(6, 0, 0), (0, 2, 0), (0, 42, 0)], [(0, 0), (0, 0), (0, 0), (0, 0), (0, 0), (0, 0), (0, 4)], [.inl (8, [(6, 1, 0), (8, 4, 0), (8, 5, 0)]), ac_912], []), [((4, 6, 0), gi_1117, hq_744, [], [1])])
theorem hd_1664 : con_1664.1 = (yX8_at, cX8_at, 3, (some .long)) := rfl
noncomputable def ct_1664 : CTB2 := []
noncomputable def cu_1664 : List CUT2 := []
theorem ch_1664 : staG tb_X8_at 1 bt_RX8 [] ct_1664 [] [] cu_1664 11 con_1664 = true := by decide +kernel
theorem cto_1664 (l : Launch) : CTOK2 l RX8 vwCl gTbl ct_1664 := ct2_nil
theorem vl_1664 (l : Launch) : Vld2 l vwCl gTbl con_1664 := conR_ok3 gT_all (hd_1664) rfl pn_RX8 tk_X8_at bo_RX8 xo_RX8 (cto_1664 l) ch_1664 cut_nil
/-- RookHusting$Slots at -/
noncomputable def con_1665 : Con2 := ((yX8_at, cX8_at, 3, (some .long)), (0, 0), ([(6, 0, 0), (0, 2, 0), (0, 43, 0)], [(0, 0), (0, 0), (0, 0), (0, 0), (0, 0), (0, 0), (0, 16)], [.inl (8, [(6, 1, 0), (8, 4, 0), (8, 5, 0)]), ac_913], []), [((4, 6, 0), gi_1118, hq_745, [], [1])])
theorem hd_1665 : con_1665.1 = (yX8_at, cX8_at, 3, (some .long)) := rfl
noncomputable def ct_1665 : CTB2 := []
noncomputable def cu_1665 : List CUT2 := []
theorem ch_1665 : staG tb_X8_at 1 bt_RX8 [] ct_1665 [] [] cu_1665 11 con_1665 = true := by decide +kernel
theorem cto_1665 (l : Launch) : CTOK2 l RX8 vwCl gTbl ct_1665 := ct2_nil
theorem vl_1665 (l : Launch) : Vld2 l vwCl gTbl con_1665 := conR_ok3 gT_all (hd_1665) rfl pn_RX8 tk_X8_at bo_RX8 xo_RX8 (cto_1665 l) ch_1665 cut_nil
/-- RookHusting$Slots at -/
noncomputable def con_1666 : Con2 := ((yX8_at, cX8_at, 3, (some .long)), (0, 0), ([(6, 0, 0), (0, 2, 0), (0, 44, 0)], [(0, 0), (0, 0), (0, 0), (0, 0), (0, 0), (0, 0), (0, 250)], [.inl (8, [(6, 1, 0), (8, 4, 0), (8, 5, 0)]), ac_914], []), [((4, 6, 0), gi_1119, hq_746, [], [1])])
theorem hd_1666 : con_1666.1 = (yX8_at, cX8_at, 3, (some .long)) := rfl
noncomputable def ct_1666 : CTB2 := []
noncomputable def cu_1666 : List CUT2 := []
theorem ch_1666 : staG tb_X8_at 1 bt_RX8 [] ct_1666 [] [] cu_1666 11 con_1666 = true := by decide +kernel
theorem cto_1666 (l : Launch) : CTOK2 l RX8 vwCl gTbl ct_1666 := ct2_nil
theorem vl_1666 (l : Launch) : Vld2 l vwCl gTbl con_1666 := conR_ok3 gT_all (hd_1666) rfl pn_RX8 tk_X8_at bo_RX8 xo_RX8 (cto_1666 l) ch_1666 cut_nil
/-- RookHusting$Slots at -/
noncomputable def con_1667 : Con2 := ((yX8_at, cX8_at, 3, (some .long)), (0, 0), ([(6, 0, 0), (0, 2, 0), (0, 45, 0)], [(0, 0), (0, 0), (0, 0), (0, 0), (0, 0), (0, 0), (0, 4)], [.inl (8, [(6, 1, 0), (8, 4, 0), (8, 5, 0)]), ac_915], []), [((4, 6, 0), gi_1117, hq_747, [], [1])])
theorem hd_1667 : con_1667.1 = (yX8_at, cX8_at, 3, (some .long)) := rfl
noncomputable def ct_1667 : CTB2 := []
noncomputable def cu_1667 : List CUT2 := []
theorem ch_1667 : staG tb_X8_at 1 bt_RX8 [] ct_1667 [] [] cu_1667 11 con_1667 = true := by decide +kernel
theorem cto_1667 (l : Launch) : CTOK2 l RX8 vwCl gTbl ct_1667 := ct2_nil
theorem vl_1667 (l : Launch) : Vld2 l vwCl gTbl con_1667 := conR_ok3 gT_all (hd_1667) rfl pn_RX8 tk_X8_at bo_RX8 xo_RX8 (cto_1667 l) ch_1667 cut_nil
/-- RookHusting$Slots at -/
noncomputable def con_1668 : Con2 := ((yX8_at, cX8_at, 3, (some .long)), (0, 0), ([(6, 0, 0), (0, 2, 0), (0, 46, 0)], [(0, 0), (0, 0), (0, 0), (0, 0), (0, 0), (0, 0), (0, 16)], [.inl (8, [(6, 1, 0), (8, 4, 0), (8, 5, 0)]), ac_916], []), [((4, 6, 0), gi_1118, hq_748, [], [1])])
theorem hd_1668 : con_1668.1 = (yX8_at, cX8_at, 3, (some .long)) := rfl
noncomputable def ct_1668 : CTB2 := []
noncomputable def cu_1668 : List CUT2 := []
theorem ch_1668 : staG tb_X8_at 1 bt_RX8 [] ct_1668 [] [] cu_1668 11 con_1668 = true := by decide +kernel
theorem cto_1668 (l : Launch) : CTOK2 l RX8 vwCl gTbl ct_1668 := ct2_nil
theorem vl_1668 (l : Launch) : Vld2 l vwCl gTbl con_1668 := conR_ok3 gT_all (hd_1668) rfl pn_RX8 tk_X8_at bo_RX8 xo_RX8 (cto_1668 l) ch_1668 cut_nil
/-- RookHusting$Slots at -/
noncomputable def con_1669 : Con2 := ((yX8_at, cX8_at, 3, (some .long)), (0, 0), ([(6, 0, 0), (0, 2, 0), (0, 47, 0)], [(0, 0), (0, 0), (0, 0), (0, 0), (0, 0), (0, 0), (0, 250)], [.inl (8, [(6, 1, 0), (8, 4, 0), (8, 5, 0)]), ac_917], []), [((4, 6, 0), gi_1119, hq_749, [], [1])])
theorem hd_1669 : con_1669.1 = (yX8_at, cX8_at, 3, (some .long)) := rfl
noncomputable def ct_1669 : CTB2 := []
noncomputable def cu_1669 : List CUT2 := []
theorem ch_1669 : staG tb_X8_at 1 bt_RX8 [] ct_1669 [] [] cu_1669 11 con_1669 = true := by decide +kernel
theorem cto_1669 (l : Launch) : CTOK2 l RX8 vwCl gTbl ct_1669 := ct2_nil
theorem vl_1669 (l : Launch) : Vld2 l vwCl gTbl con_1669 := conR_ok3 gT_all (hd_1669) rfl pn_RX8 tk_X8_at bo_RX8 xo_RX8 (cto_1669 l) ch_1669 cut_nil
/-- RookHusting$Slots at -/
noncomputable def con_1670 : Con2 := ((yX8_at, cX8_at, 3, (some .long)), (0, 0), ([(6, 0, 0), (0, 2, 0), (0, 48, 0)], [(0, 0), (0, 0), (0, 0), (0, 0), (0, 0), (0, 0), (0, 4)], [.inl (8, [(6, 1, 0), (8, 4, 0), (8, 5, 0)]), ac_918], []), [((4, 6, 0), gi_1117, hq_750, [], [1])])
theorem hd_1670 : con_1670.1 = (yX8_at, cX8_at, 3, (some .long)) := rfl
noncomputable def ct_1670 : CTB2 := []
noncomputable def cu_1670 : List CUT2 := []
theorem ch_1670 : staG tb_X8_at 1 bt_RX8 [] ct_1670 [] [] cu_1670 11 con_1670 = true := by decide +kernel
theorem cto_1670 (l : Launch) : CTOK2 l RX8 vwCl gTbl ct_1670 := ct2_nil
theorem vl_1670 (l : Launch) : Vld2 l vwCl gTbl con_1670 := conR_ok3 gT_all (hd_1670) rfl pn_RX8 tk_X8_at bo_RX8 xo_RX8 (cto_1670 l) ch_1670 cut_nil
/-- RookHusting$Slots at -/
noncomputable def con_1671 : Con2 := ((yX8_at, cX8_at, 3, (some .long)), (0, 0), ([(6, 0, 0), (0, 2, 0), (0, 49, 0)], [(0, 0), (0, 0), (0, 0), (0, 0), (0, 0), (0, 0), (0, 16)], [.inl (8, [(6, 1, 0), (8, 4, 0), (8, 5, 0)]), ac_919], []), [((4, 6, 0), gi_1118, hq_751, [], [1])])
theorem hd_1671 : con_1671.1 = (yX8_at, cX8_at, 3, (some .long)) := rfl
noncomputable def ct_1671 : CTB2 := []
noncomputable def cu_1671 : List CUT2 := []
theorem ch_1671 : staG tb_X8_at 1 bt_RX8 [] ct_1671 [] [] cu_1671 11 con_1671 = true := by decide +kernel
theorem cto_1671 (l : Launch) : CTOK2 l RX8 vwCl gTbl ct_1671 := ct2_nil
theorem vl_1671 (l : Launch) : Vld2 l vwCl gTbl con_1671 := conR_ok3 gT_all (hd_1671) rfl pn_RX8 tk_X8_at bo_RX8 xo_RX8 (cto_1671 l) ch_1671 cut_nil
/-- RookHusting$Slots at -/
noncomputable def con_1672 : Con2 := ((yX8_at, cX8_at, 3, (some .long)), (0, 0), ([(6, 0, 0), (0, 2, 0), (0, 50, 0)], [(0, 0), (0, 0), (0, 0), (0, 0), (0, 0), (0, 0), (0, 250)], [.inl (8, [(6, 1, 0), (8, 4, 0), (8, 5, 0)]), ac_920], []), [((4, 6, 0), gi_1119, hq_752, [], [1])])
theorem hd_1672 : con_1672.1 = (yX8_at, cX8_at, 3, (some .long)) := rfl
noncomputable def ct_1672 : CTB2 := []
noncomputable def cu_1672 : List CUT2 := []
theorem ch_1672 : staG tb_X8_at 1 bt_RX8 [] ct_1672 [] [] cu_1672 11 con_1672 = true := by decide +kernel
theorem cto_1672 (l : Launch) : CTOK2 l RX8 vwCl gTbl ct_1672 := ct2_nil
theorem vl_1672 (l : Launch) : Vld2 l vwCl gTbl con_1672 := conR_ok3 gT_all (hd_1672) rfl pn_RX8 tk_X8_at bo_RX8 xo_RX8 (cto_1672 l) ch_1672 cut_nil
/-- RookHusting$Slots at -/
noncomputable def con_1673 : Con2 := ((yX8_at, cX8_at, 3, (some .long)), (0, 0), ([(6, 0, 0), (0, 2, 0), (0, 51, 0)], [(0, 0), (0, 0), (0, 0), (0, 0), (0, 0), (0, 0), (0, 4)], [.inl (8, [(6, 1, 0), (8, 4, 0), (8, 5, 0)]), ac_921], []), [((4, 6, 0), gi_1117, hq_753, [], [1])])
theorem hd_1673 : con_1673.1 = (yX8_at, cX8_at, 3, (some .long)) := rfl
noncomputable def ct_1673 : CTB2 := []
noncomputable def cu_1673 : List CUT2 := []
theorem ch_1673 : staG tb_X8_at 1 bt_RX8 [] ct_1673 [] [] cu_1673 11 con_1673 = true := by decide +kernel
theorem cto_1673 (l : Launch) : CTOK2 l RX8 vwCl gTbl ct_1673 := ct2_nil
theorem vl_1673 (l : Launch) : Vld2 l vwCl gTbl con_1673 := conR_ok3 gT_all (hd_1673) rfl pn_RX8 tk_X8_at bo_RX8 xo_RX8 (cto_1673 l) ch_1673 cut_nil
/-- RookHusting$Slots at -/
noncomputable def con_1674 : Con2 := ((yX8_at, cX8_at, 3, (some .long)), (0, 0), ([(6, 0, 0), (0, 2, 0), (0, 52, 0)], [(0, 0), (0, 0), (0, 0), (0, 0), (0, 0), (0, 0), (0, 16)], [.inl (8, [(6, 1, 0), (8, 4, 0), (8, 5, 0)]), ac_922], []), [((4, 6, 0), gi_1118, hq_754, [], [1])])
theorem hd_1674 : con_1674.1 = (yX8_at, cX8_at, 3, (some .long)) := rfl
noncomputable def ct_1674 : CTB2 := []
noncomputable def cu_1674 : List CUT2 := []
theorem ch_1674 : staG tb_X8_at 1 bt_RX8 [] ct_1674 [] [] cu_1674 11 con_1674 = true := by decide +kernel
theorem cto_1674 (l : Launch) : CTOK2 l RX8 vwCl gTbl ct_1674 := ct2_nil
theorem vl_1674 (l : Launch) : Vld2 l vwCl gTbl con_1674 := conR_ok3 gT_all (hd_1674) rfl pn_RX8 tk_X8_at bo_RX8 xo_RX8 (cto_1674 l) ch_1674 cut_nil
/-- RookHusting$Slots at -/
noncomputable def con_1675 : Con2 := ((yX8_at, cX8_at, 3, (some .long)), (0, 0), ([(6, 0, 0), (0, 2, 0), (0, 53, 0)], [(0, 0), (0, 0), (0, 0), (0, 0), (0, 0), (0, 0), (0, 250)], [.inl (8, [(6, 1, 0), (8, 4, 0), (8, 5, 0)]), ac_923], []), [((4, 6, 0), gi_1119, hq_755, [], [1])])
theorem hd_1675 : con_1675.1 = (yX8_at, cX8_at, 3, (some .long)) := rfl
noncomputable def ct_1675 : CTB2 := []
noncomputable def cu_1675 : List CUT2 := []
theorem ch_1675 : staG tb_X8_at 1 bt_RX8 [] ct_1675 [] [] cu_1675 11 con_1675 = true := by decide +kernel
theorem cto_1675 (l : Launch) : CTOK2 l RX8 vwCl gTbl ct_1675 := ct2_nil
theorem vl_1675 (l : Launch) : Vld2 l vwCl gTbl con_1675 := conR_ok3 gT_all (hd_1675) rfl pn_RX8 tk_X8_at bo_RX8 xo_RX8 (cto_1675 l) ch_1675 cut_nil
/-- RookHusting$Slots at -/
noncomputable def con_1676 : Con2 := ((yX8_at, cX8_at, 3, (some .long)), (0, 0), ([(6, 0, 0), (0, 2, 0), (0, 54, 0)], [(0, 0), (0, 0), (0, 0), (0, 0), (0, 0), (0, 0), (0, 4)], [.inl (8, [(6, 1, 0), (8, 4, 0), (8, 5, 0)]), ac_924], []), [((4, 6, 0), gi_1117, hq_756, [], [1])])
theorem hd_1676 : con_1676.1 = (yX8_at, cX8_at, 3, (some .long)) := rfl
noncomputable def ct_1676 : CTB2 := []
noncomputable def cu_1676 : List CUT2 := []
theorem ch_1676 : staG tb_X8_at 1 bt_RX8 [] ct_1676 [] [] cu_1676 11 con_1676 = true := by decide +kernel
theorem cto_1676 (l : Launch) : CTOK2 l RX8 vwCl gTbl ct_1676 := ct2_nil
theorem vl_1676 (l : Launch) : Vld2 l vwCl gTbl con_1676 := conR_ok3 gT_all (hd_1676) rfl pn_RX8 tk_X8_at bo_RX8 xo_RX8 (cto_1676 l) ch_1676 cut_nil
/-- RookHusting$Slots at -/
noncomputable def con_1677 : Con2 := ((yX8_at, cX8_at, 3, (some .long)), (0, 0), ([(6, 0, 0), (0, 2, 0), (0, 55, 0)], [(0, 0), (0, 0), (0, 0), (0, 0), (0, 0), (0, 0), (0, 16)], [.inl (8, [(6, 1, 0), (8, 4, 0), (8, 5, 0)]), ac_925], []), [((4, 6, 0), gi_1118, hq_757, [], [1])])
theorem hd_1677 : con_1677.1 = (yX8_at, cX8_at, 3, (some .long)) := rfl
noncomputable def ct_1677 : CTB2 := []
noncomputable def cu_1677 : List CUT2 := []
theorem ch_1677 : staG tb_X8_at 1 bt_RX8 [] ct_1677 [] [] cu_1677 11 con_1677 = true := by decide +kernel
theorem cto_1677 (l : Launch) : CTOK2 l RX8 vwCl gTbl ct_1677 := ct2_nil
theorem vl_1677 (l : Launch) : Vld2 l vwCl gTbl con_1677 := conR_ok3 gT_all (hd_1677) rfl pn_RX8 tk_X8_at bo_RX8 xo_RX8 (cto_1677 l) ch_1677 cut_nil
/-- RookHusting$Slots at -/
noncomputable def con_1678 : Con2 := ((yX8_at, cX8_at, 3, (some .long)), (0, 0), ([(6, 0, 0), (0, 2, 0), (0, 56, 0)], [(0, 0), (0, 0), (0, 0), (0, 0), (0, 0), (0, 0), (0, 250)], [.inl (8, [(6, 1, 0), (8, 4, 0), (8, 5, 0)]), ac_926], []), [((4, 6, 0), gi_1119, hq_758, [], [1])])
theorem hd_1678 : con_1678.1 = (yX8_at, cX8_at, 3, (some .long)) := rfl
noncomputable def ct_1678 : CTB2 := []
noncomputable def cu_1678 : List CUT2 := []
theorem ch_1678 : staG tb_X8_at 1 bt_RX8 [] ct_1678 [] [] cu_1678 11 con_1678 = true := by decide +kernel
theorem cto_1678 (l : Launch) : CTOK2 l RX8 vwCl gTbl ct_1678 := ct2_nil
theorem vl_1678 (l : Launch) : Vld2 l vwCl gTbl con_1678 := conR_ok3 gT_all (hd_1678) rfl pn_RX8 tk_X8_at bo_RX8 xo_RX8 (cto_1678 l) ch_1678 cut_nil
/-- RookHusting$Slots at -/
noncomputable def con_1679 : Con2 := ((yX8_at, cX8_at, 3, (some .long)), (0, 0), ([(6, 0, 0), (0, 2, 0), (0, 57, 0)], [(0, 0), (0, 0), (0, 0), (0, 0), (0, 0), (0, 0), (0, 4)], [.inl (8, [(6, 1, 0), (8, 4, 0), (8, 5, 0)]), ac_927], []), [((4, 6, 0), gi_1117, hq_759, [], [1])])
theorem hd_1679 : con_1679.1 = (yX8_at, cX8_at, 3, (some .long)) := rfl
noncomputable def ct_1679 : CTB2 := []
noncomputable def cu_1679 : List CUT2 := []
theorem ch_1679 : staG tb_X8_at 1 bt_RX8 [] ct_1679 [] [] cu_1679 11 con_1679 = true := by decide +kernel
theorem cto_1679 (l : Launch) : CTOK2 l RX8 vwCl gTbl ct_1679 := ct2_nil
theorem vl_1679 (l : Launch) : Vld2 l vwCl gTbl con_1679 := conR_ok3 gT_all (hd_1679) rfl pn_RX8 tk_X8_at bo_RX8 xo_RX8 (cto_1679 l) ch_1679 cut_nil
/-- RookHusting$Slots at -/
noncomputable def con_1680 : Con2 := ((yX8_at, cX8_at, 3, (some .long)), (0, 0), ([(6, 0, 0), (0, 2, 0), (0, 58, 0)], [(0, 0), (0, 0), (0, 0), (0, 0), (0, 0), (0, 0), (0, 16)], [.inl (8, [(6, 1, 0), (8, 4, 0), (8, 5, 0)]), ac_928], []), [((4, 6, 0), gi_1118, hq_760, [], [1])])
theorem hd_1680 : con_1680.1 = (yX8_at, cX8_at, 3, (some .long)) := rfl
noncomputable def ct_1680 : CTB2 := []
noncomputable def cu_1680 : List CUT2 := []
theorem ch_1680 : staG tb_X8_at 1 bt_RX8 [] ct_1680 [] [] cu_1680 11 con_1680 = true := by decide +kernel
theorem cto_1680 (l : Launch) : CTOK2 l RX8 vwCl gTbl ct_1680 := ct2_nil
theorem vl_1680 (l : Launch) : Vld2 l vwCl gTbl con_1680 := conR_ok3 gT_all (hd_1680) rfl pn_RX8 tk_X8_at bo_RX8 xo_RX8 (cto_1680 l) ch_1680 cut_nil
/-- RookHusting$Slots at -/
noncomputable def con_1681 : Con2 := ((yX8_at, cX8_at, 3, (some .long)), (0, 0), ([(6, 0, 0), (0, 2, 0), (0, 59, 0)], [(0, 0), (0, 0), (0, 0), (0, 0), (0, 0), (0, 0), (0, 250)], [.inl (8, [(6, 1, 0), (8, 4, 0), (8, 5, 0)]), ac_929], []), [((4, 6, 0), gi_1119, hq_761, [], [1])])
theorem hd_1681 : con_1681.1 = (yX8_at, cX8_at, 3, (some .long)) := rfl
noncomputable def ct_1681 : CTB2 := []
noncomputable def cu_1681 : List CUT2 := []
theorem ch_1681 : staG tb_X8_at 1 bt_RX8 [] ct_1681 [] [] cu_1681 11 con_1681 = true := by decide +kernel
theorem cto_1681 (l : Launch) : CTOK2 l RX8 vwCl gTbl ct_1681 := ct2_nil
theorem vl_1681 (l : Launch) : Vld2 l vwCl gTbl con_1681 := conR_ok3 gT_all (hd_1681) rfl pn_RX8 tk_X8_at bo_RX8 xo_RX8 (cto_1681 l) ch_1681 cut_nil
