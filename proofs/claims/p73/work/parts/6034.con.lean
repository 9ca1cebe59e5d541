/-! ===== contracts, 34 ===== -/
/-- RookHusting isAsSeen -/
noncomputable def gi_1348 : GI := jl_n [gp_666, jl_z 9]
noncomputable def gi_1349 : GI := jl_n [gp_666, jl_z 10]
noncomputable def con_1702 : Con2 := ((yX11_isAsSeen, cX11_isAsSeen, 4, (some .boolean)), (1, 22), ([(6, 0, 0), (0, 2, 0)], gi_1348, hc_201, []), [((0, 0, 0), gi_1349, hq_892, [], [1]), ((0, 1, 0), gi_1349, hq_892, [], [1])])
theorem hd_1702 : con_1702.1 = (yX11_isAsSeen, cX11_isAsSeen, 4, (some .boolean)) := rfl
noncomputable def ct_1702 : CTB2 := [(21, 473, 0, con_1652, [1, 3]), (21, 473, 0, con_1649, [1, 3]), (21, 473, 0, con_1646, [1, 3]), (21, 473, 0, con_1643, [1, 3]), (21, 473, 0, con_1640, [1, 3]), (21, 473, 0, con_1637, [1, 3]), (21, 473, 0, con_1634, [1, 3]), (21, 473, 0, con_1631, [1, 3]), (21, 473, 0, con_1626, [1, 3]), (21, 473, 0, con_1623, [1, 3]), (21, 473, 0, con_1620, [1, 3]), (36, 473, 0, con_1653, [1, 3]), (36, 473, 0, con_1650, [1, 3]), (36, 473, 0, con_1647, [1, 3]), (36, 473, 0, con_1644, [1, 3]), (36, 473, 0, con_1641, [1, 3]), (36, 473, 0, con_1638, [1, 3]), (36, 473, 0, con_1635, [1, 3]), (36, 473, 0, con_1632, [1, 3]), (36, 473, 0, con_1627, [1, 3]), (36, 473, 0, con_1624, [1, 3]), (36, 473, 0, con_1621, [1, 3]), (60, 473, 0, con_1654, [1, 3]), (60, 473, 0, con_1651, [1, 3]), (60, 473, 0, con_1648, [1, 3]), (60, 473, 0, con_1645, [1, 3]), (60, 473, 0, con_1642, [1, 3]), (60, 473, 0, con_1639, [1, 3]), (60, 473, 0, con_1636, [1, 3]), (60, 473, 0, con_1633, [1, 3]), (60, 473, 0, con_1628, [1, 3]), (60, 473, 0, con_1625, [1, 3]), (60, 473, 0, con_1622, [1, 3])]
noncomputable def gi_1350 : GI := jl_n [gp_666, jl_z 12]
noncomputable def gi_1351 : GI := jl_n [gp_666, gp_628]
noncomputable def cu_1702 : List CUT2 := [((2, [lq 0 6 0, lq 1 0 2, lq 2 0 0], [], gi_1350, hq_892), [], ([], 33)), ((2, [lq 0 6 0, lq 1 0 2, lq 2 0 3, lq 3 1 97], [], gi_1351, hq_892), [], ([], 30)), ((2, [lq 0 6 0, lq 1 0 2, lq 2 0 6, lq 3 1 97], [], gi_1351, hq_892), [], ([], 27)), ((2, [lq 0 6 0, lq 1 0 2, lq 2 0 9, lq 3 1 97], [], gi_1351, hq_892), [], ([], 24)), ((2, [lq 0 6 0, lq 1 0 2, lq 2 0 12, lq 3 1 97], [], gi_1351, hq_892), [], ([], 21)), ((2, [lq 0 6 0, lq 1 0 2, lq 2 0 15, lq 3 1 97], [], gi_1351, hq_892), [], ([], 18)), ((2, [lq 0 6 0, lq 1 0 2, lq 2 0 18, lq 3 1 97], [], gi_1351, hq_892), [], ([], 15)), ((2, [lq 0 6 0, lq 1 0 2, lq 2 0 21, lq 3 1 97], [], gi_1351, hq_892), [], ([], 12)), ((2, [lq 0 6 0, lq 1 0 2, lq 2 0 24, lq 3 1 97], [], gi_1351, hq_892), [], ([], 9)), ((2, [lq 0 6 0, lq 1 0 2, lq 2 0 27, lq 3 1 97], [], gi_1351, hq_892), [], ([], 6)), ((2, [lq 0 6 0, lq 1 0 2, lq 2 0 30, lq 3 1 97], [], gi_1351, hq_892), [], ([], 3)), ((2, [lq 0 6 0, lq 1 0 2, lq 2 0 33, lq 3 1 97], [], gi_1351, hq_892), [], ([], 0))]
theorem ch_1702 : staG tb_X11_isAsSeen 1 bt_RX11 [] ct_1702 [] [] cu_1702 44 con_1702 = true := by decide +kernel
theorem cc_1702 : cu_1702.all (cutG tb_X11_isAsSeen 1 bt_RX11 [] ct_1702 [] [] cu_1702 44 con_1702) = true := by decide +kernel
theorem cto_1702 (l : Launch) : CTOK2 l RX11 vwCl gTbl ct_1702 := ct2_cons (vl_1652 l) ck_RX11_473_1652 (ct2_cons (vl_1649 l) ck_RX11_473_1649 (ct2_cons (vl_1646 l) ck_RX11_473_1646 (ct2_cons (vl_1643 l) ck_RX11_473_1643 (ct2_cons (vl_1640 l) ck_RX11_473_1640 (ct2_cons (vl_1637 l) ck_RX11_473_1637 (ct2_cons (vl_1634 l) ck_RX11_473_1634 (ct2_cons (vl_1631 l) ck_RX11_473_1631 (ct2_cons (vl_1626 l) ck_RX11_473_1626 (ct2_cons (vl_1623 l) ck_RX11_473_1623 (ct2_cons (vl_1620 l) ck_RX11_473_1620 (ct2_cons (vl_1653 l) ck_RX11_473_1653 (ct2_cons (vl_1650 l) ck_RX11_473_1650 (ct2_cons (vl_1647 l) ck_RX11_473_1647 (ct2_cons (vl_1644 l) ck_RX11_473_1644 (ct2_cons (vl_1641 l) ck_RX11_473_1641 (ct2_cons (vl_1638 l) ck_RX11_473_1638 (ct2_cons (vl_1635 l) ck_RX11_473_1635 (ct2_cons (vl_1632 l) ck_RX11_473_1632 (ct2_cons (vl_1627 l) ck_RX11_473_1627 (ct2_cons (vl_1624 l) ck_RX11_473_1624 (ct2_cons (vl_1621 l) ck_RX11_473_1621 (ct2_cons (vl_1654 l) ck_RX11_473_1654 (ct2_cons (vl_1651 l) ck_RX11_473_1651 (ct2_cons (vl_1648 l) ck_RX11_473_1648 (ct2_cons (vl_1645 l) ck_RX11_473_1645 (ct2_cons (vl_1642 l) ck_RX11_473_1642 (ct2_cons (vl_1639 l) ck_RX11_473_1639 (ct2_cons (vl_1636 l) ck_RX11_473_1636 (ct2_cons (vl_1633 l) ck_RX11_473_1633 (ct2_cons (vl_1628 l) ck_RX11_473_1628 (ct2_cons (vl_1625 l) ck_RX11_473_1625 (ct2_cons (vl_1622 l) ck_RX11_473_1622 (ct2_nil)))))))))))))))))))))))))))))))))
theorem vl_1702 (l : Launch) : Vld2 l vwCl gTbl con_1702 := conR_ok3 gT_all (hd_1702) rfl pn_RX11 tk_X11_isAsSeen bo_RX11 xo_RX11 (cto_1702 l) ch_1702 (cut_all cc_1702)
/-- RookHusting guessAll -/
noncomputable def gi_1352 : GI := jl_n [gp_655, gp_515]
noncomputable def gi_1353 : GI := jl_n [gp_655, gp_515, gp_632]
noncomputable def con_1703 : Con2 := ((yX11_guessAll, cX11_guessAll, 4, none), (6, 151), ([(6, 0, 0), (0, 2, 0), (1, 2, 0)], gi_1352, hc_202, rq_6), [((9, 0, 0), gi_1353, hq_893, [], tg_1)])
theorem hd_1703 : con_1703.1 = (yX11_guessAll, cX11_guessAll, 4, none) := rfl
theorem ck_RX11_483_1702 : COK2 RX11 vwCl gTbl 483 0 con_1702 := ⟨wd_1230, wd_125, mh_X11_isAsSeen, .inr (.inr ⟨rfl, wd_1227, wd_1229, wd_43, ⟨_, rfl, pd_X11_isAsSeen⟩, 11, _, TX11, 16, rfl, rfl⟩)⟩
noncomputable def ct_1703 : CTB2 := [(1, 208, 0, con_900, [0, 1, 2, 3, 4, 5, 6, 7, 8, 9, 10, 11, 12, 13, 14, 15, 16, 17, 18, 19, 20, 21, 22, 23, 24, 25, 26]), (36, 332, 0, con_1212, [28, 2, 29, 4, 30, 5, 31, 6]), (45, 480, 0, con_859, [28, 29]), (73, 372, 0, con_899, [32, 3, 28, 16, 33, 18, 34, 30, 35, 29, 36, 22, 23, 37, 38, 39, 31]), (78, 483, 0, con_1702, [0, 40, 41, 42, 32, 33]), (105, 486, 0, con_1522, [27, 33, 43]), (105, 486, 0, con_1527, [27, 33, 43])]
noncomputable def gi_1354 : GI := jl_n [gp_655, gp_515, gp_633]
noncomputable def cu_1703 : List CUT2 := [((14, [lq 0 6 0, lq 1 0 2, lq 2 1 2, lq 3 1 204], [], gi_1354, hq_894), rq_6, ([(204, (-1))], 5))]
theorem ch_1703 : staG tb_X11_guessAll 1 bt_RX11 [] ct_1703 [] [] cu_1703 48 con_1703 = true := by decide +kernel
theorem cc_1703 : cu_1703.all (cutG tb_X11_guessAll 1 bt_RX11 [] ct_1703 [] [] cu_1703 48 con_1703) = true := by decide +kernel
theorem cto_1703 (l : Launch) : CTOK2 l RX11 vwCl gTbl ct_1703 := ct2_cons (vl_900 l) ck_RX11_208_900 (ct2_cons (vl_1212 l) ck_RX11_332_1212 (ct2_cons (vl_859 l) ck_RX11_480_859 (ct2_cons (vl_899 l) ck_RX11_372_899 (ct2_cons (vl_1702 l) ck_RX11_483_1702 (ct2_cons (vl_1522 l) ck_RX11_486_1522 (ct2_cons (vl_1527 l) ck_RX11_486_1527 (ct2_nil)))))))
theorem vl_1703 (l : Launch) : Vld2 l vwCl gTbl con_1703 := conR_ok3 gT_all (hd_1703) rfl pn_RX11 tk_X11_guessAll bo_RX11 xo_RX11 (cto_1703 l) ch_1703 (cut_all cc_1703)
/-- RookHusting isAsSeen -/
noncomputable def gi_1355 : GI := jl_n [gp_667, jl_z 9]
noncomputable def gi_1356 : GI := jl_n [gp_667, jl_z 10]
noncomputable def con_1704 : Con2 := ((yX11_isAsSeen, cX11_isAsSeen, 4, (some .boolean)), (1, 22), ([(6, 0, 0), (0, 2, 0)], gi_1355, hc_201, []), [((0, 0, 0), gi_1356, hq_892, [], [1]), ((0, 1, 0), gi_1356, hq_892, [], [1])])
theorem hd_1704 : con_1704.1 = (yX11_isAsSeen, cX11_isAsSeen, 4, (some .boolean)) := rfl
noncomputable def ct_1704 : CTB2 := [(21, 473, 0, con_1649, [1, 3]), (21, 473, 0, con_1646, [1, 3]), (21, 473, 0, con_1643, [1, 3]), (21, 473, 0, con_1640, [1, 3]), (21, 473, 0, con_1637, [1, 3]), (21, 473, 0, con_1634, [1, 3]), (21, 473, 0, con_1631, [1, 3]), (21, 473, 0, con_1626, [1, 3]), (21, 473, 0, con_1623, [1, 3]), (21, 473, 0, con_1620, [1, 3]), (36, 473, 0, con_1650, [1, 3]), (36, 473, 0, con_1647, [1, 3]), (36, 473, 0, con_1644, [1, 3]), (36, 473, 0, con_1641, [1, 3]), (36, 473, 0, con_1638, [1, 3]), (36, 473, 0, con_1635, [1, 3]), (36, 473, 0, con_1632, [1, 3]), (36, 473, 0, con_1627, [1, 3]), (36, 473, 0, con_1624, [1, 3]), (36, 473, 0, con_1621, [1, 3]), (60, 473, 0, con_1651, [1, 3]), (60, 473, 0, con_1648, [1, 3]), (60, 473, 0, con_1645, [1, 3]), (60, 473, 0, con_1642, [1, 3]), (60, 473, 0, con_1639, [1, 3]), (60, 473, 0, con_1636, [1, 3]), (60, 473, 0, con_1633, [1, 3]), (60, 473, 0, con_1628, [1, 3]), (60, 473, 0, con_1625, [1, 3]), (60, 473, 0, con_1622, [1, 3])]
noncomputable def gi_1357 : GI := jl_n [gp_667, jl_z 12]
noncomputable def gi_1358 : GI := jl_n [gp_667, gp_628]
noncomputable def cu_1704 : List CUT2 := [((2, [lq 0 6 0, lq 1 0 2, lq 2 0 0], [], gi_1357, hq_892), [], ([], 30)), ((2, [lq 0 6 0, lq 1 0 2, lq 2 0 3, lq 3 1 97], [], gi_1358, hq_892), [], ([], 27)), ((2, [lq 0 6 0, lq 1 0 2, lq 2 0 6, lq 3 1 97], [], gi_1358, hq_892), [], ([], 24)), ((2, [lq 0 6 0, lq 1 0 2, lq 2 0 9, lq 3 1 97], [], gi_1358, hq_892), [], ([], 21)), ((2, [lq 0 6 0, lq 1 0 2, lq 2 0 12, lq 3 1 97], [], gi_1358, hq_892), [], ([], 18)), ((2, [lq 0 6 0, lq 1 0 2, lq 2 0 15, lq 3 1 97], [], gi_1358, hq_892), [], ([], 15)), ((2, [lq 0 6 0, lq 1 0 2, lq 2 0 18, lq 3 1 97], [], gi_1358, hq_892), [], ([], 12)), ((2, [lq 0 6 0, lq 1 0 2, lq 2 0 21, lq 3 1 97], [], gi_1358, hq_892), [], ([], 9)), ((2, [lq 0 6 0, lq 1 0 2, lq 2 0 24, lq 3 1 97], [], gi_1358, hq_892), [], ([], 6)), ((2, [lq 0 6 0, lq 1 0 2, lq 2 0 27, lq 3 1 97], [], gi_1358, hq_892), [], ([], 3)), ((2, [lq 0 6 0, lq 1 0 2, lq 2 0 30, lq 3 1 97], [], gi_1358, hq_892), [], ([], 0))]
theorem ch_1704 : staG tb_X11_isAsSeen 1 bt_RX11 [] ct_1704 [] [] cu_1704 44 con_1704 = true := by decide +kernel
theorem cc_1704 : cu_1704.all (cutG tb_X11_isAsSeen 1 bt_RX11 [] ct_1704 [] [] cu_1704 44 con_1704) = true := by decide +kernel
theorem cto_1704 (l : Launch) : CTOK2 l RX11 vwCl gTbl ct_1704 := ct2_cons (vl_1649 l) ck_RX11_473_1649 (ct2_cons (vl_1646 l) ck_RX11_473_1646 (ct2_cons (vl_1643 l) ck_RX11_473_1643 (ct2_cons (vl_1640 l) ck_RX11_473_1640 (ct2_cons (vl_1637 l) ck_RX11_473_1637 (ct2_cons (vl_1634 l) ck_RX11_473_1634 (ct2_cons (vl_1631 l) ck_RX11_473_1631 (ct2_cons (vl_1626 l) ck_RX11_473_1626 (ct2_cons (vl_1623 l) ck_RX11_473_1623 (ct2_cons (vl_1620 l) ck_RX11_473_1620 (ct2_cons (vl_1650 l) ck_RX11_473_1650 (ct2_cons (vl_1647 l) ck_RX11_473_1647 (ct2_cons (vl_1644 l) ck_RX11_473_1644 (ct2_cons (vl_1641 l) ck_RX11_473_1641 (ct2_cons (vl_1638 l) ck_RX11_473_1638 (ct2_cons (vl_1635 l) ck_RX11_473_1635 (ct2_cons (vl_1632 l) ck_RX11_473_1632 (ct2_cons (vl_1627 l) ck_RX11_473_1627 (ct2_cons (vl_1624 l) ck_RX11_473_1624 (ct2_cons (vl_1621 l) ck_RX11_473_1621 (ct2_cons (vl_1651 l) ck_RX11_473_1651 (ct2_cons (vl_1648 l) ck_RX11_473_1648 (ct2_cons (vl_1645 l) ck_RX11_473_1645 (ct2_cons (vl_1642 l) ck_RX11_473_1642 (ct2_cons (vl_1639 l) ck_RX11_473_1639 (ct2_cons (vl_1636 l) ck_RX11_473_1636 (ct2_cons (vl_1633 l) ck_RX11_473_1633 (ct2_cons (vl_1628 l) ck_RX11_473_1628 (ct2_cons (vl_1625 l) ck_RX11_473_1625 (ct2_cons (vl_1622 l) ck_RX11_473_1622 (ct2_nil))))))))))))))))))))))))))))))
theorem vl_1704 (l : Launch) : Vld2 l vwCl gTbl con_1704 := conR_ok3 gT_all (hd_1704) rfl pn_RX11 tk_X11_isAsSeen bo_RX11 xo_RX11 (cto_1704 l) ch_1704 (cut_all cc_1704)
/-- RookHusting guessAll -/
noncomputable def gi_1359 : GI := jl_n [gp_655, gp_513]
noncomputable def gi_1360 : GI := jl_n [gp_655, gp_513, gp_632]
noncomputable def con_1705 : Con2 := ((yX11_guessAll, cX11_guessAll, 4, none), (6, 151), ([(6, 0, 0), (0, 2, 0), (1, 2, 0)], gi_1359, hc_202, rq_6), [((9, 0, 0), gi_1360, hq_893, [], tg_1)])
theorem hd_1705 : con_1705.1 = (yX11_guessAll, cX11_guessAll, 4, none) := rfl
theorem ck_RX11_483_1704 : COK2 RX11 vwCl gTbl 483 0 con_1704 := ⟨wd_1230, wd_125, mh_X11_isAsSeen, .inr (.inr ⟨rfl, wd_1227, wd_1229, wd_43, ⟨_, rfl, pd_X11_isAsSeen⟩, 11, _, TX11, 16, rfl, rfl⟩)⟩
noncomputable def ct_1705 : CTB2 := [(1, 208, 0, con_900, [0, 1, 2, 3, 4, 5, 6, 7, 8, 9, 10, 11, 12, 13, 14, 15, 16, 17, 18, 19, 20, 21, 22, 23, 24, 25, 26]), (36, 332, 0, con_1212, [28, 2, 29, 4, 30, 5, 31, 6]), (45, 480, 0, con_859, [28, 29]), (73, 372, 0, con_899, [32, 3, 28, 16, 33, 18, 34, 30, 35, 29, 36, 22, 23, 37, 38, 39, 31]), (78, 483, 0, con_1704, [0, 40, 41, 42, 32, 33]), (105, 486, 0, con_1522, [27, 33, 43]), (105, 486, 0, con_1527, [27, 33, 43])]
noncomputable def gi_1361 : GI := jl_n [gp_655, gp_513, gp_633]
noncomputable def cu_1705 : List CUT2 := [((14, [lq 0 6 0, lq 1 0 2, lq 2 1 2, lq 3 1 204], [], gi_1361, hq_894), rq_6, ([(204, (-1))], 5))]
theorem ch_1705 : staG tb_X11_guessAll 1 bt_RX11 [] ct_1705 [] [] cu_1705 48 con_1705 = true := by decide +kernel
theorem cc_1705 : cu_1705.all (cutG tb_X11_guessAll 1 bt_RX11 [] ct_1705 [] [] cu_1705 48 con_1705) = true := by decide +kernel
theorem cto_1705 (l : Launch) : CTOK2 l RX11 vwCl gTbl ct_1705 := ct2_cons (vl_900 l) ck_RX11_208_900 (ct2_cons (vl_1212 l) ck_RX11_332_1212 (ct2_cons (vl_859 l) ck_RX11_480_859 (ct2_cons (vl_899 l) ck_RX11_372_899 (ct2_cons (vl_1704 l) ck_RX11_483_1704 (ct2_cons (vl_1522 l) ck_RX11_486_1522 (ct2_cons (vl_1527 l) ck_RX11_486_1527 (ct2_nil)))))))
theorem vl_1705 (l : Launch) : Vld2 l vwCl gTbl con_1705 := conR_ok3 gT_all (hd_1705) rfl pn_RX11 tk_X11_guessAll bo_RX11 xo_RX11 (cto_1705 l) ch_1705 (cut_all cc_1705)
/-- RookHusting isAsSeen -/
noncomputable def gi_1362 : GI := jl_n [gp_668, jl_z 9]
noncomputable def gi_1363 : GI := jl_n [gp_668, jl_z 10]
noncomputable def con_1706 : Con2 := ((yX11_isAsSeen, cX11_isAsSeen, 4, (some .boolean)), (1, 22), ([(6, 0, 0), (0, 2, 0)], gi_1362, hc_201, []), [((0, 0, 0), gi_1363, hq_892, [], [1]), ((0, 1, 0), gi_1363, hq_892, [], [1])])
theorem hd_1706 : con_1706.1 = (yX11_isAsSeen, cX11_isAsSeen, 4, (some .boolean)) := rfl
noncomputable def ct_1706 : CTB2 := [(21, 473, 0, con_1620, [1, 3]), (36, 473, 0, con_1621, [1, 3]), (60, 473, 0, con_1622, [1, 3])]
noncomputable def gi_1364 : GI := jl_n [gp_668, jl_z 12]
noncomputable def gi_1365 : GI := jl_n [gp_668, gp_628]
noncomputable def cu_1706 : List CUT2 := [((2, [lq 0 6 0, lq 1 0 2, lq 2 0 0], [], gi_1364, hq_892), [], ([], 3)), ((2, [lq 0 6 0, lq 1 0 2, lq 2 0 3, lq 3 1 97], [], gi_1365, hq_892), [], ([], 0))]
theorem ch_1706 : staG tb_X11_isAsSeen 1 bt_RX11 [] ct_1706 [] [] cu_1706 44 con_1706 = true := by decide +kernel
theorem cc_1706 : cu_1706.all (cutG tb_X11_isAsSeen 1 bt_RX11 [] ct_1706 [] [] cu_1706 44 con_1706) = true := by decide +kernel
theorem cto_1706 (l : Launch) : CTOK2 l RX11 vwCl gTbl ct_1706 := ct2_cons (vl_1620 l) ck_RX11_473_1620 (ct2_cons (vl_1621 l) ck_RX11_473_1621 (ct2_cons (vl_1622 l) ck_RX11_473_1622 (ct2_nil)))
theorem vl_1706 (l : Launch) : Vld2 l vwCl gTbl con_1706 := conR_ok3 gT_all (hd_1706) rfl pn_RX11 tk_X11_isAsSeen bo_RX11 xo_RX11 (cto_1706 l) ch_1706 (cut_all cc_1706)
/-- RookHusting guessAll -/
noncomputable def gi_1366 : GI := jl_n [gp_655, gp_511]
noncomputable def gi_1367 : GI := jl_n [gp_655, gp_511, gp_632]
noncomputable def con_1707 : Con2 := ((yX11_guessAll, cX11_guessAll, 4, none), (6, 151), ([(6, 0, 0), (0, 2, 0), (1, 2, 0)], gi_1366, hc_202, rq_6), [((9, 0, 0), gi_1367, hq_893, [], tg_1)])
theorem hd_1707 : con_1707.1 = (yX11_guessAll, cX11_guessAll, 4, none) := rfl
theorem ck_RX11_483_1706 : COK2 RX11 vwCl gTbl 483 0 con_1706 := ⟨wd_1230, wd_125, mh_X11_isAsSeen, .inr (.inr ⟨rfl, wd_1227, wd_1229, wd_43, ⟨_, rfl, pd_X11_isAsSeen⟩, 11, _, TX11, 16, rfl, rfl⟩)⟩
noncomputable def ct_1707 : CTB2 := [(1, 208, 0, con_900, [0, 1, 2, 3, 4, 5, 6, 7, 8, 9, 10, 11, 12, 13, 14, 15, 16, 17, 18, 19, 20, 21, 22, 23, 24, 25, 26]), (36, 332, 0, con_1212, [28, 2, 29, 4, 30, 5, 31, 6]), (45, 480, 0, con_859, [28, 29]), (73, 372, 0, con_899, [32, 3, 28, 16, 33, 18, 34, 30, 35, 29, 36, 22, 23, 37, 38, 39, 31]), (78, 483, 0, con_1706, [0, 40, 41, 42, 32, 33]), (105, 486, 0, con_1522, [27, 33, 43]), (105, 486, 0, con_1527, [27, 33, 43])]
noncomputable def gi_1368 : GI := jl_n [gp_655, gp_511, gp_633]
noncomputable def cu_1707 : List CUT2 := [((14, [lq 0 6 0, lq 1 0 2, lq 2 1 2, lq 3 1 204], [], gi_1368, hq_894), rq_6, ([(204, (-1))], 5))]
theorem ch_1707 : staG tb_X11_guessAll 1 bt_RX11 [] ct_1707 [] [] cu_1707 48 con_1707 = true := by decide +kernel
theorem cc_1707 : cu_1707.all (cutG tb_X11_guessAll 1 bt_RX11 [] ct_1707 [] [] cu_1707 48 con_1707) = true := by decide +kernel
theorem cto_1707 (l : Launch) : CTOK2 l RX11 vwCl gTbl ct_1707 := ct2_cons (vl_900 l) ck_RX11_208_900 (ct2_cons (vl_1212 l) ck_RX11_332_1212 (ct2_cons (vl_859 l) ck_RX11_480_859 (ct2_cons (vl_899 l) ck_RX11_372_899 (ct2_cons (vl_1706 l) ck_RX11_483_1706 (ct2_cons (vl_1522 l) ck_RX11_486_1522 (ct2_cons (vl_1527 l) ck_RX11_486_1527 (ct2_nil)))))))
theorem vl_1707 (l : Launch) : Vld2 l vwCl gTbl con_1707 := conR_ok3 gT_all (hd_1707) rfl pn_RX11 tk_X11_guessAll bo_RX11 xo_RX11 (cto_1707 l) ch_1707 (cut_all cc_1707)
/-- RookHusting isAsSeen -/
noncomputable def gi_1369 : GI := jl_n [gp_669, jl_z 9]
noncomputable def gi_1370 : GI := jl_n [gp_669, jl_z 10]
noncomputable def con_1708 : Con2 := ((yX11_isAsSeen, cX11_isAsSeen, 4, (some .boolean)), (1, 22), ([(6, 0, 0), (0, 2, 0)], gi_1369, hc_201, []), [((0, 0, 0), gi_1370, hq_892, [], [1]), ((0, 1, 0), gi_1370, hq_892, [], [1])])
theorem hd_1708 : con_1708.1 = (yX11_isAsSeen, cX11_isAsSeen, 4, (some .boolean)) := rfl
noncomputable def ct_1708 : CTB2 := [(21, 473, 0, con_1646, [1, 3]), (21, 473, 0, con_1643, [1, 3]), (21, 473, 0, con_1640, [1, 3]), (21, 473, 0, con_1637, [1, 3]), (21, 473, 0, con_1634, [1, 3]), (21, 473, 0, con_1631, [1, 3]), (21, 473, 0, con_1626, [1, 3]), (21, 473, 0, con_1623, [1, 3]), (21, 473, 0, con_1620, [1, 3]), (36, 473, 0, con_1647, [1, 3]), (36, 473, 0, con_1644, [1, 3]), (36, 473, 0, con_1641, [1, 3]), (36, 473, 0, con_1638, [1, 3]), (36, 473, 0, con_1635, [1, 3]), (36, 473, 0, con_1632, [1, 3]), (36, 473, 0, con_1627, [1, 3]), (36, 473, 0, con_1624, [1, 3]), (36, 473, 0, con_1621, [1, 3]), (60, 473, 0, con_1648, [1, 3]), (60, 473, 0, con_1645, [1, 3]), (60, 473, 0, con_1642, [1, 3]), (60, 473, 0, con_1639, [1, 3]), (60, 473, 0, con_1636, [1, 3]), (60, 473, 0, con_1633, [1, 3]), (60, 473, 0, con_1628, [1, 3]), (60, 473, 0, con_1625, [1, 3]), (60, 473, 0, con_1622, [1, 3])]
noncomputable def gi_1371 : GI := jl_n [gp_669, jl_z 12]
noncomputable def gi_1372 : GI := jl_n [gp_669, gp_628]
noncomputable def cu_1708 : List CUT2 := [((2, [lq 0 6 0, lq 1 0 2, lq 2 0 0], [], gi_1371, hq_892), [], ([], 27)), ((2, [lq 0 6 0, lq 1 0 2, lq 2 0 3, lq 3 1 97], [], gi_1372, hq_892), [], ([], 24)), ((2, [lq 0 6 0, lq 1 0 2, lq 2 0 6, lq 3 1 97], [], gi_1372, hq_892), [], ([], 21)), ((2, [lq 0 6 0, lq 1 0 2, lq 2 0 9, lq 3 1 97], [], gi_1372, hq_892), [], ([], 18)), ((2, [lq 0 6 0, lq 1 0 2, lq 2 0 12, lq 3 1 97], [], gi_1372, hq_892), [], ([], 15)), ((2, [lq 0 6 0, lq 1 0 2, lq 2 0 15, lq 3 1 97], [], gi_1372, hq_892), [], ([], 12)), ((2, [lq 0 6 0, lq 1 0 2, lq 2 0 18, lq 3 1 97], [], gi_1372, hq_892), [], ([], 9)), ((2, [lq 0 6 0, lq 1 0 2, lq 2 0 21, lq 3 1 97], [], gi_1372, hq_892), [], ([], 6)), ((2, [lq 0 6 0, lq 1 0 2, lq 2 0 24, lq 3 1 97], [], gi_1372, hq_892), [], ([], 3)), ((2, [lq 0 6 0, lq 1 0 2, lq 2 0 27, lq 3 1 97], [], gi_1372, hq_892), [], ([], 0))]
theorem ch_1708 : staG tb_X11_isAsSeen 1 bt_RX11 [] ct_1708 [] [] cu_1708 44 con_1708 = true := by decide +kernel
theorem cc_1708 : cu_1708.all (cutG tb_X11_isAsSeen 1 bt_RX11 [] ct_1708 [] [] cu_1708 44 con_1708) = true := by decide +kernel
theorem cto_1708 (l : Launch) : CTOK2 l RX11 vwCl gTbl ct_1708 := ct2_cons (vl_1646 l) ck_RX11_473_1646 (ct2_cons (vl_1643 l) ck_RX11_473_1643 (ct2_cons (vl_1640 l) ck_RX11_473_1640 (ct2_cons (vl_1637 l) ck_RX11_473_1637 (ct2_cons (vl_1634 l) ck_RX11_473_1634 (ct2_cons (vl_1631 l) ck_RX11_473_1631 (ct2_cons (vl_1626 l) ck_RX11_473_1626 (ct2_cons (vl_1623 l) ck_RX11_473_1623 (ct2_cons (vl_1620 l) ck_RX11_473_1620 (ct2_cons (vl_1647 l) ck_RX11_473_1647 (ct2_cons (vl_1644 l) ck_RX11_473_1644 (ct2_cons (vl_1641 l) ck_RX11_473_1641 (ct2_cons (vl_1638 l) ck_RX11_473_1638 (ct2_cons (vl_1635 l) ck_RX11_473_1635 (ct2_cons (vl_1632 l) ck_RX11_473_1632 (ct2_cons (vl_1627 l) ck_RX11_473_1627 (ct2_cons (vl_1624 l) ck_RX11_473_1624 (ct2_cons (vl_1621 l) ck_RX11_473_1621 (ct2_cons (vl_1648 l) ck_RX11_473_1648 (ct2_cons (vl_1645 l) ck_RX11_473_1645 (ct2_cons (vl_1642 l) ck_RX11_473_1642 (ct2_cons (vl_1639 l) ck_RX11_473_1639 (ct2_cons (vl_1636 l) ck_RX11_473_1636 (ct2_cons (vl_1633 l) ck_RX11_473_1633 (ct2_cons (vl_1628 l) ck_RX11_473_1628 (ct2_cons (vl_1625 l) ck_RX11_473_1625 (ct2_cons (vl_1622 l) ck_RX11_473_1622 (ct2_nil)))))))))))))))))))))))))))
theorem vl_1708 (l : Launch) : Vld2 l vwCl gTbl con_1708 := conR_ok3 gT_all (hd_1708) rfl pn_RX11 tk_X11_isAsSeen bo_RX11 xo_RX11 (cto_1708 l) ch_1708 (cut_all cc_1708)
/-- RookHusting guessAll -/
noncomputable def gi_1373 : GI := jl_n [gp_655, gp_509]
noncomputable def gi_1374 : GI := jl_n [gp_655, gp_509, gp_632]
noncomputable def con_1709 : Con2 := ((yX11_guessAll, cX11_guessAll, 4, none), (6, 151), ([(6, 0, 0), (0, 2, 0), (1, 2, 0)], gi_1373, hc_202, rq_6), [((9, 0, 0), gi_1374, hq_893, [], tg_1)])
theorem hd_1709 : con_1709.1 = (yX11_guessAll, cX11_guessAll, 4, none) := rfl
theorem ck_RX11_483_1708 : COK2 RX11 vwCl gTbl 483 0 con_1708 := ⟨wd_1230, wd_125, mh_X11_isAsSeen, .inr (.inr ⟨rfl, wd_1227, wd_1229, wd_43, ⟨_, rfl, pd_X11_isAsSeen⟩, 11, _, TX11, 16, rfl, rfl⟩)⟩
noncomputable def ct_1709 : CTB2 := [(1, 208, 0, con_900, [0, 1, 2, 3, 4, 5, 6, 7, 8, 9, 10, 11, 12, 13, 14, 15, 16, 17, 18, 19, 20, 21, 22, 23, 24, 25, 26]), (36, 332, 0, con_1212, [28, 2, 29, 4, 30, 5, 31, 6]), (45, 480, 0, con_859, [28, 29]), (73, 372, 0, con_899, [32, 3, 28, 16, 33, 18, 34, 30, 35, 29, 36, 22, 23, 37, 38, 39, 31]), (78, 483, 0, con_1708, [0, 40, 41, 42, 32, 33]), (105, 486, 0, con_1522, [27, 33, 43]), (105, 486, 0, con_1527, [27, 33, 43])]
noncomputable def gi_1375 : GI := jl_n [gp_655, gp_509, gp_633]
noncomputable def cu_1709 : List CUT2 := [((14, [lq 0 6 0, lq 1 0 2, lq 2 1 2, lq 3 1 204], [], gi_1375, hq_894), rq_6, ([(204, (-1))], 5))]
theorem ch_1709 : staG tb_X11_guessAll 1 bt_RX11 [] ct_1709 [] [] cu_1709 48 con_1709 = true := by decide +kernel
theorem cc_1709 : cu_1709.all (cutG tb_X11_guessAll 1 bt_RX11 [] ct_1709 [] [] cu_1709 48 con_1709) = true := by decide +kernel
theorem cto_1709 (l : Launch) : CTOK2 l RX11 vwCl gTbl ct_1709 := ct2_cons (vl_900 l) ck_RX11_208_900 (ct2_cons (vl_1212 l) ck_RX11_332_1212 (ct2_cons (vl_859 l) ck_RX11_480_859 (ct2_cons (vl_899 l) ck_RX11_372_899 (ct2_cons (vl_1708 l) ck_RX11_483_1708 (ct2_cons (vl_1522 l) ck_RX11_486_1522 (ct2_cons (vl_1527 l) ck_RX11_486_1527 (ct2_nil)))))))
theorem vl_1709 (l : Launch) : Vld2 l vwCl gTbl con_1709 := conR_ok3 gT_all (hd_1709) rfl pn_RX11 tk_X11_guessAll bo_RX11 xo_RX11 (cto_1709 l) ch_1709 (cut_all cc_1709)
/-- RookHusting isAsSeen -/
noncomputable def gi_1376 : GI := jl_n [gp_670, jl_z 9]
noncomputable def gi_1377 : GI := jl_n [gp_670, jl_z 10]
noncomputable def con_1710 : Con2 := ((yX11_isAsSeen, cX11_isAsSeen, 4, (some .boolean)), (1, 22), ([(6, 0, 0), (0, 2, 0)], gi_1376, hc_201, []), [((0, 0, 0), gi_1377, hq_892, [], [1]), ((0, 1, 0), gi_1377, hq_892, [], [1])])
theorem hd_1710 : con_1710.1 = (yX11_isAsSeen, cX11_isAsSeen, 4, (some .boolean)) := rfl
noncomputable def ct_1710 : CTB2 := [(21, 473, 0, con_1643, [1, 3]), (21, 473, 0, con_1640, [1, 3]), (21, 473, 0, con_1637, [1, 3]), (21, 473, 0, con_1634, [1, 3]), (21, 473, 0, con_1631, [1, 3]), (21, 473, 0, con_1626, [1, 3]), (21, 473, 0, con_1623, [1, 3]), (21, 473, 0, con_1620, [1, 3]), (36, 473, 0, con_1644, [1, 3]), (36, 473, 0, con_1641, [1, 3]), (36, 473, 0, con_1638, [1, 3]), (36, 473, 0, con_1635, [1, 3]), (36, 473, 0, con_1632, [1, 3]), (36, 473, 0, con_1627, [1, 3]), (36, 473, 0, con_1624, [1, 3]), (36, 473, 0, con_1621, [1, 3]), (60, 473, 0, con_1645, [1, 3]), (60, 473, 0, con_1642, [1, 3]), (60, 473, 0, con_1639, [1, 3]), (60, 473, 0, con_1636, [1, 3]), (60, 473, 0, con_1633, [1, 3]), (60, 473, 0, con_1628, [1, 3]), (60, 473, 0, con_1625, [1, 3]), (60, 473, 0, con_1622, [1, 3])]
noncomputable def gi_1378 : GI := jl_n [gp_670, jl_z 12]
noncomputable def gi_1379 : GI := jl_n [gp_670, gp_628]
noncomputable def cu_1710 : List CUT2 := [((2, [lq 0 6 0, lq 1 0 2, lq 2 0 0], [], gi_1378, hq_892), [], ([], 24)), ((2, [lq 0 6 0, lq 1 0 2, lq 2 0 3, lq 3 1 97], [], gi_1379, hq_892), [], ([], 21)), ((2, [lq 0 6 0, lq 1 0 2, lq 2 0 6, lq 3 1 97], [], gi_1379, hq_892), [], ([], 18)), ((2, [lq 0 6 0, lq 1 0 2, lq 2 0 9, lq 3 1 97], [], gi_1379, hq_892), [], ([], 15)), ((2, [lq 0 6 0, lq 1 0 2, lq 2 0 12, lq 3 1 97], [], gi_1379, hq_892), [], ([], 12)), ((2, [lq 0 6 0, lq 1 0 2, lq 2 0 15, lq 3 1 97], [], gi_1379, hq_892), [], ([], 9)), ((2, [lq 0 6 0, lq 1 0 2, lq 2 0 18, lq 3 1 97], [], gi_1379, hq_892), [], ([], 6)), ((2, [lq 0 6 0, lq 1 0 2, lq 2 0 21, lq 3 1 97], [], gi_1379, hq_892), [], ([], 3)), ((2, [lq 0 6 0, lq 1 0 2, lq 2 0 24, lq 3 1 97], [], gi_1379, hq_892), [], ([], 0))]
theorem ch_1710 : staG tb_X11_isAsSeen 1 bt_RX11 [] ct_1710 [] [] cu_1710 44 con_1710 = true := by decide +kernel
theorem cc_1710 : cu_1710.all (cutG tb_X11_isAsSeen 1 bt_RX11 [] ct_1710 [] [] cu_1710 44 con_1710) = true := by decide +kernel
theorem cto_1710 (l : Launch) : CTOK2 l RX11 vwCl gTbl ct_1710 := ct2_cons (vl_1643 l) ck_RX11_473_1643 (ct2_cons (vl_1640 l) ck_RX11_473_1640 (ct2_cons (vl_1637 l) ck_RX11_473_1637 (ct2_cons (vl_1634 l) ck_RX11_473_1634 (ct2_cons (vl_1631 l) ck_RX11_473_1631 (ct2_cons (vl_1626 l) ck_RX11_473_1626 (ct2_cons (vl_1623 l) ck_RX11_473_1623 (ct2_cons (vl_1620 l) ck_RX11_473_1620 (ct2_cons (vl_1644 l) ck_RX11_473_1644 (ct2_cons (vl_1641 l) ck_RX11_473_1641 (ct2_cons (vl_1638 l) ck_RX11_473_1638 (ct2_cons (vl_1635 l) ck_RX11_473_1635 (ct2_cons (vl_1632 l) ck_RX11_473_1632 (ct2_cons (vl_1627 l) ck_RX11_473_1627 (ct2_cons (vl_1624 l) ck_RX11_473_1624 (ct2_cons (vl_1621 l) ck_RX11_473_1621 (ct2_cons (vl_1645 l) ck_RX11_473_1645 (ct2_cons (vl_1642 l) ck_RX11_473_1642 (ct2_cons (vl_1639 l) ck_RX11_473_1639 (ct2_cons (vl_1636 l) ck_RX11_473_1636 (ct2_cons (vl_1633 l) ck_RX11_473_1633 (ct2_cons (vl_1628 l) ck_RX11_473_1628 (ct2_cons (vl_1625 l) ck_RX11_473_1625 (ct2_cons (vl_1622 l) ck_RX11_473_1622 (ct2_nil))))))))))))))))))))))))
theorem vl_1710 (l : Launch) : Vld2 l vwCl gTbl con_1710 := conR_ok3 gT_all (hd_1710) rfl pn_RX11 tk_X11_isAsSeen bo_RX11 xo_RX11 (cto_1710 l) ch_1710 (cut_all cc_1710)
/-- RookHusting guessAll -/
noncomputable def gi_1380 : GI := jl_n [gp_655, gp_507]
noncomputable def gi_1381 : GI := jl_n [gp_655, gp_507, gp_632]
noncomputable def con_1711 : Con2 := ((yX11_guessAll, cX11_guessAll, 4, none), (6, 151), ([(6, 0, 0), (0, 2, 0), (1, 2, 0)], gi_1380, hc_202, rq_6), [((9, 0, 0), gi_1381, hq_893, [], tg_1)])
theorem hd_1711 : con_1711.1 = (yX11_guessAll, cX11_guessAll, 4, none) := rfl
theorem ck_RX11_483_1710 : COK2 RX11 vwCl gTbl 483 0 con_1710 := ⟨wd_1230, wd_125, mh_X11_isAsSeen, .inr (.inr ⟨rfl, wd_1227, wd_1229, wd_43, ⟨_, rfl, pd_X11_isAsSeen⟩, 11, _, TX11, 16, rfl, rfl⟩)⟩
noncomputable def ct_1711 : CTB2 := [(1, 208, 0, con_900, [0, 1, 2, 3, 4, 5, 6, 7, 8, 9, 10, 11, 12, 13, 14, 15, 16, 17, 18, 19, 20, 21, 22, 23, 24, 25, 26]), (36, 332, 0, con_1212, [28, 2, 29, 4, 30, 5, 31, 6]), (45, 480, 0, con_859, [28, 29]), (73, 372, 0, con_899, [32, 3, 28, 16, 33, 18, 34, 30, 35, 29, 36, 22, 23, 37, 38, 39, 31]), (78, 483, 0, con_1710, [0, 40, 41, 42, 32, 33]), (105, 486, 0, con_1522, [27, 33, 43]), (105, 486, 0, con_1527, [27, 33, 43])]
noncomputable def gi_1382 : GI := jl_n [gp_655, gp_507, gp_633]
noncomputable def cu_1711 : List CUT2 := [((14, [lq 0 6 0, lq 1 0 2, lq 2 1 2, lq 3 1 204], [], gi_1382, hq_894), rq_6, ([(204, (-1))], 5))]
theorem ch_1711 : staG tb_X11_guessAll 1 bt_RX11 [] ct_1711 [] [] cu_1711 48 con_1711 = true := by decide +kernel
theorem cc_1711 : cu_1711.all (cutG tb_X11_guessAll 1 bt_RX11 [] ct_1711 [] [] cu_1711 48 con_1711) = true := by decide +kernel
theorem cto_1711 (l : Launch) : CTOK2 l RX11 vwCl gTbl ct_1711 := ct2_cons (vl_900 l) ck_RX11_208_900 (ct2_cons (vl_1212 l) ck_RX11_332_1212 (ct2_cons (vl_859 l) ck_RX11_480_859 (ct2_cons (vl_899 l) ck_RX11_372_899 (ct2_cons (vl_1710 l) ck_RX11_483_1710 (ct2_cons (vl_1522 l) ck_RX11_486_1522 (ct2_cons (vl_1527 l) ck_RX11_486_1527 (ct2_nil)))))))
theorem vl_1711 (l : Launch) : Vld2 l vwCl gTbl con_1711 := conR_ok3 gT_all (hd_1711) rfl pn_RX11 tk_X11_guessAll bo_RX11 xo_RX11 (cto_1711 l) ch_1711 (cut_all cc_1711)
/-- RookHusting isAsSeen -/
noncomputable def gi_1383 : GI := jl_n [gp_671, jl_z 9]
noncomputable def gi_1384 : GI := jl_n [gp_671, jl_z 10]
noncomputable def con_1712 : Con2 := ((yX11_isAsSeen, cX11_isAsSeen, 4, (some .boolean)), (1, 22), ([(6, 0, 0), (0, 2, 0)], gi_1383, hc_201, []), [((0, 0, 0), gi_1384, hq_892, [], [1]), ((0, 1, 0), gi_1384, hq_892, [], [1])])
theorem hd_1712 : con_1712.1 = (yX11_isAsSeen, cX11_isAsSeen, 4, (some .boolean)) := rfl
noncomputable def ct_1712 : CTB2 := [(21, 473, 0, con_1640, [1, 3]), (21, 473, 0, con_1637, [1, 3]), (21, 473, 0, con_1634, [1, 3]), (21, 473, 0, con_1631, [1, 3]), (21, 473, 0, con_1626, [1, 3]), (21, 473, 0, con_1623, [1, 3]), (21, 473, 0, con_1620, [1, 3]), (36, 473, 0, con_1641, [1, 3]), (36, 473, 0, con_1638, [1, 3]), (36, 473, 0, con_1635, [1, 3]), (36, 473, 0, con_1632, [1, 3]), (36, 473, 0, con_1627, [1, 3]), (36, 473, 0, con_1624, [1, 3]), (36, 473, 0, con_1621, [1, 3]), (60, 473, 0, con_1642, [1, 3]), (60, 473, 0, con_1639, [1, 3]), (60, 473, 0, con_1636, [1, 3]), (60, 473, 0, con_1633, [1, 3]), (60, 473, 0, con_1628, [1, 3]), (60, 473, 0, con_1625, [1, 3]), (60, 473, 0, con_1622, [1, 3])]
noncomputable def gi_1385 : GI := jl_n [gp_671, jl_z 12]
noncomputable def gi_1386 : GI := jl_n [gp_671, gp_628]
noncomputable def cu_1712 : List CUT2 := [((2, [lq 0 6 0, lq 1 0 2, lq 2 0 0], [], gi_1385, hq_892), [], ([], 21)), ((2, [lq 0 6 0, lq 1 0 2, lq 2 0 3, lq 3 1 97], [], gi_1386, hq_892), [], ([], 18)), ((2, [lq 0 6 0, lq 1 0 2, lq 2 0 6, lq 3 1 97], [], gi_1386, hq_892), [], ([], 15)), ((2, [lq 0 6 0, lq 1 0 2, lq 2 0 9, lq 3 1 97], [], gi_1386, hq_892), [], ([], 12)), ((2, [lq 0 6 0, lq 1 0 2, lq 2 0 12, lq 3 1 97], [], gi_1386, hq_892), [], ([], 9)), ((2, [lq 0 6 0, lq 1 0 2, lq 2 0 15, lq 3 1 97], [], gi_1386, hq_892), [], ([], 6)), ((2, [lq 0 6 0, lq 1 0 2, lq 2 0 18, lq 3 1 97], [], gi_1386, hq_892), [], ([], 3)), ((2, [lq 0 6 0, lq 1 0 2, lq 2 0 21, lq 3 1 97], [], gi_1386, hq_892), [], ([], 0))]
theorem ch_1712 : staG tb_X11_isAsSeen 1 bt_RX11 [] ct_1712 [] [] cu_1712 44 con_1712 = true := by decide +kernel
theorem cc_1712 : cu_1712.all (cutG tb_X11_isAsSeen 1 bt_RX11 [] ct_1712 [] [] cu_1712 44 con_1712) = true := by decide +kernel
theorem cto_1712 (l : Launch) : CTOK2 l RX11 vwCl gTbl ct_1712 := ct2_cons (vl_1640 l) ck_RX11_473_1640 (ct2_cons (vl_1637 l) ck_RX11_473_1637 (ct2_cons (vl_1634 l) ck_RX11_473_1634 (ct2_cons (vl_1631 l) ck_RX11_473_1631 (ct2_cons (vl_1626 l) ck_RX11_473_1626 (ct2_cons (vl_1623 l) ck_RX11_473_1623 (ct2_cons (vl_1620 l) ck_RX11_473_1620 (ct2_cons (vl_1641 l) ck_RX11_473_1641 (ct2_cons (vl_1638 l) ck_RX11_473_1638 (ct2_cons (vl_1635 l) ck_RX11_473_1635 (ct2_cons (vl_1632 l) ck_RX11_473_1632 (ct2_cons (vl_1627 l) ck_RX11_473_1627 (ct2_cons (vl_1624 l) ck_RX11_473_1624 (ct2_cons (vl_1621 l) ck_RX11_473_1621 (ct2_cons (vl_1642 l) ck_RX11_473_1642 (ct2_cons (vl_1639 l) ck_RX11_473_1639 (ct2_cons (vl_1636 l) ck_RX11_473_1636 (ct2_cons (vl_1633 l) ck_RX11_473_1633 (ct2_cons (vl_1628 l) ck_RX11_473_1628 (ct2_cons (vl_1625 l) ck_RX11_473_1625 (ct2_cons (vl_1622 l) ck_RX11_473_1622 (ct2_nil)))))))))))))))))))))
theorem vl_1712 (l : Launch) : Vld2 l vwCl gTbl con_1712 := conR_ok3 gT_all (hd_1712) rfl pn_RX11 tk_X11_isAsSeen bo_RX11 xo_RX11 (cto_1712 l) ch_1712 (cut_all cc_1712)
/-- RookHusting guessAll -/
noncomputable def gi_1387 : GI := jl_n [gp_655, gp_504]
noncomputable def gi_1388 : GI := jl_n [gp_655, gp_504, gp_632]
noncomputable def con_1713 : Con2 := ((yX11_guessAll, cX11_guessAll, 4, none), (6, 151), ([(6, 0, 0), (0, 2, 0), (1, 2, 0)], gi_1387, hc_202, rq_6), [((9, 0, 0), gi_1388, hq_893, [], tg_1)])
theorem hd_1713 : con_1713.1 = (yX11_guessAll, cX11_guessAll, 4, none) := rfl
theorem ck_RX11_483_1712 : COK2 RX11 vwCl gTbl 483 0 con_1712 := ⟨wd_1230, wd_125, mh_X11_isAsSeen, .inr (.inr ⟨rfl, wd_1227, wd_1229, wd_43, ⟨_, rfl, pd_X11_isAsSeen⟩, 11, _, TX11, 16, rfl, rfl⟩)⟩
noncomputable def ct_1713 : CTB2 := [(1, 208, 0, con_900, [0, 1, 2, 3, 4, 5, 6, 7, 8, 9, 10, 11, 12, 13, 14, 15, 16, 17, 18, 19, 20, 21, 22, 23, 24, 25, 26]), (36, 332, 0, con_1212, [28, 2, 29, 4, 30, 5, 31, 6]), (45, 480, 0, con_859, [28, 29]), (73, 372, 0, con_899, [32, 3, 28, 16, 33, 18, 34, 30, 35, 29, 36, 22, 23, 37, 38, 39, 31]), (78, 483, 0, con_1712, [0, 40, 41, 42, 32, 33]), (105, 486, 0, con_1522, [27, 33, 43]), (105, 486, 0, con_1527, [27, 33, 43])]
noncomputable def gi_1389 : GI := jl_n [gp_655, gp_504, gp_633]
noncomputable def cu_1713 : List CUT2 := [((14, [lq 0 6 0, lq 1 0 2, lq 2 1 2, lq 3 1 204], [], gi_1389, hq_894), rq_6, ([(204, (-1))], 5))]
theorem ch_1713 : staG tb_X11_guessAll 1 bt_RX11 [] ct_1713 [] [] cu_1713 48 con_1713 = true := by decide +kernel
theorem cc_1713 : cu_1713.all (cutG tb_X11_guessAll 1 bt_RX11 [] ct_1713 [] [] cu_1713 48 con_1713) = true := by decide +kernel
theorem cto_1713 (l : Launch) : CTOK2 l RX11 vwCl gTbl ct_1713 := ct2_cons (vl_900 l) ck_RX11_208_900 (ct2_cons (vl_1212 l) ck_RX11_332_1212 (ct2_cons (vl_859 l) ck_RX11_480_859 (ct2_cons (vl_899 l) ck_RX11_372_899 (ct2_cons (vl_1712 l) ck_RX11_483_1712 (ct2_cons (vl_1522 l) ck_RX11_486_1522 (ct2_cons (vl_1527 l) ck_RX11_486_1527 (ct2_nil)))))))
theorem vl_1713 (l : Launch) : Vld2 l vwCl gTbl con_1713 := conR_ok3 gT_all (hd_1713) rfl pn_RX11 tk_X11_guessAll bo_RX11 xo_RX11 (cto_1713 l) ch_1713 (cut_all cc_1713)
/-- RookHusting isAsSeen -/
noncomputable def gi_1390 : GI := jl_n [gp_672, jl_z 9]
noncomputable def gi_1391 : GI := jl_n [gp_672, jl_z 10]
noncomputable def con_1714 : Con2 := ((yX11_isAsSeen, cX11_isAsSeen, 4, (some .boolean)), (1, 22), ([(6, 0, 0), (0, 2, 0)], gi_1390, hc_201, []), [((0, 0, 0), gi_1391, hq_892, [], [1]), ((0, 1, 0), gi_1391, hq_892, [], [1])])
theorem hd_1714 : con_1714.1 = (yX11_isAsSeen, cX11_isAsSeen, 4, (some .boolean)) := rfl
noncomputable def ct_1714 : CTB2 := [(21, 473, 0, con_1637, [1, 3]), (21, 473, 0, con_1634, [1, 3]), (21, 473, 0, con_1631, [1, 3]), (21, 473, 0, con_1626, [1, 3]), (21, 473, 0, con_1623, [1, 3]), (21, 473, 0, con_1620, [1, 3]), (36, 473, 0, con_1638, [1, 3]), (36, 473, 0, con_1635, [1, 3]), (36, 473, 0, con_1632, [1, 3]), (36, 473, 0, con_1627, [1, 3]), (36, 473, 0, con_1624, [1, 3]), (36, 473, 0, con_1621, [1, 3]), (60, 473, 0, con_1639, [1, 3]), (60, 473, 0, con_1636, [1, 3]), (60, 473, 0, con_1633, [1, 3]), (60, 473, 0, con_1628, [1, 3]), (60, 473, 0, con_1625, [1, 3]), (60, 473, 0, con_1622, [1, 3])]
noncomputable def gi_1392 : GI := jl_n [gp_672, jl_z 12]
noncomputable def gi_1393 : GI := jl_n [gp_672, gp_628]
noncomputable def cu_1714 : List CUT2 := [((2, [lq 0 6 0, lq 1 0 2, lq 2 0 0], [], gi_1392, hq_892), [], ([], 18)), ((2, [lq 0 6 0, lq 1 0 2, lq 2 0 3, lq 3 1 97], [], gi_1393, hq_892), [], ([], 15)), ((2, [lq 0 6 0, lq 1 0 2, lq 2 0 6, lq 3 1 97], [], gi_1393, hq_892), [], ([], 12)), ((2, [lq 0 6 0, lq 1 0 2, lq 2 0 9, lq 3 1 97], [], gi_1393, hq_892), [], ([], 9)), ((2, [lq 0 6 0, lq 1 0 2, lq 2 0 12, lq 3 1 97], [], gi_1393, hq_892), [], ([], 6)), ((2, [lq 0 6 0, lq 1 0 2, lq 2 0 15, lq 3 1 97], [], gi_1393, hq_892), [], ([], 3)), ((2, [lq 0 6 0, lq 1 0 2, lq 2 0 18, lq 3 1 97], [], gi_1393, hq_892), [], ([], 0))]
theorem ch_1714 : staG tb_X11_isAsSeen 1 bt_RX11 [] ct_1714 [] [] cu_1714 44 con_1714 = true := by decide +kernel
theorem cc_1714 : cu_1714.all (cutG tb_X11_isAsSeen 1 bt_RX11 [] ct_1714 [] [] cu_1714 44 con_1714) = true := by decide +kernel
theorem cto_1714 (l : Launch) : CTOK2 l RX11 vwCl gTbl ct_1714 := ct2_cons (vl_1637 l) ck_RX11_473_1637 (ct2_cons (vl_1634 l) ck_RX11_473_1634 (ct2_cons (vl_1631 l) ck_RX11_473_1631 (ct2_cons (vl_1626 l) ck_RX11_473_1626 (ct2_cons (vl_1623 l) ck_RX11_473_1623 (ct2_cons (vl_1620 l) ck_RX11_473_1620 (ct2_cons (vl_1638 l) ck_RX11_473_1638 (ct2_cons (vl_1635 l) ck_RX11_473_1635 (ct2_cons (vl_1632 l) ck_RX11_473_1632 (ct2_cons (vl_1627 l) ck_RX11_473_1627 (ct2_cons (vl_1624 l) ck_RX11_473_1624 (ct2_cons (vl_1621 l) ck_RX11_473_1621 (ct2_cons (vl_1639 l) ck_RX11_473_1639 (ct2_cons (vl_1636 l) ck_RX11_473_1636 (ct2_cons (vl_1633 l) ck_RX11_473_1633 (ct2_cons (vl_1628 l) ck_RX11_473_1628 (ct2_cons (vl_1625 l) ck_RX11_473_1625 (ct2_cons (vl_1622 l) ck_RX11_473_1622 (ct2_nil))))))))))))))))))
theorem vl_1714 (l : Launch) : Vld2 l vwCl gTbl con_1714 := conR_ok3 gT_all (hd_1714) rfl pn_RX11 tk_X11_isAsSeen bo_RX11 xo_RX11 (cto_1714 l) ch_1714 (cut_all cc_1714)
/-- RookHusting guessAll -/
noncomputable def gi_1394 : GI := jl_n [gp_655, gp_502]
noncomputable def gi_1395 : GI := jl_n [gp_655, gp_502, gp_632]
noncomputable def con_1715 : Con2 := ((yX11_guessAll, cX11_guessAll, 4, none), (6, 151), ([(6, 0, 0), (0, 2, 0), (1, 2, 0)], gi_1394, hc_202, rq_6), [((9, 0, 0), gi_1395, hq_893, [], tg_1)])
theorem hd_1715 : con_1715.1 = (yX11_guessAll, cX11_guessAll, 4, none) := rfl
theorem ck_RX11_483_1714 : COK2 RX11 vwCl gTbl 483 0 con_1714 := ⟨wd_1230, wd_125, mh_X11_isAsSeen, .inr (.inr ⟨rfl, wd_1227, wd_1229, wd_43, ⟨_, rfl, pd_X11_isAsSeen⟩, 11, _, TX11, 16, rfl, rfl⟩)⟩
noncomputable def ct_1715 : CTB2 := [(1, 208, 0, con_900, [0, 1, 2, 3, 4, 5, 6, 7, 8, 9, 10, 11, 12, 13, 14, 15, 16, 17, 18, 19, 20, 21, 22, 23, 24, 25, 26]), (36, 332, 0, con_1212, [28, 2, 29, 4, 30, 5, 31, 6]), (45, 480, 0, con_859, [28, 29]), (73, 372, 0, con_899, [32, 3, 28, 16, 33, 18, 34, 30, 35, 29, 36, 22, 23, 37, 38, 39, 31]), (78, 483, 0, con_1714, [0, 40, 41, 42, 32, 33]), (105, 486, 0, con_1522, [27, 33, 43]), (105, 486, 0, con_1527, [27, 33, 43])]
noncomputable def gi_1396 : GI := jl_n [gp_655, gp_502, gp_633]
noncomputable def cu_1715 : List CUT2 := [((14, [lq 0 6 0, lq 1 0 2, lq 2 1 2, lq 3 1 204], [], gi_1396, hq_894), rq_6, ([(204, (-1))], 5))]
theorem ch_1715 : staG tb_X11_guessAll 1 bt_RX11 [] ct_1715 [] [] cu_1715 48 con_1715 = true := by decide +kernel
theorem cc_1715 : cu_1715.all (cutG tb_X11_guessAll 1 bt_RX11 [] ct_1715 [] [] cu_1715 48 con_1715) = true := by decide +kernel
theorem cto_1715 (l : Launch) : CTOK2 l RX11 vwCl gTbl ct_1715 := ct2_cons (vl_900 l) ck_RX11_208_900 (ct2_cons (vl_1212 l) ck_RX11_332_1212 (ct2_cons (vl_859 l) ck_RX11_480_859 (ct2_cons (vl_899 l) ck_RX11_372_899 (ct2_cons (vl_1714 l) ck_RX11_483_1714 (ct2_cons (vl_1522 l) ck_RX11_486_1522 (ct2_cons (vl_1527 l) ck_RX11_486_1527 (ct2_nil)))))))
theorem vl_1715 (l : Launch) : Vld2 l vwCl gTbl con_1715 := conR_ok3 gT_all (hd_1715) rfl pn_RX11 tk_X11_guessAll bo_RX11 xo_RX11 (cto_1715 l) ch_1715 (cut_all cc_1715)
/-- RookHusting isAsSeen -/
noncomputable def gi_1397 : GI := jl_n [gp_673, jl_z 9]
noncomputable def gi_1398 : GI := jl_n [gp_673, jl_z 10]
noncomputable def con_1716 : Con2 := ((yX11_isAsSeen, cX11_isAsSeen, 4, (some .boolean)), (1, 22), ([(6, 0, 0), (0, 2, 0)], gi_1397, hc_201, []), [((0, 0, 0), gi_1398, hq_892, [], [1]), ((0, 1, 0), gi_1398, hq_892, [], [1])])
theorem hd_1716 : con_1716.1 = (yX11_isAsSeen, cX11_isAsSeen, 4, (some .boolean)) := rfl
noncomputable def ct_1716 : CTB2 := [(21, 473, 0, con_1634, [1, 3]), (21, 473, 0, con_1631, [1, 3]), (21, 473, 0, con_1626, [1, 3]), (21, 473, 0, con_1623, [1, 3]), (21, 473, 0, con_1620, [1, 3]), (36, 473, 0, con_1635, [1, 3]), (36, 473, 0, con_1632, [1, 3]), (36, 473, 0, con_1627, [1, 3]), (36, 473, 0, con_1624, [1, 3]), (36, 473, 0, con_1621, [1, 3]), (60, 473, 0, con_1636, [1, 3]), (60, 473, 0, con_1633, [1, 3]), (60, 473, 0, con_1628, [1, 3]), (60, 473, 0, con_1625, [1, 3]), (60, 473, 0, con_1622, [1, 3])]
noncomputable def gi_1399 : GI := jl_n [gp_673, jl_z 12]
noncomputable def gi_1400 : GI := jl_n [gp_673, gp_628]
noncomputable def cu_1716 : List CUT2 := [((2, [lq 0 6 0, lq 1 0 2, lq 2 0 0], [], gi_1399, hq_892), [], ([], 15)), ((2, [lq 0 6 0, lq 1 0 2, lq 2 0 3, lq 3 1 97], [], gi_1400, hq_892), [], ([], 12)), ((2, [lq 0 6 0, lq 1 0 2, lq 2 0 6, lq 3 1 97], [], gi_1400, hq_892), [], ([], 9)), ((2, [lq 0 6 0, lq 1 0 2, lq 2 0 9, lq 3 1 97], [], gi_1400, hq_892), [], ([], 6)), ((2, [lq 0 6 0, lq 1 0 2, lq 2 0 12, lq 3 1 97], [], gi_1400, hq_892), [], ([], 3)), ((2, [lq 0 6 0, lq 1 0 2, lq 2 0 15, lq 3 1 97], [], gi_1400, hq_892), [], ([], 0))]
theorem ch_1716 : staG tb_X11_isAsSeen 1 bt_RX11 [] ct_1716 [] [] cu_1716 44 con_1716 = true := by decide +kernel
theorem cc_1716 : cu_1716.all (cutG tb_X11_isAsSeen 1 bt_RX11 [] ct_1716 [] [] cu_1716 44 con_1716) = true := by decide +kernel
theorem cto_1716 (l : Launch) : CTOK2 l RX11 vwCl gTbl ct_1716 := ct2_cons (vl_1634 l) ck_RX11_473_1634 (ct2_cons (vl_1631 l) ck_RX11_473_1631 (ct2_cons (vl_1626 l) ck_RX11_473_1626 (ct2_cons (vl_1623 l) ck_RX11_473_1623 (ct2_cons (vl_1620 l) ck_RX11_473_1620 (ct2_cons (vl_1635 l) ck_RX11_473_1635 (ct2_cons (vl_1632 l) ck_RX11_473_1632 (ct2_cons (vl_1627 l) ck_RX11_473_1627 (ct2_cons (vl_1624 l) ck_RX11_473_1624 (ct2_cons (vl_1621 l) ck_RX11_473_1621 (ct2_cons (vl_1636 l) ck_RX11_473_1636 (ct2_cons (vl_1633 l) ck_RX11_473_1633 (ct2_cons (vl_1628 l) ck_RX11_473_1628 (ct2_cons (vl_1625 l) ck_RX11_473_1625 (ct2_cons (vl_1622 l) ck_RX11_473_1622 (ct2_nil)))))))))))))))
theorem vl_1716 (l : Launch) : Vld2 l vwCl gTbl con_1716 := conR_ok3 gT_all (hd_1716) rfl pn_RX11 tk_X11_isAsSeen bo_RX11 xo_RX11 (cto_1716 l) ch_1716 (cut_all cc_1716)
/-- RookHusting guessAll -/
noncomputable def gi_1401 : GI := jl_n [gp_655, gp_500]
noncomputable def gi_1402 : GI := jl_n [gp_655, gp_500, gp_632]
noncomputable def con_1717 : Con2 := ((yX11_guessAll, cX11_guessAll, 4, none), (6, 151), ([(6, 0, 0), (0, 2, 0), (1, 2, 0)], gi_1401, hc_202, rq_6), [((9, 0, 0), gi_1402, hq_893, [], tg_1)])
theorem hd_1717 : con_1717.1 = (yX11_guessAll, cX11_guessAll, 4, none) := rfl
theorem ck_RX11_483_1716 : COK2 RX11 vwCl gTbl 483 0 con_1716 := ⟨wd_1230, wd_125, mh_X11_isAsSeen, .inr (.inr ⟨rfl, wd_1227, wd_1229, wd_43, ⟨_, rfl, pd_X11_isAsSeen⟩, 11, _, TX11, 16, rfl, rfl⟩)⟩
noncomputable def ct_1717 : CTB2 := [(1, 208, 0, con_900, [0, 1, 2, 3, 4, 5, 6, 7, 8, 9, 10, 11, 12, 13, 14, 15, 16, 17, 18, 19, 20, 21, 22, 23, 24, 25, 26]), (36, 332, 0, con_1212, [28, 2, 29, 4, 30, 5, 31, 6]), (45, 480, 0, con_859, [28, 29]), (73, 372, 0, con_899, [32, 3, 28, 16, 33, 18, 34, 30, 35, 29, 36, 22, 23, 37, 38, 39, 31]), (78, 483, 0, con_1716, [0, 40, 41, 42, 32, 33]), (105, 486, 0, con_1522, [27, 33, 43]), (105, 486, 0, con_1527, [27, 33, 43])]
noncomputable def gi_1403 : GI := jl_n [gp_655, gp_500, gp_633]
noncomputable def cu_1717 : List CUT2 := [((14, [lq 0 6 0, lq 1 0 2, lq 2 1 2, lq 3 1 204], [], gi_1403, hq_894), rq_6, ([(204, (-1))], 5))]
theorem ch_1717 : staG tb_X11_guessAll 1 bt_RX11 [] ct_1717 [] [] cu_1717 48 con_1717 = true := by decide +kernel
theorem cc_1717 : cu_1717.all (cutG tb_X11_guessAll 1 bt_RX11 [] ct_1717 [] [] cu_1717 48 con_1717) = true := by decide +kernel
theorem cto_1717 (l : Launch) : CTOK2 l RX11 vwCl gTbl ct_1717 := ct2_cons (vl_900 l) ck_RX11_208_900 (ct2_cons (vl_1212 l) ck_RX11_332_1212 (ct2_cons (vl_859 l) ck_RX11_480_859 (ct2_cons (vl_899 l) ck_RX11_372_899 (ct2_cons (vl_1716 l) ck_RX11_483_1716 (ct2_cons (vl_1522 l) ck_RX11_486_1522 (ct2_cons (vl_1527 l) ck_RX11_486_1527 (ct2_nil)))))))
theorem vl_1717 (l : Launch) : Vld2 l vwCl gTbl con_1717 := conR_ok3 gT_all (hd_1717) rfl pn_RX11 tk_X11_guessAll bo_RX11 xo_RX11 (cto_1717 l) ch_1717 (cut_all cc_1717)
/-- RookHusting isAsSeen -/
noncomputable def gi_1404 : GI := jl_n [gp_674, jl_z 9]
noncomputable def gi_1405 : GI := jl_n [gp_674, jl_z 10]
noncomputable def con_1718 : Con2 := ((yX11_isAsSeen, cX11_isAsSeen, 4, (some .boolean)), (1, 22), ([(6, 0, 0), (0, 2, 0)], gi_1404, hc_201, []), [((0, 0, 0), gi_1405, hq_892, [], [1]), ((0, 1, 0), gi_1405, hq_892, [], [1])])
theorem hd_1718 : con_1718.1 = (yX11_isAsSeen, cX11_isAsSeen, 4, (some .boolean)) := rfl
noncomputable def ct_1718 : CTB2 := [(21, 473, 0, con_1631, [1, 3]), (21, 473, 0, con_1626, [1, 3]), (21, 473, 0, con_1623, [1, 3]), (21, 473, 0, con_1620, [1, 3]), (36, 473, 0, con_1632, [1, 3]), (36, 473, 0, con_1627, [1, 3]), (36, 473, 0, con_1624, [1, 3]), (36, 473, 0, con_1621, [1, 3]), (60, 473, 0, con_1633, [1, 3]), (60, 473, 0, con_1628, [1, 3]), (60, 473, 0, con_1625, [1, 3]), (60, 473, 0, con_1622, [1, 3])]
noncomputable def gi_1406 : GI := jl_n [gp_674, jl_z 12]
noncomputable def gi_1407 : GI := jl_n [gp_674, gp_628]
noncomputable def cu_1718 : List CUT2 := [((2, [lq 0 6 0, lq 1 0 2, lq 2 0 0], [], gi_1406, hq_892), [], ([], 12)), ((2, [lq 0 6 0, lq 1 0 2, lq 2 0 3, lq 3 1 97], [], gi_1407, hq_892), [], ([], 9)), ((2, [lq 0 6 0, lq 1 0 2, lq 2 0 6, lq 3 1 97], [], gi_1407, hq_892), [], ([], 6)), ((2, [lq 0 6 0, lq 1 0 2, lq 2 0 9, lq 3 1 97], [], gi_1407, hq_892), [], ([], 3)), ((2, [lq 0 6 0, lq 1 0 2, lq 2 0 12, lq 3 1 97], [], gi_1407, hq_892), [], ([], 0))]
theorem ch_1718 : staG tb_X11_isAsSeen 1 bt_RX11 [] ct_1718 [] [] cu_1718 44 con_1718 = true := by decide +kernel
theorem cc_1718 : cu_1718.all (cutG tb_X11_isAsSeen 1 bt_RX11 [] ct_1718 [] [] cu_1718 44 con_1718) = true := by decide +kernel
theorem cto_1718 (l : Launch) : CTOK2 l RX11 vwCl gTbl ct_1718 := ct2_cons (vl_1631 l) ck_RX11_473_1631 (ct2_cons (vl_1626 l) ck_RX11_473_1626 (ct2_cons (vl_1623 l) ck_RX11_473_1623 (ct2_cons (vl_1620 l) ck_RX11_473_1620 (ct2_cons (vl_1632 l) ck_RX11_473_1632 (ct2_cons (vl_1627 l) ck_RX11_473_1627 (ct2_cons (vl_1624 l) ck_RX11_473_1624 (ct2_cons (vl_1621 l) ck_RX11_473_1621 (ct2_cons (vl_1633 l) ck_RX11_473_1633 (ct2_cons (vl_1628 l) ck_RX11_473_1628 (ct2_cons (vl_1625 l) ck_RX11_473_1625 (ct2_cons (vl_1622 l) ck_RX11_473_1622 (ct2_nil))))))))))))
theorem vl_1718 (l : Launch) : Vld2 l vwCl gTbl con_1718 := conR_ok3 gT_all (hd_1718) rfl pn_RX11 tk_X11_isAsSeen bo_RX11 xo_RX11 (cto_1718 l) ch_1718 (cut_all cc_1718)
/-- RookHusting guessAll -/
noncomputable def gi_1408 : GI := jl_n [gp_655, gp_498]
noncomputable def gi_1409 : GI := jl_n [gp_655, gp_498, gp_632]
noncomputable def con_1719 : Con2 := ((yX11_guessAll, cX11_guessAll, 4, none), (6, 151), ([(6, 0, 0), (0, 2, 0), (1, 2, 0)], gi_1408, hc_202, rq_6), [((9, 0, 0), gi_1409, hq_893, [], tg_1)])
theorem hd_1719 : con_1719.1 = (yX11_guessAll, cX11_guessAll, 4, none) := rfl
theorem ck_RX11_483_1718 : COK2 RX11 vwCl gTbl 483 0 con_1718 := ⟨wd_1230, wd_125, mh_X11_isAsSeen, .inr (.inr ⟨rfl, wd_1227, wd_1229, wd_43, ⟨_, rfl, pd_X11_isAsSeen⟩, 11, _, TX11, 16, rfl, rfl⟩)⟩
noncomputable def ct_1719 : CTB2 := [(1, 208, 0, con_900, [0, 1, 2, 3, 4, 5, 6, 7, 8, 9, 10, 11, 12, 13, 14, 15, 16, 17, 18, 19, 20, 21, 22, 23, 24, 25, 26]), (36, 332, 0, con_1212, [28, 2, 29, 4, 30, 5, 31, 6]), (45, 480, 0, con_859, [28, 29]), (73, 372, 0, con_899, [32, 3, 28, 16, 33, 18, 34, 30, 35, 29, 36, 22, 23, 37, 38, 39, 31]), (78, 483, 0, con_1718, [0, 40, 41, 42, 32, 33]), (105, 486, 0, con_1522, [27, 33, 43]), (105, 486, 0, con_1527, [27, 33, 43])]
noncomputable def gi_1410 : GI := jl_n [gp_655, gp_498, gp_633]
noncomputable def cu_1719 : List CUT2 := [((14, [lq 0 6 0, lq 1 0 2, lq 2 1 2, lq 3 1 204], [], gi_1410, hq_894), rq_6, ([(204, (-1))], 5))]
theorem ch_1719 : staG tb_X11_guessAll 1 bt_RX11 [] ct_1719 [] [] cu_1719 48 con_1719 = true := by decide +kernel
theorem cc_1719 : cu_1719.all (cutG tb_X11_guessAll 1 bt_RX11 [] ct_1719 [] [] cu_1719 48 con_1719) = true := by decide +kernel
theorem cto_1719 (l : Launch) : CTOK2 l RX11 vwCl gTbl ct_1719 := ct2_cons (vl_900 l) ck_RX11_208_900 (ct2_cons (vl_1212 l) ck_RX11_332_1212 (ct2_cons (vl_859 l) ck_RX11_480_859 (ct2_cons (vl_899 l) ck_RX11_372_899 (ct2_cons (vl_1718 l) ck_RX11_483_1718 (ct2_cons (vl_1522 l) ck_RX11_486_1522 (ct2_cons (vl_1527 l) ck_RX11_486_1527 (ct2_nil)))))))
theorem vl_1719 (l : Launch) : Vld2 l vwCl gTbl con_1719 := conR_ok3 gT_all (hd_1719) rfl pn_RX11 tk_X11_guessAll bo_RX11 xo_RX11 (cto_1719 l) ch_1719 (cut_all cc_1719)
/-- RookHusting isAsSeen -/
noncomputable def gi_1411 : GI := jl_n [gp_653, gp_496, jl_z 9]
noncomputable def ac_1075 : AC := .inr (1, jl_n [js_1 23 2, jl_x (1, (0, 0, 0)), js_1 25 1])
noncomputable def hc_203 : List AC := [ac_1053, .inl (8, [(6, 3, 0), (8, 19, 0), (6, 2, 0)]), ac_1075, ac_1073, ac_1056, am_0]
noncomputable def gi_1412 : GI := jl_n [gp_653, gp_496, jl_z 10]
noncomputable def hq_895 : HP := [(false, ac_1053), (false, .inl (8, [(6, 3, 0), (8, 19, 0), (6, 2, 0)])), (false, ac_1075), (false, ac_1073), (false, ac_1056), (false, am_0)]
noncomputable def con_1720 : Con2 := ((yX11_isAsSeen, cX11_isAsSeen, 4, (some .boolean)), (0, 0), ([(6, 0, 0), (0, 2, 0)], gi_1411, hc_203, []), [((0, 1, 0), gi_1412, hq_895, [], [1])])
theorem hd_1720 : con_1720.1 = (yX11_isAsSeen, cX11_isAsSeen, 4, (some .boolean)) := rfl
noncomputable def gi_1413 : GI := jl_n [gp_653, gp_496, jl_z 12]
noncomputable def cu_1720 : List CUT2 := [((2, [lq 0 6 0, lq 1 0 2, lq 2 0 0], [], gi_1413, hq_895), [], ([], 0))]
theorem ch_1720 : staG tb_X11_isAsSeen 1 bt_RX11 [] ct_3 [] [] cu_1720 11 con_1720 = true := by decide +kernel
theorem cc_1720 : cu_1720.all (cutG tb_X11_isAsSeen 1 bt_RX11 [] ct_3 [] [] cu_1720 11 con_1720) = true := by decide +kernel
theorem vl_1720 (l : Launch) : Vld2 l vwCl gTbl con_1720 := conR_ok3 gT_all (hd_1720) rfl pn_RX11 tk_X11_isAsSeen bo_RX11 xo_RX11 (cto_3 l) ch_1720 (cut_all cc_1720)
/-- RookHusting guessAll -/
noncomputable def gi_1414 : GI := jl_n [gp_655, gp_496]
noncomputable def ac_1076 : AC := .inr (1, jl_n [js_1 139 2, jl_x (1, (0, 0, 0)), js_1 141 1])
noncomputable def hc_204 : List AC := [ac_1057, .inl (9, [(6, 3, 0), (6, 11, 0)]), .inl (7, [(6, 4, 0), (6, 5, 0), (6, 6, 0), (1, 24, 0)]), ac_1058, am_3, am_1, am_1, am_1, .inl (1, [(6, 3, 0), (8, 43, 0)]), am_5, am_7, .inl (0, [(1, 44, 0), (6, 12, 0), (6, 13, 0), (6, 14, 0)]), ac_642, am_12, ac_643, ac_1059, am_4, am_0, am_11, am_0, am_1, am_0, am_4, am_10, am_0, am_0, am_9, ac_1060, .inl (7, [(6, 29, 0), (6, 30, 0), (6, 31, 0), (1, 124, 0)]), am_3, am_1, am_1, ac_1061, am_0, am_0, am_1, am_0, am_0, am_0, am_9, .inl (8, [(6, 42, 0), (8, 135, 0), (6, 41, 0)]), ac_1076, ac_1074, am_16]
noncomputable def gi_1415 : GI := jl_n [gp_655, gp_496, gp_632]
noncomputable def hq_896 : HP := [(true, ac_1064), (false, .inl (9, [(6, 3, 0), (6, 11, 0)])), (true, .inl (7, [(6, 4, 0), (6, 5, 0), (6, 6, 0), (1, 220, 0)])), (false, ac_1058), (true, am_3), (true, am_1), (true, am_1), (false, am_1), (false, .inl (1, [(6, 3, 0), (8, 43, 0)])), (false, am_5), (false, am_7), (false, .inl (0, [(1, 44, 0), (6, 12, 0), (6, 13, 0), (6, 14, 0)])), (false, ac_642), (false, am_12), (false, ac_643), (true, ac_1065), (false, am_4), (true, am_0), (false, am_11), (true, am_0), (true, am_1), (true, am_0), (false, am_4), (false, am_10), (true, am_0), (true, am_0), (true, am_9), (true, ac_1066), (true, .inl (7, [(6, 29, 0), (6, 30, 0), (6, 31, 0), (1, 237, 0)])), (true, am_3), (true, am_1), (true, am_1), (true, ac_1067), (true, am_0), (true, am_0), (true, am_1), (true, am_0), (true, am_0), (true, am_0), (true, am_9), (false, .inl (8, [(6, 42, 0), (8, 135, 0), (6, 41, 0)])), (false, ac_1076), (false, ac_1074), (true, am_16)]
noncomputable def con_1721 : Con2 := ((yX11_guessAll, cX11_guessAll, 4, none), (6, 151), ([(6, 0, 0), (0, 2, 0), (1, 2, 0)], gi_1414, hc_204, rq_6), [((9, 0, 0), gi_1415, hq_896, [], tg_1)])
theorem hd_1721 : con_1721.1 = (yX11_guessAll, cX11_guessAll, 4, none) := rfl
theorem ck_RX11_483_1720 : COK2 RX11 vwCl gTbl 483 0 con_1720 := ⟨wd_1230, wd_125, mh_X11_isAsSeen, .inr (.inr ⟨rfl, wd_1227, wd_1229, wd_43, ⟨_, rfl, pd_X11_isAsSeen⟩, 11, _, TX11, 16, rfl, rfl⟩)⟩
noncomputable def ct_1721 : CTB2 := [(1, 208, 0, con_900, [0, 1, 2, 3, 4, 5, 6, 7, 8, 9, 10, 11, 12, 13, 14, 15, 16, 17, 18, 19, 20, 21, 22, 23, 24, 25, 26]), (36, 332, 0, con_1212, [28, 2, 29, 4, 30, 5, 31, 6]), (45, 480, 0, con_859, [28, 29]), (73, 372, 0, con_899, [32, 3, 28, 16, 33, 18, 34, 30, 35, 29, 36, 22, 23, 37, 38, 39, 31]), (78, 483, 0, con_1720, [0, 40, 41, 42, 32, 33]), (105, 486, 0, con_1522, [27, 33, 43]), (105, 486, 0, con_1527, [27, 33, 43])]
noncomputable def gi_1416 : GI := jl_n [gp_655, gp_496, gp_633]
noncomputable def hq_897 : HP := [(true, ac_1064), (false, .inl (9, [(6, 3, 0), (6, 11, 0)])), (true, .inl (7, [(6, 4, 0), (6, 5, 0), (6, 6, 0), (1, 224, 0)])), (false, ac_1058), (true, am_3), (true, am_1), (true, am_1), (false, am_1), (false, .inl (1, [(6, 3, 0), (8, 43, 0)])), (false, am_5), (false, am_7), (false, .inl (0, [(1, 44, 0), (6, 12, 0), (6, 13, 0), (6, 14, 0)])), (false, ac_642), (false, am_12), (false, ac_643), (true, ac_1068), (false, am_4), (true, am_0), (false, am_11), (true, am_0), (true, am_1), (true, am_0), (false, am_4), (false, am_10), (true, am_0), (true, am_0), (true, am_9), (true, ac_1069), (true, .inl (7, [(6, 29, 0), (6, 30, 0), (6, 31, 0), (1, 241, 0)])), (true, am_3), (true, am_1), (true, am_1), (true, ac_1070), (true, am_0), (true, am_0), (true, am_1), (true, am_0), (true, am_0), (true, am_0), (true, am_9), (false, .inl (8, [(6, 42, 0), (8, 135, 0), (6, 41, 0)])), (false, ac_1076), (false, ac_1074), (true, am_16)]
noncomputable def cu_1721 : List CUT2 := [((14, [lq 0 6 0, lq 1 0 2, lq 2 1 2, lq 3 1 204], [], gi_1416, hq_897), rq_6, ([(204, (-1))], 5))]
theorem ch_1721 : staG tb_X11_guessAll 1 bt_RX11 [] ct_1721 [] [] cu_1721 48 con_1721 = true := by decide +kernel
theorem cc_1721 : cu_1721.all (cutG tb_X11_guessAll 1 bt_RX11 [] ct_1721 [] [] cu_1721 48 con_1721) = true := by decide +kernel
theorem cto_1721 (l : Launch) : CTOK2 l RX11 vwCl gTbl ct_1721 := ct2_cons (vl_900 l) ck_RX11_208_900 (ct2_cons (vl_1212 l) ck_RX11_332_1212 (ct2_cons (vl_859 l) ck_RX11_480_859 (ct2_cons (vl_899 l) ck_RX11_372_899 (ct2_cons (vl_1720 l) ck_RX11_483_1720 (ct2_cons (vl_1522 l) ck_RX11_486_1522 (ct2_cons (vl_1527 l) ck_RX11_486_1527 (ct2_nil)))))))
theorem vl_1721 (l : Launch) : Vld2 l vwCl gTbl con_1721 := conR_ok3 gT_all (hd_1721) rfl pn_RX11 tk_X11_guessAll bo_RX11 xo_RX11 (cto_1721 l) ch_1721 (cut_all cc_1721)
/-- RookHusting$Slots at -/
noncomputable def con_1722 : Con2 := ((yX8_at, cX8_at, 3, (some .long)), (0, 0), ([(6, 0, 0), (0, 1, 0), (0, 0, 0)], [(0, 0), (0, 0), (0, 0), (0, 0), (0, 0), (0, 0), (0, 4)], [.inl (8, [(6, 1, 0), (8, 4, 0), (8, 5, 0)]), ac_931], []), [((4, 6, 0), gi_1117, hq_763, [], [1])])
theorem hd_1722 : con_1722.1 = (yX8_at, cX8_at, 3, (some .long)) := rfl
noncomputable def cu_1722 : List CUT2 := []
theorem ch_1722 : staG tb_X8_at 1 bt_RX8 [] ct_1253 [] [] cu_1722 11 con_1722 = true := by decide +kernel
theorem vl_1722 (l : Launch) : Vld2 l vwCl gTbl con_1722 := conR_ok3 gT_all (hd_1722) rfl pn_RX8 tk_X8_at bo_RX8 xo_RX8 (cto_1253 l) ch_1722 cut_nil
/-- RookHusting$Slots at -/
noncomputable def con_1723 : Con2 := ((yX8_at, cX8_at, 3, (some .long)), (0, 0), ([(6, 0, 0), (0, 1, 0), (0, 1, 0)], [(0, 0), (0, 0), (0, 0), (0, 0), (0, 0), (0, 0), (0, 16)], [.inl (8, [(6, 1, 0), (8, 4, 0), (8, 5, 0)]), ac_932], []), [((4, 6, 0), gi_1118, hq_764, [], [1])])
theorem hd_1723 : con_1723.1 = (yX8_at, cX8_at, 3, (some .long)) := rfl
noncomputable def cu_1723 : List CUT2 := []
theorem ch_1723 : staG tb_X8_at 1 bt_RX8 [] ct_1253 [] [] cu_1723 11 con_1723 = true := by decide +kernel
theorem vl_1723 (l : Launch) : Vld2 l vwCl gTbl con_1723 := conR_ok3 gT_all (hd_1723) rfl pn_RX8 tk_X8_at bo_RX8 xo_RX8 (cto_1253 l) ch_1723 cut_nil
/-- RookHusting$Slots at -/
noncomputable def con_1724 : Con2 := ((yX8_at, cX8_at, 3, (some .long)), (0, 0), ([(6, 0, 0), (0, 1, 0), (0, 2, 0)], [(0, 0), (0, 0), (0, 0), (0, 0), (0, 0), (0, 0), (0, 250)], [.inl (8, [(6, 1, 0), (8, 4, 0), (8, 5, 0)]), ac_933], []), [((4, 6, 0), gi_1119, hq_765, [], [1])])
theorem hd_1724 : con_1724.1 = (yX8_at, cX8_at, 3, (some .long)) := rfl
noncomputable def cu_1724 : List CUT2 := []
theorem ch_1724 : staG tb_X8_at 1 bt_RX8 [] ct_1253 [] [] cu_1724 11 con_1724 = true := by decide +kernel
theorem vl_1724 (l : Launch) : Vld2 l vwCl gTbl con_1724 := conR_ok3 gT_all (hd_1724) rfl pn_RX8 tk_X8_at bo_RX8 xo_RX8 (cto_1253 l) ch_1724 cut_nil
/-- RookHusting$Slots at -/
noncomputable def con_1725 : Con2 := ((yX8_at, cX8_at, 3, (some .long)), (0, 0), ([(6, 0, 0), (0, 1, 0), (0, 3, 0)], [(0, 0), (0, 0), (0, 0), (0, 0), (0, 0), (0, 0), (0, 4)], [.inl (8, [(6, 1, 0), (8, 4, 0), (8, 5, 0)]), ac_934], []), [((4, 6, 0), gi_1117, hq_766, [], [1])])
theorem hd_1725 : con_1725.1 = (yX8_at, cX8_at, 3, (some .long)) := rfl
noncomputable def cu_1725 : List CUT2 := []
theorem ch_1725 : staG tb_X8_at 1 bt_RX8 [] ct_1253 [] [] cu_1725 11 con_1725 = true := by decide +kernel
theorem vl_1725 (l : Launch) : Vld2 l vwCl gTbl con_1725 := conR_ok3 gT_all (hd_1725) rfl pn_RX8 tk_X8_at bo_RX8 xo_RX8 (cto_1253 l) ch_1725 cut_nil
/-- RookHusting$Slots at -/
noncomputable def con_1726 : Con2 := ((yX8_at, cX8_at, 3, (some .long)), (0, 0), ([(6, 0, 0), (0, 1, 0), (0, 4, 0)], [(0, 0), (0, 0), (0, 0), (0, 0), (0, 0), (0, 0), (0, 16)], [.inl (8, [(6, 1, 0), (8, 4, 0), (8, 5, 0)]), ac_935], []), [((4, 6, 0), gi_1118, hq_767, [], [1])])
theorem hd_1726 : con_1726.1 = (yX8_at, cX8_at, 3, (some .long)) := rfl
noncomputable def cu_1726 : List CUT2 := []
theorem ch_1726 : staG tb_X8_at 1 bt_RX8 [] ct_1253 [] [] cu_1726 11 con_1726 = true := by decide +kernel
theorem vl_1726 (l : Launch) : Vld2 l vwCl gTbl con_1726 := conR_ok3 gT_all (hd_1726) rfl pn_RX8 tk_X8_at bo_RX8 xo_RX8 (cto_1253 l) ch_1726 cut_nil
/-- RookHusting$Slots at -/
noncomputable def con_1727 : Con2 := ((yX8_at, cX8_at, 3, (some .long)), (0, 0), ([(6, 0, 0), (0, 1, 0), (0, 5, 0)], [(0, 0), (0, 0), (0, 0), (0, 0), (0, 0), (0, 0), (0, 250)], [.inl (8, [(6, 1, 0), (8, 4, 0), (8, 5, 0)]), ac_936], []), [((4, 6, 0), gi_1119, hq_768, [], [1])])
theorem hd_1727 : con_1727.1 = (yX8_at, cX8_at, 3, (some .long)) := rfl
noncomputable def cu_1727 : List CUT2 := []
theorem ch_1727 : staG tb_X8_at 1 bt_RX8 [] ct_1253 [] [] cu_1727 11 con_1727 = true := by decide +kernel
theorem vl_1727 (l : Launch) : Vld2 l vwCl gTbl con_1727 := conR_ok3 gT_all (hd_1727) rfl pn_RX8 tk_X8_at bo_RX8 xo_RX8 (cto_1253 l) ch_1727 cut_nil
/-- RookHusting$Slots at -/
noncomputable def con_1728 : Con2 := ((yX8_at, cX8_at, 3, (some .long)), (0, 0), ([(6, 0, 0), (0, 1, 0), (0, 6, 0)], [(0, 0), (0, 0), (0, 0), (0, 0), (0, 0), (0, 0), (0, 4)], [.inl (8, [(6, 1, 0), (8, 4, 0), (8, 5, 0)]), ac_937], []), [((4, 6, 0), gi_1117, hq_769, [], [1])])
theorem hd_1728 : con_1728.1 = (yX8_at, cX8_at, 3, (some .long)) := rfl
noncomputable def cu_1728 : List CUT2 := []
theorem ch_1728 : staG tb_X8_at 1 bt_RX8 [] ct_1253 [] [] cu_1728 11 con_1728 = true := by decide +kernel
theorem vl_1728 (l : Launch) : Vld2 l vwCl gTbl con_1728 := conR_ok3 gT_all (hd_1728) rfl pn_RX8 tk_X8_at bo_RX8 xo_RX8 (cto_1253 l) ch_1728 cut_nil
/-- RookHusting$Slots at -/
noncomputable def con_1729 : Con2 := ((yX8_at, cX8_at, 3, (some .long)), (0, 0), ([(6, 0, 0), (0, 1, 0), (0, 7, 0)], [(0, 0), (0, 0), (0, 0), (0, 0), (0, 0), (0, 0), (0, 16)], [.inl (8, [(6, 1, 0), (8, 4, 0), (8, 5, 0)]), ac_938], []), [((4, 6, 0), gi_1118, hq_770, [], [1])])
theorem hd_1729 : con_1729.1 = (yX8_at, cX8_at, 3, (some .long)) := rfl
noncomputable def cu_1729 : List CUT2 := []
theorem ch_1729 : staG tb_X8_at 1 bt_RX8 [] ct_1253 [] [] cu_1729 11 con_1729 = true := by decide +kernel
theorem vl_1729 (l : Launch) : Vld2 l vwCl gTbl con_1729 := conR_ok3 gT_all (hd_1729) rfl pn_RX8 tk_X8_at bo_RX8 xo_RX8 (cto_1253 l) ch_1729 cut_nil
/-- RookHusting$Slots at -/
noncomputable def con_1730 : Con2 := ((yX8_at, cX8_at, 3, (some .long)), (0, 0), ([(6, 0, 0), (0, 1, 0), (0, 8, 0)], [(0, 0), (0, 0), (0, 0), (0, 0), (0, 0), (0, 0), (0, 250)], [.inl (8, [(6, 1, 0), (8, 4, 0), (8, 5, 0)]), ac_939], []), [((4, 6, 0), gi_1119, hq_771, [], [1])])
theorem hd_1730 : con_1730.1 = (yX8_at, cX8_at, 3, (some .long)) := rfl
noncomputable def cu_1730 : List CUT2 := []
theorem ch_1730 : staG tb_X8_at 1 bt_RX8 [] ct_1253 [] [] cu_1730 11 con_1730 = true := by decide +kernel
theorem vl_1730 (l : Launch) : Vld2 l vwCl gTbl con_1730 := conR_ok3 gT_all (hd_1730) rfl pn_RX8 tk_X8_at bo_RX8 xo_RX8 (cto_1253 l) ch_1730 cut_nil
/-- RookHusting isAsSeen -/
noncomputable def gi_1417 : GI := jl_n [gp_676, jl_z 9]
noncomputable def ac_1077 : AC := .inr (2, jl_n [js_5 60 9223372036854775807 9223372036854775807, js_4 85 60, js_5 120 9223372036854775807 9223372036854775807])
noncomputable def hc_205 : List AC := [ac_1053, .inl (8, [(6, 3, 0), (8, 19, 0), (6, 2, 0)]), ac_1054, ac_1077, ac_1056, am_0]
noncomputable def gi_1418 : GI := jl_n [gp_676, jl_z 10]
noncomputable def hq_898 : HP := [(false, ac_1053), (false, .inl (8, [(6, 3, 0), (8, 19, 0), (6, 2, 0)])), (false, ac_1054), (false, ac_1077), (false, ac_1056), (false, am_0)]
noncomputable def con_1731 : Con2 := ((yX11_isAsSeen, cX11_isAsSeen, 4, (some .boolean)), (1, 22), ([(6, 0, 0), (0, 1, 0)], gi_1417, hc_205, []), [((0, 0, 0), gi_1418, hq_898, [], [1]), ((0, 1, 0), gi_1418, hq_898, [], [1])])
theorem hd_1731 : con_1731.1 = (yX11_isAsSeen, cX11_isAsSeen, 4, (some .boolean)) := rfl
theorem ck_RX11_473_1724 : COK2 RX11 vwCl gTbl 473 0 con_1724 := ⟨wd_1218, wd_131, mh_X8_at, .inr (.inr ⟨rfl, wd_1215, wd_1216, wd_1217, ⟨_, rfl, pd_X8_at⟩, 8, _, TX8, 3, rfl, rfl⟩)⟩
theorem ck_RX11_473_1727 : COK2 RX11 vwCl gTbl 473 0 con_1727 := ⟨wd_1218, wd_131, mh_X8_at, .inr (.inr ⟨rfl, wd_1215, wd_1216, wd_1217, ⟨_, rfl, pd_X8_at⟩, 8, _, TX8, 3, rfl, rfl⟩)⟩
theorem ck_RX11_473_1730 : COK2 RX11 vwCl gTbl 473 0 con_1730 := ⟨wd_1218, wd_131, mh_X8_at, .inr (.inr ⟨rfl, wd_1215, wd_1216, wd_1217, ⟨_, rfl, pd_X8_at⟩, 8, _, TX8, 3, rfl, rfl⟩)⟩
theorem ck_RX11_473_1723 : COK2 RX11 vwCl gTbl 473 0 con_1723 := ⟨wd_1218, wd_131, mh_X8_at, .inr (.inr ⟨rfl, wd_1215, wd_1216, wd_1217, ⟨_, rfl, pd_X8_at⟩, 8, _, TX8, 3, rfl, rfl⟩)⟩
theorem ck_RX11_473_1726 : COK2 RX11 vwCl gTbl 473 0 con_1726 := ⟨wd_1218, wd_131, mh_X8_at, .inr (.inr ⟨rfl, wd_1215, wd_1216, wd_1217, ⟨_, rfl, pd_X8_at⟩, 8, _, TX8, 3, rfl, rfl⟩)⟩
theorem ck_RX11_473_1729 : COK2 RX11 vwCl gTbl 473 0 con_1729 := ⟨wd_1218, wd_131, mh_X8_at, .inr (.inr ⟨rfl, wd_1215, wd_1216, wd_1217, ⟨_, rfl, pd_X8_at⟩, 8, _, TX8, 3, rfl, rfl⟩)⟩
theorem ck_RX11_473_1722 : COK2 RX11 vwCl gTbl 473 0 con_1722 := ⟨wd_1218, wd_131, mh_X8_at, .inr (.inr ⟨rfl, wd_1215, wd_1216, wd_1217, ⟨_, rfl, pd_X8_at⟩, 8, _, TX8, 3, rfl, rfl⟩)⟩
theorem ck_RX11_473_1725 : COK2 RX11 vwCl gTbl 473 0 con_1725 := ⟨wd_1218, wd_131, mh_X8_at, .inr (.inr ⟨rfl, wd_1215, wd_1216, wd_1217, ⟨_, rfl, pd_X8_at⟩, 8, _, TX8, 3, rfl, rfl⟩)⟩
theorem ck_RX11_473_1728 : COK2 RX11 vwCl gTbl 473 0 con_1728 := ⟨wd_1218, wd_131, mh_X8_at, .inr (.inr ⟨rfl, wd_1215, wd_1216, wd_1217, ⟨_, rfl, pd_X8_at⟩, 8, _, TX8, 3, rfl, rfl⟩)⟩
noncomputable def ct_1731 : CTB2 := [(21, 473, 0, con_1728, [1, 3]), (21, 473, 0, con_1725, [1, 3]), (21, 473, 0, con_1722, [1, 3]), (36, 473, 0, con_1729, [1, 3]), (36, 473, 0, con_1726, [1, 3]), (36, 473, 0, con_1723, [1, 3]), (60, 473, 0, con_1730, [1, 3]), (60, 473, 0, con_1727, [1, 3]), (60, 473, 0, con_1724, [1, 3])]
noncomputable def gi_1419 : GI := jl_n [gp_676, jl_z 12]
noncomputable def gi_1420 : GI := jl_n [gp_676, gp_628]
noncomputable def cu_1731 : List CUT2 := [((2, [lq 0 6 0, lq 1 0 1, lq 2 0 0], [], gi_1419, hq_898), [], ([], 9)), ((2, [lq 0 6 0, lq 1 0 1, lq 2 0 3, lq 3 1 97], [], gi_1420, hq_898), [], ([], 6)), ((2, [lq 0 6 0, lq 1 0 1, lq 2 0 6, lq 3 1 97], [], gi_1420, hq_898), [], ([], 3)), ((2, [lq 0 6 0, lq 1 0 1, lq 2 0 9, lq 3 1 97], [], gi_1420, hq_898), [], ([], 0))]
theorem ch_1731 : staG tb_X11_isAsSeen 1 bt_RX11 [] ct_1731 [] [] cu_1731 44 con_1731 = true := by decide +kernel
theorem cc_1731 : cu_1731.all (cutG tb_X11_isAsSeen 1 bt_RX11 [] ct_1731 [] [] cu_1731 44 con_1731) = true := by decide +kernel
theorem cto_1731 (l : Launch) : CTOK2 l RX11 vwCl gTbl ct_1731 := ct2_cons (vl_1728 l) ck_RX11_473_1728 (ct2_cons (vl_1725 l) ck_RX11_473_1725 (ct2_cons (vl_1722 l) ck_RX11_473_1722 (ct2_cons (vl_1729 l) ck_RX11_473_1729 (ct2_cons (vl_1726 l) ck_RX11_473_1726 (ct2_cons (vl_1723 l) ck_RX11_473_1723 (ct2_cons (vl_1730 l) ck_RX11_473_1730 (ct2_cons (vl_1727 l) ck_RX11_473_1727 (ct2_cons (vl_1724 l) ck_RX11_473_1724 (ct2_nil)))))))))
theorem vl_1731 (l : Launch) : Vld2 l vwCl gTbl con_1731 := conR_ok3 gT_all (hd_1731) rfl pn_RX11 tk_X11_isAsSeen bo_RX11 xo_RX11 (cto_1731 l) ch_1731 (cut_all cc_1731)
/-- RookHusting guessAll -/
noncomputable def gi_1421 : GI := jl_n [gp_677, gp_581]
noncomputable def ac_1078 : AC := .inr (2, jl_n [js_5 60 9223372036854775807 9223372036854775807, js_4 201 60, js_5 120 9223372036854775807 9223372036854775807])
noncomputable def hc_206 : List AC := [ac_1057, .inl (9, [(6, 3, 0), (6, 11, 0)]), .inl (7, [(6, 4, 0), (6, 5, 0), (6, 6, 0), (1, 24, 0)]), ac_1058, am_3, am_1, am_1, am_1, .inl (1, [(6, 3, 0), (8, 43, 0)]), am_5, am_7, .inl (0, [(1, 44, 0), (6, 12, 0), (6, 13, 0), (6, 14, 0)]), ac_642, am_12, ac_643, ac_1059, am_4, am_0, am_11, am_0, am_1, am_0, am_4, am_10, am_0, am_0, am_9, ac_1060, .inl (7, [(6, 29, 0), (6, 30, 0), (6, 31, 0), (1, 124, 0)]), am_3, am_1, am_1, ac_1061, am_0, am_0, am_1, am_0, am_0, am_0, am_9, .inl (8, [(6, 42, 0), (8, 135, 0), (6, 41, 0)]), ac_1062, ac_1078, am_16]
noncomputable def gi_1422 : GI := jl_n [gp_677, gp_581, gp_632]
noncomputable def hq_899 : HP := [(true, ac_1064), (false, .inl (9, [(6, 3, 0), (6, 11, 0)])), (true, .inl (7, [(6, 4, 0), (6, 5, 0), (6, 6, 0), (1, 220, 0)])), (false, ac_1058), (true, am_3), (true, am_1), (true, am_1), (false, am_1), (false, .inl (1, [(6, 3, 0), (8, 43, 0)])), (false, am_5), (false, am_7), (false, .inl (0, [(1, 44, 0), (6, 12, 0), (6, 13, 0), (6, 14, 0)])), (false, ac_642), (false, am_12), (false, ac_643), (true, ac_1065), (false, am_4), (true, am_0), (false, am_11), (true, am_0), (true, am_1), (true, am_0), (false, am_4), (false, am_10), (true, am_0), (true, am_0), (true, am_9), (true, ac_1066), (true, .inl (7, [(6, 29, 0), (6, 30, 0), (6, 31, 0), (1, 237, 0)])), (true, am_3), (true, am_1), (true, am_1), (true, ac_1067), (true, am_0), (true, am_0), (true, am_1), (true, am_0), (true, am_0), (true, am_0), (true, am_9), (false, .inl (8, [(6, 42, 0), (8, 135, 0), (6, 41, 0)])), (false, ac_1062), (false, ac_1078), (true, am_16)]
noncomputable def con_1732 : Con2 := ((yX11_guessAll, cX11_guessAll, 4, none), (6, 151), ([(6, 0, 0), (0, 1, 0), (1, 2, 0)], gi_1421, hc_206, rq_6), [((9, 0, 0), gi_1422, hq_899, [], tg_1)])
theorem hd_1732 : con_1732.1 = (yX11_guessAll, cX11_guessAll, 4, none) := rfl
theorem ck_RX11_483_1731 : COK2 RX11 vwCl gTbl 483 0 con_1731 := ⟨wd_1230, wd_125, mh_X11_isAsSeen, .inr (.inr ⟨rfl, wd_1227, wd_1229, wd_43, ⟨_, rfl, pd_X11_isAsSeen⟩, 11, _, TX11, 16, rfl, rfl⟩)⟩
noncomputable def ct_1732 : CTB2 := [(1, 208, 0, con_900, [0, 1, 2, 3, 4, 5, 6, 7, 8, 9, 10, 11, 12, 13, 14, 15, 16, 17, 18, 19, 20, 21, 22, 23, 24, 25, 26]), (36, 332, 0, con_1212, [28, 2, 29, 4, 30, 5, 31, 6]), (45, 480, 0, con_859, [28, 29]), (73, 372, 0, con_899, [32, 3, 28, 16, 33, 18, 34, 30, 35, 29, 36, 22, 23, 37, 38, 39, 31]), (78, 483, 0, con_1731, [0, 40, 41, 42, 32, 33]), (105, 486, 0, con_1522, [27, 33, 43]), (105, 486, 0, con_1527, [27, 33, 43])]
noncomputable def gi_1423 : GI := jl_n [gp_677, gp_581, gp_633]
noncomputable def hq_900 : HP := [(true, ac_1064), (false, .inl (9, [(6, 3, 0), (6, 11, 0)])), (true, .inl (7, [(6, 4, 0), (6, 5, 0), (6, 6, 0), (1, 224, 0)])), (false, ac_1058), (true, am_3), (true, am_1), (true, am_1), (false, am_1), (false, .inl (1, [(6, 3, 0), (8, 43, 0)])), (false, am_5), (false, am_7), (false, .inl (0, [(1, 44, 0), (6, 12, 0), (6, 13, 0), (6, 14, 0)])), (false, ac_642), (false, am_12), (false, ac_643), (true, ac_1068), (false, am_4), (true, am_0), (false, am_11), (true, am_0), (true, am_1), (true, am_0), (false, am_4), (false, am_10), (true, am_0), (true, am_0), (true, am_9), (true, ac_1069), (true, .inl (7, [(6, 29, 0), (6, 30, 0), (6, 31, 0), (1, 241, 0)])), (true, am_3), (true, am_1), (true, am_1), (true, ac_1070), (true, am_0), (true, am_0), (true, am_1), (true, am_0), (true, am_0), (true, am_0), (true, am_9), (false, .inl (8, [(6, 42, 0), (8, 135, 0), (6, 41, 0)])), (false, ac_1062), (false, ac_1078), (true, am_16)]
noncomputable def cu_1732 : List CUT2 := [((14, [lq 0 6 0, lq 1 0 1, lq 2 1 2, lq 3 1 204], [], gi_1423, hq_900), rq_6, ([(204, (-1))], 5))]
theorem ch_1732 : staG tb_X11_guessAll 1 bt_RX11 [] ct_1732 [] [] cu_1732 48 con_1732 = true := by decide +kernel
theorem cc_1732 : cu_1732.all (cutG tb_X11_guessAll 1 bt_RX11 [] ct_1732 [] [] cu_1732 48 con_1732) = true := by decide +kernel
theorem cto_1732 (l : Launch) : CTOK2 l RX11 vwCl gTbl ct_1732 := ct2_cons (vl_900 l) ck_RX11_208_900 (ct2_cons (vl_1212 l) ck_RX11_332_1212 (ct2_cons (vl_859 l) ck_RX11_480_859 (ct2_cons (vl_899 l) ck_RX11_372_899 (ct2_cons (vl_1731 l) ck_RX11_483_1731 (ct2_cons (vl_1522 l) ck_RX11_486_1522 (ct2_cons (vl_1527 l) ck_RX11_486_1527 (ct2_nil)))))))
theorem vl_1732 (l : Launch) : Vld2 l vwCl gTbl con_1732 := conR_ok3 gT_all (hd_1732) rfl pn_RX11 tk_X11_guessAll bo_RX11 xo_RX11 (cto_1732 l) ch_1732 (cut_all cc_1732)
/-- RookHusting$Slots at -/
noncomputable def con_1733 : Con2 := ((yX8_at, cX8_at, 3, (some .long)), (0, 0), ([(6, 0, 0), (0, 1, 0), (0, 9, 0)], [(0, 0), (0, 0), (0, 0), (0, 0), (0, 0), (0, 0), (0, 4)], [.inl (8, [(6, 1, 0), (8, 4, 0), (8, 5, 0)]), ac_940], []), [((4, 6, 0), gi_1117, hq_772, [], [1])])
theorem hd_1733 : con_1733.1 = (yX8_at, cX8_at, 3, (some .long)) := rfl
noncomputable def cu_1733 : List CUT2 := []
theorem ch_1733 : staG tb_X8_at 1 bt_RX8 [] ct_1253 [] [] cu_1733 11 con_1733 = true := by decide +kernel
theorem vl_1733 (l : Launch) : Vld2 l vwCl gTbl con_1733 := conR_ok3 gT_all (hd_1733) rfl pn_RX8 tk_X8_at bo_RX8 xo_RX8 (cto_1253 l) ch_1733 cut_nil
/-- RookHusting$Slots at -/
noncomputable def con_1734 : Con2 := ((yX8_at, cX8_at, 3, (some .long)), (0, 0), ([(6, 0, 0), (0, 1, 0), (0, 10, 0)], [(0, 0), (0, 0), (0, 0), (0, 0), (0, 0), (0, 0), (0, 16)], [.inl (8, [(6, 1, 0), (8, 4, 0), (8, 5, 0)]), ac_941], []), [((4, 6, 0), gi_1118, hq_773, [], [1])])
theorem hd_1734 : con_1734.1 = (yX8_at, cX8_at, 3, (some .long)) := rfl
noncomputable def cu_1734 : List CUT2 := []
theorem ch_1734 : staG tb_X8_at 1 bt_RX8 [] ct_1253 [] [] cu_1734 11 con_1734 = true := by decide +kernel
theorem vl_1734 (l : Launch) : Vld2 l vwCl gTbl con_1734 := conR_ok3 gT_all (hd_1734) rfl pn_RX8 tk_X8_at bo_RX8 xo_RX8 (cto_1253 l) ch_1734 cut_nil
/-- RookHusting$Slots at -/
noncomputable def con_1735 : Con2 := ((yX8_at, cX8_at, 3, (some .long)), (0, 0), ([(6, 0, 0), (0, 1, 0), (0, 11, 0)], [(0, 0), (0, 0), (0, 0), (0, 0), (0, 0), (0, 0), (0, 250)], [.inl (8, [(6, 1, 0), (8, 4, 0), (8, 5, 0)]), ac_942], []), [((4, 6, 0), gi_1119, hq_774, [], [1])])
theorem hd_1735 : con_1735.1 = (yX8_at, cX8_at, 3, (some .long)) := rfl
noncomputable def cu_1735 : List CUT2 := []
theorem ch_1735 : staG tb_X8_at 1 bt_RX8 [] ct_1253 [] [] cu_1735 11 con_1735 = true := by decide +kernel
theorem vl_1735 (l : Launch) : Vld2 l vwCl gTbl con_1735 := conR_ok3 gT_all (hd_1735) rfl pn_RX8 tk_X8_at bo_RX8 xo_RX8 (cto_1253 l) ch_1735 cut_nil
/-- RookHusting$Slots at -/
noncomputable def con_1736 : Con2 := ((yX8_at, cX8_at, 3, (some .long)), (0, 0), ([(6, 0, 0), (0, 1, 0), (0, 12, 0)], [(0, 0), (0, 0), (0, 0), (0, 0), (0, 0), (0, 0), (0, 4)], [.inl (8, [(6, 1, 0), (8, 4, 0), (8, 5, 0)]), ac_943], []), [((4, 6, 0), gi_1117, hq_775, [], [1])])
theorem hd_1736 : con_1736.1 = (yX8_at, cX8_at, 3, (some .long)) := rfl
noncomputable def cu_1736 : List CUT2 := []
theorem ch_1736 : staG tb_X8_at 1 bt_RX8 [] ct_1253 [] [] cu_1736 11 con_1736 = true := by decide +kernel
theorem vl_1736 (l : Launch) : Vld2 l vwCl gTbl con_1736 := conR_ok3 gT_all (hd_1736) rfl pn_RX8 tk_X8_at bo_RX8 xo_RX8 (cto_1253 l) ch_1736 cut_nil
/-- RookHusting$Slots at -/
noncomputable def con_1737 : Con2 := ((yX8_at, cX8_at, 3, (some .long)), (0, 0), ([(6, 0, 0), (0, 1, 0), (0, 13, 0)], [(0, 0), (0, 0), (0, 0), (0, 0), (0, 0), (0, 0), (0, 16)], [.inl (8, [(6, 1, 0), (8, 4, 0), (8, 5, 0)]), ac_944], []), [((4, 6, 0), gi_1118, hq_776, [], [1])])
theorem hd_1737 : con_1737.1 = (yX8_at, cX8_at, 3, (some .long)) := rfl
noncomputable def cu_1737 : List CUT2 := []
theorem ch_1737 : staG tb_X8_at 1 bt_RX8 [] ct_1253 [] [] cu_1737 11 con_1737 = true := by decide +kernel
theorem vl_1737 (l : Launch) : Vld2 l vwCl gTbl con_1737 := conR_ok3 gT_all (hd_1737) rfl pn_RX8 tk_X8_at bo_RX8 xo_RX8 (cto_1253 l) ch_1737 cut_nil
/-- RookHusting$Slots at -/
noncomputable def con_1738 : Con2 := ((yX8_at, cX8_at, 3, (some .long)), (0, 0), ([(6, 0, 0), (0, 1, 0), (0, 14, 0)], [(0, 0), (0, 0), (0, 0), (0, 0), (0, 0), (0, 0), (0, 250)], [.inl (8, [(6, 1, 0), (8, 4, 0), (8, 5, 0)]), ac_945], []), [((4, 6, 0), gi_1119, hq_777, [], [1])])
theorem hd_1738 : con_1738.1 = (yX8_at, cX8_at, 3, (some .long)) := rfl
noncomputable def cu_1738 : List CUT2 := []
theorem ch_1738 : staG tb_X8_at 1 bt_RX8 [] ct_1253 [] [] cu_1738 11 con_1738 = true := by decide +kernel
theorem vl_1738 (l : Launch) : Vld2 l vwCl gTbl con_1738 := conR_ok3 gT_all (hd_1738) rfl pn_RX8 tk_X8_at bo_RX8 xo_RX8 (cto_1253 l) ch_1738 cut_nil
/-- RookHusting$Slots at -/
noncomputable def con_1739 : Con2 := ((yX8_at, cX8_at, 3, (some .long)), (0, 0), ([(6, 0, 0), (0, 1, 0), (0, 15, 0)], [(0, 0), (0, 0), (0, 0), (0, 0), (0, 0), (0, 0), (0, 4)], [.inl (8, [(6, 1, 0), (8, 4, 0), (8, 5, 0)]), ac_946], []), [((4, 6, 0), gi_1117, hq_778, [], [1])])
theorem hd_1739 : con_1739.1 = (yX8_at, cX8_at, 3, (some .long)) := rfl
noncomputable def cu_1739 : List CUT2 := []
theorem ch_1739 : staG tb_X8_at 1 bt_RX8 [] ct_1253 [] [] cu_1739 11 con_1739 = true := by decide +kernel
theorem vl_1739 (l : Launch) : Vld2 l vwCl gTbl con_1739 := conR_ok3 gT_all (hd_1739) rfl pn_RX8 tk_X8_at bo_RX8 xo_RX8 (cto_1253 l) ch_1739 cut_nil
/-- RookHusting$Slots at -/
noncomputable def con_1740 : Con2 := ((yX8_at, cX8_at, 3, (some .long)), (0, 0), ([(6, 0, 0), (0, 1, 0), (0, 16, 0)], [(0, 0), (0, 0), (0, 0), (0, 0), (0, 0), (0, 0), (0, 16)], [.inl (8, [(6, 1, 0), (8, 4, 0), (8, 5, 0)]), ac_947], []), [((4, 6, 0), gi_1118, hq_779, [], [1])])
theorem hd_1740 : con_1740.1 = (yX8_at, cX8_at, 3, (some .long)) := rfl
noncomputable def cu_1740 : List CUT2 := []
theorem ch_1740 : staG tb_X8_at 1 bt_RX8 [] ct_1253 [] [] cu_1740 11 con_1740 = true := by decide +kernel
theorem vl_1740 (l : Launch) : Vld2 l vwCl gTbl con_1740 := conR_ok3 gT_all (hd_1740) rfl pn_RX8 tk_X8_at bo_RX8 xo_RX8 (cto_1253 l) ch_1740 cut_nil
/-- RookHusting$Slots at -/
noncomputable def con_1741 : Con2 := ((yX8_at, cX8_at, 3, (some .long)), (0, 0), ([(6, 0, 0), (0, 1, 0), (0, 17, 0)], [(0, 0), (0, 0), (0, 0), (0, 0), (0, 0), (0, 0), (0, 250)], [.inl (8, [(6, 1, 0), (8, 4, 0), (8, 5, 0)]), ac_948], []), [((4, 6, 0), gi_1119, hq_780, [], [1])])
theorem hd_1741 : con_1741.1 = (yX8_at, cX8_at, 3, (some .long)) := rfl
noncomputable def cu_1741 : List CUT2 := []
theorem ch_1741 : staG tb_X8_at 1 bt_RX8 [] ct_1253 [] [] cu_1741 11 con_1741 = true := by decide +kernel
theorem vl_1741 (l : Launch) : Vld2 l vwCl gTbl con_1741 := conR_ok3 gT_all (hd_1741) rfl pn_RX8 tk_X8_at bo_RX8 xo_RX8 (cto_1253 l) ch_1741 cut_nil
/-- RookHusting$Slots at -/
noncomputable def con_1742 : Con2 := ((yX8_at, cX8_at, 3, (some .long)), (0, 0), ([(6, 0, 0), (0, 1, 0), (0, 18, 0)], [(0, 0), (0, 0), (0, 0), (0, 0), (0, 0), (0, 0), (0, 4)], [.inl (8, [(6, 1, 0), (8, 4, 0), (8, 5, 0)]), ac_949], []), [((4, 6, 0), gi_1117, hq_781, [], [1])])
theorem hd_1742 : con_1742.1 = (yX8_at, cX8_at, 3, (some .long)) := rfl
noncomputable def cu_1742 : List CUT2 := []
theorem ch_1742 : staG tb_X8_at 1 bt_RX8 [] ct_1253 [] [] cu_1742 11 con_1742 = true := by decide +kernel
theorem vl_1742 (l : Launch) : Vld2 l vwCl gTbl con_1742 := conR_ok3 gT_all (hd_1742) rfl pn_RX8 tk_X8_at bo_RX8 xo_RX8 (cto_1253 l) ch_1742 cut_nil
/-- RookHusting$Slots at -/
noncomputable def con_1743 : Con2 := ((yX8_at, cX8_at, 3, (some .long)), (0, 0), ([(6, 0, 0), (0, 1, 0), (0, 19, 0)], [(0, 0), (0, 0), (0, 0), (0, 0), (0, 0), (0, 0), (0, 16)], [.inl (8, [(6, 1, 0), (8, 4, 0), (8, 5, 0)]), ac_950], []), [((4, 6, 0), gi_1118, hq_782, [], [1])])
theorem hd_1743 : con_1743.1 = (yX8_at, cX8_at, 3, (some .long)) := rfl
noncomputable def cu_1743 : List CUT2 := []
theorem ch_1743 : staG tb_X8_at 1 bt_RX8 [] ct_1253 [] [] cu_1743 11 con_1743 = true := by decide +kernel
theorem vl_1743 (l : Launch) : Vld2 l vwCl gTbl con_1743 := conR_ok3 gT_all (hd_1743) rfl pn_RX8 tk_X8_at bo_RX8 xo_RX8 (cto_1253 l) ch_1743 cut_nil
/-- RookHusting$Slots at -/
noncomputable def con_1744 : Con2 := ((yX8_at, cX8_at, 3, (some .long)), (0, 0), ([(6, 0, 0), (0, 1, 0), (0, 20, 0)], [(0, 0), (0, 0), (0, 0), (0, 0), (0, 0), (0, 0), (0, 250)], [.inl (8, [(6, 1, 0), (8, 4, 0), (8, 5, 0)]), ac_951], []), [((4, 6, 0), gi_1119, hq_783, [], [1])])
theorem hd_1744 : con_1744.1 = (yX8_at, cX8_at, 3, (some .long)) := rfl
noncomputable def cu_1744 : List CUT2 := []
theorem ch_1744 : staG tb_X8_at 1 bt_RX8 [] ct_1253 [] [] cu_1744 11 con_1744 = true := by decide +kernel
theorem vl_1744 (l : Launch) : Vld2 l vwCl gTbl con_1744 := conR_ok3 gT_all (hd_1744) rfl pn_RX8 tk_X8_at bo_RX8 xo_RX8 (cto_1253 l) ch_1744 cut_nil
/-- RookHusting$Slots at -/
noncomputable def con_1745 : Con2 := ((yX8_at, cX8_at, 3, (some .long)), (0, 0), ([(6, 0, 0), (0, 1, 0), (0, 21, 0)], [(0, 0), (0, 0), (0, 0), (0, 0), (0, 0), (0, 0), (0, 4)], [.inl (8, [(6, 1, 0), (8, 4, 0), (8, 5, 0)]), ac_952], []), [((4, 6, 0), gi_1117, hq_784, [], [1])])
theorem hd_1745 : con_1745.1 = (yX8_at, cX8_at, 3, (some .long)) := rfl
noncomputable def cu_1745 : List CUT2 := []
theorem ch_1745 : staG tb_X8_at 1 bt_RX8 [] ct_1253 [] [] cu_1745 11 con_1745 = true := by decide +kernel
theorem vl_1745 (l : Launch) : Vld2 l vwCl gTbl con_1745 := conR_ok3 gT_all (hd_1745) rfl pn_RX8 tk_X8_at bo_RX8 xo_RX8 (cto_1253 l) ch_1745 cut_nil
/-- RookHusting$Slots at -/
noncomputable def con_1746 : Con2 := ((yX8_at, cX8_at, 3, (some .long)), (0, 0), ([(6, 0, 0), (0, 1, 0), (0, 22, 0)], [(0, 0), (0, 0), (0, 0), (0, 0), (0, 0), (0, 0), (0, 16)], [.inl (8, [(6, 1, 0), (8, 4, 0), (8, 5, 0)]), ac_953], []), [((4, 6, 0), gi_1118, hq_785, [], [1])])
theorem hd_1746 : con_1746.1 = (yX8_at, cX8_at, 3, (some .long)) := rfl
noncomputable def cu_1746 : List CUT2 := []
theorem ch_1746 : staG tb_X8_at 1 bt_RX8 [] ct_1253 [] [] cu_1746 11 con_1746 = true := by decide +kernel
theorem vl_1746 (l : Launch) : Vld2 l vwCl gTbl con_1746 := conR_ok3 gT_all (hd_1746) rfl pn_RX8 tk_X8_at bo_RX8 xo_RX8 (cto_1253 l) ch_1746 cut_nil
/-- RookHusting$Slots at -/
noncomputable def con_1747 : Con2 := ((yX8_at, cX8_at, 3, (some .long)), (0, 0), ([(6, 0, 0), (0, 1, 0), (0, 23, 0)], [(0, 0), (0, 0), (0, 0), (0, 0), (0, 0), (0, 0), (0, 250)], [.inl (8, [(6, 1, 0), (8, 4, 0), (8, 5, 0)]), ac_954], []), [((4, 6, 0), gi_1119, hq_786, [], [1])])
theorem hd_1747 : con_1747.1 = (yX8_at, cX8_at, 3, (some .long)) := rfl
noncomputable def cu_1747 : List CUT2 := []
theorem ch_1747 : staG tb_X8_at 1 bt_RX8 [] ct_1253 [] [] cu_1747 11 con_1747 = true := by decide +kernel
theorem vl_1747 (l : Launch) : Vld2 l vwCl gTbl con_1747 := conR_ok3 gT_all (hd_1747) rfl pn_RX8 tk_X8_at bo_RX8 xo_RX8 (cto_1253 l) ch_1747 cut_nil
/-- RookHusting$Slots at -/
noncomputable def con_1748 : Con2 := ((yX8_at, cX8_at, 3, (some .long)), (0, 0), ([(6, 0, 0), (0, 1, 0), (0, 24, 0)], [(0, 0), (0, 0), (0, 0), (0, 0), (0, 0), (0, 0), (0, 4)], [.inl (8, [(6, 1, 0), (8, 4, 0), (8, 5, 0)]), ac_955], []), [((4, 6, 0), gi_1117, hq_787, [], [1])])
theorem hd_1748 : con_1748.1 = (yX8_at, cX8_at, 3, (some .long)) := rfl
noncomputable def cu_1748 : List CUT2 := []
theorem ch_1748 : staG tb_X8_at 1 bt_RX8 [] ct_1253 [] [] cu_1748 11 con_1748 = true := by decide +kernel
theorem vl_1748 (l : Launch) : Vld2 l vwCl gTbl con_1748 := conR_ok3 gT_all (hd_1748) rfl pn_RX8 tk_X8_at bo_RX8 xo_RX8 (cto_1253 l) ch_1748 cut_nil
/-- RookHusting$Slots at -/
noncomputable def con_1749 : Con2 := ((yX8_at, cX8_at, 3, (some .long)), (0, 0), ([(6, 0, 0), (0, 1, 0), (0, 25, 0)], [(0, 0), (0, 0), (0, 0), (0, 0), (0, 0), (0, 0), (0, 16)], [.inl (8, [(6, 1, 0), (8, 4, 0), (8, 5, 0)]), ac_956], []), [((4, 6, 0), gi_1118, hq_788, [], [1])])
theorem hd_1749 : con_1749.1 = (yX8_at, cX8_at, 3, (some .long)) := rfl
noncomputable def cu_1749 : List CUT2 := []
theorem ch_1749 : staG tb_X8_at 1 bt_RX8 [] ct_1253 [] [] cu_1749 11 con_1749 = true := by decide +kernel
theorem vl_1749 (l : Launch) : Vld2 l vwCl gTbl con_1749 := conR_ok3 gT_all (hd_1749) rfl pn_RX8 tk_X8_at bo_RX8 xo_RX8 (cto_1253 l) ch_1749 cut_nil
/-- RookHusting$Slots at -/
noncomputable def con_1750 : Con2 := ((yX8_at, cX8_at, 3, (some .long)), (0, 0), ([(6, 0, 0), (0, 1, 0), (0, 26, 0)], [(0, 0), (0, 0), (0, 0), (0, 0), (0, 0), (0, 0), (0, 250)], [.inl (8, [(6, 1, 0), (8, 4, 0), (8, 5, 0)]), ac_957], []), [((4, 6, 0), gi_1119, hq_789, [], [1])])
theorem hd_1750 : con_1750.1 = (yX8_at, cX8_at, 3, (some .long)) := rfl
noncomputable def cu_1750 : List CUT2 := []
theorem ch_1750 : staG tb_X8_at 1 bt_RX8 [] ct_1253 [] [] cu_1750 11 con_1750 = true := by decide +kernel
theorem vl_1750 (l : Launch) : Vld2 l vwCl gTbl con_1750 := conR_ok3 gT_all (hd_1750) rfl pn_RX8 tk_X8_at bo_RX8 xo_RX8 (cto_1253 l) ch_1750 cut_nil
/-- RookHusting$Slots at -/
noncomputable def con_1751 : Con2 := ((yX8_at, cX8_at, 3, (some .long)), (0, 0), ([(6, 0, 0), (0, 1, 0), (0, 27, 0)], [(0, 0), (0, 0), (0, 0), (0, 0), (0, 0), (0, 0), (0, 4)], [.inl (8, [(6, 1, 0), (8, 4, 0), (8, 5, 0)]), ac_958], []), [((4, 6, 0), gi_1117, hq_790, [], [1])])
theorem hd_1751 : con_1751.1 = (yX8_at, cX8_at, 3, (some .long)) := rfl
noncomputable def cu_1751 : List CUT2 := []
theorem ch_1751 : staG tb_X8_at 1 bt_RX8 [] ct_1253 [] [] cu_1751 11 con_1751 = true := by decide +kernel
theorem vl_1751 (l : Launch) : Vld2 l vwCl gTbl con_1751 := conR_ok3 gT_all (hd_1751) rfl pn_RX8 tk_X8_at bo_RX8 xo_RX8 (cto_1253 l) ch_1751 cut_nil
/-- RookHusting$Slots at -/
noncomputable def con_1752 : Con2 := ((yX8_at, cX8_at, 3, (some .long)), (0, 0), ([(6, 0, 0), (0, 1, 0), (0, 28, 0)], [(0, 0), (0, 0), (0, 0), (0, 0), (0, 0), (0, 0), (0, 16)], [.inl (8, [(6, 1, 0), (8, 4, 0), (8, 5, 0)]), ac_959], []), [((4, 6, 0), gi_1118, hq_791, [], [1])])
theorem hd_1752 : con_1752.1 = (yX8_at, cX8_at, 3, (some .long)) := rfl
noncomputable def cu_1752 : List CUT2 := []
theorem ch_1752 : staG tb_X8_at 1 bt_RX8 [] ct_1253 [] [] cu_1752 11 con_1752 = true := by decide +kernel
theorem vl_1752 (l : Launch) : Vld2 l vwCl gTbl con_1752 := conR_ok3 gT_all (hd_1752) rfl pn_RX8 tk_X8_at bo_RX8 xo_RX8 (cto_1253 l) ch_1752 cut_nil
/-- RookHusting$Slots at -/
noncomputable def con_1753 : Con2 := ((yX8_at, cX8_at, 3, (some .long)), (0, 0), ([(6, 0, 0), (0, 1, 0), (0, 29, 0)], [(0, 0), (0, 0), (0, 0), (0, 0), (0, 0), (0, 0), (0, 250)], [.inl (8, [(6, 1, 0), (8, 4, 0), (8, 5, 0)]), ac_960], []), [((4, 6, 0), gi_1119, hq_792, [], [1])])
theorem hd_1753 : con_1753.1 = (yX8_at, cX8_at, 3, (some .long)) := rfl
noncomputable def cu_1753 : List CUT2 := []
theorem ch_1753 : staG tb_X8_at 1 bt_RX8 [] ct_1253 [] [] cu_1753 11 con_1753 = true := by decide +kernel
theorem vl_1753 (l : Launch) : Vld2 l vwCl gTbl con_1753 := conR_ok3 gT_all (hd_1753) rfl pn_RX8 tk_X8_at bo_RX8 xo_RX8 (cto_1253 l) ch_1753 cut_nil
/-- RookHusting$Slots at -/
noncomputable def con_1754 : Con2 := ((yX8_at, cX8_at, 3, (some .long)), (0, 0), ([(6, 0, 0), (0, 1, 0), (0, 30, 0)], [(0, 0), (0, 0), (0, 0), (0, 0), (0, 0), (0, 0), (0, 4)], [.inl (8, [(6, 1, 0), (8, 4, 0), (8, 5, 0)]), ac_961], []), [((4, 6, 0), gi_1117, hq_793, [], [1])])
theorem hd_1754 : con_1754.1 = (yX8_at, cX8_at, 3, (some .long)) := rfl
noncomputable def cu_1754 : List CUT2 := []
theorem ch_1754 : staG tb_X8_at 1 bt_RX8 [] ct_1253 [] [] cu_1754 11 con_1754 = true := by decide +kernel
theorem vl_1754 (l : Launch) : Vld2 l vwCl gTbl con_1754 := conR_ok3 gT_all (hd_1754) rfl pn_RX8 tk_X8_at bo_RX8 xo_RX8 (cto_1253 l) ch_1754 cut_nil
/-- RookHusting$Slots at -/
noncomputable def con_1755 : Con2 := ((yX8_at, cX8_at, 3, (some .long)), (0, 0), ([(6, 0, 0), (0, 1, 0), (0, 31, 0)], [(0, 0), (0, 0), (0, 0), (0, 0), (0, 0), (0, 0), (0, 16)], [.inl (8, [(6, 1, 0), (8, 4, 0), (8, 5, 0)]), ac_962], []), [((4, 6, 0), gi_1118, hq_794, [], [1])])
theorem hd_1755 : con_1755.1 = (yX8_at, cX8_at, 3, (some .long)) := rfl
noncomputable def cu_1755 : List CUT2 := []
theorem ch_1755 : staG tb_X8_at 1 bt_RX8 [] ct_1253 [] [] cu_1755 11 con_1755 = true := by decide +kernel
theorem vl_1755 (l : Launch) : Vld2 l vwCl gTbl con_1755 := conR_ok3 gT_all (hd_1755) rfl pn_RX8 tk_X8_at bo_RX8 xo_RX8 (cto_1253 l) ch_1755 cut_nil
/-- RookHusting$Slots at -/
noncomputable def con_1756 : Con2 := ((yX8_at, cX8_at, 3, (some .long)), (0, 0), ([(6, 0, 0), (0, 1, 0), (0, 32, 0)], [(0, 0), (0, 0), (0, 0), (0, 0), (0, 0), (0, 0), (0, 250)], [.inl (8, [(6, 1, 0), (8, 4, 0), (8, 5, 0)]), ac_963], []), [((4, 6, 0), gi_1119, hq_795, [], [1])])
theorem hd_1756 : con_1756.1 = (yX8_at, cX8_at, 3, (some .long)) := rfl
noncomputable def cu_1756 : List CUT2 := []
theorem ch_1756 : staG tb_X8_at 1 bt_RX8 [] ct_1253 [] [] cu_1756 11 con_1756 = true := by decide +kernel
theorem vl_1756 (l : Launch) : Vld2 l vwCl gTbl con_1756 := conR_ok3 gT_all (hd_1756) rfl pn_RX8 tk_X8_at bo_RX8 xo_RX8 (cto_1253 l) ch_1756 cut_nil
/-- RookHusting$Slots at -/
noncomputable def con_1757 : Con2 := ((yX8_at, cX8_at, 3, (some .long)), (0, 0), ([(6, 0, 0), (0, 1, 0), (0, 33, 0)], [(0, 0), (0, 0), (0, 0), (0, 0), (0, 0), (0, 0), (0, 4)], [.inl (8, [(6, 1, 0), (8, 4, 0), (8, 5, 0)]), ac_964], []), [((4, 6, 0), gi_1117, hq_796, [], [1])])
theorem hd_1757 : con_1757.1 = (yX8_at, cX8_at, 3, (some .long)) := rfl
noncomputable def cu_1757 : List CUT2 := []
theorem ch_1757 : staG tb_X8_at 1 bt_RX8 [] ct_1253 [] [] cu_1757 11 con_1757 = true := by decide +kernel
theorem vl_1757 (l : Launch) : Vld2 l vwCl gTbl con_1757 := conR_ok3 gT_all (hd_1757) rfl pn_RX8 tk_X8_at bo_RX8 xo_RX8 (cto_1253 l) ch_1757 cut_nil
/-- RookHusting$Slots at -/
noncomputable def con_1758 : Con2 := ((yX8_at, cX8_at, 3, (some .long)), (0, 0), ([(6, 0, 0), (0, 1, 0), (0, 34, 0)], [(0, 0), (0, 0), (0, 0), (0, 0), (0, 0), (0, 0), (0, 16)], [.inl (8, [(6, 1, 0), (8, 4, 0), (8, 5, 0)]), ac_965], []), [((4, 6, 0), gi_1118, hq_797, [], [1])])
theorem hd_1758 : con_1758.1 = (yX8_at, cX8_at, 3, (some .long)) := rfl
noncomputable def cu_1758 : List CUT2 := []
theorem ch_1758 : staG tb_X8_at 1 bt_RX8 [] ct_1253 [] [] cu_1758 11 con_1758 = true := by decide +kernel
theorem vl_1758 (l : Launch) : Vld2 l vwCl gTbl con_1758 := conR_ok3 gT_all (hd_1758) rfl pn_RX8 tk_X8_at bo_RX8 xo_RX8 (cto_1253 l) ch_1758 cut_nil
/-- RookHusting$Slots at -/
noncomputable def con_1759 : Con2 := ((yX8_at, cX8_at, 3, (some .long)), (0, 0), ([(6, 0, 0), (0, 1, 0), (0, 35, 0)], [(0, 0), (0, 0), (0, 0), (0, 0), (0, 0), (0, 0), (0, 250)], [.inl (8, [(6, 1, 0), (8, 4, 0), (8, 5, 0)]), ac_966], []), [((4, 6, 0), gi_1119, hq_798, [], [1])])
theorem hd_1759 : con_1759.1 = (yX8_at, cX8_at, 3, (some .long)) := rfl
noncomputable def cu_1759 : List CUT2 := []
theorem ch_1759 : staG tb_X8_at 1 bt_RX8 [] ct_1253 [] [] cu_1759 11 con_1759 = true := by decide +kernel
theorem vl_1759 (l : Launch) : Vld2 l vwCl gTbl con_1759 := conR_ok3 gT_all (hd_1759) rfl pn_RX8 tk_X8_at bo_RX8 xo_RX8 (cto_1253 l) ch_1759 cut_nil
/-- RookHusting$Slots at -/
noncomputable def con_1760 : Con2 := ((yX8_at, cX8_at, 3, (some .long)), (0, 0), ([(6, 0, 0), (0, 1, 0), (0, 36, 0)], [(0, 0), (0, 0), (0, 0), (0, 0), (0, 0), (0, 0), (0, 4)], [.inl (8, [(6, 1, 0), (8, 4, 0), (8, 5, 0)]), ac_967], []), [((4, 6, 0), gi_1117, hq_799, [], [1])])
theorem hd_1760 : con_1760.1 = (yX8_at, cX8_at, 3, (some .long)) := rfl
noncomputable def cu_1760 : List CUT2 := []
theorem ch_1760 : staG tb_X8_at 1 bt_RX8 [] ct_1253 [] [] cu_1760 11 con_1760 = true := by decide +kernel
theorem vl_1760 (l : Launch) : Vld2 l vwCl gTbl con_1760 := conR_ok3 gT_all (hd_1760) rfl pn_RX8 tk_X8_at bo_RX8 xo_RX8 (cto_1253 l) ch_1760 cut_nil
/-- RookHusting$Slots at -/
noncomputable def con_1761 : Con2 := ((yX8_at, cX8_at, 3, (some .long)), (0, 0), ([(6, 0, 0), (0, 1, 0), (0, 37, 0)], [(0, 0), (0, 0), (0, 0), (0, 0), (0, 0), (0, 0), (0, 16)], [.inl (8, [(6, 1, 0), (8, 4, 0), (8, 5, 0)]), ac_968], []), [((4, 6, 0), gi_1118, hq_800, [], [1])])
theorem hd_1761 : con_1761.1 = (yX8_at, cX8_at, 3, (some .long)) := rfl
noncomputable def cu_1761 : List CUT2 := []
theorem ch_1761 : staG tb_X8_at 1 bt_RX8 [] ct_1253 [] [] cu_1761 11 con_1761 = true := by decide +kernel
theorem vl_1761 (l : Launch) : Vld2 l vwCl gTbl con_1761 := conR_ok3 gT_all (hd_1761) rfl pn_RX8 tk_X8_at bo_RX8 xo_RX8 (cto_1253 l) ch_1761 cut_nil
/-- RookHusting$Slots at -/
noncomputable def con_1762 : Con2 := ((yX8_at, cX8_at, 3, (some .long)), (0, 0), ([(6, 0, 0), (0, 1, 0), (0, 38, 0)], [(0, 0), (0, 0), (0, 0), (0, 0), (0, 0), (0, 0), (0, 250)], [.inl (8, [(6, 1, 0), (8, 4, 0), (8, 5, 0)]), ac_969], []), [((4, 6, 0), gi_1119, hq_801, [], [1])])
theorem hd_1762 : con_1762.1 = (yX8_at, cX8_at, 3, (some .long)) := rfl
noncomputable def cu_1762 : List CUT2 := []
theorem ch_1762 : staG tb_X8_at 1 bt_RX8 [] ct_1253 [] [] cu_1762 11 con_1762 = true := by decide +kernel
theorem vl_1762 (l : Launch) : Vld2 l vwCl gTbl con_1762 := conR_ok3 gT_all (hd_1762) rfl pn_RX8 tk_X8_at bo_RX8 xo_RX8 (cto_1253 l) ch_1762 cut_nil
/-- RookHusting$Slots at -/
noncomputable def con_1763 : Con2 := ((yX8_at, cX8_at, 3, (some .long)), (0, 0), ([(6, 0, 0), (0, 1, 0), (0, 39, 0)], [(0, 0), (0, 0), (0, 0), (0, 0), (0, 0), (0, 0), (0, 4)], [.inl (8, [(6, 1, 0), (8, 4, 0), (8, 5, 0)]), ac_970], []), [((4, 6, 0), gi_1117, hq_802, [], [1])])
theorem hd_1763 : con_1763.1 = (yX8_at, cX8_at, 3, (some .long)) := rfl
noncomputable def cu_1763 : List CUT2 := []
theorem ch_1763 : staG tb_X8_at 1 bt_RX8 [] ct_1253 [] [] cu_1763 11 con_1763 = true := by decide +kernel
theorem vl_1763 (l : Launch) : Vld2 l vwCl gTbl con_1763 := conR_ok3 gT_all (hd_1763) rfl pn_RX8 tk_X8_at bo_RX8 xo_RX8 (cto_1253 l) ch_1763 cut_nil
/-- RookHusting$Slots at -/
noncomputable def con_1764 : Con2 := ((yX8_at, cX8_at, 3, (some .long)), (0, 0), ([(6, 0, 0), (0, 1, 0), (0, 40, 0)], [(0, 0), (0, 0), (0, 0), (0, 0), (0, 0), (0, 0), (0, 16)], [.inl (8, [(6, 1, 0), (8, 4, 0), (8, 5, 0)]), ac_971], []), [((4, 6, 0), gi_1118, hq_803, [], [1])])
theorem hd_1764 : con_1764.1 = (yX8_at, cX8_at, 3, (some .long)) := rfl
noncomputable def cu_1764 : List CUT2 := []
theorem ch_1764 : staG tb_X8_at 1 bt_RX8 [] ct_1253 [] [] cu_1764 11 con_1764 = true := by decide +kernel
theorem vl_1764 (l : Launch) : Vld2 l vwCl gTbl con_1764 := conR_ok3 gT_all (hd_1764) rfl pn_RX8 tk_X8_at bo_RX8 xo_RX8 (cto_1253 l) ch_1764 cut_nil
/-- RookHusting$Slots at -/
noncomputable def con_1765 : Con2 := ((yX8_at, cX8_at, 3, (some .long)), (0, 0), ([(6, 0, 0), (0, 1, 0), (0, 41, 0)], [(0, 0), (0, 0), (0, 0), (0, 0), (0, 0), (0, 0), (0, 250)], [.inl (8, [(6, 1, 0), (8, 4, 0), (8, 5, 0)]), ac_972], []), [((4, 6, 0), gi_1119, hq_804, [], [1])])
theorem hd_1765 : con_1765.1 = (yX8_at, cX8_at, 3, (some .long)) := rfl
noncomputable def cu_1765 : List CUT2 := []
theorem ch_1765 : staG tb_X8_at 1 bt_RX8 [] ct_1253 [] [] cu_1765 11 con_1765 = true := by decide +kernel
theorem vl_1765 (l : Launch) : Vld2 l vwCl gTbl con_1765 := conR_ok3 gT_all (hd_1765) rfl pn_RX8 tk_X8_at bo_RX8 xo_RX8 (cto_1253 l) ch_1765 cut_nil
/-- RookHusting$Slots at -/
noncomputable def con_1766 : Con2 := ((yX8_at, cX8_at, 3, (some .long)), (0, 0), ([(6, 0, 0), (0, 1, 0), (0, 42, 0)], [(0, 0), (0, 0), (0, 0), (0, 0), (0, 0), (0, 0), (0, 4)], [.inl (8, [(6, 1, 0), (8, 4, 0), (8, 5, 0)]), ac_973], []), [((4, 6, 0), gi_1117, hq_805, [], [1])])
theorem hd_1766 : con_1766.1 = (yX8_at, cX8_at, 3, (some .long)) := rfl
noncomputable def cu_1766 : List CUT2 := []
theorem ch_1766 : staG tb_X8_at 1 bt_RX8 [] ct_1253 [] [] cu_1766 11 con_1766 = true := by decide +kernel
theorem vl_1766 (l : Launch) : Vld2 l vwCl gTbl con_1766 := conR_ok3 gT_all (hd_1766) rfl pn_RX8 tk_X8_at bo_RX8 xo_RX8 (cto_1253 l) ch_1766 cut_nil
/-- RookHusting$Slots at -/
noncomputable def con_1767 : Con2 := ((yX8_at, cX8_at, 3, (some .long)), (0, 0), ([(6, 0, 0), (0, 1, 0), (0, 43, 0)], [(0, 0), (0, 0), (0, 0), (0, 0), (0, 0), (0, 0), (0, 16)], [.inl (8, [(6, 1, 0), (8, 4, 0), (8, 5, 0)]), ac_974], []), [((4, 6, 0), gi_1118, hq_806, [], [1])])
theorem hd_1767 : con_1767.1 = (yX8_at, cX8_at, 3, (some .long)) := rfl
noncomputable def cu_1767 : List CUT2 := []
theorem ch_1767 : staG tb_X8_at 1 bt_RX8 [] ct_1253 [] [] cu_1767 11 con_1767 = true := by decide +kernel
theorem vl_1767 (l : Launch) : Vld2 l vwCl gTbl con_1767 := conR_ok3 gT_all (hd_1767) rfl pn_RX8 tk_X8_at bo_RX8 xo_RX8 (cto_1253 l) ch_1767 cut_nil
/-- RookHusting$Slots at -/
noncomputable def con_1768 : Con2 := ((yX8_at, cX8_at, 3, (some .long)), (0, 0), ([(6, 0, 0), (0, 1, 0), (0, 44, 0)], [(0, 0), (0, 0), (0, 0), (0, 0), (0, 0), (0, 0), (0, 250)], [.inl (8, [(6, 1, 0), (8, 4, 0), (8, 5, 0)]), ac_975], []), [((4, 6, 0), gi_1119, hq_807, [], [1])])
theorem hd_1768 : con_1768.1 = (yX8_at, cX8_at, 3, (some .long)) := rfl
noncomputable def cu_1768 : List CUT2 := []
theorem ch_1768 : staG tb_X8_at 1 bt_RX8 [] ct_1253 [] [] cu_1768 11 con_1768 = true := by decide +kernel
theorem vl_1768 (l : Launch) : Vld2 l vwCl gTbl con_1768 := conR_ok3 gT_all (hd_1768) rfl pn_RX8 tk_X8_at bo_RX8 xo_RX8 (cto_1253 l) ch_1768 cut_nil
/-- RookHusting$Slots at -/
noncomputable def con_1769 : Con2 := ((yX8_at, cX8_at, 3, (some .long)), (0, 0), ([(6, 0, 0), (0, 1, 0), (0, 45, 0)], [(0, 0), (0, 0), (0, 0), (0, 0), (0, 0), (0, 0), (0, 4)], [.inl (8, [(6, 1, 0), (8, 4, 0), (8, 5, 0)]), ac_976], []), [((4, 6, 0), gi_1117, hq_808, [], [1])])
theorem hd_1769 : con_1769.1 = (yX8_at, cX8_at, 3, (some .long)) := rfl
noncomputable def cu_1769 : List CUT2 := []
theorem ch_1769 : staG tb_X8_at 1 bt_RX8 [] ct_1253 [] [] cu_1769 11 con_1769 = true := by decide +kernel
theorem vl_1769 (l : Launch) : Vld2 l vwCl gTbl con_1769 := conR_ok3 gT_all (hd_1769) rfl pn_RX8 tk_X8_at bo_RX8 xo_RX8 (cto_1253 l) ch_1769 cut_nil
/-- RookHusting$Slots at -/
noncomputable def con_1770 : Con2 := ((yX8_at, cX8_at, 3, (some .long)), (0, 0), ([(6, 0, 0), (0, 1, 0), (0, 46, 0)], [(0, 0), (0, 0), (0, 0), (0, 0), (0, 0), (0, 0), (0, 16)], [.inl (8, [(6, 1, 0), (8, 4, 0), (8, 5, 0)]), ac_977], []), [((4, 6, 0), gi_1118, hq_809, [], [1])])
theorem hd_1770 : con_1770.1 = (yX8_at, cX8_at, 3, (some .long)) := rfl
noncomputable def cu_1770 : List CUT2 := []
theorem ch_1770 : staG tb_X8_at 1 bt_RX8 [] ct_1253 [] [] cu_1770 11 con_1770 = true := by decide +kernel
theorem vl_1770 (l : Launch) : Vld2 l vwCl gTbl con_1770 := conR_ok3 gT_all (hd_1770) rfl pn_RX8 tk_X8_at bo_RX8 xo_RX8 (cto_1253 l) ch_1770 cut_nil
/-- RookHusting$Slots at -/
noncomputable def con_1771 : Con2 := ((yX8_at, cX8_at, 3, (some .long)), (0, 0), ([(6, 0, 0), (0, 1, 0), (0, 47, 0)], [(0, 0), (0, 0), (0, 0), (0, 0), (0, 0), (0, 0), (0, 250)], [.inl (8, [(6, 1, 0), (8, 4, 0), (8, 5, 0)]), ac_978], []), [((4, 6, 0), gi_1119, hq_810, [], [1])])
theorem hd_1771 : con_1771.1 = (yX8_at, cX8_at, 3, (some .long)) := rfl
noncomputable def cu_1771 : List CUT2 := []
theorem ch_1771 : staG tb_X8_at 1 bt_RX8 [] ct_1253 [] [] cu_1771 11 con_1771 = true := by decide +kernel
theorem vl_1771 (l : Launch) : Vld2 l vwCl gTbl con_1771 := conR_ok3 gT_all (hd_1771) rfl pn_RX8 tk_X8_at bo_RX8 xo_RX8 (cto_1253 l) ch_1771 cut_nil
/-- RookHusting$Slots at -/
noncomputable def con_1772 : Con2 := ((yX8_at, cX8_at, 3, (some .long)), (0, 0), ([(6, 0, 0), (0, 1, 0), (0, 48, 0)], [(0, 0), (0, 0), (0, 0), (0, 0), (0, 0), (0, 0), (0, 4)], [.inl (8, [(6, 1, 0), (8, 4, 0), (8, 5, 0)]), ac_979], []), [((4, 6, 0), gi_1117, hq_811, [], [1])])
theorem hd_1772 : con_1772.1 = (yX8_at, cX8_at, 3, (some .long)) := rfl
noncomputable def cu_1772 : List CUT2 := []
theorem ch_1772 : staG tb_X8_at 1 bt_RX8 [] ct_1253 [] [] cu_1772 11 con_1772 = true := by decide +kernel
theorem vl_1772 (l : Launch) : Vld2 l vwCl gTbl con_1772 := conR_ok3 gT_all (hd_1772) rfl pn_RX8 tk_X8_at bo_RX8 xo_RX8 (cto_1253 l) ch_1772 cut_nil
/-- RookHusting$Slots at -/
noncomputable def con_1773 : Con2 := ((yX8_at, cX8_at, 3, (some .long)), (0, 0), ([(6, 0, 0), (0, 1, 0), (0, 49, 0)], [(0, 0), (0, 0), (0, 0), (0, 0), (0, 0), (0, 0), (0, 16)], [.inl (8, [(6, 1, 0), (8, 4, 0), (8, 5, 0)]), ac_980], []), [((4, 6, 0), gi_1118, hq_812, [], [1])])
theorem hd_1773 : con_1773.1 = (yX8_at, cX8_at, 3, (some .long)) := rfl
noncomputable def cu_1773 : List CUT2 := []
theorem ch_1773 : staG tb_X8_at 1 bt_RX8 [] ct_1253 [] [] cu_1773 11 con_1773 = true := by decide +kernel
theorem vl_1773 (l : Launch) : Vld2 l vwCl gTbl con_1773 := conR_ok3 gT_all (hd_1773) rfl pn_RX8 tk_X8_at bo_RX8 xo_RX8 (cto_1253 l) ch_1773 cut_nil
/-- RookHusting$Slots at -/
noncomputable def con_1774 : Con2 := ((yX8_at, cX8_at, 3, (some .long)), (0, 0), ([(6, 0, 0), (0, 1, 0), (0, 50, 0)], [(0, 0), (0, 0), (0, 0), (0, 0), (0, 0), (0, 0), (0, 250)], [.inl (8, [(6, 1, 0), (8, 4, 0), (8, 5, 0)]), ac_981], []), [((4, 6, 0), gi_1119, hq_813, [], [1])])
theorem hd_1774 : con_1774.1 = (yX8_at, cX8_at, 3, (some .long)) := rfl
noncomputable def cu_1774 : List CUT2 := []
theorem ch_1774 : staG tb_X8_at 1 bt_RX8 [] ct_1253 [] [] cu_1774 11 con_1774 = true := by decide +kernel
theorem vl_1774 (l : Launch) : Vld2 l vwCl gTbl con_1774 := conR_ok3 gT_all (hd_1774) rfl pn_RX8 tk_X8_at bo_RX8 xo_RX8 (cto_1253 l) ch_1774 cut_nil
/-- RookHusting$Slots at -/
noncomputable def con_1775 : Con2 := ((yX8_at, cX8_at, 3, (some .long)), (0, 0), ([(6, 0, 0), (0, 1, 0), (0, 51, 0)], [(0, 0), (0, 0), (0, 0), (0, 0), (0, 0), (0, 0), (0, 4)], [.inl (8, [(6, 1, 0), (8, 4, 0), (8, 5, 0)]), ac_982], []), [((4, 6, 0), gi_1117, hq_814, [], [1])])
theorem hd_1775 : con_1775.1 = (yX8_at, cX8_at, 3, (some .long)) := rfl
noncomputable def cu_1775 : List CUT2 := []
theorem ch_1775 : staG tb_X8_at 1 bt_RX8 [] ct_1253 [] [] cu_1775 11 con_1775 = true := by decide +kernel
theorem vl_1775 (l : Launch) : Vld2 l vwCl gTbl con_1775 := conR_ok3 gT_all (hd_1775) rfl pn_RX8 tk_X8_at bo_RX8 xo_RX8 (cto_1253 l) ch_1775 cut_nil
/-- RookHusting$Slots at -/
noncomputable def con_1776 : Con2 := ((yX8_at, cX8_at, 3, (some .long)), (0, 0), ([(6, 0, 0), (0, 1, 0), (0, 52, 0)], [(0, 0), (0, 0), (0, 0), (0, 0), (0, 0), (0, 0), (0, 16)], [.inl (8, [(6, 1, 0), (8, 4, 0), (8, 5, 0)]), ac_983], []), [((4, 6, 0), gi_1118, hq_815, [], [1])])
theorem hd_1776 : con_1776.1 = (yX8_at, cX8_at, 3, (some .long)) := rfl
noncomputable def cu_1776 : List CUT2 := []
theorem ch_1776 : staG tb_X8_at 1 bt_RX8 [] ct_1253 [] [] cu_1776 11 con_1776 = true := by decide +kernel
theorem vl_1776 (l : Launch) : Vld2 l vwCl gTbl con_1776 := conR_ok3 gT_all (hd_1776) rfl pn_RX8 tk_X8_at bo_RX8 xo_RX8 (cto_1253 l) ch_1776 cut_nil
/-- RookHusting$Slots at -/
noncomputable def con_1777 : Con2 := ((yX8_at, cX8_at, 3, (some .long)), (0, 0), ([(6, 0, 0), (0, 1, 0), (0, 53, 0)], [(0, 0), (0, 0), (0, 0), (0, 0), (0, 0), (0, 0), (0, 250)], [.inl (8, [(6, 1, 0), (8, 4, 0), (8, 5, 0)]), ac_984], []), [((4, 6, 0), gi_1119, hq_816, [], [1])])
theorem hd_1777 : con_1777.1 = (yX8_at, cX8_at, 3, (some .long)) := rfl
noncomputable def cu_1777 : List CUT2 := []
theorem ch_1777 : staG tb_X8_at 1 bt_RX8 [] ct_1253 [] [] cu_1777 11 con_1777 = true := by decide +kernel
theorem vl_1777 (l : Launch) : Vld2 l vwCl gTbl con_1777 := conR_ok3 gT_all (hd_1777) rfl pn_RX8 tk_X8_at bo_RX8 xo_RX8 (cto_1253 l) ch_1777 cut_nil
/-- RookHusting$Slots at -/
noncomputable def con_1778 : Con2 := ((yX8_at, cX8_at, 3, (some .long)), (0, 0), ([(6, 0, 0), (0, 1, 0), (0, 54, 0)], [(0, 0), (0, 0), (0, 0), (0, 0), (0, 0), (0, 0), (0, 4)], [.inl (8, [(6, 1, 0), (8, 4, 0), (8, 5, 0)]), ac_985], []), [((4, 6, 0), gi_1117, hq_817, [], [1])])
theorem hd_1778 : con_1778.1 = (yX8_at, cX8_at, 3, (some .long)) := rfl
noncomputable def cu_1778 : List CUT2 := []
theorem ch_1778 : staG tb_X8_at 1 bt_RX8 [] ct_1253 [] [] cu_1778 11 con_1778 = true := by decide +kernel
theorem vl_1778 (l : Launch) : Vld2 l vwCl gTbl con_1778 := conR_ok3 gT_all (hd_1778) rfl pn_RX8 tk_X8_at bo_RX8 xo_RX8 (cto_1253 l) ch_1778 cut_nil
/-- RookHusting$Slots at -/
noncomputable def con_1779 : Con2 := ((yX8_at, cX8_at, 3, (some .long)), (0, 0), ([(6, 0, 0), (0, 1, 0), (0, 55, 0)], [(0, 0), (0, 0), (0, 0), (0, 0), (0, 0), (0, 0), (0, 16)], [.inl (8, [(6, 1, 0), (8, 4, 0), (8, 5, 0)]), ac_986], []), [((4, 6, 0), gi_1118, hq_818, [], [1])])
theorem hd_1779 : con_1779.1 = (yX8_at, cX8_at, 3, (some .long)) := rfl
noncomputable def cu_1779 : List CUT2 := []
theorem ch_1779 : staG tb_X8_at 1 bt_RX8 [] ct_1253 [] [] cu_1779 11 con_1779 = true := by decide +kernel
theorem vl_1779 (l : Launch) : Vld2 l vwCl gTbl con_1779 := conR_ok3 gT_all (hd_1779) rfl pn_RX8 tk_X8_at bo_RX8 xo_RX8 (cto_1253 l) ch_1779 cut_nil
/-- RookHusting$Slots at -/
noncomputable def con_1780 : Con2 := ((yX8_at, cX8_at, 3, (some .long)), (0, 0), ([(6, 0, 0), (0, 1, 0), (0, 56, 0)], [(0, 0), (0, 0), (0, 0), (0, 0), (0, 0), (0, 0), (0, 250)], [.inl (8, [(6, 1, 0), (8, 4, 0), (8, 5, 0)]), ac_987], []), [((4, 6, 0), gi_1119, hq_819, [], [1])])
theorem hd_1780 : con_1780.1 = (yX8_at, cX8_at, 3, (some .long)) := rfl
noncomputable def cu_1780 : List CUT2 := []
theorem ch_1780 : staG tb_X8_at 1 bt_RX8 [] ct_1253 [] [] cu_1780 11 con_1780 = true := by decide +kernel
theorem vl_1780 (l : Launch) : Vld2 l vwCl gTbl con_1780 := conR_ok3 gT_all (hd_1780) rfl pn_RX8 tk_X8_at bo_RX8 xo_RX8 (cto_1253 l) ch_1780 cut_nil
/-- RookHusting$Slots at -/
noncomputable def con_1781 : Con2 := ((yX8_at, cX8_at, 3, (some .long)), (0, 0), ([(6, 0, 0), (0, 1, 0), (0, 57, 0)], [(0, 0), (0, 0), (0, 0), (0, 0), (0, 0), (0, 0), (0, 4)], [.inl (8, [(6, 1, 0), (8, 4, 0), (8, 5, 0)]), ac_988], []), [((4, 6, 0), gi_1117, hq_820, [], [1])])
theorem hd_1781 : con_1781.1 = (yX8_at, cX8_at, 3, (some .long)) := rfl
noncomputable def cu_1781 : List CUT2 := []
theorem ch_1781 : staG tb_X8_at 1 bt_RX8 [] ct_1253 [] [] cu_1781 11 con_1781 = true := by decide +kernel
theorem vl_1781 (l : Launch) : Vld2 l vwCl gTbl con_1781 := conR_ok3 gT_all (hd_1781) rfl pn_RX8 tk_X8_at bo_RX8 xo_RX8 (cto_1253 l) ch_1781 cut_nil
/-- RookHusting$Slots at -/
noncomputable def con_1782 : Con2 := ((yX8_at, cX8_at, 3, (some .long)), (0, 0), ([(6, 0, 0), (0, 1, 0), (0, 58, 0)], [(0, 0), (0, 0), (0, 0), (0, 0), (0, 0), (0, 0), (0, 16)], [.inl (8, [(6, 1, 0), (8, 4, 0), (8, 5, 0)]), ac_989], []), [((4, 6, 0), gi_1118, hq_821, [], [1])])
theorem hd_1782 : con_1782.1 = (yX8_at, cX8_at, 3, (some .long)) := rfl
noncomputable def cu_1782 : List CUT2 := []
theorem ch_1782 : staG tb_X8_at 1 bt_RX8 [] ct_1253 [] [] cu_1782 11 con_1782 = true := by decide +kernel
theorem vl_1782 (l : Launch) : Vld2 l vwCl gTbl con_1782 := conR_ok3 gT_all (hd_1782) rfl pn_RX8 tk_X8_at bo_RX8 xo_RX8 (cto_1253 l) ch_1782 cut_nil
/-- RookHusting$Slots at -/
noncomputable def con_1783 : Con2 := ((yX8_at, cX8_at, 3, (some .long)), (0, 0), ([(6, 0, 0), (0, 1, 0), (0, 59, 0)], [(0, 0), (0, 0), (0, 0), (0, 0), (0, 0), (0, 0), (0, 250)], [.inl (8, [(6, 1, 0), (8, 4, 0), (8, 5, 0)]), ac_990], []), [((4, 6, 0), gi_1119, hq_822, [], [1])])
theorem hd_1783 : con_1783.1 = (yX8_at, cX8_at, 3, (some .long)) := rfl
noncomputable def cu_1783 : List CUT2 := []
theorem ch_1783 : staG tb_X8_at 1 bt_RX8 [] ct_1253 [] [] cu_1783 11 con_1783 = true := by decide +kernel
theorem vl_1783 (l : Launch) : Vld2 l vwCl gTbl con_1783 := conR_ok3 gT_all (hd_1783) rfl pn_RX8 tk_X8_at bo_RX8 xo_RX8 (cto_1253 l) ch_1783 cut_nil
