/-! ===== contracts, 37 ===== -/
/-- RookHusting isAsSeen -/
noncomputable def gi_1501 : GI := jl_n [gp_689, jl_z 9]
noncomputable def gi_1502 : GI := jl_n [gp_689, jl_z 10]
noncomputable def con_1806 : Con2 := ((yX11_isAsSeen, cX11_isAsSeen, 4, (some .boolean)), (1, 22), ([(6, 0, 0), (0, 1, 0)], gi_1501, hc_205, []), [((0, 0, 0), gi_1502, hq_898, [], [1]), ((0, 1, 0), gi_1502, hq_898, [], [1])])
theorem hd_1806 : con_1806.1 = (yX11_isAsSeen, cX11_isAsSeen, 4, (some .boolean)) := rfl
noncomputable def ct_1806 : CTB2 := [(21, 473, 0, con_1751, [1, 3]), (21, 473, 0, con_1748, [1, 3]), (21, 473, 0, con_1745, [1, 3]), (21, 473, 0, con_1742, [1, 3]), (21, 473, 0, con_1739, [1, 3]), (21, 473, 0, con_1736, [1, 3]), (21, 473, 0, con_1733, [1, 3]), (21, 473, 0, con_1728, [1, 3]), (21, 473, 0, con_1725, [1, 3]), (21, 473, 0, con_1722, [1, 3]), (36, 473, 0, con_1752, [1, 3]), (36, 473, 0, con_1749, [1, 3]), (36, 473, 0, con_1746, [1, 3]), (36, 473, 0, con_1743, [1, 3]), (36, 473, 0, con_1740, [1, 3]), (36, 473, 0, con_1737, [1, 3]), (36, 473, 0, con_1734, [1, 3]), (36, 473, 0, con_1729, [1, 3]), (36, 473, 0, con_1726, [1, 3]), (36, 473, 0, con_1723, [1, 3]), (60, 473, 0, con_1753, [1, 3]), (60, 473, 0, con_1750, [1, 3]), (60, 473, 0, con_1747, [1, 3]), (60, 473, 0, con_1744, [1, 3]), (60, 473, 0, con_1741, [1, 3]), (60, 473, 0, con_1738, [1, 3]), (60, 473, 0, con_1735, [1, 3]), (60, 473, 0, con_1730, [1, 3]), (60, 473, 0, con_1727, [1, 3]), (60, 473, 0, con_1724, [1, 3])]
noncomputable def gi_1503 : GI := jl_n [gp_689, jl_z 12]
noncomputable def gi_1504 : GI := jl_n [gp_689, gp_628]
noncomputable def cu_1806 : List CUT2 := [((2, [lq 0 6 0, lq 1 0 1, lq 2 0 0], [], gi_1503, hq_898), [], ([], 30)), ((2, [lq 0 6 0, lq 1 0 1, lq 2 0 3, lq 3 1 97], [], gi_1504, hq_898), [], ([], 27)), ((2, [lq 0 6 0, lq 1 0 1, lq 2 0 6, lq 3 1 97], [], gi_1504, hq_898), [], ([], 24)), ((2, [lq 0 6 0, lq 1 0 1, lq 2 0 9, lq 3 1 97], [], gi_1504, hq_898), [], ([], 21)), ((2, [lq 0 6 0, lq 1 0 1, lq 2 0 12, lq 3 1 97], [], gi_1504, hq_898), [], ([], 18)), ((2, [lq 0 6 0, lq 1 0 1, lq 2 0 15, lq 3 1 97], [], gi_1504, hq_898), [], ([], 15)), ((2, [lq 0 6 0, lq 1 0 1, lq 2 0 18, lq 3 1 97], [], gi_1504, hq_898), [], ([], 12)), ((2, [lq 0 6 0, lq 1 0 1, lq 2 0 21, lq 3 1 97], [], gi_1504, hq_898), [], ([], 9)), ((2, [lq 0 6 0, lq 1 0 1, lq 2 0 24, lq 3 1 97], [], gi_1504, hq_898), [], ([], 6)), ((2, [lq 0 6 0, lq 1 0 1, lq 2 0 27, lq 3 1 97], [], gi_1504, hq_898), [], ([], 3)), ((2, [lq 0 6 0, lq 1 0 1, lq 2 0 30, lq 3 1 97], [], gi_1504, hq_898), [], ([], 0))]
theorem ch_1806 : staG tb_X11_isAsSeen 1 bt_RX11 [] ct_1806 [] [] cu_1806 44 con_1806 = true := by decide +kernel
theorem cc_1806 : cu_1806.all (cutG tb_X11_isAsSeen 1 bt_RX11 [] ct_1806 [] [] cu_1806 44 con_1806) = true := by decide +kernel
theorem cto_1806 (l : Launch) : CTOK2 l RX11 vwCl gTbl ct_1806 := ct2_cons (vl_1751 l) ck_RX11_473_1751 (ct2_cons (vl_1748 l) ck_RX11_473_1748 (ct2_cons (vl_1745 l) ck_RX11_473_1745 (ct2_cons (vl_1742 l) ck_RX11_473_1742 (ct2_cons (vl_1739 l) ck_RX11_473_1739 (ct2_cons (vl_1736 l) ck_RX11_473_1736 (ct2_cons (vl_1733 l) ck_RX11_473_1733 (ct2_cons (vl_1728 l) ck_RX11_473_1728 (ct2_cons (vl_1725 l) ck_RX11_473_1725 (ct2_cons (vl_1722 l) ck_RX11_473_1722 (ct2_cons (vl_1752 l) ck_RX11_473_1752 (ct2_cons (vl_1749 l) ck_RX11_473_1749 (ct2_cons (vl_1746 l) ck_RX11_473_1746 (ct2_cons (vl_1743 l) ck_RX11_473_1743 (ct2_cons (vl_1740 l) ck_RX11_473_1740 (ct2_cons (vl_1737 l) ck_RX11_473_1737 (ct2_cons (vl_1734 l) ck_RX11_473_1734 (ct2_cons (vl_1729 l) ck_RX11_473_1729 (ct2_cons (vl_1726 l) ck_RX11_473_1726 (ct2_cons (vl_1723 l) ck_RX11_473_1723 (ct2_cons (vl_1753 l) ck_RX11_473_1753 (ct2_cons (vl_1750 l) ck_RX11_473_1750 (ct2_cons (vl_1747 l) ck_RX11_473_1747 (ct2_cons (vl_1744 l) ck_RX11_473_1744 (ct2_cons (vl_1741 l) ck_RX11_473_1741 (ct2_cons (vl_1738 l) ck_RX11_473_1738 (ct2_cons (vl_1735 l) ck_RX11_473_1735 (ct2_cons (vl_1730 l) ck_RX11_473_1730 (ct2_cons (vl_1727 l) ck_RX11_473_1727 (ct2_cons (vl_1724 l) ck_RX11_473_1724 (ct2_nil))))))))))))))))))))))))))))))
theorem vl_1806 (l : Launch) : Vld2 l vwCl gTbl con_1806 := conR_ok3 gT_all (hd_1806) rfl pn_RX11 tk_X11_isAsSeen bo_RX11 xo_RX11 (cto_1806 l) ch_1806 (cut_all cc_1806)
/-- RookHusting guessAll -/
noncomputable def gi_1505 : GI := jl_n [gp_677, gp_558]
noncomputable def gi_1506 : GI := jl_n [gp_677, gp_558, gp_632]
noncomputable def con_1807 : Con2 := ((yX11_guessAll, cX11_guessAll, 4, none), (6, 151), ([(6, 0, 0), (0, 1, 0), (1, 2, 0)], gi_1505, hc_206, rq_6), [((9, 0, 0), gi_1506, hq_899, [], tg_1)])
theorem hd_1807 : con_1807.1 = (yX11_guessAll, cX11_guessAll, 4, none) := rfl
theorem ck_RX11_483_1806 : COK2 RX11 vwCl gTbl 483 0 con_1806 := ⟨wd_1230, wd_125, mh_X11_isAsSeen, .inr (.inr ⟨rfl, wd_1227, wd_1229, wd_43, ⟨_, rfl, pd_X11_isAsSeen⟩, 11, _, TX11, 16, rfl, rfl⟩)⟩
noncomputable def ct_1807 : CTB2 := [(1, 208, 0, con_900, [0, 1, 2, 3, 4, 5, 6, 7, 8, 9, 10, 11, 12, 13, 14, 15, 16, 17, 18, 19, 20, 21, 22, 23, 24, 25, 26]), (36, 332, 0, con_1212, [28, 2, 29, 4, 30, 5, 31, 6]), (45, 480, 0, con_859, [28, 29]), (73, 372, 0, con_899, [32, 3, 28, 16, 33, 18, 34, 30, 35, 29, 36, 22, 23, 37, 38, 39, 31]), (78, 483, 0, con_1806, [0, 40, 41, 42, 32, 33]), (105, 486, 0, con_1522, [27, 33, 43]), (105, 486, 0, con_1527, [27, 33, 43])]
noncomputable def gi_1507 : GI := jl_n [gp_677, gp_558, gp_633]
noncomputable def cu_1807 : List CUT2 := [((14, [lq 0 6 0, lq 1 0 1, lq 2 1 2, lq 3 1 204], [], gi_1507, hq_900), rq_6, ([(204, (-1))], 5))]
theorem ch_1807 : staG tb_X11_guessAll 1 bt_RX11 [] ct_1807 [] [] cu_1807 48 con_1807 = true := by decide +kernel
theorem cc_1807 : cu_1807.all (cutG tb_X11_guessAll 1 bt_RX11 [] ct_1807 [] [] cu_1807 48 con_1807) = true := by decide +kernel
theorem cto_1807 (l : Launch) : CTOK2 l RX11 vwCl gTbl ct_1807 := ct2_cons (vl_900 l) ck_RX11_208_900 (ct2_cons (vl_1212 l) ck_RX11_332_1212 (ct2_cons (vl_859 l) ck_RX11_480_859 (ct2_cons (vl_899 l) ck_RX11_372_899 (ct2_cons (vl_1806 l) ck_RX11_483_1806 (ct2_cons (vl_1522 l) ck_RX11_486_1522 (ct2_cons (vl_1527 l) ck_RX11_486_1527 (ct2_nil)))))))
theorem vl_1807 (l : Launch) : Vld2 l vwCl gTbl con_1807 := conR_ok3 gT_all (hd_1807) rfl pn_RX11 tk_X11_guessAll bo_RX11 xo_RX11 (cto_1807 l) ch_1807 (cut_all cc_1807)
/-- RookHusting isAsSeen -/
noncomputable def gi_1508 : GI := jl_n [gp_690, jl_z 9]
noncomputable def gi_1509 : GI := jl_n [gp_690, jl_z 10]
noncomputable def con_1808 : Con2 := ((yX11_isAsSeen, cX11_isAsSeen, 4, (some .boolean)), (1, 22), ([(6, 0, 0), (0, 1, 0)], gi_1508, hc_205, []), [((0, 0, 0), gi_1509, hq_898, [], [1]), ((0, 1, 0), gi_1509, hq_898, [], [1])])
theorem hd_1808 : con_1808.1 = (yX11_isAsSeen, cX11_isAsSeen, 4, (some .boolean)) := rfl
noncomputable def ct_1808 : CTB2 := [(21, 473, 0, con_1722, [1, 3]), (36, 473, 0, con_1723, [1, 3]), (60, 473, 0, con_1724, [1, 3])]
noncomputable def gi_1510 : GI := jl_n [gp_690, jl_z 12]
noncomputable def gi_1511 : GI := jl_n [gp_690, gp_628]
noncomputable def cu_1808 : List CUT2 := [((2, [lq 0 6 0, lq 1 0 1, lq 2 0 0], [], gi_1510, hq_898), [], ([], 3)), ((2, [lq 0 6 0, lq 1 0 1, lq 2 0 3, lq 3 1 97], [], gi_1511, hq_898), [], ([], 0))]
theorem ch_1808 : staG tb_X11_isAsSeen 1 bt_RX11 [] ct_1808 [] [] cu_1808 44 con_1808 = true := by decide +kernel
theorem cc_1808 : cu_1808.all (cutG tb_X11_isAsSeen 1 bt_RX11 [] ct_1808 [] [] cu_1808 44 con_1808) = true := by decide +kernel
theorem cto_1808 (l : Launch) : CTOK2 l RX11 vwCl gTbl ct_1808 := ct2_cons (vl_1722 l) ck_RX11_473_1722 (ct2_cons (vl_1723 l) ck_RX11_473_1723 (ct2_cons (vl_1724 l) ck_RX11_473_1724 (ct2_nil)))
theorem vl_1808 (l : Launch) : Vld2 l vwCl gTbl con_1808 := conR_ok3 gT_all (hd_1808) rfl pn_RX11 tk_X11_isAsSeen bo_RX11 xo_RX11 (cto_1808 l) ch_1808 (cut_all cc_1808)
/-- RookHusting guessAll -/
noncomputable def gi_1512 : GI := jl_n [gp_677, gp_556]
noncomputable def gi_1513 : GI := jl_n [gp_677, gp_556, gp_632]
noncomputable def con_1809 : Con2 := ((yX11_guessAll, cX11_guessAll, 4, none), (6, 151), ([(6, 0, 0), (0, 1, 0), (1, 2, 0)], gi_1512, hc_206, rq_6), [((9, 0, 0), gi_1513, hq_899, [], tg_1)])
theorem hd_1809 : con_1809.1 = (yX11_guessAll, cX11_guessAll, 4, none) := rfl
theorem ck_RX11_483_1808 : COK2 RX11 vwCl gTbl 483 0 con_1808 := ⟨wd_1230, wd_125, mh_X11_isAsSeen, .inr (.inr ⟨rfl, wd_1227, wd_1229, wd_43, ⟨_, rfl, pd_X11_isAsSeen⟩, 11, _, TX11, 16, rfl, rfl⟩)⟩
noncomputable def ct_1809 : CTB2 := [(1, 208, 0, con_900, [0, 1, 2, 3, 4, 5, 6, 7, 8, 9, 10, 11, 12, 13, 14, 15, 16, 17, 18, 19, 20, 21, 22, 23, 24, 25, 26]), (36, 332, 0, con_1212, [28, 2, 29, 4, 30, 5, 31, 6]), (45, 480, 0, con_859, [28, 29]), (73, 372, 0, con_899, [32, 3, 28, 16, 33, 18, 34, 30, 35, 29, 36, 22, 23, 37, 38, 39, 31]), (78, 483, 0, con_1808, [0, 40, 41, 42, 32, 33]), (105, 486, 0, con_1522, [27, 33, 43]), (105, 486, 0, con_1527, [27, 33, 43])]
noncomputable def gi_1514 : GI := jl_n [gp_677, gp_556, gp_633]
noncomputable def cu_1809 : List CUT2 := [((14, [lq 0 6 0, lq 1 0 1, lq 2 1 2, lq 3 1 204], [], gi_1514, hq_900), rq_6, ([(204, (-1))], 5))]
theorem ch_1809 : staG tb_X11_guessAll 1 bt_RX11 [] ct_1809 [] [] cu_1809 48 con_1809 = true := by decide +kernel
theorem cc_1809 : cu_1809.all (cutG tb_X11_guessAll 1 bt_RX11 [] ct_1809 [] [] cu_1809 48 con_1809) = true := by decide +kernel
theorem cto_1809 (l : Launch) : CTOK2 l RX11 vwCl gTbl ct_1809 := ct2_cons (vl_900 l) ck_RX11_208_900 (ct2_cons (vl_1212 l) ck_RX11_332_1212 (ct2_cons (vl_859 l) ck_RX11_480_859 (ct2_cons (vl_899 l) ck_RX11_372_899 (ct2_cons (vl_1808 l) ck_RX11_483_1808 (ct2_cons (vl_1522 l) ck_RX11_486_1522 (ct2_cons (vl_1527 l) ck_RX11_486_1527 (ct2_nil)))))))
theorem vl_1809 (l : Launch) : Vld2 l vwCl gTbl con_1809 := conR_ok3 gT_all (hd_1809) rfl pn_RX11 tk_X11_guessAll bo_RX11 xo_RX11 (cto_1809 l) ch_1809 (cut_all cc_1809)
/-- RookHusting isAsSeen -/
noncomputable def gi_1515 : GI := jl_n [gp_691, jl_z 9]
noncomputable def gi_1516 : GI := jl_n [gp_691, jl_z 10]
noncomputable def con_1810 : Con2 := ((yX11_isAsSeen, cX11_isAsSeen, 4, (some .boolean)), (1, 22), ([(6, 0, 0), (0, 1, 0)], gi_1515, hc_205, []), [((0, 0, 0), gi_1516, hq_898, [], [1]), ((0, 1, 0), gi_1516, hq_898, [], [1])])
theorem hd_1810 : con_1810.1 = (yX11_isAsSeen, cX11_isAsSeen, 4, (some .boolean)) := rfl
noncomputable def ct_1810 : CTB2 := [(21, 473, 0, con_1748, [1, 3]), (21, 473, 0, con_1745, [1, 3]), (21, 473, 0, con_1742, [1, 3]), (21, 473, 0, con_1739, [1, 3]), (21, 473, 0, con_1736, [1, 3]), (21, 473, 0, con_1733, [1, 3]), (21, 473, 0, con_1728, [1, 3]), (21, 473, 0, con_1725, [1, 3]), (21, 473, 0, con_1722, [1, 3]), (36, 473, 0, con_1749, [1, 3]), (36, 473, 0, con_1746, [1, 3]), (36, 473, 0, con_1743, [1, 3]), (36, 473, 0, con_1740, [1, 3]), (36, 473, 0, con_1737, [1, 3]), (36, 473, 0, con_1734, [1, 3]), (36, 473, 0, con_1729, [1, 3]), (36, 473, 0, con_1726, [1, 3]), (36, 473, 0, con_1723, [1, 3]), (60, 473, 0, con_1750, [1, 3]), (60, 473, 0, con_1747, [1, 3]), (60, 473, 0, con_1744, [1, 3]), (60, 473, 0, con_1741, [1, 3]), (60, 473, 0, con_1738, [1, 3]), (60, 473, 0, con_1735, [1, 3]), (60, 473, 0, con_1730, [1, 3]), (60, 473, 0, con_1727, [1, 3]), (60, 473, 0, con_1724, [1, 3])]
noncomputable def gi_1517 : GI := jl_n [gp_691, jl_z 12]
noncomputable def gi_1518 : GI := jl_n [gp_691, gp_628]
noncomputable def cu_1810 : List CUT2 := [((2, [lq 0 6 0, lq 1 0 1, lq 2 0 0], [], gi_1517, hq_898), [], ([], 27)), ((2, [lq 0 6 0, lq 1 0 1, lq 2 0 3, lq 3 1 97], [], gi_1518, hq_898), [], ([], 24)), ((2, [lq 0 6 0, lq 1 0 1, lq 2 0 6, lq 3 1 97], [], gi_1518, hq_898), [], ([], 21)), ((2, [lq 0 6 0, lq 1 0 1, lq 2 0 9, lq 3 1 97], [], gi_1518, hq_898), [], ([], 18)), ((2, [lq 0 6 0, lq 1 0 1, lq 2 0 12, lq 3 1 97], [], gi_1518, hq_898), [], ([], 15)), ((2, [lq 0 6 0, lq 1 0 1, lq 2 0 15, lq 3 1 97], [], gi_1518, hq_898), [], ([], 12)), ((2, [lq 0 6 0, lq 1 0 1, lq 2 0 18, lq 3 1 97], [], gi_1518, hq_898), [], ([], 9)), ((2, [lq 0 6 0, lq 1 0 1, lq 2 0 21, lq 3 1 97], [], gi_1518, hq_898), [], ([], 6)), ((2, [lq 0 6 0, lq 1 0 1, lq 2 0 24, lq 3 1 97], [], gi_1518, hq_898), [], ([], 3)), ((2, [lq 0 6 0, lq 1 0 1, lq 2 0 27, lq 3 1 97], [], gi_1518, hq_898), [], ([], 0))]
theorem ch_1810 : staG tb_X11_isAsSeen 1 bt_RX11 [] ct_1810 [] [] cu_1810 44 con_1810 = true := by decide +kernel
theorem cc_1810 : cu_1810.all (cutG tb_X11_isAsSeen 1 bt_RX11 [] ct_1810 [] [] cu_1810 44 con_1810) = true := by decide +kernel
theorem cto_1810 (l : Launch) : CTOK2 l RX11 vwCl gTbl ct_1810 := ct2_cons (vl_1748 l) ck_RX11_473_1748 (ct2_cons (vl_1745 l) ck_RX11_473_1745 (ct2_cons (vl_1742 l) ck_RX11_473_1742 (ct2_cons (vl_1739 l) ck_RX11_473_1739 (ct2_cons (vl_1736 l) ck_RX11_473_1736 (ct2_cons (vl_1733 l) ck_RX11_473_1733 (ct2_cons (vl_1728 l) ck_RX11_473_1728 (ct2_cons (vl_1725 l) ck_RX11_473_1725 (ct2_cons (vl_1722 l) ck_RX11_473_1722 (ct2_cons (vl_1749 l) ck_RX11_473_1749 (ct2_cons (vl_1746 l) ck_RX11_473_1746 (ct2_cons (vl_1743 l) ck_RX11_473_1743 (ct2_cons (vl_1740 l) ck_RX11_473_1740 (ct2_cons (vl_1737 l) ck_RX11_473_1737 (ct2_cons (vl_1734 l) ck_RX11_473_1734 (ct2_cons (vl_1729 l) ck_RX11_473_1729 (ct2_cons (vl_1726 l) ck_RX11_473_1726 (ct2_cons (vl_1723 l) ck_RX11_473_1723 (ct2_cons (vl_1750 l) ck_RX11_473_1750 (ct2_cons (vl_1747 l) ck_RX11_473_1747 (ct2_cons (vl_1744 l) ck_RX11_473_1744 (ct2_cons (vl_1741 l) ck_RX11_473_1741 (ct2_cons (vl_1738 l) ck_RX11_473_1738 (ct2_cons (vl_1735 l) ck_RX11_473_1735 (ct2_cons (vl_1730 l) ck_RX11_473_1730 (ct2_cons (vl_1727 l) ck_RX11_473_1727 (ct2_cons (vl_1724 l) ck_RX11_473_1724 (ct2_nil)))))))))))))))))))))))))))
theorem vl_1810 (l : Launch) : Vld2 l vwCl gTbl con_1810 := conR_ok3 gT_all (hd_1810) rfl pn_RX11 tk_X11_isAsSeen bo_RX11 xo_RX11 (cto_1810 l) ch_1810 (cut_all cc_1810)
/-- RookHusting guessAll -/
noncomputable def gi_1519 : GI := jl_n [gp_677, gp_554]
noncomputable def gi_1520 : GI := jl_n [gp_677, gp_554, gp_632]
noncomputable def con_1811 : Con2 := ((yX11_guessAll, cX11_guessAll, 4, none), (6, 151), ([(6, 0, 0), (0, 1, 0), (1, 2, 0)], gi_1519, hc_206, rq_6), [((9, 0, 0), gi_1520, hq_899, [], tg_1)])
theorem hd_1811 : con_1811.1 = (yX11_guessAll, cX11_guessAll, 4, none) := rfl
theorem ck_RX11_483_1810 : COK2 RX11 vwCl gTbl 483 0 con_1810 := ⟨wd_1230, wd_125, mh_X11_isAsSeen, .inr (.inr ⟨rfl, wd_1227, wd_1229, wd_43, ⟨_, rfl, pd_X11_isAsSeen⟩, 11, _, TX11, 16, rfl, rfl⟩)⟩
noncomputable def ct_1811 : CTB2 := [(1, 208, 0, con_900, [0, 1, 2, 3, 4, 5, 6, 7, 8, 9, 10, 11, 12, 13, 14, 15, 16, 17, 18, 19, 20, 21, 22, 23, 24, 25, 26]), (36, 332, 0, con_1212, [28, 2, 29, 4, 30, 5, 31, 6]), (45, 480, 0, con_859, [28, 29]), (73, 372, 0, con_899, [32, 3, 28, 16, 33, 18, 34, 30, 35, 29, 36, 22, 23, 37, 38, 39, 31]), (78, 483, 0, con_1810, [0, 40, 41, 42, 32, 33]), (105, 486, 0, con_1522, [27, 33, 43]), (105, 486, 0, con_1527, [27, 33, 43])]
noncomputable def gi_1521 : GI := jl_n [gp_677, gp_554, gp_633]
noncomputable def cu_1811 : List CUT2 := [((14, [lq 0 6 0, lq 1 0 1, lq 2 1 2, lq 3 1 204], [], gi_1521, hq_900), rq_6, ([(204, (-1))], 5))]
theorem ch_1811 : staG tb_X11_guessAll 1 bt_RX11 [] ct_1811 [] [] cu_1811 48 con_1811 = true := by decide +kernel
theorem cc_1811 : cu_1811.all (cutG tb_X11_guessAll 1 bt_RX11 [] ct_1811 [] [] cu_1811 48 con_1811) = true := by decide +kernel
theorem cto_1811 (l : Launch) : CTOK2 l RX11 vwCl gTbl ct_1811 := ct2_cons (vl_900 l) ck_RX11_208_900 (ct2_cons (vl_1212 l) ck_RX11_332_1212 (ct2_cons (vl_859 l) ck_RX11_480_859 (ct2_cons (vl_899 l) ck_RX11_372_899 (ct2_cons (vl_1810 l) ck_RX11_483_1810 (ct2_cons (vl_1522 l) ck_RX11_486_1522 (ct2_cons (vl_1527 l) ck_RX11_486_1527 (ct2_nil)))))))
theorem vl_1811 (l : Launch) : Vld2 l vwCl gTbl con_1811 := conR_ok3 gT_all (hd_1811) rfl pn_RX11 tk_X11_guessAll bo_RX11 xo_RX11 (cto_1811 l) ch_1811 (cut_all cc_1811)
/-- RookHusting isAsSeen -/
noncomputable def gi_1522 : GI := jl_n [gp_692, jl_z 9]
noncomputable def gi_1523 : GI := jl_n [gp_692, jl_z 10]
noncomputable def con_1812 : Con2 := ((yX11_isAsSeen, cX11_isAsSeen, 4, (some .boolean)), (1, 22), ([(6, 0, 0), (0, 1, 0)], gi_1522, hc_205, []), [((0, 0, 0), gi_1523, hq_898, [], [1]), ((0, 1, 0), gi_1523, hq_898, [], [1])])
theorem hd_1812 : con_1812.1 = (yX11_isAsSeen, cX11_isAsSeen, 4, (some .boolean)) := rfl
noncomputable def ct_1812 : CTB2 := [(21, 473, 0, con_1745, [1, 3]), (21, 473, 0, con_1742, [1, 3]), (21, 473, 0, con_1739, [1, 3]), (21, 473, 0, con_1736, [1, 3]), (21, 473, 0, con_1733, [1, 3]), (21, 473, 0, con_1728, [1, 3]), (21, 473, 0, con_1725, [1, 3]), (21, 473, 0, con_1722, [1, 3]), (36, 473, 0, con_1746, [1, 3]), (36, 473, 0, con_1743, [1, 3]), (36, 473, 0, con_1740, [1, 3]), (36, 473, 0, con_1737, [1, 3]), (36, 473, 0, con_1734, [1, 3]), (36, 473, 0, con_1729, [1, 3]), (36, 473, 0, con_1726, [1, 3]), (36, 473, 0, con_1723, [1, 3]), (60, 473, 0, con_1747, [1, 3]), (60, 473, 0, con_1744, [1, 3]), (60, 473, 0, con_1741, [1, 3]), (60, 473, 0, con_1738, [1, 3]), (60, 473, 0, con_1735, [1, 3]), (60, 473, 0, con_1730, [1, 3]), (60, 473, 0, con_1727, [1, 3]), (60, 473, 0, con_1724, [1, 3])]
noncomputable def gi_1524 : GI := jl_n [gp_692, jl_z 12]
noncomputable def gi_1525 : GI := jl_n [gp_692, gp_628]
noncomputable def cu_1812 : List CUT2 := [((2, [lq 0 6 0, lq 1 0 1, lq 2 0 0], [], gi_1524, hq_898), [], ([], 24)), ((2, [lq 0 6 0, lq 1 0 1, lq 2 0 3, lq 3 1 97], [], gi_1525, hq_898), [], ([], 21)), ((2, [lq 0 6 0, lq 1 0 1, lq 2 0 6, lq 3 1 97], [], gi_1525, hq_898), [], ([], 18)), ((2, [lq 0 6 0, lq 1 0 1, lq 2 0 9, lq 3 1 97], [], gi_1525, hq_898), [], ([], 15)), ((2, [lq 0 6 0, lq 1 0 1, lq 2 0 12, lq 3 1 97], [], gi_1525, hq_898), [], ([], 12)), ((2, [lq 0 6 0, lq 1 0 1, lq 2 0 15, lq 3 1 97], [], gi_1525, hq_898), [], ([], 9)), ((2, [lq 0 6 0, lq 1 0 1, lq 2 0 18, lq 3 1 97], [], gi_1525, hq_898), [], ([], 6)), ((2, [lq 0 6 0, lq 1 0 1, lq 2 0 21, lq 3 1 97], [], gi_1525, hq_898), [], ([], 3)), ((2, [lq 0 6 0, lq 1 0 1, lq 2 0 24, lq 3 1 97], [], gi_1525, hq_898), [], ([], 0))]
theorem ch_1812 : staG tb_X11_isAsSeen 1 bt_RX11 [] ct_1812 [] [] cu_1812 44 con_1812 = true := by decide +kernel
theorem cc_1812 : cu_1812.all (cutG tb_X11_isAsSeen 1 bt_RX11 [] ct_1812 [] [] cu_1812 44 con_1812) = true := by decide +kernel
theorem cto_1812 (l : Launch) : CTOK2 l RX11 vwCl gTbl ct_1812 := ct2_cons (vl_1745 l) ck_RX11_473_1745 (ct2_cons (vl_1742 l) ck_RX11_473_1742 (ct2_cons (vl_1739 l) ck_RX11_473_1739 (ct2_cons (vl_1736 l) ck_RX11_473_1736 (ct2_cons (vl_1733 l) ck_RX11_473_1733 (ct2_cons (vl_1728 l) ck_RX11_473_1728 (ct2_cons (vl_1725 l) ck_RX11_473_1725 (ct2_cons (vl_1722 l) ck_RX11_473_1722 (ct2_cons (vl_1746 l) ck_RX11_473_1746 (ct2_cons (vl_1743 l) ck_RX11_473_1743 (ct2_cons (vl_1740 l) ck_RX11_473_1740 (ct2_cons (vl_1737 l) ck_RX11_473_1737 (ct2_cons (vl_1734 l) ck_RX11_473_1734 (ct2_cons (vl_1729 l) ck_RX11_473_1729 (ct2_cons (vl_1726 l) ck_RX11_473_1726 (ct2_cons (vl_1723 l) ck_RX11_473_1723 (ct2_cons (vl_1747 l) ck_RX11_473_1747 (ct2_cons (vl_1744 l) ck_RX11_473_1744 (ct2_cons (vl_1741 l) ck_RX11_473_1741 (ct2_cons (vl_1738 l) ck_RX11_473_1738 (ct2_cons (vl_1735 l) ck_RX11_473_1735 (ct2_cons (vl_1730 l) ck_RX11_473_1730 (ct2_cons (vl_1727 l) ck_RX11_473_1727 (ct2_cons (vl_1724 l) ck_RX11_473_1724 (ct2_nil))))))))))))))))))))))))
theorem vl_1812 (l : Launch) : Vld2 l vwCl gTbl con_1812 := conR_ok3 gT_all (hd_1812) rfl pn_RX11 tk_X11_isAsSeen bo_RX11 xo_RX11 (cto_1812 l) ch_1812 (cut_all cc_1812)
/-- RookHusting guessAll -/
noncomputable def gi_1526 : GI := jl_n [gp_677, gp_552]
noncomputable def gi_1527 : GI := jl_n [gp_677, gp_552, gp_632]
noncomputable def con_1813 : Con2 := ((yX11_guessAll, cX11_guessAll, 4, none), (6, 151), ([(6, 0, 0), (0, 1, 0), (1, 2, 0)], gi_1526, hc_206, rq_6), [((9, 0, 0), gi_1527, hq_899, [], tg_1)])
theorem hd_1813 : con_1813.1 = (yX11_guessAll, cX11_guessAll, 4, none) := rfl
theorem ck_RX11_483_1812 : COK2 RX11 vwCl gTbl 483 0 con_1812 := ⟨wd_1230, wd_125, mh_X11_isAsSeen, .inr (.inr ⟨rfl, wd_1227, wd_1229, wd_43, ⟨_, rfl, pd_X11_isAsSeen⟩, 11, _, TX11, 16, rfl, rfl⟩)⟩
noncomputable def ct_1813 : CTB2 := [(1, 208, 0, con_900, [0, 1, 2, 3, 4, 5, 6, 7, 8, 9, 10, 11, 12, 13, 14, 15, 16, 17, 18, 19, 20, 21, 22, 23, 24, 25, 26]), (36, 332, 0, con_1212, [28, 2, 29, 4, 30, 5, 31, 6]), (45, 480, 0, con_859, [28, 29]), (73, 372, 0, con_899, [32, 3, 28, 16, 33, 18, 34, 30, 35, 29, 36, 22, 23, 37, 38, 39, 31]), (78, 483, 0, con_1812, [0, 40, 41, 42, 32, 33]), (105, 486, 0, con_1522, [27, 33, 43]), (105, 486, 0, con_1527, [27, 33, 43])]
noncomputable def gi_1528 : GI := jl_n [gp_677, gp_552, gp_633]
noncomputable def cu_1813 : List CUT2 := [((14, [lq 0 6 0, lq 1 0 1, lq 2 1 2, lq 3 1 204], [], gi_1528, hq_900), rq_6, ([(204, (-1))], 5))]
theorem ch_1813 : staG tb_X11_guessAll 1 bt_RX11 [] ct_1813 [] [] cu_1813 48 con_1813 = true := by decide +kernel
theorem cc_1813 : cu_1813.all (cutG tb_X11_guessAll 1 bt_RX11 [] ct_1813 [] [] cu_1813 48 con_1813) = true := by decide +kernel
theorem cto_1813 (l : Launch) : CTOK2 l RX11 vwCl gTbl ct_1813 := ct2_cons (vl_900 l) ck_RX11_208_900 (ct2_cons (vl_1212 l) ck_RX11_332_1212 (ct2_cons (vl_859 l) ck_RX11_480_859 (ct2_cons (vl_899 l) ck_RX11_372_899 (ct2_cons (vl_1812 l) ck_RX11_483_1812 (ct2_cons (vl_1522 l) ck_RX11_486_1522 (ct2_cons (vl_1527 l) ck_RX11_486_1527 (ct2_nil)))))))
theorem vl_1813 (l : Launch) : Vld2 l vwCl gTbl con_1813 := conR_ok3 gT_all (hd_1813) rfl pn_RX11 tk_X11_guessAll bo_RX11 xo_RX11 (cto_1813 l) ch_1813 (cut_all cc_1813)
/-- RookHusting isAsSeen -/
noncomputable def gi_1529 : GI := jl_n [gp_693, jl_z 9]
noncomputable def gi_1530 : GI := jl_n [gp_693, jl_z 10]
noncomputable def con_1814 : Con2 := ((yX11_isAsSeen, cX11_isAsSeen, 4, (some .boolean)), (1, 22), ([(6, 0, 0), (0, 1, 0)], gi_1529, hc_205, []), [((0, 0, 0), gi_1530, hq_898, [], [1]), ((0, 1, 0), gi_1530, hq_898, [], [1])])
theorem hd_1814 : con_1814.1 = (yX11_isAsSeen, cX11_isAsSeen, 4, (some .boolean)) := rfl
noncomputable def ct_1814 : CTB2 := [(21, 473, 0, con_1742, [1, 3]), (21, 473, 0, con_1739, [1, 3]), (21, 473, 0, con_1736, [1, 3]), (21, 473, 0, con_1733, [1, 3]), (21, 473, 0, con_1728, [1, 3]), (21, 473, 0, con_1725, [1, 3]), (21, 473, 0, con_1722, [1, 3]), (36, 473, 0, con_1743, [1, 3]), (36, 473, 0, con_1740, [1, 3]), (36, 473, 0, con_1737, [1, 3]), (36, 473, 0, con_1734, [1, 3]), (36, 473, 0, con_1729, [1, 3]), (36, 473, 0, con_1726, [1, 3]), (36, 473, 0, con_1723, [1, 3]), (60, 473, 0, con_1744, [1, 3]), (60, 473, 0, con_1741, [1, 3]), (60, 473, 0, con_1738, [1, 3]), (60, 473, 0, con_1735, [1, 3]), (60, 473, 0, con_1730, [1, 3]), (60, 473, 0, con_1727, [1, 3]), (60, 473, 0, con_1724, [1, 3])]
noncomputable def gi_1531 : GI := jl_n [gp_693, jl_z 12]
noncomputable def gi_1532 : GI := jl_n [gp_693, gp_628]
noncomputable def cu_1814 : List CUT2 := [((2, [lq 0 6 0, lq 1 0 1, lq 2 0 0], [], gi_1531, hq_898), [], ([], 21)), ((2, [lq 0 6 0, lq 1 0 1, lq 2 0 3, lq 3 1 97], [], gi_1532, hq_898), [], ([], 18)), ((2, [lq 0 6 0, lq 1 0 1, lq 2 0 6, lq 3 1 97], [], gi_1532, hq_898), [], ([], 15)), ((2, [lq 0 6 0, lq 1 0 1, lq 2 0 9, lq 3 1 97], [], gi_1532, hq_898), [], ([], 12)), ((2, [lq 0 6 0, lq 1 0 1, lq 2 0 12, lq 3 1 97], [], gi_1532, hq_898), [], ([], 9)), ((2, [lq 0 6 0, lq 1 0 1, lq 2 0 15, lq 3 1 97], [], gi_1532, hq_898), [], ([], 6)), ((2, [lq 0 6 0, lq 1 0 1, lq 2 0 18, lq 3 1 97], [], gi_1532, hq_898), [], ([], 3)), ((2, [lq 0 6 0, lq 1 0 1, lq 2 0 21, lq 3 1 97], [], gi_1532, hq_898), [], ([], 0))]
theorem ch_1814 : staG tb_X11_isAsSeen 1 bt_RX11 [] ct_1814 [] [] cu_1814 44 con_1814 = true := by decide +kernel
theorem cc_1814 : cu_1814.all (cutG tb_X11_isAsSeen 1 bt_RX11 [] ct_1814 [] [] cu_1814 44 con_1814) = true := by decide +kernel
theorem cto_1814 (l : Launch) : CTOK2 l RX11 vwCl gTbl ct_1814 := ct2_cons (vl_1742 l) ck_RX11_473_1742 (ct2_cons (vl_1739 l) ck_RX11_473_1739 (ct2_cons (vl_1736 l) ck_RX11_473_1736 (ct2_cons (vl_1733 l) ck_RX11_473_1733 (ct2_cons (vl_1728 l) ck_RX11_473_1728 (ct2_cons (vl_1725 l) ck_RX11_473_1725 (ct2_cons (vl_1722 l) ck_RX11_473_1722 (ct2_cons (vl_1743 l) ck_RX11_473_1743 (ct2_cons (vl_1740 l) ck_RX11_473_1740 (ct2_cons (vl_1737 l) ck_RX11_473_1737 (ct2_cons (vl_1734 l) ck_RX11_473_1734 (ct2_cons (vl_1729 l) ck_RX11_473_1729 (ct2_cons (vl_1726 l) ck_RX11_473_1726 (ct2_cons (vl_1723 l) ck_RX11_473_1723 (ct2_cons (vl_1744 l) ck_RX11_473_1744 (ct2_cons (vl_1741 l) ck_RX11_473_1741 (ct2_cons (vl_1738 l) ck_RX11_473_1738 (ct2_cons (vl_1735 l) ck_RX11_473_1735 (ct2_cons (vl_1730 l) ck_RX11_473_1730 (ct2_cons (vl_1727 l) ck_RX11_473_1727 (ct2_cons (vl_1724 l) ck_RX11_473_1724 (ct2_nil)))))))))))))))))))))
theorem vl_1814 (l : Launch) : Vld2 l vwCl gTbl con_1814 := conR_ok3 gT_all (hd_1814) rfl pn_RX11 tk_X11_isAsSeen bo_RX11 xo_RX11 (cto_1814 l) ch_1814 (cut_all cc_1814)
/-- RookHusting guessAll -/
noncomputable def gi_1533 : GI := jl_n [gp_677, gp_549]
noncomputable def gi_1534 : GI := jl_n [gp_677, gp_549, gp_632]
noncomputable def con_1815 : Con2 := ((yX11_guessAll, cX11_guessAll, 4, none), (6, 151), ([(6, 0, 0), (0, 1, 0), (1, 2, 0)], gi_1533, hc_206, rq_6), [((9, 0, 0), gi_1534, hq_899, [], tg_1)])
theorem hd_1815 : con_1815.1 = (yX11_guessAll, cX11_guessAll, 4, none) := rfl
theorem ck_RX11_483_1814 : COK2 RX11 vwCl gTbl 483 0 con_1814 := ⟨wd_1230, wd_125, mh_X11_isAsSeen, .inr (.inr ⟨rfl, wd_1227, wd_1229, wd_43, ⟨_, rfl, pd_X11_isAsSeen⟩, 11, _, TX11, 16, rfl, rfl⟩)⟩
noncomputable def ct_1815 : CTB2 := [(1, 208, 0, con_900, [0, 1, 2, 3, 4, 5, 6, 7, 8, 9, 10, 11, 12, 13, 14, 15, 16, 17, 18, 19, 20, 21, 22, 23, 24, 25, 26]), (36, 332, 0, con_1212, [28, 2, 29, 4, 30, 5, 31, 6]), (45, 480, 0, con_859, [28, 29]), (73, 372, 0, con_899, [32, 3, 28, 16, 33, 18, 34, 30, 35, 29, 36, 22, 23, 37, 38, 39, 31]), (78, 483, 0, con_1814, [0, 40, 41, 42, 32, 33]), (105, 486, 0, con_1522, [27, 33, 43]), (105, 486, 0, con_1527, [27, 33, 43])]
noncomputable def gi_1535 : GI := jl_n [gp_677, gp_549, gp_633]
noncomputable def cu_1815 : List CUT2 := [((14, [lq 0 6 0, lq 1 0 1, lq 2 1 2, lq 3 1 204], [], gi_1535, hq_900), rq_6, ([(204, (-1))], 5))]
theorem ch_1815 : staG tb_X11_guessAll 1 bt_RX11 [] ct_1815 [] [] cu_1815 48 con_1815 = true := by decide +kernel
theorem cc_1815 : cu_1815.all (cutG tb_X11_guessAll 1 bt_RX11 [] ct_1815 [] [] cu_1815 48 con_1815) = true := by decide +kernel
theorem cto_1815 (l : Launch) : CTOK2 l RX11 vwCl gTbl ct_1815 := ct2_cons (vl_900 l) ck_RX11_208_900 (ct2_cons (vl_1212 l) ck_RX11_332_1212 (ct2_cons (vl_859 l) ck_RX11_480_859 (ct2_cons (vl_899 l) ck_RX11_372_899 (ct2_cons (vl_1814 l) ck_RX11_483_1814 (ct2_cons (vl_1522 l) ck_RX11_486_1522 (ct2_cons (vl_1527 l) ck_RX11_486_1527 (ct2_nil)))))))
theorem vl_1815 (l : Launch) : Vld2 l vwCl gTbl con_1815 := conR_ok3 gT_all (hd_1815) rfl pn_RX11 tk_X11_guessAll bo_RX11 xo_RX11 (cto_1815 l) ch_1815 (cut_all cc_1815)
/-- RookHusting isAsSeen -/
noncomputable def gi_1536 : GI := jl_n [gp_694, jl_z 9]
noncomputable def gi_1537 : GI := jl_n [gp_694, jl_z 10]
noncomputable def con_1816 : Con2 := ((yX11_isAsSeen, cX11_isAsSeen, 4, (some .boolean)), (1, 22), ([(6, 0, 0), (0, 1, 0)], gi_1536, hc_205, []), [((0, 0, 0), gi_1537, hq_898, [], [1]), ((0, 1, 0), gi_1537, hq_898, [], [1])])
theorem hd_1816 : con_1816.1 = (yX11_isAsSeen, cX11_isAsSeen, 4, (some .boolean)) := rfl
noncomputable def ct_1816 : CTB2 := [(21, 473, 0, con_1739, [1, 3]), (21, 473, 0, con_1736, [1, 3]), (21, 473, 0, con_1733, [1, 3]), (21, 473, 0, con_1728, [1, 3]), (21, 473, 0, con_1725, [1, 3]), (21, 473, 0, con_1722, [1, 3]), (36, 473, 0, con_1740, [1, 3]), (36, 473, 0, con_1737, [1, 3]), (36, 473, 0, con_1734, [1, 3]), (36, 473, 0, con_1729, [1, 3]), (36, 473, 0, con_1726, [1, 3]), (36, 473, 0, con_1723, [1, 3]), (60, 473, 0, con_1741, [1, 3]), (60, 473, 0, con_1738, [1, 3]), (60, 473, 0, con_1735, [1, 3]), (60, 473, 0, con_1730, [1, 3]), (60, 473, 0, con_1727, [1, 3]), (60, 473, 0, con_1724, [1, 3])]
noncomputable def gi_1538 : GI := jl_n [gp_694, jl_z 12]
noncomputable def gi_1539 : GI := jl_n [gp_694, gp_628]
noncomputable def cu_1816 : List CUT2 := [((2, [lq 0 6 0, lq 1 0 1, lq 2 0 0], [], gi_1538, hq_898), [], ([], 18)), ((2, [lq 0 6 0, lq 1 0 1, lq 2 0 3, lq 3 1 97], [], gi_1539, hq_898), [], ([], 15)), ((2, [lq 0 6 0, lq 1 0 1, lq 2 0 6, lq 3 1 97], [], gi_1539, hq_898), [], ([], 12)), ((2, [lq 0 6 0, lq 1 0 1, lq 2 0 9, lq 3 1 97], [], gi_1539, hq_898), [], ([], 9)), ((2, [lq 0 6 0, lq 1 0 1, lq 2 0 12, lq 3 1 97], [], gi_1539, hq_898), [], ([], 6)), ((2, [lq 0 6 0, lq 1 0 1, lq 2 0 15, lq 3 1 97], [], gi_1539, hq_898), [], ([], 3)), ((2, [lq 0 6 0, lq 1 0 1, lq 2 0 18, lq 3 1 97], [], gi_1539, hq_898), [], ([], 0))]
theorem ch_1816 : staG tb_X11_isAsSeen 1 bt_RX11 [] ct_1816 [] [] cu_1816 44 con_1816 = true := by decide +kernel
theorem cc_1816 : cu_1816.all (cutG tb_X11_isAsSeen 1 bt_RX11 [] ct_1816 [] [] cu_1816 44 con_1816) = true := by decide +kernel
theorem cto_1816 (l : Launch) : CTOK2 l RX11 vwCl gTbl ct_1816 := ct2_cons (vl_1739 l) ck_RX11_473_1739 (ct2_cons (vl_1736 l) ck_RX11_473_1736 (ct2_cons (vl_1733 l) ck_RX11_473_1733 (ct2_cons (vl_1728 l) ck_RX11_473_1728 (ct2_cons (vl_1725 l) ck_RX11_473_1725 (ct2_cons (vl_1722 l) ck_RX11_473_1722 (ct2_cons (vl_1740 l) ck_RX11_473_1740 (ct2_cons (vl_1737 l) ck_RX11_473_1737 (ct2_cons (vl_1734 l) ck_RX11_473_1734 (ct2_cons (vl_1729 l) ck_RX11_473_1729 (ct2_cons (vl_1726 l) ck_RX11_473_1726 (ct2_cons (vl_1723 l) ck_RX11_473_1723 (ct2_cons (vl_1741 l) ck_RX11_473_1741 (ct2_cons (vl_1738 l) ck_RX11_473_1738 (ct2_cons (vl_1735 l) ck_RX11_473_1735 (ct2_cons (vl_1730 l) ck_RX11_473_1730 (ct2_cons (vl_1727 l) ck_RX11_473_1727 (ct2_cons (vl_1724 l) ck_RX11_473_1724 (ct2_nil))))))))))))))))))
theorem vl_1816 (l : Launch) : Vld2 l vwCl gTbl con_1816 := conR_ok3 gT_all (hd_1816) rfl pn_RX11 tk_X11_isAsSeen bo_RX11 xo_RX11 (cto_1816 l) ch_1816 (cut_all cc_1816)
/-- RookHusting guessAll -/
noncomputable def gi_1540 : GI := jl_n [gp_677, gp_547]
noncomputable def gi_1541 : GI := jl_n [gp_677, gp_547, gp_632]
noncomputable def con_1817 : Con2 := ((yX11_guessAll, cX11_guessAll, 4, none), (6, 151), ([(6, 0, 0), (0, 1, 0), (1, 2, 0)], gi_1540, hc_206, rq_6), [((9, 0, 0), gi_1541, hq_899, [], tg_1)])
theorem hd_1817 : con_1817.1 = (yX11_guessAll, cX11_guessAll, 4, none) := rfl
theorem ck_RX11_483_1816 : COK2 RX11 vwCl gTbl 483 0 con_1816 := ⟨wd_1230, wd_125, mh_X11_isAsSeen, .inr (.inr ⟨rfl, wd_1227, wd_1229, wd_43, ⟨_, rfl, pd_X11_isAsSeen⟩, 11, _, TX11, 16, rfl, rfl⟩)⟩
noncomputable def ct_1817 : CTB2 := [(1, 208, 0, con_900, [0, 1, 2, 3, 4, 5, 6, 7, 8, 9, 10, 11, 12, 13, 14, 15, 16, 17, 18, 19, 20, 21, 22, 23, 24, 25, 26]), (36, 332, 0, con_1212, [28, 2, 29, 4, 30, 5, 31, 6]), (45, 480, 0, con_859, [28, 29]), (73, 372, 0, con_899, [32, 3, 28, 16, 33, 18, 34, 30, 35, 29, 36, 22, 23, 37, 38, 39, 31]), (78, 483, 0, con_1816, [0, 40, 41, 42, 32, 33]), (105, 486, 0, con_1522, [27, 33, 43]), (105, 486, 0, con_1527, [27, 33, 43])]
noncomputable def gi_1542 : GI := jl_n [gp_677, gp_547, gp_633]
noncomputable def cu_1817 : List CUT2 := [((14, [lq 0 6 0, lq 1 0 1, lq 2 1 2, lq 3 1 204], [], gi_1542, hq_900), rq_6, ([(204, (-1))], 5))]
theorem ch_1817 : staG tb_X11_guessAll 1 bt_RX11 [] ct_1817 [] [] cu_1817 48 con_1817 = true := by decide +kernel
theorem cc_1817 : cu_1817.all (cutG tb_X11_guessAll 1 bt_RX11 [] ct_1817 [] [] cu_1817 48 con_1817) = true := by decide +kernel
theorem cto_1817 (l : Launch) : CTOK2 l RX11 vwCl gTbl ct_1817 := ct2_cons (vl_900 l) ck_RX11_208_900 (ct2_cons (vl_1212 l) ck_RX11_332_1212 (ct2_cons (vl_859 l) ck_RX11_480_859 (ct2_cons (vl_899 l) ck_RX11_372_899 (ct2_cons (vl_1816 l) ck_RX11_483_1816 (ct2_cons (vl_1522 l) ck_RX11_486_1522 (ct2_cons (vl_1527 l) ck_RX11_486_1527 (ct2_nil)))))))
theorem vl_1817 (l : Launch) : Vld2 l vwCl gTbl con_1817 := conR_ok3 gT_all (hd_1817) rfl pn_RX11 tk_X11_guessAll bo_RX11 xo_RX11 (cto_1817 l) ch_1817 (cut_all cc_1817)
/-- RookHusting isAsSeen -/
noncomputable def gi_1543 : GI := jl_n [gp_695, jl_z 9]
noncomputable def gi_1544 : GI := jl_n [gp_695, jl_z 10]
noncomputable def con_1818 : Con2 := ((yX11_isAsSeen, cX11_isAsSeen, 4, (some .boolean)), (1, 22), ([(6, 0, 0), (0, 1, 0)], gi_1543, hc_205, []), [((0, 0, 0), gi_1544, hq_898, [], [1]), ((0, 1, 0), gi_1544, hq_898, [], [1])])
theorem hd_1818 : con_1818.1 = (yX11_isAsSeen, cX11_isAsSeen, 4, (some .boolean)) := rfl
noncomputable def ct_1818 : CTB2 := [(21, 473, 0, con_1736, [1, 3]), (21, 473, 0, con_1733, [1, 3]), (21, 473, 0, con_1728, [1, 3]), (21, 473, 0, con_1725, [1, 3]), (21, 473, 0, con_1722, [1, 3]), (36, 473, 0, con_1737, [1, 3]), (36, 473, 0, con_1734, [1, 3]), (36, 473, 0, con_1729, [1, 3]), (36, 473, 0, con_1726, [1, 3]), (36, 473, 0, con_1723, [1, 3]), (60, 473, 0, con_1738, [1, 3]), (60, 473, 0, con_1735, [1, 3]), (60, 473, 0, con_1730, [1, 3]), (60, 473, 0, con_1727, [1, 3]), (60, 473, 0, con_1724, [1, 3])]
noncomputable def gi_1545 : GI := jl_n [gp_695, jl_z 12]
noncomputable def gi_1546 : GI := jl_n [gp_695, gp_628]
noncomputable def cu_1818 : List CUT2 := [((2, [lq 0 6 0, lq 1 0 1, lq 2 0 0], [], gi_1545, hq_898), [], ([], 15)), ((2, [lq 0 6 0, lq 1 0 1, lq 2 0 3, lq 3 1 97], [], gi_1546, hq_898), [], ([], 12)), ((2, [lq 0 6 0, lq 1 0 1, lq 2 0 6, lq 3 1 97], [], gi_1546, hq_898), [], ([], 9)), ((2, [lq 0 6 0, lq 1 0 1, lq 2 0 9, lq 3 1 97], [], gi_1546, hq_898), [], ([], 6)), ((2, [lq 0 6 0, lq 1 0 1, lq 2 0 12, lq 3 1 97], [], gi_1546, hq_898), [], ([], 3)), ((2, [lq 0 6 0, lq 1 0 1, lq 2 0 15, lq 3 1 97], [], gi_1546, hq_898), [], ([], 0))]
theorem ch_1818 : staG tb_X11_isAsSeen 1 bt_RX11 [] ct_1818 [] [] cu_1818 44 con_1818 = true := by decide +kernel
theorem cc_1818 : cu_1818.all (cutG tb_X11_isAsSeen 1 bt_RX11 [] ct_1818 [] [] cu_1818 44 con_1818) = true := by decide +kernel
theorem cto_1818 (l : Launch) : CTOK2 l RX11 vwCl gTbl ct_1818 := ct2_cons (vl_1736 l) ck_RX11_473_1736 (ct2_cons (vl_1733 l) ck_RX11_473_1733 (ct2_cons (vl_1728 l) ck_RX11_473_1728 (ct2_cons (vl_1725 l) ck_RX11_473_1725 (ct2_cons (vl_1722 l) ck_RX11_473_1722 (ct2_cons (vl_1737 l) ck_RX11_473_1737 (ct2_cons (vl_1734 l) ck_RX11_473_1734 (ct2_cons (vl_1729 l) ck_RX11_473_1729 (ct2_cons (vl_1726 l) ck_RX11_473_1726 (ct2_cons (vl_1723 l) ck_RX11_473_1723 (ct2_cons (vl_1738 l) ck_RX11_473_1738 (ct2_cons (vl_1735 l) ck_RX11_473_1735 (ct2_cons (vl_1730 l) ck_RX11_473_1730 (ct2_cons (vl_1727 l) ck_RX11_473_1727 (ct2_cons (vl_1724 l) ck_RX11_473_1724 (ct2_nil)))))))))))))))
theorem vl_1818 (l : Launch) : Vld2 l vwCl gTbl con_1818 := conR_ok3 gT_all (hd_1818) rfl pn_RX11 tk_X11_isAsSeen bo_RX11 xo_RX11 (cto_1818 l) ch_1818 (cut_all cc_1818)
/-- RookHusting guessAll -/
noncomputable def gi_1547 : GI := jl_n [gp_677, gp_545]
noncomputable def gi_1548 : GI := jl_n [gp_677, gp_545, gp_632]
noncomputable def con_1819 : Con2 := ((yX11_guessAll, cX11_guessAll, 4, none), (6, 151), ([(6, 0, 0), (0, 1, 0), (1, 2, 0)], gi_1547, hc_206, rq_6), [((9, 0, 0), gi_1548, hq_899, [], tg_1)])
theorem hd_1819 : con_1819.1 = (yX11_guessAll, cX11_guessAll, 4, none) := rfl
theorem ck_RX11_483_1818 : COK2 RX11 vwCl gTbl 483 0 con_1818 := ⟨wd_1230, wd_125, mh_X11_isAsSeen, .inr (.inr ⟨rfl, wd_1227, wd_1229, wd_43, ⟨_, rfl, pd_X11_isAsSeen⟩, 11, _, TX11, 16, rfl, rfl⟩)⟩
noncomputable def ct_1819 : CTB2 := [(1, 208, 0, con_900, [0, 1, 2, 3, 4, 5, 6, 7, 8, 9, 10, 11, 12, 13, 14, 15, 16, 17, 18, 19, 20, 21, 22, 23, 24, 25, 26]), (36, 332, 0, con_1212, [28, 2, 29, 4, 30, 5, 31, 6]), (45, 480, 0, con_859, [28, 29]), (73, 372, 0, con_899, [32, 3, 28, 16, 33, 18, 34, 30, 35, 29, 36, 22, 23, 37, 38, 39, 31]), (78, 483, 0, con_1818, [0, 40, 41, 42, 32, 33]), (105, 486, 0, con_1522, [27, 33, 43]), (105, 486, 0, con_1527, [27, 33, 43])]
noncomputable def gi_1549 : GI := jl_n [gp_677, gp_545, gp_633]
noncomputable def cu_1819 : List CUT2 := [((14, [lq 0 6 0, lq 1 0 1, lq 2 1 2, lq 3 1 204], [], gi_1549, hq_900), rq_6, ([(204, (-1))], 5))]
theorem ch_1819 : staG tb_X11_guessAll 1 bt_RX11 [] ct_1819 [] [] cu_1819 48 con_1819 = true := by decide +kernel
theorem cc_1819 : cu_1819.all (cutG tb_X11_guessAll 1 bt_RX11 [] ct_1819 [] [] cu_1819 48 con_1819) = true := by decide +kernel
theorem cto_1819 (l : Launch) : CTOK2 l RX11 vwCl gTbl ct_1819 := ct2_cons (vl_900 l) ck_RX11_208_900 (ct2_cons (vl_1212 l) ck_RX11_332_1212 (ct2_cons (vl_859 l) ck_RX11_480_859 (ct2_cons (vl_899 l) ck_RX11_372_899 (ct2_cons (vl_1818 l) ck_RX11_483_1818 (ct2_cons (vl_1522 l) ck_RX11_486_1522 (ct2_cons (vl_1527 l) ck_RX11_486_1527 (ct2_nil)))))))
theorem vl_1819 (l : Launch) : Vld2 l vwCl gTbl con_1819 := conR_ok3 gT_all (hd_1819) rfl pn_RX11 tk_X11_guessAll bo_RX11 xo_RX11 (cto_1819 l) ch_1819 (cut_all cc_1819)
/-- RookHusting isAsSeen -/
noncomputable def gi_1550 : GI := jl_n [gp_696, jl_z 9]
noncomputable def gi_1551 : GI := jl_n [gp_696, jl_z 10]
noncomputable def con_1820 : Con2 := ((yX11_isAsSeen, cX11_isAsSeen, 4, (some .boolean)), (1, 22), ([(6, 0, 0), (0, 1, 0)], gi_1550, hc_205, []), [((0, 0, 0), gi_1551, hq_898, [], [1]), ((0, 1, 0), gi_1551, hq_898, [], [1])])
theorem hd_1820 : con_1820.1 = (yX11_isAsSeen, cX11_isAsSeen, 4, (some .boolean)) := rfl
noncomputable def ct_1820 : CTB2 := [(21, 473, 0, con_1733, [1, 3]), (21, 473, 0, con_1728, [1, 3]), (21, 473, 0, con_1725, [1, 3]), (21, 473, 0, con_1722, [1, 3]), (36, 473, 0, con_1734, [1, 3]), (36, 473, 0, con_1729, [1, 3]), (36, 473, 0, con_1726, [1, 3]), (36, 473, 0, con_1723, [1, 3]), (60, 473, 0, con_1735, [1, 3]), (60, 473, 0, con_1730, [1, 3]), (60, 473, 0, con_1727, [1, 3]), (60, 473, 0, con_1724, [1, 3])]
noncomputable def gi_1552 : GI := jl_n [gp_696, jl_z 12]
noncomputable def gi_1553 : GI := jl_n [gp_696, gp_628]
noncomputable def cu_1820 : List CUT2 := [((2, [lq 0 6 0, lq 1 0 1, lq 2 0 0], [], gi_1552, hq_898), [], ([], 12)), ((2, [lq 0 6 0, lq 1 0 1, lq 2 0 3, lq 3 1 97], [], gi_1553, hq_898), [], ([], 9)), ((2, [lq 0 6 0, lq 1 0 1, lq 2 0 6, lq 3 1 97], [], gi_1553, hq_898), [], ([], 6)), ((2, [lq 0 6 0, lq 1 0 1, lq 2 0 9, lq 3 1 97], [], gi_1553, hq_898), [], ([], 3)), ((2, [lq 0 6 0, lq 1 0 1, lq 2 0 12, lq 3 1 97], [], gi_1553, hq_898), [], ([], 0))]
theorem ch_1820 : staG tb_X11_isAsSeen 1 bt_RX11 [] ct_1820 [] [] cu_1820 44 con_1820 = true := by decide +kernel
theorem cc_1820 : cu_1820.all (cutG tb_X11_isAsSeen 1 bt_RX11 [] ct_1820 [] [] cu_1820 44 con_1820) = true := by decide +kernel
theorem cto_1820 (l : Launch) : CTOK2 l RX11 vwCl gTbl ct_1820 := ct2_cons (vl_1733 l) ck_RX11_473_1733 (ct2_cons (vl_1728 l) ck_RX11_473_1728 (ct2_cons (vl_1725 l) ck_RX11_473_1725 (ct2_cons (vl_1722 l) ck_RX11_473_1722 (ct2_cons (vl_1734 l) ck_RX11_473_1734 (ct2_cons (vl_1729 l) ck_RX11_473_1729 (ct2_cons (vl_1726 l) ck_RX11_473_1726 (ct2_cons (vl_1723 l) ck_RX11_473_1723 (ct2_cons (vl_1735 l) ck_RX11_473_1735 (ct2_cons (vl_1730 l) ck_RX11_473_1730 (ct2_cons (vl_1727 l) ck_RX11_473_1727 (ct2_cons (vl_1724 l) ck_RX11_473_1724 (ct2_nil))))))))))))
theorem vl_1820 (l : Launch) : Vld2 l vwCl gTbl con_1820 := conR_ok3 gT_all (hd_1820) rfl pn_RX11 tk_X11_isAsSeen bo_RX11 xo_RX11 (cto_1820 l) ch_1820 (cut_all cc_1820)
/-- RookHusting guessAll -/
noncomputable def gi_1554 : GI := jl_n [gp_677, gp_543]
noncomputable def gi_1555 : GI := jl_n [gp_677, gp_543, gp_632]
noncomputable def con_1821 : Con2 := ((yX11_guessAll, cX11_guessAll, 4, none), (6, 151), ([(6, 0, 0), (0, 1, 0), (1, 2, 0)], gi_1554, hc_206, rq_6), [((9, 0, 0), gi_1555, hq_899, [], tg_1)])
theorem hd_1821 : con_1821.1 = (yX11_guessAll, cX11_guessAll, 4, none) := rfl
theorem ck_RX11_483_1820 : COK2 RX11 vwCl gTbl 483 0 con_1820 := ⟨wd_1230, wd_125, mh_X11_isAsSeen, .inr (.inr ⟨rfl, wd_1227, wd_1229, wd_43, ⟨_, rfl, pd_X11_isAsSeen⟩, 11, _, TX11, 16, rfl, rfl⟩)⟩
noncomputable def ct_1821 : CTB2 := [(1, 208, 0, con_900, [0, 1, 2, 3, 4, 5, 6, 7, 8, 9, 10, 11, 12, 13, 14, 15, 16, 17, 18, 19, 20, 21, 22, 23, 24, 25, 26]), (36, 332, 0, con_1212, [28, 2, 29, 4, 30, 5, 31, 6]), (45, 480, 0, con_859, [28, 29]), (73, 372, 0, con_899, [32, 3, 28, 16, 33, 18, 34, 30, 35, 29, 36, 22, 23, 37, 38, 39, 31]), (78, 483, 0, con_1820, [0, 40, 41, 42, 32, 33]), (105, 486, 0, con_1522, [27, 33, 43]), (105, 486, 0, con_1527, [27, 33, 43])]
noncomputable def gi_1556 : GI := jl_n [gp_677, gp_543, gp_633]
noncomputable def cu_1821 : List CUT2 := [((14, [lq 0 6 0, lq 1 0 1, lq 2 1 2, lq 3 1 204], [], gi_1556, hq_900), rq_6, ([(204, (-1))], 5))]
theorem ch_1821 : staG tb_X11_guessAll 1 bt_RX11 [] ct_1821 [] [] cu_1821 48 con_1821 = true := by decide +kernel
theorem cc_1821 : cu_1821.all (cutG tb_X11_guessAll 1 bt_RX11 [] ct_1821 [] [] cu_1821 48 con_1821) = true := by decide +kernel
theorem cto_1821 (l : Launch) : CTOK2 l RX11 vwCl gTbl ct_1821 := ct2_cons (vl_900 l) ck_RX11_208_900 (ct2_cons (vl_1212 l) ck_RX11_332_1212 (ct2_cons (vl_859 l) ck_RX11_480_859 (ct2_cons (vl_899 l) ck_RX11_372_899 (ct2_cons (vl_1820 l) ck_RX11_483_1820 (ct2_cons (vl_1522 l) ck_RX11_486_1522 (ct2_cons (vl_1527 l) ck_RX11_486_1527 (ct2_nil)))))))
theorem vl_1821 (l : Launch) : Vld2 l vwCl gTbl con_1821 := conR_ok3 gT_all (hd_1821) rfl pn_RX11 tk_X11_guessAll bo_RX11 xo_RX11 (cto_1821 l) ch_1821 (cut_all cc_1821)
/-- RookHusting isAsSeen -/
noncomputable def gi_1557 : GI := jl_n [gp_675, gp_541, jl_z 9]
noncomputable def ac_1079 : AC := .inr (1, jl_n [js_1 22 1, jl_x (1, (0, 0, 0)), js_1 25 2])
noncomputable def hc_207 : List AC := [ac_1053, .inl (8, [(6, 3, 0), (8, 19, 0), (6, 2, 0)]), ac_1079, ac_1077, ac_1056, am_0]
noncomputable def gi_1558 : GI := jl_n [gp_675, gp_541, jl_z 10]
noncomputable def hq_901 : HP := [(false, ac_1053), (false, .inl (8, [(6, 3, 0), (8, 19, 0), (6, 2, 0)])), (false, ac_1079), (false, ac_1077), (false, ac_1056), (false, am_0)]
noncomputable def con_1822 : Con2 := ((yX11_isAsSeen, cX11_isAsSeen, 4, (some .boolean)), (0, 0), ([(6, 0, 0), (0, 1, 0)], gi_1557, hc_207, []), [((0, 1, 0), gi_1558, hq_901, [], [1])])
theorem hd_1822 : con_1822.1 = (yX11_isAsSeen, cX11_isAsSeen, 4, (some .boolean)) := rfl
noncomputable def gi_1559 : GI := jl_n [gp_675, gp_541, jl_z 12]
noncomputable def cu_1822 : List CUT2 := [((2, [lq 0 6 0, lq 1 0 1, lq 2 0 0], [], gi_1559, hq_901), [], ([], 0))]
theorem ch_1822 : staG tb_X11_isAsSeen 1 bt_RX11 [] ct_3 [] [] cu_1822 11 con_1822 = true := by decide +kernel
theorem cc_1822 : cu_1822.all (cutG tb_X11_isAsSeen 1 bt_RX11 [] ct_3 [] [] cu_1822 11 con_1822) = true := by decide +kernel
theorem vl_1822 (l : Launch) : Vld2 l vwCl gTbl con_1822 := conR_ok3 gT_all (hd_1822) rfl pn_RX11 tk_X11_isAsSeen bo_RX11 xo_RX11 (cto_3 l) ch_1822 (cut_all cc_1822)
/-- RookHusting guessAll -/
noncomputable def gi_1560 : GI := jl_n [gp_677, gp_541]
noncomputable def ac_1080 : AC := .inr (1, jl_n [js_1 138 1, jl_x (1, (0, 0, 0)), js_1 141 2])
noncomputable def hc_208 : List AC := [ac_1057, .inl (9, [(6, 3, 0), (6, 11, 0)]), .inl (7, [(6, 4, 0), (6, 5, 0), (6, 6, 0), (1, 24, 0)]), ac_1058, am_3, am_1, am_1, am_1, .inl (1, [(6, 3, 0), (8, 43, 0)]), am_5, am_7, .inl (0, [(1, 44, 0), (6, 12, 0), (6, 13, 0), (6, 14, 0)]), ac_642, am_12, ac_643, ac_1059, am_4, am_0, am_11, am_0, am_1, am_0, am_4, am_10, am_0, am_0, am_9, ac_1060, .inl (7, [(6, 29, 0), (6, 30, 0), (6, 31, 0), (1, 124, 0)]), am_3, am_1, am_1, ac_1061, am_0, am_0, am_1, am_0, am_0, am_0, am_9, .inl (8, [(6, 42, 0), (8, 135, 0), (6, 41, 0)]), ac_1080, ac_1078, am_16]
noncomputable def gi_1561 : GI := jl_n [gp_677, gp_541, gp_632]
noncomputable def hq_902 : HP := [(true, ac_1064), (false, .inl (9, [(6, 3, 0), (6, 11, 0)])), (true, .inl (7, [(6, 4, 0), (6, 5, 0), (6, 6, 0), (1, 220, 0)])), (false, ac_1058), (true, am_3), (true, am_1), (true, am_1), (false, am_1), (false, .inl (1, [(6, 3, 0), (8, 43, 0)])), (false, am_5), (false, am_7), (false, .inl (0, [(1, 44, 0), (6, 12, 0), (6, 13, 0), (6, 14, 0)])), (false, ac_642), (false, am_12), (false, ac_643), (true, ac_1065), (false, am_4), (true, am_0), (false, am_11), (true, am_0), (true, am_1), (true, am_0), (false, am_4), (false, am_10), (true, am_0), (true, am_0), (true, am_9), (true, ac_1066), (true, .inl (7, [(6, 29, 0), (6, 30, 0), (6, 31, 0), (1, 237, 0)])), (true, am_3), (true, am_1), (true, am_1), (true, ac_1067), (true, am_0), (true, am_0), (true, am_1), (true, am_0), (true, am_0), (true, am_0), (true, am_9), (false, .inl (8, [(6, 42, 0), (8, 135, 0), (6, 41, 0)])), (false, ac_1080), (false, ac_1078), (true, am_16)]
noncomputable def con_1823 : Con2 := ((yX11_guessAll, cX11_guessAll, 4, none), (6, 151), ([(6, 0, 0), (0, 1, 0), (1, 2, 0)], gi_1560, hc_208, rq_6), [((9, 0, 0), gi_1561, hq_902, [], tg_1)])
theorem hd_1823 : con_1823.1 = (yX11_guessAll, cX11_guessAll, 4, none) := rfl
theorem ck_RX11_483_1822 : COK2 RX11 vwCl gTbl 483 0 con_1822 := ⟨wd_1230, wd_125, mh_X11_isAsSeen, .inr (.inr ⟨rfl, wd_1227, wd_1229, wd_43, ⟨_, rfl, pd_X11_isAsSeen⟩, 11, _, TX11, 16, rfl, rfl⟩)⟩
noncomputable def ct_1823 : CTB2 := [(1, 208, 0, con_900, [0, 1, 2, 3, 4, 5, 6, 7, 8, 9, 10, 11, 12, 13, 14, 15, 16, 17, 18, 19, 20, 21, 22, 23, 24, 25, 26]), (36, 332, 0, con_1212, [28, 2, 29, 4, 30, 5, 31, 6]), (45, 480, 0, con_859, [28, 29]), (73, 372, 0, con_899, [32, 3, 28, 16, 33, 18, 34, 30, 35, 29, 36, 22, 23, 37, 38, 39, 31]), (78, 483, 0, con_1822, [0, 40, 41, 42, 32, 33]), (105, 486, 0, con_1522, [27, 33, 43]), (105, 486, 0, con_1527, [27, 33, 43])]
noncomputable def gi_1562 : GI := jl_n [gp_677, gp_541, gp_633]
noncomputable def hq_903 : HP := [(true, ac_1064), (false, .inl (9, [(6, 3, 0), (6, 11, 0)])), (true, .inl (7, [(6, 4, 0), (6, 5, 0), (6, 6, 0), (1, 224, 0)])), (false, ac_1058), (true, am_3), (true, am_1), (true, am_1), (false, am_1), (false, .inl (1, [(6, 3, 0), (8, 43, 0)])), (false, am_5), (false, am_7), (false, .inl (0, [(1, 44, 0), (6, 12, 0), (6, 13, 0), (6, 14, 0)])), (false, ac_642), (false, am_12), (false, ac_643), (true, ac_1068), (false, am_4), (true, am_0), (false, am_11), (true, am_0), (true, am_1), (true, am_0), (false, am_4), (false, am_10), (true, am_0), (true, am_0), (true, am_9), (true, ac_1069), (true, .inl (7, [(6, 29, 0), (6, 30, 0), (6, 31, 0), (1, 241, 0)])), (true, am_3), (true, am_1), (true, am_1), (true, ac_1070), (true, am_0), (true, am_0), (true, am_1), (true, am_0), (true, am_0), (true, am_0), (true, am_9), (false, .inl (8, [(6, 42, 0), (8, 135, 0), (6, 41, 0)])), (false, ac_1080), (false, ac_1078), (true, am_16)]
noncomputable def cu_1823 : List CUT2 := [((14, [lq 0 6 0, lq 1 0 1, lq 2 1 2, lq 3 1 204], [], gi_1562, hq_903), rq_6, ([(204, (-1))], 5))]
theorem ch_1823 : staG tb_X11_guessAll 1 bt_RX11 [] ct_1823 [] [] cu_1823 48 con_1823 = true := by decide +kernel
theorem cc_1823 : cu_1823.all (cutG tb_X11_guessAll 1 bt_RX11 [] ct_1823 [] [] cu_1823 48 con_1823) = true := by decide +kernel
theorem cto_1823 (l : Launch) : CTOK2 l RX11 vwCl gTbl ct_1823 := ct2_cons (vl_900 l) ck_RX11_208_900 (ct2_cons (vl_1212 l) ck_RX11_332_1212 (ct2_cons (vl_859 l) ck_RX11_480_859 (ct2_cons (vl_899 l) ck_RX11_372_899 (ct2_cons (vl_1822 l) ck_RX11_483_1822 (ct2_cons (vl_1522 l) ck_RX11_486_1522 (ct2_cons (vl_1527 l) ck_RX11_486_1527 (ct2_nil)))))))
theorem vl_1823 (l : Launch) : Vld2 l vwCl gTbl con_1823 := conR_ok3 gT_all (hd_1823) rfl pn_RX11 tk_X11_guessAll bo_RX11 xo_RX11 (cto_1823 l) ch_1823 (cut_all cc_1823)
/-- RookHusting$Slots at -/
noncomputable def con_1824 : Con2 := ((yX8_at, cX8_at, 3, (some .long)), (0, 0), ([(6, 0, 0), (0, 0, 0), (0, 0, 0)], [(0, 0), (0, 0), (0, 0), (0, 0), (0, 0), (0, 0), (0, 4)], [.inl (8, [(6, 1, 0), (8, 4, 0), (8, 5, 0)]), ac_992], []), [((4, 6, 0), gi_1117, hq_824, [], [1])])
theorem hd_1824 : con_1824.1 = (yX8_at, cX8_at, 3, (some .long)) := rfl
noncomputable def cu_1824 : List CUT2 := []
theorem ch_1824 : staG tb_X8_at 1 bt_RX8 [] ct_1253 [] [] cu_1824 11 con_1824 = true := by decide +kernel
theorem vl_1824 (l : Launch) : Vld2 l vwCl gTbl con_1824 := conR_ok3 gT_all (hd_1824) rfl pn_RX8 tk_X8_at bo_RX8 xo_RX8 (cto_1253 l) ch_1824 cut_nil
/-- RookHusting$Slots at -/
noncomputable def gi_1563 : GI := jl_n [jl_z 7, jl_i 0 16]
noncomputable def gi_1564 : GI := jl_n [jl_z 7, gp_361]
noncomputable def con_1825 : Con2 := ((yX8_at, cX8_at, 3, (some .long)), (0, 0), ([(6, 0, 0), (0, 0, 0), (0, 1, 0)], gi_1563, [.inl (8, [(6, 1, 0), (8, 4, 0), (8, 5, 0)]), ac_993], []), [((4, 7, 0), gi_1564, hq_825, [], [1])])
theorem hd_1825 : con_1825.1 = (yX8_at, cX8_at, 3, (some .long)) := rfl
noncomputable def cu_1825 : List CUT2 := []
theorem ch_1825 : staG tb_X8_at 1 bt_RX8 [] ct_1253 [] [] cu_1825 11 con_1825 = true := by decide +kernel
theorem vl_1825 (l : Launch) : Vld2 l vwCl gTbl con_1825 := conR_ok3 gT_all (hd_1825) rfl pn_RX8 tk_X8_at bo_RX8 xo_RX8 (cto_1253 l) ch_1825 cut_nil
/-- RookHusting$Slots at -/
noncomputable def con_1826 : Con2 := ((yX8_at, cX8_at, 3, (some .long)), (0, 0), ([(6, 0, 0), (0, 0, 0), (0, 2, 0)], [(0, 0), (0, 0), (0, 0), (0, 0), (0, 0), (0, 0), (0, 250)], [.inl (8, [(6, 1, 0), (8, 4, 0), (8, 5, 0)]), ac_994], []), [((4, 6, 0), gi_1119, hq_826, [], [1])])
theorem hd_1826 : con_1826.1 = (yX8_at, cX8_at, 3, (some .long)) := rfl
noncomputable def cu_1826 : List CUT2 := []
theorem ch_1826 : staG tb_X8_at 1 bt_RX8 [] ct_1253 [] [] cu_1826 11 con_1826 = true := by decide +kernel
theorem vl_1826 (l : Launch) : Vld2 l vwCl gTbl con_1826 := conR_ok3 gT_all (hd_1826) rfl pn_RX8 tk_X8_at bo_RX8 xo_RX8 (cto_1253 l) ch_1826 cut_nil
/-- RookHusting$Slots at -/
noncomputable def con_1827 : Con2 := ((yX8_at, cX8_at, 3, (some .long)), (0, 0), ([(6, 0, 0), (0, 0, 0), (0, 3, 0)], [(0, 0), (0, 0), (0, 0), (0, 0), (0, 0), (0, 0), (0, 4)], [.inl (8, [(6, 1, 0), (8, 4, 0), (8, 5, 0)]), ac_995], []), [((4, 6, 0), gi_1117, hq_827, [], [1])])
theorem hd_1827 : con_1827.1 = (yX8_at, cX8_at, 3, (some .long)) := rfl
noncomputable def cu_1827 : List CUT2 := []
theorem ch_1827 : staG tb_X8_at 1 bt_RX8 [] ct_1253 [] [] cu_1827 11 con_1827 = true := by decide +kernel
theorem vl_1827 (l : Launch) : Vld2 l vwCl gTbl con_1827 := conR_ok3 gT_all (hd_1827) rfl pn_RX8 tk_X8_at bo_RX8 xo_RX8 (cto_1253 l) ch_1827 cut_nil
/-- RookHusting$Slots at -/
noncomputable def con_1828 : Con2 := ((yX8_at, cX8_at, 3, (some .long)), (0, 0), ([(6, 0, 0), (0, 0, 0), (0, 4, 0)], [(0, 0), (0, 0), (0, 0), (0, 0), (0, 0), (0, 0), (0, 16)], [.inl (8, [(6, 1, 0), (8, 4, 0), (8, 5, 0)]), ac_996], []), [((4, 6, 0), gi_1118, hq_828, [], [1])])
theorem hd_1828 : con_1828.1 = (yX8_at, cX8_at, 3, (some .long)) := rfl
noncomputable def cu_1828 : List CUT2 := []
theorem ch_1828 : staG tb_X8_at 1 bt_RX8 [] ct_1253 [] [] cu_1828 11 con_1828 = true := by decide +kernel
theorem vl_1828 (l : Launch) : Vld2 l vwCl gTbl con_1828 := conR_ok3 gT_all (hd_1828) rfl pn_RX8 tk_X8_at bo_RX8 xo_RX8 (cto_1253 l) ch_1828 cut_nil
/-- RookHusting$Slots at -/
noncomputable def con_1829 : Con2 := ((yX8_at, cX8_at, 3, (some .long)), (0, 0), ([(6, 0, 0), (0, 0, 0), (0, 5, 0)], [(0, 0), (0, 0), (0, 0), (0, 0), (0, 0), (0, 0), (0, 250)], [.inl (8, [(6, 1, 0), (8, 4, 0), (8, 5, 0)]), ac_997], []), [((4, 6, 0), gi_1119, hq_829, [], [1])])
theorem hd_1829 : con_1829.1 = (yX8_at, cX8_at, 3, (some .long)) := rfl
noncomputable def cu_1829 : List CUT2 := []
theorem ch_1829 : staG tb_X8_at 1 bt_RX8 [] ct_1253 [] [] cu_1829 11 con_1829 = true := by decide +kernel
theorem vl_1829 (l : Launch) : Vld2 l vwCl gTbl con_1829 := conR_ok3 gT_all (hd_1829) rfl pn_RX8 tk_X8_at bo_RX8 xo_RX8 (cto_1253 l) ch_1829 cut_nil
/-- RookHusting$Slots at -/
noncomputable def con_1830 : Con2 := ((yX8_at, cX8_at, 3, (some .long)), (0, 0), ([(6, 0, 0), (0, 0, 0), (0, 6, 0)], [(0, 0), (0, 0), (0, 0), (0, 0), (0, 0), (0, 0), (0, 4)], [.inl (8, [(6, 1, 0), (8, 4, 0), (8, 5, 0)]), ac_998], []), [((4, 6, 0), gi_1117, hq_830, [], [1])])
theorem hd_1830 : con_1830.1 = (yX8_at, cX8_at, 3, (some .long)) := rfl
noncomputable def cu_1830 : List CUT2 := []
theorem ch_1830 : staG tb_X8_at 1 bt_RX8 [] ct_1253 [] [] cu_1830 11 con_1830 = true := by decide +kernel
theorem vl_1830 (l : Launch) : Vld2 l vwCl gTbl con_1830 := conR_ok3 gT_all (hd_1830) rfl pn_RX8 tk_X8_at bo_RX8 xo_RX8 (cto_1253 l) ch_1830 cut_nil
/-- RookHusting$Slots at -/
noncomputable def con_1831 : Con2 := ((yX8_at, cX8_at, 3, (some .long)), (0, 0), ([(6, 0, 0), (0, 0, 0), (0, 7, 0)], [(0, 0), (0, 0), (0, 0), (0, 0), (0, 0), (0, 0), (0, 16)], [.inl (8, [(6, 1, 0), (8, 4, 0), (8, 5, 0)]), ac_999], []), [((4, 6, 0), gi_1118, hq_831, [], [1])])
theorem hd_1831 : con_1831.1 = (yX8_at, cX8_at, 3, (some .long)) := rfl
noncomputable def cu_1831 : List CUT2 := []
theorem ch_1831 : staG tb_X8_at 1 bt_RX8 [] ct_1253 [] [] cu_1831 11 con_1831 = true := by decide +kernel
theorem vl_1831 (l : Launch) : Vld2 l vwCl gTbl con_1831 := conR_ok3 gT_all (hd_1831) rfl pn_RX8 tk_X8_at bo_RX8 xo_RX8 (cto_1253 l) ch_1831 cut_nil
/-- RookHusting$Slots at -/
noncomputable def con_1832 : Con2 := ((yX8_at, cX8_at, 3, (some .long)), (0, 0), ([(6, 0, 0), (0, 0, 0), (0, 8, 0)], [(0, 0), (0, 0), (0, 0), (0, 0), (0, 0), (0, 0), (0, 250)], [.inl (8, [(6, 1, 0), (8, 4, 0), (8, 5, 0)]), ac_1000], []), [((4, 6, 0), gi_1119, hq_832, [], [1])])
theorem hd_1832 : con_1832.1 = (yX8_at, cX8_at, 3, (some .long)) := rfl
noncomputable def cu_1832 : List CUT2 := []
theorem ch_1832 : staG tb_X8_at 1 bt_RX8 [] ct_1253 [] [] cu_1832 11 con_1832 = true := by decide +kernel
theorem vl_1832 (l : Launch) : Vld2 l vwCl gTbl con_1832 := conR_ok3 gT_all (hd_1832) rfl pn_RX8 tk_X8_at bo_RX8 xo_RX8 (cto_1253 l) ch_1832 cut_nil
/-- RookHusting isAsSeen -/
noncomputable def gi_1565 : GI := jl_n [gp_697, jl_z 9]
noncomputable def ac_1081 : AC := .inr (2, jl_n [js_4 85 60, js_5 180 9223372036854775807 9223372036854775807])
noncomputable def hc_209 : List AC := [ac_1053, .inl (8, [(6, 3, 0), (8, 19, 0), (6, 2, 0)]), ac_1054, ac_1081, ac_1056, am_0]
noncomputable def gi_1566 : GI := jl_n [gp_697, jl_z 10]
noncomputable def hq_904 : HP := [(false, ac_1053), (false, .inl (8, [(6, 3, 0), (8, 19, 0), (6, 2, 0)])), (false, ac_1054), (false, ac_1081), (false, ac_1056), (false, am_0)]
noncomputable def con_1833 : Con2 := ((yX11_isAsSeen, cX11_isAsSeen, 4, (some .boolean)), (1, 22), ([(6, 0, 0), (0, 0, 0)], gi_1565, hc_209, []), [((0, 0, 0), gi_1566, hq_904, [], [1]), ((0, 1, 0), gi_1566, hq_904, [], [1])])
theorem hd_1833 : con_1833.1 = (yX11_isAsSeen, cX11_isAsSeen, 4, (some .boolean)) := rfl
theorem ck_RX11_473_1826 : COK2 RX11 vwCl gTbl 473 0 con_1826 := ⟨wd_1218, wd_131, mh_X8_at, .inr (.inr ⟨rfl, wd_1215, wd_1216, wd_1217, ⟨_, rfl, pd_X8_at⟩, 8, _, TX8, 3, rfl, rfl⟩)⟩
theorem ck_RX11_473_1829 : COK2 RX11 vwCl gTbl 473 0 con_1829 := ⟨wd_1218, wd_131, mh_X8_at, .inr (.inr ⟨rfl, wd_1215, wd_1216, wd_1217, ⟨_, rfl, pd_X8_at⟩, 8, _, TX8, 3, rfl, rfl⟩)⟩
theorem ck_RX11_473_1832 : COK2 RX11 vwCl gTbl 473 0 con_1832 := ⟨wd_1218, wd_131, mh_X8_at, .inr (.inr ⟨rfl, wd_1215, wd_1216, wd_1217, ⟨_, rfl, pd_X8_at⟩, 8, _, TX8, 3, rfl, rfl⟩)⟩
theorem ck_RX11_473_1825 : COK2 RX11 vwCl gTbl 473 0 con_1825 := ⟨wd_1218, wd_131, mh_X8_at, .inr (.inr ⟨rfl, wd_1215, wd_1216, wd_1217, ⟨_, rfl, pd_X8_at⟩, 8, _, TX8, 3, rfl, rfl⟩)⟩
theorem ck_RX11_473_1828 : COK2 RX11 vwCl gTbl 473 0 con_1828 := ⟨wd_1218, wd_131, mh_X8_at, .inr (.inr ⟨rfl, wd_1215, wd_1216, wd_1217, ⟨_, rfl, pd_X8_at⟩, 8, _, TX8, 3, rfl, rfl⟩)⟩
theorem ck_RX11_473_1831 : COK2 RX11 vwCl gTbl 473 0 con_1831 := ⟨wd_1218, wd_131, mh_X8_at, .inr (.inr ⟨rfl, wd_1215, wd_1216, wd_1217, ⟨_, rfl, pd_X8_at⟩, 8, _, TX8, 3, rfl, rfl⟩)⟩
theorem ck_RX11_473_1824 : COK2 RX11 vwCl gTbl 473 0 con_1824 := ⟨wd_1218, wd_131, mh_X8_at, .inr (.inr ⟨rfl, wd_1215, wd_1216, wd_1217, ⟨_, rfl, pd_X8_at⟩, 8, _, TX8, 3, rfl, rfl⟩)⟩
theorem ck_RX11_473_1827 : COK2 RX11 vwCl gTbl 473 0 con_1827 := ⟨wd_1218, wd_131, mh_X8_at, .inr (.inr ⟨rfl, wd_1215, wd_1216, wd_1217, ⟨_, rfl, pd_X8_at⟩, 8, _, TX8, 3, rfl, rfl⟩)⟩
theorem ck_RX11_473_1830 : COK2 RX11 vwCl gTbl 473 0 con_1830 := ⟨wd_1218, wd_131, mh_X8_at, .inr (.inr ⟨rfl, wd_1215, wd_1216, wd_1217, ⟨_, rfl, pd_X8_at⟩, 8, _, TX8, 3, rfl, rfl⟩)⟩
noncomputable def ct_1833 : CTB2 := [(21, 473, 0, con_1830, [1, 3]), (21, 473, 0, con_1827, [1, 3]), (21, 473, 0, con_1824, [1, 3]), (36, 473, 0, con_1831, [1, 3]), (36, 473, 0, con_1828, [1, 3]), (36, 473, 0, con_1825, [1, 3]), (60, 473, 0, con_1832, [1, 3]), (60, 473, 0, con_1829, [1, 3]), (60, 473, 0, con_1826, [1, 3])]
noncomputable def gi_1567 : GI := jl_n [gp_697, jl_z 12]
noncomputable def gi_1568 : GI := jl_n [gp_697, gp_628]
noncomputable def cu_1833 : List CUT2 := [((2, [lq 0 6 0, lq 1 0 0, lq 2 0 0], [], gi_1567, hq_904), [], ([], 9)), ((2, [lq 0 6 0, lq 1 0 0, lq 2 0 3, lq 3 1 97], [], gi_1568, hq_904), [], ([], 6)), ((2, [lq 0 6 0, lq 1 0 0, lq 2 0 6, lq 3 1 97], [], gi_1568, hq_904), [], ([], 3)), ((2, [lq 0 6 0, lq 1 0 0, lq 2 0 9, lq 3 1 97], [], gi_1568, hq_904), [], ([], 0))]
theorem ch_1833 : staG tb_X11_isAsSeen 1 bt_RX11 [] ct_1833 [] [] cu_1833 44 con_1833 = true := by decide +kernel
theorem cc_1833 : cu_1833.all (cutG tb_X11_isAsSeen 1 bt_RX11 [] ct_1833 [] [] cu_1833 44 con_1833) = true := by decide +kernel
theorem cto_1833 (l : Launch) : CTOK2 l RX11 vwCl gTbl ct_1833 := ct2_cons (vl_1830 l) ck_RX11_473_1830 (ct2_cons (vl_1827 l) ck_RX11_473_1827 (ct2_cons (vl_1824 l) ck_RX11_473_1824 (ct2_cons (vl_1831 l) ck_RX11_473_1831 (ct2_cons (vl_1828 l) ck_RX11_473_1828 (ct2_cons (vl_1825 l) ck_RX11_473_1825 (ct2_cons (vl_1832 l) ck_RX11_473_1832 (ct2_cons (vl_1829 l) ck_RX11_473_1829 (ct2_cons (vl_1826 l) ck_RX11_473_1826 (ct2_nil)))))))))
theorem vl_1833 (l : Launch) : Vld2 l vwCl gTbl con_1833 := conR_ok3 gT_all (hd_1833) rfl pn_RX11 tk_X11_isAsSeen bo_RX11 xo_RX11 (cto_1833 l) ch_1833 (cut_all cc_1833)
/-- RookHusting guessAll -/
noncomputable def gi_1569 : GI := jl_n [gp_630, gp_623]
noncomputable def ac_1082 : AC := .inr (2, jl_n [js_4 201 60, js_5 180 9223372036854775807 9223372036854775807])
noncomputable def hc_210 : List AC := [ac_1057, .inl (9, [(6, 3, 0), (6, 11, 0)]), .inl (7, [(6, 4, 0), (6, 5, 0), (6, 6, 0), (1, 24, 0)]), ac_1058, am_3, am_1, am_1, am_1, .inl (1, [(6, 3, 0), (8, 43, 0)]), am_5, am_7, .inl (0, [(1, 44, 0), (6, 12, 0), (6, 13, 0), (6, 14, 0)]), ac_642, am_12, ac_643, ac_1059, am_4, am_0, am_11, am_0, am_1, am_0, am_4, am_10, am_0, am_0, am_9, ac_1060, .inl (7, [(6, 29, 0), (6, 30, 0), (6, 31, 0), (1, 124, 0)]), am_3, am_1, am_1, ac_1061, am_0, am_0, am_1, am_0, am_0, am_0, am_9, .inl (8, [(6, 42, 0), (8, 135, 0), (6, 41, 0)]), ac_1062, ac_1082, am_16]
noncomputable def gi_1570 : GI := jl_n [gp_630, gp_623, gp_632]
noncomputable def hq_905 : HP := [(true, ac_1064), (false, .inl (9, [(6, 3, 0), (6, 11, 0)])), (true, .inl (7, [(6, 4, 0), (6, 5, 0), (6, 6, 0), (1, 220, 0)])), (false, ac_1058), (true, am_3), (true, am_1), (true, am_1), (false, am_1), (false, .inl (1, [(6, 3, 0), (8, 43, 0)])), (false, am_5), (false, am_7), (false, .inl (0, [(1, 44, 0), (6, 12, 0), (6, 13, 0), (6, 14, 0)])), (false, ac_642), (false, am_12), (false, ac_643), (true, ac_1065), (false, am_4), (true, am_0), (false, am_11), (true, am_0), (true, am_1), (true, am_0), (false, am_4), (false, am_10), (true, am_0), (true, am_0), (true, am_9), (true, ac_1066), (true, .inl (7, [(6, 29, 0), (6, 30, 0), (6, 31, 0), (1, 237, 0)])), (true, am_3), (true, am_1), (true, am_1), (true, ac_1067), (true, am_0), (true, am_0), (true, am_1), (true, am_0), (true, am_0), (true, am_0), (true, am_9), (false, .inl (8, [(6, 42, 0), (8, 135, 0), (6, 41, 0)])), (false, ac_1062), (false, ac_1082), (true, am_16)]
noncomputable def con_1834 : Con2 := ((yX11_guessAll, cX11_guessAll, 4, none), (6, 151), ([(6, 0, 0), (0, 0, 0), (1, 2, 0)], gi_1569, hc_210, rq_6), [((9, 0, 0), gi_1570, hq_905, [], tg_1)])
theorem hd_1834 : con_1834.1 = (yX11_guessAll, cX11_guessAll, 4, none) := rfl
theorem ck_RX11_483_1833 : COK2 RX11 vwCl gTbl 483 0 con_1833 := ⟨wd_1230, wd_125, mh_X11_isAsSeen, .inr (.inr ⟨rfl, wd_1227, wd_1229, wd_43, ⟨_, rfl, pd_X11_isAsSeen⟩, 11, _, TX11, 16, rfl, rfl⟩)⟩
noncomputable def ct_1834 : CTB2 := [(1, 208, 0, con_900, [0, 1, 2, 3, 4, 5, 6, 7, 8, 9, 10, 11, 12, 13, 14, 15, 16, 17, 18, 19, 20, 21, 22, 23, 24, 25, 26]), (36, 332, 0, con_1212, [28, 2, 29, 4, 30, 5, 31, 6]), (45, 480, 0, con_859, [28, 29]), (73, 372, 0, con_899, [32, 3, 28, 16, 33, 18, 34, 30, 35, 29, 36, 22, 23, 37, 38, 39, 31]), (78, 483, 0, con_1833, [0, 40, 41, 42, 32, 33]), (105, 486, 0, con_1522, [27, 33, 43]), (105, 486, 0, con_1527, [27, 33, 43])]
noncomputable def gi_1571 : GI := jl_n [gp_630, gp_623, gp_633]
noncomputable def hq_906 : HP := [(true, ac_1064), (false, .inl (9, [(6, 3, 0), (6, 11, 0)])), (true, .inl (7, [(6, 4, 0), (6, 5, 0), (6, 6, 0), (1, 224, 0)])), (false, ac_1058), (true, am_3), (true, am_1), (true, am_1), (false, am_1), (false, .inl (1, [(6, 3, 0), (8, 43, 0)])), (false, am_5), (false, am_7), (false, .inl (0, [(1, 44, 0), (6, 12, 0), (6, 13, 0), (6, 14, 0)])), (false, ac_642), (false, am_12), (false, ac_643), (true, ac_1068), (false, am_4), (true, am_0), (false, am_11), (true, am_0), (true, am_1), (true, am_0), (false, am_4), (false, am_10), (true, am_0), (true, am_0), (true, am_9), (true, ac_1069), (true, .inl (7, [(6, 29, 0), (6, 30, 0), (6, 31, 0), (1, 241, 0)])), (true, am_3), (true, am_1), (true, am_1), (true, ac_1070), (true, am_0), (true, am_0), (true, am_1), (true, am_0), (true, am_0), (true, am_0), (true, am_9), (false, .inl (8, [(6, 42, 0), (8, 135, 0), (6, 41, 0)])), (false, ac_1062), (false, ac_1082), (true, am_16)]
noncomputable def cu_1834 : List CUT2 := [((14, [lq 0 6 0, lq 1 0 0, lq 2 1 2, lq 3 1 204], [], gi_1571, hq_906), rq_6, ([(204, (-1))], 5))]
theorem ch_1834 : staG tb_X11_guessAll 1 bt_RX11 [] ct_1834 [] [] cu_1834 48 con_1834 = true := by decide +kernel
theorem cc_1834 : cu_1834.all (cutG tb_X11_guessAll 1 bt_RX11 [] ct_1834 [] [] cu_1834 48 con_1834) = true := by decide +kernel
theorem cto_1834 (l : Launch) : CTOK2 l RX11 vwCl gTbl ct_1834 := ct2_cons (vl_900 l) ck_RX11_208_900 (ct2_cons (vl_1212 l) ck_RX11_332_1212 (ct2_cons (vl_859 l) ck_RX11_480_859 (ct2_cons (vl_899 l) ck_RX11_372_899 (ct2_cons (vl_1833 l) ck_RX11_483_1833 (ct2_cons (vl_1522 l) ck_RX11_486_1522 (ct2_cons (vl_1527 l) ck_RX11_486_1527 (ct2_nil)))))))
theorem vl_1834 (l : Launch) : Vld2 l vwCl gTbl con_1834 := conR_ok3 gT_all (hd_1834) rfl pn_RX11 tk_X11_guessAll bo_RX11 xo_RX11 (cto_1834 l) ch_1834 (cut_all cc_1834)
/-- RookHusting$Slots at -/
noncomputable def con_1835 : Con2 := ((yX8_at, cX8_at, 3, (some .long)), (0, 0), ([(6, 0, 0), (0, 0, 0), (0, 9, 0)], [(0, 0), (0, 0), (0, 0), (0, 0), (0, 0), (0, 0), (0, 4)], [.inl (8, [(6, 1, 0), (8, 4, 0), (8, 5, 0)]), ac_1001], []), [((4, 6, 0), gi_1117, hq_833, [], [1])])
theorem hd_1835 : con_1835.1 = (yX8_at, cX8_at, 3, (some .long)) := rfl
noncomputable def cu_1835 : List CUT2 := []
theorem ch_1835 : staG tb_X8_at 1 bt_RX8 [] ct_1253 [] [] cu_1835 11 con_1835 = true := by decide +kernel
theorem vl_1835 (l : Launch) : Vld2 l vwCl gTbl con_1835 := conR_ok3 gT_all (hd_1835) rfl pn_RX8 tk_X8_at bo_RX8 xo_RX8 (cto_1253 l) ch_1835 cut_nil
/-- RookHusting$Slots at -/
noncomputable def con_1836 : Con2 := ((yX8_at, cX8_at, 3, (some .long)), (0, 0), ([(6, 0, 0), (0, 0, 0), (0, 10, 0)], [(0, 0), (0, 0), (0, 0), (0, 0), (0, 0), (0, 0), (0, 16)], [.inl (8, [(6, 1, 0), (8, 4, 0), (8, 5, 0)]), ac_1002], []), [((4, 6, 0), gi_1118, hq_834, [], [1])])
theorem hd_1836 : con_1836.1 = (yX8_at, cX8_at, 3, (some .long)) := rfl
noncomputable def cu_1836 : List CUT2 := []
theorem ch_1836 : staG tb_X8_at 1 bt_RX8 [] ct_1253 [] [] cu_1836 11 con_1836 = true := by decide +kernel
theorem vl_1836 (l : Launch) : Vld2 l vwCl gTbl con_1836 := conR_ok3 gT_all (hd_1836) rfl pn_RX8 tk_X8_at bo_RX8 xo_RX8 (cto_1253 l) ch_1836 cut_nil
/-- RookHusting$Slots at -/
noncomputable def con_1837 : Con2 := ((yX8_at, cX8_at, 3, (some .long)), (0, 0), ([(6, 0, 0), (0, 0, 0), (0, 11, 0)], [(0, 0), (0, 0), (0, 0), (0, 0), (0, 0), (0, 0), (0, 250)], [.inl (8, [(6, 1, 0), (8, 4, 0), (8, 5, 0)]), ac_1003], []), [((4, 6, 0), gi_1119, hq_835, [], [1])])
theorem hd_1837 : con_1837.1 = (yX8_at, cX8_at, 3, (some .long)) := rfl
noncomputable def cu_1837 : List CUT2 := []
theorem ch_1837 : staG tb_X8_at 1 bt_RX8 [] ct_1253 [] [] cu_1837 11 con_1837 = true := by decide +kernel
theorem vl_1837 (l : Launch) : Vld2 l vwCl gTbl con_1837 := conR_ok3 gT_all (hd_1837) rfl pn_RX8 tk_X8_at bo_RX8 xo_RX8 (cto_1253 l) ch_1837 cut_nil
/-- RookHusting$Slots at -/
noncomputable def con_1838 : Con2 := ((yX8_at, cX8_at, 3, (some .long)), (0, 0), ([(6, 0, 0), (0, 0, 0), (0, 12, 0)], [(0, 0), (0, 0), (0, 0), (0, 0), (0, 0), (0, 0), (0, 4)], [.inl (8, [(6, 1, 0), (8, 4, 0), (8, 5, 0)]), ac_1004], []), [((4, 6, 0), gi_1117, hq_836, [], [1])])
theorem hd_1838 : con_1838.1 = (yX8_at, cX8_at, 3, (some .long)) := rfl
noncomputable def cu_1838 : List CUT2 := []
theorem ch_1838 : staG tb_X8_at 1 bt_RX8 [] ct_1253 [] [] cu_1838 11 con_1838 = true := by decide +kernel
theorem vl_1838 (l : Launch) : Vld2 l vwCl gTbl con_1838 := conR_ok3 gT_all (hd_1838) rfl pn_RX8 tk_X8_at bo_RX8 xo_RX8 (cto_1253 l) ch_1838 cut_nil
/-- RookHusting$Slots at -/
noncomputable def con_1839 : Con2 := ((yX8_at, cX8_at, 3, (some .long)), (0, 0), ([(6, 0, 0), (0, 0, 0), (0, 13, 0)], [(0, 0), (0, 0), (0, 0), (0, 0), (0, 0), (0, 0), (0, 16)], [.inl (8, [(6, 1, 0), (8, 4, 0), (8, 5, 0)]), ac_1005], []), [((4, 6, 0), gi_1118, hq_837, [], [1])])
theorem hd_1839 : con_1839.1 = (yX8_at, cX8_at, 3, (some .long)) := rfl
noncomputable def cu_1839 : List CUT2 := []
theorem ch_1839 : staG tb_X8_at 1 bt_RX8 [] ct_1253 [] [] cu_1839 11 con_1839 = true := by decide +kernel
theorem vl_1839 (l : Launch) : Vld2 l vwCl gTbl con_1839 := conR_ok3 gT_all (hd_1839) rfl pn_RX8 tk_X8_at bo_RX8 xo_RX8 (cto_1253 l) ch_1839 cut_nil
/-- RookHusting$Slots at -/
noncomputable def con_1840 : Con2 := ((yX8_at, cX8_at, 3, (some .long)), (0, 0), ([(6, 0, 0), (0, 0, 0), (0, 14, 0)], [(0, 0), (0, 0), (0, 0), (0, 0), (0, 0), (0, 0), (0, 250)], [.inl (8, [(6, 1, 0), (8, 4, 0), (8, 5, 0)]), ac_1006], []), [((4, 6, 0), gi_1119, hq_838, [], [1])])
theorem hd_1840 : con_1840.1 = (yX8_at, cX8_at, 3, (some .long)) := rfl
noncomputable def cu_1840 : List CUT2 := []
theorem ch_1840 : staG tb_X8_at 1 bt_RX8 [] ct_1253 [] [] cu_1840 11 con_1840 = true := by decide +kernel
theorem vl_1840 (l : Launch) : Vld2 l vwCl gTbl con_1840 := conR_ok3 gT_all (hd_1840) rfl pn_RX8 tk_X8_at bo_RX8 xo_RX8 (cto_1253 l) ch_1840 cut_nil
/-- RookHusting$Slots at -/
noncomputable def con_1841 : Con2 := ((yX8_at, cX8_at, 3, (some .long)), (0, 0), ([(6, 0, 0), (0, 0, 0), (0, 15, 0)], [(0, 0), (0, 0), (0, 0), (0, 0), (0, 0), (0, 0), (0, 4)], [.inl (8, [(6, 1, 0), (8, 4, 0), (8, 5, 0)]), ac_1007], []), [((4, 6, 0), gi_1117, hq_839, [], [1])])
theorem hd_1841 : con_1841.1 = (yX8_at, cX8_at, 3, (some .long)) := rfl
noncomputable def cu_1841 : List CUT2 := []
theorem ch_1841 : staG tb_X8_at 1 bt_RX8 [] ct_1253 [] [] cu_1841 11 con_1841 = true := by decide +kernel
theorem vl_1841 (l : Launch) : Vld2 l vwCl gTbl con_1841 := conR_ok3 gT_all (hd_1841) rfl pn_RX8 tk_X8_at bo_RX8 xo_RX8 (cto_1253 l) ch_1841 cut_nil
/-- RookHusting$Slots at -/
noncomputable def con_1842 : Con2 := ((yX8_at, cX8_at, 3, (some .long)), (0, 0), ([(6, 0, 0), (0, 0, 0), (0, 16, 0)], [(0, 0), (0, 0), (0, 0), (0, 0), (0, 0), (0, 0), (0, 16)], [.inl (8, [(6, 1, 0), (8, 4, 0), (8, 5, 0)]), ac_1008], []), [((4, 6, 0), gi_1118, hq_840, [], [1])])
theorem hd_1842 : con_1842.1 = (yX8_at, cX8_at, 3, (some .long)) := rfl
noncomputable def cu_1842 : List CUT2 := []
theorem ch_1842 : staG tb_X8_at 1 bt_RX8 [] ct_1253 [] [] cu_1842 11 con_1842 = true := by decide +kernel
theorem vl_1842 (l : Launch) : Vld2 l vwCl gTbl con_1842 := conR_ok3 gT_all (hd_1842) rfl pn_RX8 tk_X8_at bo_RX8 xo_RX8 (cto_1253 l) ch_1842 cut_nil
/-- RookHusting$Slots at -/
noncomputable def con_1843 : Con2 := ((yX8_at, cX8_at, 3, (some .long)), (0, 0), ([(6, 0, 0), (0, 0, 0), (0, 17, 0)], [(0, 0), (0, 0), (0, 0), (0, 0), (0, 0), (0, 0), (0, 250)], [.inl (8, [(6, 1, 0), (8, 4, 0), (8, 5, 0)]), ac_1009], []), [((4, 6, 0), gi_1119, hq_841, [], [1])])
theorem hd_1843 : con_1843.1 = (yX8_at, cX8_at, 3, (some .long)) := rfl
noncomputable def cu_1843 : List CUT2 := []
theorem ch_1843 : staG tb_X8_at 1 bt_RX8 [] ct_1253 [] [] cu_1843 11 con_1843 = true := by decide +kernel
theorem vl_1843 (l : Launch) : Vld2 l vwCl gTbl con_1843 := conR_ok3 gT_all (hd_1843) rfl pn_RX8 tk_X8_at bo_RX8 xo_RX8 (cto_1253 l) ch_1843 cut_nil
/-- RookHusting$Slots at -/
noncomputable def con_1844 : Con2 := ((yX8_at, cX8_at, 3, (some .long)), (0, 0), ([(6, 0, 0), (0, 0, 0), (0, 18, 0)], [(0, 0), (0, 0), (0, 0), (0, 0), (0, 0), (0, 0), (0, 4)], [.inl (8, [(6, 1, 0), (8, 4, 0), (8, 5, 0)]), ac_1010], []), [((4, 6, 0), gi_1117, hq_842, [], [1])])
theorem hd_1844 : con_1844.1 = (yX8_at, cX8_at, 3, (some .long)) := rfl
noncomputable def cu_1844 : List CUT2 := []
theorem ch_1844 : staG tb_X8_at 1 bt_RX8 [] ct_1253 [] [] cu_1844 11 con_1844 = true := by decide +kernel
theorem vl_1844 (l : Launch) : Vld2 l vwCl gTbl con_1844 := conR_ok3 gT_all (hd_1844) rfl pn_RX8 tk_X8_at bo_RX8 xo_RX8 (cto_1253 l) ch_1844 cut_nil
/-- RookHusting$Slots at -/
noncomputable def con_1845 : Con2 := ((yX8_at, cX8_at, 3, (some .long)), (0, 0), ([(6, 0, 0), (0, 0, 0), (0, 19, 0)], [(0, 0), (0, 0), (0, 0), (0, 0), (0, 0), (0, 0), (0, 16)], [.inl (8, [(6, 1, 0), (8, 4, 0), (8, 5, 0)]), ac_1011], []), [((4, 6, 0), gi_1118, hq_843, [], [1])])
theorem hd_1845 : con_1845.1 = (yX8_at, cX8_at, 3, (some .long)) := rfl
noncomputable def cu_1845 : List CUT2 := []
theorem ch_1845 : staG tb_X8_at 1 bt_RX8 [] ct_1253 [] [] cu_1845 11 con_1845 = true := by decide +kernel
theorem vl_1845 (l : Launch) : Vld2 l vwCl gTbl con_1845 := conR_ok3 gT_all (hd_1845) rfl pn_RX8 tk_X8_at bo_RX8 xo_RX8 (cto_1253 l) ch_1845 cut_nil
/-- RookHusting$Slots at -/
noncomputable def con_1846 : Con2 := ((yX8_at, cX8_at, 3, (some .long)), (0, 0), ([(6, 0, 0), (0, 0, 0), (0, 20, 0)], [(0, 0), (0, 0), (0, 0), (0, 0), (0, 0), (0, 0), (0, 250)], [.inl (8, [(6, 1, 0), (8, 4, 0), (8, 5, 0)]), ac_1012], []), [((4, 6, 0), gi_1119, hq_844, [], [1])])
theorem hd_1846 : con_1846.1 = (yX8_at, cX8_at, 3, (some .long)) := rfl
noncomputable def cu_1846 : List CUT2 := []
theorem ch_1846 : staG tb_X8_at 1 bt_RX8 [] ct_1253 [] [] cu_1846 11 con_1846 = true := by decide +kernel
theorem vl_1846 (l : Launch) : Vld2 l vwCl gTbl con_1846 := conR_ok3 gT_all (hd_1846) rfl pn_RX8 tk_X8_at bo_RX8 xo_RX8 (cto_1253 l) ch_1846 cut_nil
/-- RookHusting$Slots at -/
noncomputable def con_1847 : Con2 := ((yX8_at, cX8_at, 3, (some .long)), (0, 0), ([(6, 0, 0), (0, 0, 0), (0, 21, 0)], [(0, 0), (0, 0), (0, 0), (0, 0), (0, 0), (0, 0), (0, 4)], [.inl (8, [(6, 1, 0), (8, 4, 0), (8, 5, 0)]), ac_1013], []), [((4, 6, 0), gi_1117, hq_845, [], [1])])
theorem hd_1847 : con_1847.1 = (yX8_at, cX8_at, 3, (some .long)) := rfl
noncomputable def cu_1847 : List CUT2 := []
theorem ch_1847 : staG tb_X8_at 1 bt_RX8 [] ct_1253 [] [] cu_1847 11 con_1847 = true := by decide +kernel
theorem vl_1847 (l : Launch) : Vld2 l vwCl gTbl con_1847 := conR_ok3 gT_all (hd_1847) rfl pn_RX8 tk_X8_at bo_RX8 xo_RX8 (cto_1253 l) ch_1847 cut_nil
/-- RookHusting$Slots at -/
noncomputable def con_1848 : Con2 := ((yX8_at, cX8_at, 3, (some .long)), (0, 0), ([(6, 0, 0), (0, 0, 0), (0, 22, 0)], [(0, 0), (0, 0), (0, 0), (0, 0), (0, 0), (0, 0), (0, 16)], [.inl (8, [(6, 1, 0), (8, 4, 0), (8, 5, 0)]), ac_1014], []), [((4, 6, 0), gi_1118, hq_846, [], [1])])
theorem hd_1848 : con_1848.1 = (yX8_at, cX8_at, 3, (some .long)) := rfl
noncomputable def cu_1848 : List CUT2 := []
theorem ch_1848 : staG tb_X8_at 1 bt_RX8 [] ct_1253 [] [] cu_1848 11 con_1848 = true := by decide +kernel
theorem vl_1848 (l : Launch) : Vld2 l vwCl gTbl con_1848 := conR_ok3 gT_all (hd_1848) rfl pn_RX8 tk_X8_at bo_RX8 xo_RX8 (cto_1253 l) ch_1848 cut_nil
/-- RookHusting$Slots at -/
noncomputable def con_1849 : Con2 := ((yX8_at, cX8_at, 3, (some .long)), (0, 0), ([(6, 0, 0), (0, 0, 0), (0, 23, 0)], [(0, 0), (0, 0), (0, 0), (0, 0), (0, 0), (0, 0), (0, 250)], [.inl (8, [(6, 1, 0), (8, 4, 0), (8, 5, 0)]), ac_1015], []), [((4, 6, 0), gi_1119, hq_847, [], [1])])
theorem hd_1849 : con_1849.1 = (yX8_at, cX8_at, 3, (some .long)) := rfl
noncomputable def cu_1849 : List CUT2 := []
theorem ch_1849 : staG tb_X8_at 1 bt_RX8 [] ct_1253 [] [] cu_1849 11 con_1849 = true := by decide +kernel
theorem vl_1849 (l : Launch) : Vld2 l vwCl gTbl con_1849 := conR_ok3 gT_all (hd_1849) rfl pn_RX8 tk_X8_at bo_RX8 xo_RX8 (cto_1253 l) ch_1849 cut_nil
/-- RookHusting$Slots at -/
noncomputable def con_1850 : Con2 := ((yX8_at, cX8_at, 3, (some .long)), (0, 0), ([(6, 0, 0), (0, 0, 0), (0, 24, 0)], [(0, 0), (0, 0), (0, 0), (0, 0), (0, 0), (0, 0), (0, 4)], [.inl (8, [(6, 1, 0), (8, 4, 0), (8, 5, 0)]), ac_1016], []), [((4, 6, 0), gi_1117, hq_848, [], [1])])
theorem hd_1850 : con_1850.1 = (yX8_at, cX8_at, 3, (some .long)) := rfl
noncomputable def cu_1850 : List CUT2 := []
theorem ch_1850 : staG tb_X8_at 1 bt_RX8 [] ct_1253 [] [] cu_1850 11 con_1850 = true := by decide +kernel
theorem vl_1850 (l : Launch) : Vld2 l vwCl gTbl con_1850 := conR_ok3 gT_all (hd_1850) rfl pn_RX8 tk_X8_at bo_RX8 xo_RX8 (cto_1253 l) ch_1850 cut_nil
/-- RookHusting$Slots at -/
noncomputable def con_1851 : Con2 := ((yX8_at, cX8_at, 3, (some .long)), (0, 0), ([(6, 0, 0), (0, 0, 0), (0, 25, 0)], [(0, 0), (0, 0), (0, 0), (0, 0), (0, 0), (0, 0), (0, 16)], [.inl (8, [(6, 1, 0), (8, 4, 0), (8, 5, 0)]), ac_1017], []), [((4, 6, 0), gi_1118, hq_849, [], [1])])
theorem hd_1851 : con_1851.1 = (yX8_at, cX8_at, 3, (some .long)) := rfl
noncomputable def cu_1851 : List CUT2 := []
theorem ch_1851 : staG tb_X8_at 1 bt_RX8 [] ct_1253 [] [] cu_1851 11 con_1851 = true := by decide +kernel
theorem vl_1851 (l : Launch) : Vld2 l vwCl gTbl con_1851 := conR_ok3 gT_all (hd_1851) rfl pn_RX8 tk_X8_at bo_RX8 xo_RX8 (cto_1253 l) ch_1851 cut_nil
/-- RookHusting$Slots at -/
noncomputable def con_1852 : Con2 := ((yX8_at, cX8_at, 3, (some .long)), (0, 0), ([(6, 0, 0), (0, 0, 0), (0, 26, 0)], [(0, 0), (0, 0), (0, 0), (0, 0), (0, 0), (0, 0), (0, 250)], [.inl (8, [(6, 1, 0), (8, 4, 0), (8, 5, 0)]), ac_1018], []), [((4, 6, 0), gi_1119, hq_850, [], [1])])
theorem hd_1852 : con_1852.1 = (yX8_at, cX8_at, 3, (some .long)) := rfl
noncomputable def cu_1852 : List CUT2 := []
theorem ch_1852 : staG tb_X8_at 1 bt_RX8 [] ct_1253 [] [] cu_1852 11 con_1852 = true := by decide +kernel
theorem vl_1852 (l : Launch) : Vld2 l vwCl gTbl con_1852 := conR_ok3 gT_all (hd_1852) rfl pn_RX8 tk_X8_at bo_RX8 xo_RX8 (cto_1253 l) ch_1852 cut_nil
/-- RookHusting$Slots at -/
noncomputable def con_1853 : Con2 := ((yX8_at, cX8_at, 3, (some .long)), (0, 0), ([(6, 0, 0), (0, 0, 0), (0, 27, 0)], [(0, 0), (0, 0), (0, 0), (0, 0), (0, 0), (0, 0), (0, 4)], [.inl (8, [(6, 1, 0), (8, 4, 0), (8, 5, 0)]), ac_1019], []), [((4, 6, 0), gi_1117, hq_851, [], [1])])
theorem hd_1853 : con_1853.1 = (yX8_at, cX8_at, 3, (some .long)) := rfl
noncomputable def cu_1853 : List CUT2 := []
theorem ch_1853 : staG tb_X8_at 1 bt_RX8 [] ct_1253 [] [] cu_1853 11 con_1853 = true := by decide +kernel
theorem vl_1853 (l : Launch) : Vld2 l vwCl gTbl con_1853 := conR_ok3 gT_all (hd_1853) rfl pn_RX8 tk_X8_at bo_RX8 xo_RX8 (cto_1253 l) ch_1853 cut_nil
/-- RookHusting$Slots at -/
noncomputable def con_1854 : Con2 := ((yX8_at, cX8_at, 3, (some .long)), (0, 0), ([(6, 0, 0), (0, 0, 0), (0, 28, 0)], [(0, 0), (0, 0), (0, 0), (0, 0), (0, 0), (0, 0), (0, 16)], [.inl (8, [(6, 1, 0), (8, 4, 0), (8, 5, 0)]), ac_1020], []), [((4, 6, 0), gi_1118, hq_852, [], [1])])
theorem hd_1854 : con_1854.1 = (yX8_at, cX8_at, 3, (some .long)) := rfl
noncomputable def cu_1854 : List CUT2 := []
theorem ch_1854 : staG tb_X8_at 1 bt_RX8 [] ct_1253 [] [] cu_1854 11 con_1854 = true := by decide +kernel
theorem vl_1854 (l : Launch) : Vld2 l vwCl gTbl con_1854 := conR_ok3 gT_all (hd_1854) rfl pn_RX8 tk_X8_at bo_RX8 xo_RX8 (cto_1253 l) ch_1854 cut_nil
/-- RookHusting$Slots at -/
noncomputable def con_1855 : Con2 := ((yX8_at, cX8_at, 3, (some .long)), (0, 0), ([(6, 0, 0), (0, 0, 0), (0, 29, 0)], [(0, 0), (0, 0), (0, 0), (0, 0), (0, 0), (0, 0), (0, 250)], [.inl (8, [(6, 1, 0), (8, 4, 0), (8, 5, 0)]), ac_1021], []), [((4, 6, 0), gi_1119, hq_853, [], [1])])
theorem hd_1855 : con_1855.1 = (yX8_at, cX8_at, 3, (some .long)) := rfl
noncomputable def cu_1855 : List CUT2 := []
theorem ch_1855 : staG tb_X8_at 1 bt_RX8 [] ct_1253 [] [] cu_1855 11 con_1855 = true := by decide +kernel
theorem vl_1855 (l : Launch) : Vld2 l vwCl gTbl con_1855 := conR_ok3 gT_all (hd_1855) rfl pn_RX8 tk_X8_at bo_RX8 xo_RX8 (cto_1253 l) ch_1855 cut_nil
/-- RookHusting$Slots at -/
noncomputable def con_1856 : Con2 := ((yX8_at, cX8_at, 3, (some .long)), (0, 0), ([(6, 0, 0), (0, 0, 0), (0, 30, 0)], [(0, 0), (0, 0), (0, 0), (0, 0), (0, 0), (0, 0), (0, 4)], [.inl (8, [(6, 1, 0), (8, 4, 0), (8, 5, 0)]), ac_1022], []), [((4, 6, 0), gi_1117, hq_854, [], [1])])
theorem hd_1856 : con_1856.1 = (yX8_at, cX8_at, 3, (some .long)) := rfl
noncomputable def cu_1856 : List CUT2 := []
theorem ch_1856 : staG tb_X8_at 1 bt_RX8 [] ct_1253 [] [] cu_1856 11 con_1856 = true := by decide +kernel
theorem vl_1856 (l : Launch) : Vld2 l vwCl gTbl con_1856 := conR_ok3 gT_all (hd_1856) rfl pn_RX8 tk_X8_at bo_RX8 xo_RX8 (cto_1253 l) ch_1856 cut_nil
/-- RookHusting$Slots at -/
noncomputable def con_1857 : Con2 := ((yX8_at, cX8_at, 3, (some .long)), (0, 0), ([(6, 0, 0), (0, 0, 0), (0, 31, 0)], [(0, 0), (0, 0), (0, 0), (0, 0), (0, 0), (0, 0), (0, 16)], [.inl (8, [(6, 1, 0), (8, 4, 0), (8, 5, 0)]), ac_1023], []), [((4, 6, 0), gi_1118, hq_855, [], [1])])
theorem hd_1857 : con_1857.1 = (yX8_at, cX8_at, 3, (some .long)) := rfl
noncomputable def cu_1857 : List CUT2 := []
theorem ch_1857 : staG tb_X8_at 1 bt_RX8 [] ct_1253 [] [] cu_1857 11 con_1857 = true := by decide +kernel
theorem vl_1857 (l : Launch) : Vld2 l vwCl gTbl con_1857 := conR_ok3 gT_all (hd_1857) rfl pn_RX8 tk_X8_at bo_RX8 xo_RX8 (cto_1253 l) ch_1857 cut_nil
/-- RookHusting$Slots at -/
noncomputable def con_1858 : Con2 := ((yX8_at, cX8_at, 3, (some .long)), (0, 0), ([(6, 0, 0), (0, 0, 0), (0, 32, 0)], [(0, 0), (0, 0), (0, 0), (0, 0), (0, 0), (0, 0), (0, 250)], [.inl (8, [(6, 1, 0), (8, 4, 0), (8, 5, 0)]), ac_1024], []), [((4, 6, 0), gi_1119, hq_856, [], [1])])
theorem hd_1858 : con_1858.1 = (yX8_at, cX8_at, 3, (some .long)) := rfl
noncomputable def cu_1858 : List CUT2 := []
theorem ch_1858 : staG tb_X8_at 1 bt_RX8 [] ct_1253 [] [] cu_1858 11 con_1858 = true := by decide +kernel
theorem vl_1858 (l : Launch) : Vld2 l vwCl gTbl con_1858 := conR_ok3 gT_all (hd_1858) rfl pn_RX8 tk_X8_at bo_RX8 xo_RX8 (cto_1253 l) ch_1858 cut_nil
/-- RookHusting$Slots at -/
noncomputable def con_1859 : Con2 := ((yX8_at, cX8_at, 3, (some .long)), (0, 0), ([(6, 0, 0), (0, 0, 0), (0, 33, 0)], [(0, 0), (0, 0), (0, 0), (0, 0), (0, 0), (0, 0), (0, 4)], [.inl (8, [(6, 1, 0), (8, 4, 0), (8, 5, 0)]), ac_1025], []), [((4, 6, 0), gi_1117, hq_857, [], [1])])
theorem hd_1859 : con_1859.1 = (yX8_at, cX8_at, 3, (some .long)) := rfl
noncomputable def cu_1859 : List CUT2 := []
theorem ch_1859 : staG tb_X8_at 1 bt_RX8 [] ct_1253 [] [] cu_1859 11 con_1859 = true := by decide +kernel
theorem vl_1859 (l : Launch) : Vld2 l vwCl gTbl con_1859 := conR_ok3 gT_all (hd_1859) rfl pn_RX8 tk_X8_at bo_RX8 xo_RX8 (cto_1253 l) ch_1859 cut_nil
/-- RookHusting$Slots at -/
noncomputable def con_1860 : Con2 := ((yX8_at, cX8_at, 3, (some .long)), (0, 0), ([(6, 0, 0), (0, 0, 0), (0, 34, 0)], [(0, 0), (0, 0), (0, 0), (0, 0), (0, 0), (0, 0), (0, 16)], [.inl (8, [(6, 1, 0), (8, 4, 0), (8, 5, 0)]), ac_1026], []), [((4, 6, 0), gi_1118, hq_858, [], [1])])
theorem hd_1860 : con_1860.1 = (yX8_at, cX8_at, 3, (some .long)) := rfl
noncomputable def cu_1860 : List CUT2 := []
theorem ch_1860 : staG tb_X8_at 1 bt_RX8 [] ct_1253 [] [] cu_1860 11 con_1860 = true := by decide +kernel
theorem vl_1860 (l : Launch) : Vld2 l vwCl gTbl con_1860 := conR_ok3 gT_all (hd_1860) rfl pn_RX8 tk_X8_at bo_RX8 xo_RX8 (cto_1253 l) ch_1860 cut_nil
/-- RookHusting$Slots at -/
noncomputable def con_1861 : Con2 := ((yX8_at, cX8_at, 3, (some .long)), (0, 0), ([(6, 0, 0), (0, 0, 0), (0, 35, 0)], [(0, 0), (0, 0), (0, 0), (0, 0), (0, 0), (0, 0), (0, 250)], [.inl (8, [(6, 1, 0), (8, 4, 0), (8, 5, 0)]), ac_1027], []), [((4, 6, 0), gi_1119, hq_859, [], [1])])
theorem hd_1861 : con_1861.1 = (yX8_at, cX8_at, 3, (some .long)) := rfl
noncomputable def cu_1861 : List CUT2 := []
theorem ch_1861 : staG tb_X8_at 1 bt_RX8 [] ct_1253 [] [] cu_1861 11 con_1861 = true := by decide +kernel
theorem vl_1861 (l : Launch) : Vld2 l vwCl gTbl con_1861 := conR_ok3 gT_all (hd_1861) rfl pn_RX8 tk_X8_at bo_RX8 xo_RX8 (cto_1253 l) ch_1861 cut_nil
/-- RookHusting$Slots at -/
noncomputable def con_1862 : Con2 := ((yX8_at, cX8_at, 3, (some .long)), (0, 0), ([(6, 0, 0), (0, 0, 0), (0, 36, 0)], [(0, 0), (0, 0), (0, 0), (0, 0), (0, 0), (0, 0), (0, 4)], [.inl (8, [(6, 1, 0), (8, 4, 0), (8, 5, 0)]), ac_1028], []), [((4, 6, 0), gi_1117, hq_860, [], [1])])
theorem hd_1862 : con_1862.1 = (yX8_at, cX8_at, 3, (some .long)) := rfl
noncomputable def cu_1862 : List CUT2 := []
theorem ch_1862 : staG tb_X8_at 1 bt_RX8 [] ct_1253 [] [] cu_1862 11 con_1862 = true := by decide +kernel
theorem vl_1862 (l : Launch) : Vld2 l vwCl gTbl con_1862 := conR_ok3 gT_all (hd_1862) rfl pn_RX8 tk_X8_at bo_RX8 xo_RX8 (cto_1253 l) ch_1862 cut_nil
/-- RookHusting$Slots at -/
noncomputable def con_1863 : Con2 := ((yX8_at, cX8_at, 3, (some .long)), (0, 0), ([(6, 0, 0), (0, 0, 0), (0, 37, 0)], [(0, 0), (0, 0), (0, 0), (0, 0), (0, 0), (0, 0), (0, 16)], [.inl (8, [(6, 1, 0), (8, 4, 0), (8, 5, 0)]), ac_1029], []), [((4, 6, 0), gi_1118, hq_861, [], [1])])
theorem hd_1863 : con_1863.1 = (yX8_at, cX8_at, 3, (some .long)) := rfl
noncomputable def cu_1863 : List CUT2 := []
theorem ch_1863 : staG tb_X8_at 1 bt_RX8 [] ct_1253 [] [] cu_1863 11 con_1863 = true := by decide +kernel
theorem vl_1863 (l : Launch) : Vld2 l vwCl gTbl con_1863 := conR_ok3 gT_all (hd_1863) rfl pn_RX8 tk_X8_at bo_RX8 xo_RX8 (cto_1253 l) ch_1863 cut_nil
/-- RookHusting$Slots at -/
noncomputable def con_1864 : Con2 := ((yX8_at, cX8_at, 3, (some .long)), (0, 0), ([(6, 0, 0), (0, 0, 0), (0, 38, 0)], [(0, 0), (0, 0), (0, 0), (0, 0), (0, 0), (0, 0), (0, 250)], [.inl (8, [(6, 1, 0), (8, 4, 0), (8, 5, 0)]), ac_1030], []), [((4, 6, 0), gi_1119, hq_862, [], [1])])
theorem hd_1864 : con_1864.1 = (yX8_at, cX8_at, 3, (some .long)) := rfl
noncomputable def cu_1864 : List CUT2 := []
theorem ch_1864 : staG tb_X8_at 1 bt_RX8 [] ct_1253 [] [] cu_1864 11 con_1864 = true := by decide +kernel
theorem vl_1864 (l : Launch) : Vld2 l vwCl gTbl con_1864 := conR_ok3 gT_all (hd_1864) rfl pn_RX8 tk_X8_at bo_RX8 xo_RX8 (cto_1253 l) ch_1864 cut_nil
/-- RookHusting$Slots at -/
noncomputable def con_1865 : Con2 := ((yX8_at, cX8_at, 3, (some .long)), (0, 0), ([(6, 0, 0), (0, 0, 0), (0, 39, 0)], [(0, 0), (0, 0), (0, 0), (0, 0), (0, 0), (0, 0), (0, 4)], [.inl (8, [(6, 1, 0), (8, 4, 0), (8, 5, 0)]), ac_1031], []), [((4, 6, 0), gi_1117, hq_863, [], [1])])
theorem hd_1865 : con_1865.1 = (yX8_at, cX8_at, 3, (some .long)) := rfl
noncomputable def cu_1865 : List CUT2 := []
theorem ch_1865 : staG tb_X8_at 1 bt_RX8 [] ct_1253 [] [] cu_1865 11 con_1865 = true := by decide +kernel
theorem vl_1865 (l : Launch) : Vld2 l vwCl gTbl con_1865 := conR_ok3 gT_all (hd_1865) rfl pn_RX8 tk_X8_at bo_RX8 xo_RX8 (cto_1253 l) ch_1865 cut_nil
/-- RookHusting$Slots at -/
noncomputable def con_1866 : Con2 := ((yX8_at, cX8_at, 3, (some .long)), (0, 0), ([(6, 0, 0), (0, 0, 0), (0, 40, 0)], [(0, 0), (0, 0), (0, 0), (0, 0), (0, 0), (0, 0), (0, 16)], [.inl (8, [(6, 1, 0), (8, 4, 0), (8, 5, 0)]), ac_1032], []), [((4, 6, 0), gi_1118, hq_864, [], [1])])
theorem hd_1866 : con_1866.1 = (yX8_at, cX8_at, 3, (some .long)) := rfl
noncomputable def cu_1866 : List CUT2 := []
theorem ch_1866 : staG tb_X8_at 1 bt_RX8 [] ct_1253 [] [] cu_1866 11 con_1866 = true := by decide +kernel
theorem vl_1866 (l : Launch) : Vld2 l vwCl gTbl con_1866 := conR_ok3 gT_all (hd_1866) rfl pn_RX8 tk_X8_at bo_RX8 xo_RX8 (cto_1253 l) ch_1866 cut_nil
/-- RookHusting$Slots at -/
noncomputable def con_1867 : Con2 := ((yX8_at, cX8_at, 3, (some .long)), (0, 0), ([(6, 0, 0), (0, 0, 0), (0, 41, 0)], [(0, 0), (0, 0), (0, 0), (0, 0), (0, 0), (0, 0), (0, 250)], [.inl (8, [(6, 1, 0), (8, 4, 0), (8, 5, 0)]), ac_1033], []), [((4, 6, 0), gi_1119, hq_865, [], [1])])
theorem hd_1867 : con_1867.1 = (yX8_at, cX8_at, 3, (some .long)) := rfl
noncomputable def cu_1867 : List CUT2 := []
theorem ch_1867 : staG tb_X8_at 1 bt_RX8 [] ct_1253 [] [] cu_1867 11 con_1867 = true := by decide +kernel
theorem vl_1867 (l : Launch) : Vld2 l vwCl gTbl con_1867 := conR_ok3 gT_all (hd_1867) rfl pn_RX8 tk_X8_at bo_RX8 xo_RX8 (cto_1253 l) ch_1867 cut_nil
/-- RookHusting$Slots at -/
noncomputable def con_1868 : Con2 := ((yX8_at, cX8_at, 3, (some .long)), (0, 0), ([(6, 0, 0), (0, 0, 0), (0, 42, 0)], [(0, 0), (0, 0), (0, 0), (0, 0), (0, 0), (0, 0), (0, 4)], [.inl (8, [(6, 1, 0), (8, 4, 0), (8, 5, 0)]), ac_1034], []), [((4, 6, 0), gi_1117, hq_866, [], [1])])
theorem hd_1868 : con_1868.1 = (yX8_at, cX8_at, 3, (some .long)) := rfl
noncomputable def cu_1868 : List CUT2 := []
theorem ch_1868 : staG tb_X8_at 1 bt_RX8 [] ct_1253 [] [] cu_1868 11 con_1868 = true := by decide +kernel
theorem vl_1868 (l : Launch) : Vld2 l vwCl gTbl con_1868 := conR_ok3 gT_all (hd_1868) rfl pn_RX8 tk_X8_at bo_RX8 xo_RX8 (cto_1253 l) ch_1868 cut_nil
/-- RookHusting$Slots at -/
noncomputable def con_1869 : Con2 := ((yX8_at, cX8_at, 3, (some .long)), (0, 0), ([(6, 0, 0), (0, 0, 0), (0, 43, 0)], [(0, 0), (0, 0), (0, 0), (0, 0), (0, 0), (0, 0), (0, 16)], [.inl (8, [(6, 1, 0), (8, 4, 0), (8, 5, 0)]), ac_1035], []), [((4, 6, 0), gi_1118, hq_867, [], [1])])
theorem hd_1869 : con_1869.1 = (yX8_at, cX8_at, 3, (some .long)) := rfl
noncomputable def cu_1869 : List CUT2 := []
theorem ch_1869 : staG tb_X8_at 1 bt_RX8 [] ct_1253 [] [] cu_1869 11 con_1869 = true := by decide +kernel
theorem vl_1869 (l : Launch) : Vld2 l vwCl gTbl con_1869 := conR_ok3 gT_all (hd_1869) rfl pn_RX8 tk_X8_at bo_RX8 xo_RX8 (cto_1253 l) ch_1869 cut_nil
/-- RookHusting$Slots at -/
noncomputable def con_1870 : Con2 := ((yX8_at, cX8_at, 3, (some .long)), (0, 0), ([(6, 0, 0), (0, 0, 0), (0, 44, 0)], [(0, 0), (0, 0), (0, 0), (0, 0), (0, 0), (0, 0), (0, 250)], [.inl (8, [(6, 1, 0), (8, 4, 0), (8, 5, 0)]), ac_1036], []), [((4, 6, 0), gi_1119, hq_868, [], [1])])
theorem hd_1870 : con_1870.1 = (yX8_at, cX8_at, 3, (some .long)) := rfl
noncomputable def cu_1870 : List CUT2 := []
theorem ch_1870 : staG tb_X8_at 1 bt_RX8 [] ct_1253 [] [] cu_1870 11 con_1870 = true := by decide +kernel
theorem vl_1870 (l : Launch) : Vld2 l vwCl gTbl con_1870 := conR_ok3 gT_all (hd_1870) rfl pn_RX8 tk_X8_at bo_RX8 xo_RX8 (cto_1253 l) ch_1870 cut_nil
/-- RookHusting$Slots at -/
noncomputable def con_1871 : Con2 := ((yX8_at, cX8_at, 3, (some .long)), (0, 0), ([(6, 0, 0), (0, 0, 0), (0, 45, 0)], [(0, 0), (0, 0), (0, 0), (0, 0), (0, 0), (0, 0), (0, 4)], [.inl (8, [(6, 1, 0), (8, 4, 0), (8, 5, 0)]), ac_1037], []), [((4, 6, 0), gi_1117, hq_869, [], [1])])
theorem hd_1871 : con_1871.1 = (yX8_at, cX8_at, 3, (some .long)) := rfl
noncomputable def cu_1871 : List CUT2 := []
theorem ch_1871 : staG tb_X8_at 1 bt_RX8 [] ct_1253 [] [] cu_1871 11 con_1871 = true := by decide +kernel
theorem vl_1871 (l : Launch) : Vld2 l vwCl gTbl con_1871 := conR_ok3 gT_all (hd_1871) rfl pn_RX8 tk_X8_at bo_RX8 xo_RX8 (cto_1253 l) ch_1871 cut_nil
/-- RookHusting$Slots at -/
noncomputable def con_1872 : Con2 := ((yX8_at, cX8_at, 3, (some .long)), (0, 0), ([(6, 0, 0), (0, 0, 0), (0, 46, 0)], [(0, 0), (0, 0), (0, 0), (0, 0), (0, 0), (0, 0), (0, 16)], [.inl (8, [(6, 1, 0), (8, 4, 0), (8, 5, 0)]), ac_1038], []), [((4, 6, 0), gi_1118, hq_870, [], [1])])
theorem hd_1872 : con_1872.1 = (yX8_at, cX8_at, 3, (some .long)) := rfl
noncomputable def cu_1872 : List CUT2 := []
theorem ch_1872 : staG tb_X8_at 1 bt_RX8 [] ct_1253 [] [] cu_1872 11 con_1872 = true := by decide +kernel
theorem vl_1872 (l : Launch) : Vld2 l vwCl gTbl con_1872 := conR_ok3 gT_all (hd_1872) rfl pn_RX8 tk_X8_at bo_RX8 xo_RX8 (cto_1253 l) ch_1872 cut_nil
/-- RookHusting$Slots at -/
noncomputable def con_1873 : Con2 := ((yX8_at, cX8_at, 3, (some .long)), (0, 0), ([(6, 0, 0), (0, 0, 0), (0, 47, 0)], [(0, 0), (0, 0), (0, 0), (0, 0), (0, 0), (0, 0), (0, 250)], [.inl (8, [(6, 1, 0), (8, 4, 0), (8, 5, 0)]), ac_1039], []), [((4, 6, 0), gi_1119, hq_871, [], [1])])
theorem hd_1873 : con_1873.1 = (yX8_at, cX8_at, 3, (some .long)) := rfl
noncomputable def cu_1873 : List CUT2 := []
theorem ch_1873 : staG tb_X8_at 1 bt_RX8 [] ct_1253 [] [] cu_1873 11 con_1873 = true := by decide +kernel
theorem vl_1873 (l : Launch) : Vld2 l vwCl gTbl con_1873 := conR_ok3 gT_all (hd_1873) rfl pn_RX8 tk_X8_at bo_RX8 xo_RX8 (cto_1253 l) ch_1873 cut_nil
/-- RookHusting$Slots at -/
noncomputable def con_1874 : Con2 := ((yX8_at, cX8_at, 3, (some .long)), (0, 0), ([(6, 0, 0), (0, 0, 0), (0, 48, 0)], [(0, 0), (0, 0), (0, 0), (0, 0), (0, 0), (0, 0), (0, 4)], [.inl (8, [(6, 1, 0), (8, 4, 0), (8, 5, 0)]), ac_1040], []), [((4, 6, 0), gi_1117, hq_872, [], [1])])
theorem hd_1874 : con_1874.1 = (yX8_at, cX8_at, 3, (some .long)) := rfl
noncomputable def cu_1874 : List CUT2 := []
theorem ch_1874 : staG tb_X8_at 1 bt_RX8 [] ct_1253 [] [] cu_1874 11 con_1874 = true := by decide +kernel
theorem vl_1874 (l : Launch) : Vld2 l vwCl gTbl con_1874 := conR_ok3 gT_all (hd_1874) rfl pn_RX8 tk_X8_at bo_RX8 xo_RX8 (cto_1253 l) ch_1874 cut_nil
/-- RookHusting$Slots at -/
noncomputable def con_1875 : Con2 := ((yX8_at, cX8_at, 3, (some .long)), (0, 0), ([(6, 0, 0), (0, 0, 0), (0, 49, 0)], [(0, 0), (0, 0), (0, 0), (0, 0), (0, 0), (0, 0), (0, 16)], [.inl (8, [(6, 1, 0), (8, 4, 0), (8, 5, 0)]), ac_1041], []), [((4, 6, 0), gi_1118, hq_873, [], [1])])
theorem hd_1875 : con_1875.1 = (yX8_at, cX8_at, 3, (some .long)) := rfl
noncomputable def cu_1875 : List CUT2 := []
theorem ch_1875 : staG tb_X8_at 1 bt_RX8 [] ct_1253 [] [] cu_1875 11 con_1875 = true := by decide +kernel
theorem vl_1875 (l : Launch) : Vld2 l vwCl gTbl con_1875 := conR_ok3 gT_all (hd_1875) rfl pn_RX8 tk_X8_at bo_RX8 xo_RX8 (cto_1253 l) ch_1875 cut_nil
/-- RookHusting$Slots at -/
noncomputable def con_1876 : Con2 := ((yX8_at, cX8_at, 3, (some .long)), (0, 0), ([(6, 0, 0), (0, 0, 0), (0, 50, 0)], [(0, 0), (0, 0), (0, 0), (0, 0), (0, 0), (0, 0), (0, 250)], [.inl (8, [(6, 1, 0), (8, 4, 0), (8, 5, 0)]), ac_1042], []), [((4, 6, 0), gi_1119, hq_874, [], [1])])
theorem hd_1876 : con_1876.1 = (yX8_at, cX8_at, 3, (some .long)) := rfl
noncomputable def cu_1876 : List CUT2 := []
theorem ch_1876 : staG tb_X8_at 1 bt_RX8 [] ct_1253 [] [] cu_1876 11 con_1876 = true := by decide +kernel
theorem vl_1876 (l : Launch) : Vld2 l vwCl gTbl con_1876 := conR_ok3 gT_all (hd_1876) rfl pn_RX8 tk_X8_at bo_RX8 xo_RX8 (cto_1253 l) ch_1876 cut_nil
/-- RookHusting$Slots at -/
noncomputable def con_1877 : Con2 := ((yX8_at, cX8_at, 3, (some .long)), (0, 0), ([(6, 0, 0), (0, 0, 0), (0, 51, 0)], [(0, 0), (0, 0), (0, 0), (0, 0), (0, 0), (0, 0), (0, 4)], [.inl (8, [(6, 1, 0), (8, 4, 0), (8, 5, 0)]), ac_1043], []), [((4, 6, 0), gi_1117, hq_875, [], [1])])
theorem hd_1877 : con_1877.1 = (yX8_at, cX8_at, 3, (some .long)) := rfl
noncomputable def cu_1877 : List CUT2 := []
theorem ch_1877 : staG tb_X8_at 1 bt_RX8 [] ct_1253 [] [] cu_1877 11 con_1877 = true := by decide +kernel
theorem vl_1877 (l : Launch) : Vld2 l vwCl gTbl con_1877 := conR_ok3 gT_all (hd_1877) rfl pn_RX8 tk_X8_at bo_RX8 xo_RX8 (cto_1253 l) ch_1877 cut_nil
/-- RookHusting$Slots at -/
noncomputable def con_1878 : Con2 := ((yX8_at, cX8_at, 3, (some .long)), (0, 0), ([(6, 0, 0), (0, 0, 0), (0, 52, 0)], [(0, 0), (0, 0), (0, 0), (0, 0), (0, 0), (0, 0), (0, 16)], [.inl (8, [(6, 1, 0), (8, 4, 0), (8, 5, 0)]), ac_1044], []), [((4, 6, 0), gi_1118, hq_876, [], [1])])
theorem hd_1878 : con_1878.1 = (yX8_at, cX8_at, 3, (some .long)) := rfl
noncomputable def cu_1878 : List CUT2 := []
theorem ch_1878 : staG tb_X8_at 1 bt_RX8 [] ct_1253 [] [] cu_1878 11 con_1878 = true := by decide +kernel
theorem vl_1878 (l : Launch) : Vld2 l vwCl gTbl con_1878 := conR_ok3 gT_all (hd_1878) rfl pn_RX8 tk_X8_at bo_RX8 xo_RX8 (cto_1253 l) ch_1878 cut_nil
/-- RookHusting$Slots at -/
noncomputable def con_1879 : Con2 := ((yX8_at, cX8_at, 3, (some .long)), (0, 0), ([(6, 0, 0), (0, 0, 0), (0, 53, 0)], [(0, 0), (0, 0), (0, 0), (0, 0), (0, 0), (0, 0), (0, 250)], [.inl (8, [(6, 1, 0), (8, 4, 0), (8, 5, 0)]), ac_1045], []), [((4, 6, 0), gi_1119, hq_877, [], [1])])
theorem hd_1879 : con_1879.1 = (yX8_at, cX8_at, 3, (some .long)) := rfl
noncomputable def cu_1879 : List CUT2 := []
theorem ch_1879 : staG tb_X8_at 1 bt_RX8 [] ct_1253 [] [] cu_1879 11 con_1879 = true := by decide +kernel
theorem vl_1879 (l : Launch) : Vld2 l vwCl gTbl con_1879 := conR_ok3 gT_all (hd_1879) rfl pn_RX8 tk_X8_at bo_RX8 xo_RX8 (cto_1253 l) ch_1879 cut_nil
/-- RookHusting$Slots at -/
noncomputable def con_1880 : Con2 := ((yX8_at, cX8_at, 3, (some .long)), (0, 0), ([(6, 0, 0), (0, 0, 0), (0, 54, 0)], [(0, 0), (0, 0), (0, 0), (0, 0), (0, 0), (0, 0), (0, 4)], [.inl (8, [(6, 1, 0), (8, 4, 0), (8, 5, 0)]), ac_1046], []), [((4, 6, 0), gi_1117, hq_878, [], [1])])
theorem hd_1880 : con_1880.1 = (yX8_at, cX8_at, 3, (some .long)) := rfl
noncomputable def cu_1880 : List CUT2 := []
theorem ch_1880 : staG tb_X8_at 1 bt_RX8 [] ct_1253 [] [] cu_1880 11 con_1880 = true := by decide +kernel
theorem vl_1880 (l : Launch) : Vld2 l vwCl gTbl con_1880 := conR_ok3 gT_all (hd_1880) rfl pn_RX8 tk_X8_at bo_RX8 xo_RX8 (cto_1253 l) ch_1880 cut_nil
/-- RookHusting$Slots at -/
noncomputable def con_1881 : Con2 := ((yX8_at, cX8_at, 3, (some .long)), (0, 0), ([(6, 0, 0), (0, 0, 0), (0, 55, 0)], [(0, 0), (0, 0), (0, 0), (0, 0), (0, 0), (0, 0), (0, 16)], [.inl (8, [(6, 1, 0), (8, 4, 0), (8, 5, 0)]), ac_1047], []), [((4, 6, 0), gi_1118, hq_879, [], [1])])
theorem hd_1881 : con_1881.1 = (yX8_at, cX8_at, 3, (some .long)) := rfl
noncomputable def cu_1881 : List CUT2 := []
theorem ch_1881 : staG tb_X8_at 1 bt_RX8 [] ct_1253 [] [] cu_1881 11 con_1881 = true := by decide +kernel
theorem vl_1881 (l : Launch) : Vld2 l vwCl gTbl con_1881 := conR_ok3 gT_all (hd_1881) rfl pn_RX8 tk_X8_at bo_RX8 xo_RX8 (cto_1253 l) ch_1881 cut_nil
/-- RookHusting$Slots at -/
noncomputable def con_1882 : Con2 := ((yX8_at, cX8_at, 3, (some .long)), (0, 0), ([(6, 0, 0), (0, 0, 0), (0, 56, 0)], [(0, 0), (0, 0), (0, 0), (0, 0), (0, 0), (0, 0), (0, 250)], [.inl (8, [(6, 1, 0), (8, 4, 0), (8, 5, 0)]), ac_1048], []), [((4, 6, 0), gi_1119, hq_880, [], [1])])
theorem hd_1882 : con_1882.1 = (yX8_at, cX8_at, 3, (some .long)) := rfl
noncomputable def cu_1882 : List CUT2 := []
theorem ch_1882 : staG tb_X8_at 1 bt_RX8 [] ct_1253 [] [] cu_1882 11 con_1882 = true := by decide +kernel
theorem vl_1882 (l : Launch) : Vld2 l vwCl gTbl con_1882 := conR_ok3 gT_all (hd_1882) rfl pn_RX8 tk_X8_at bo_RX8 xo_RX8 (cto_1253 l) ch_1882 cut_nil
/-- RookHusting$Slots at -/
noncomputable def con_1883 : Con2 := ((yX8_at, cX8_at, 3, (some .long)), (0, 0), ([(6, 0, 0), (0, 0, 0), (0, 57, 0)], [(0, 0), (0, 0), (0, 0), (0, 0), (0, 0), (0, 0), (0, 4)], [.inl (8, [(6, 1, 0), (8, 4, 0), (8, 5, 0)]), ac_1049], []), [((4, 6, 0), gi_1117, hq_881, [], [1])])
theorem hd_1883 : con_1883.1 = (yX8_at, cX8_at, 3, (some .long)) := rfl
noncomputable def cu_1883 : List CUT2 := []
theorem ch_1883 : staG tb_X8_at 1 bt_RX8 [] ct_1253 [] [] cu_1883 11 con_1883 = true := by decide +kernel
theorem vl_1883 (l : Launch) : Vld2 l vwCl gTbl con_1883 := conR_ok3 gT_all (hd_1883) rfl pn_RX8 tk_X8_at bo_RX8 xo_RX8 (cto_1253 l) ch_1883 cut_nil
/-- RookHusting$Slots at -/
noncomputable def con_1884 : Con2 := ((yX8_at, cX8_at, 3, (some .long)), (0, 0), ([(6, 0, 0), (0, 0, 0), (0, 58, 0)], [(0, 0), (0, 0), (0, 0), (0, 0), (0, 0), (0, 0), (0, 16)], [.inl (8, [(6, 1, 0), (8, 4, 0), (8, 5, 0)]), ac_1050], []), [((4, 6, 0), gi_1118, hq_882, [], [1])])
theorem hd_1884 : con_1884.1 = (yX8_at, cX8_at, 3, (some .long)) := rfl
noncomputable def cu_1884 : List CUT2 := []
theorem ch_1884 : staG tb_X8_at 1 bt_RX8 [] ct_1253 [] [] cu_1884 11 con_1884 = true := by decide +kernel
theorem vl_1884 (l : Launch) : Vld2 l vwCl gTbl con_1884 := conR_ok3 gT_all (hd_1884) rfl pn_RX8 tk_X8_at bo_RX8 xo_RX8 (cto_1253 l) ch_1884 cut_nil
/-- RookHusting$Slots at -/
noncomputable def con_1885 : Con2 := ((yX8_at, cX8_at, 3, (some .long)), (0, 0), ([(6, 0, 0), (0, 0, 0), (0, 59, 0)], [(0, 0), (0, 0), (0, 0), (0, 0), (0, 0), (0, 0), (0, 250)], [.inl (8, [(6, 1, 0), (8, 4, 0), (8, 5, 0)]), ac_1051], []), [((4, 6, 0), gi_1119, hq_883, [], [1])])
theorem hd_1885 : con_1885.1 = (yX8_at, cX8_at, 3, (some .long)) := rfl
noncomputable def cu_1885 : List CUT2 := []
theorem ch_1885 : staG tb_X8_at 1 bt_RX8 [] ct_1253 [] [] cu_1885 11 con_1885 = true := by decide +kernel
theorem vl_1885 (l : Launch) : Vld2 l vwCl gTbl con_1885 := conR_ok3 gT_all (hd_1885) rfl pn_RX8 tk_X8_at bo_RX8 xo_RX8 (cto_1253 l) ch_1885 cut_nil
