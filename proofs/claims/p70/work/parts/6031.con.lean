/-! ===== contracts, 31 ===== -/
/-- RookHusting isAsSeen -/
noncomputable def gi_1208 : GI := jl_n [gp_635, jl_z 9]
noncomputable def gi_1209 : GI := jl_n [gp_635, jl_z 10]
noncomputable def con_1846 : Con2 := ((yX11_isAsSeen, cX11_isAsSeen, 4, (some .boolean)), (1, 22), ([(6, 0, 0), (0, 3, 0)], gi_1208, hc_196, []), [((0, 0, 0), gi_1209, hq_885, [], [1]), ((0, 1, 0), gi_1209, hq_885, [], [1])])
theorem hd_1846 : con_1846.1 = (yX11_isAsSeen, cX11_isAsSeen, 4, (some .boolean)) := rfl
noncomputable def ct_1846 : CTB2 := [(21, 473, 0, con_1791, [1, 3]), (21, 473, 0, con_1788, [1, 3]), (21, 473, 0, con_1785, [1, 3]), (21, 473, 0, con_1782, [1, 3]), (21, 473, 0, con_1779, [1, 3]), (21, 473, 0, con_1776, [1, 3]), (21, 473, 0, con_1773, [1, 3]), (21, 473, 0, con_1762, [1, 3]), (21, 473, 0, con_1759, [1, 3]), (21, 473, 0, con_1756, [1, 3]), (36, 473, 0, con_1792, [1, 3]), (36, 473, 0, con_1789, [1, 3]), (36, 473, 0, con_1786, [1, 3]), (36, 473, 0, con_1783, [1, 3]), (36, 473, 0, con_1780, [1, 3]), (36, 473, 0, con_1777, [1, 3]), (36, 473, 0, con_1774, [1, 3]), (36, 473, 0, con_1763, [1, 3]), (36, 473, 0, con_1760, [1, 3]), (36, 473, 0, con_1757, [1, 3]), (60, 473, 0, con_1793, [1, 3]), (60, 473, 0, con_1790, [1, 3]), (60, 473, 0, con_1787, [1, 3]), (60, 473, 0, con_1784, [1, 3]), (60, 473, 0, con_1781, [1, 3]), (60, 473, 0, con_1778, [1, 3]), (60, 473, 0, con_1775, [1, 3]), (60, 473, 0, con_1764, [1, 3]), (60, 473, 0, con_1761, [1, 3]), (60, 473, 0, con_1758, [1, 3])]
noncomputable def gi_1210 : GI := jl_n [gp_635, jl_z 12]
noncomputable def gi_1211 : GI := jl_n [gp_635, gp_618]
noncomputable def cu_1846 : List CUT2 := [((2, [lq 0 6 0, lq 1 0 3, lq 2 0 0], [], gi_1210, hq_885), [], ([], 30)), ((2, [lq 0 6 0, lq 1 0 3, lq 2 0 3, lq 3 1 97], [], gi_1211, hq_885), [], ([], 27)), ((2, [lq 0 6 0, lq 1 0 3, lq 2 0 6, lq 3 1 97], [], gi_1211, hq_885), [], ([], 24)), ((2, [lq 0 6 0, lq 1 0 3, lq 2 0 9, lq 3 1 97], [], gi_1211, hq_885), [], ([], 21)), ((2, [lq 0 6 0, lq 1 0 3, lq 2 0 12, lq 3 1 97], [], gi_1211, hq_885), [], ([], 18)), ((2, [lq 0 6 0, lq 1 0 3, lq 2 0 15, lq 3 1 97], [], gi_1211, hq_885), [], ([], 15)), ((2, [lq 0 6 0, lq 1 0 3, lq 2 0 18, lq 3 1 97], [], gi_1211, hq_885), [], ([], 12)), ((2, [lq 0 6 0, lq 1 0 3, lq 2 0 21, lq 3 1 97], [], gi_1211, hq_885), [], ([], 9)), ((2, [lq 0 6 0, lq 1 0 3, lq 2 0 24, lq 3 1 97], [], gi_1211, hq_885), [], ([], 6)), ((2, [lq 0 6 0, lq 1 0 3, lq 2 0 27, lq 3 1 97], [], gi_1211, hq_885), [], ([], 3)), ((2, [lq 0 6 0, lq 1 0 3, lq 2 0 30, lq 3 1 97], [], gi_1211, hq_885), [], ([], 0))]
theorem ch_1846 : staG tb_X11_isAsSeen 1 bt_RX11 [] ct_1846 [] [] cu_1846 44 con_1846 = true := by decide +kernel
theorem cc_1846 : cu_1846.all (cutG tb_X11_isAsSeen 1 bt_RX11 [] ct_1846 [] [] cu_1846 44 con_1846) = true := by decide +kernel
theorem cto_1846 (l : Launch) : CTOK2 l RX11 vwCl gTbl ct_1846 := ct2_cons (vl_1791 l) ck_RX11_473_1791 (ct2_cons (vl_1788 l) ck_RX11_473_1788 (ct2_cons (vl_1785 l) ck_RX11_473_1785 (ct2_cons (vl_1782 l) ck_RX11_473_1782 (ct2_cons (vl_1779 l) ck_RX11_473_1779 (ct2_cons (vl_1776 l) ck_RX11_473_1776 (ct2_cons (vl_1773 l) ck_RX11_473_1773 (ct2_cons (vl_1762 l) ck_RX11_473_1762 (ct2_cons (vl_1759 l) ck_RX11_473_1759 (ct2_cons (vl_1756 l) ck_RX11_473_1756 (ct2_cons (vl_1792 l) ck_RX11_473_1792 (ct2_cons (vl_1789 l) ck_RX11_473_1789 (ct2_cons (vl_1786 l) ck_RX11_473_1786 (ct2_cons (vl_1783 l) ck_RX11_473_1783 (ct2_cons (vl_1780 l) ck_RX11_473_1780 (ct2_cons (vl_1777 l) ck_RX11_473_1777 (ct2_cons (vl_1774 l) ck_RX11_473_1774 (ct2_cons (vl_1763 l) ck_RX11_473_1763 (ct2_cons (vl_1760 l) ck_RX11_473_1760 (ct2_cons (vl_1757 l) ck_RX11_473_1757 (ct2_cons (vl_1793 l) ck_RX11_473_1793 (ct2_cons (vl_1790 l) ck_RX11_473_1790 (ct2_cons (vl_1787 l) ck_RX11_473_1787 (ct2_cons (vl_1784 l) ck_RX11_473_1784 (ct2_cons (vl_1781 l) ck_RX11_473_1781 (ct2_cons (vl_1778 l) ck_RX11_473_1778 (ct2_cons (vl_1775 l) ck_RX11_473_1775 (ct2_cons (vl_1764 l) ck_RX11_473_1764 (ct2_cons (vl_1761 l) ck_RX11_473_1761 (ct2_cons (vl_1758 l) ck_RX11_473_1758 (ct2_nil))))))))))))))))))))))))))))))
theorem vl_1846 (l : Launch) : Vld2 l vwCl gTbl con_1846 := conR_ok3 gT_all (hd_1846) rfl pn_RX11 tk_X11_isAsSeen bo_RX11 xo_RX11 (cto_1846 l) ch_1846 (cut_all cc_1846)
/-- RookHusting guessAll -/
noncomputable def gi_1212 : GI := jl_n [gp_621, gp_450]
noncomputable def gi_1213 : GI := jl_n [gp_621, gp_450, gp_622]
noncomputable def con_1847 : Con2 := ((yX11_guessAll, cX11_guessAll, 4, none), (6, 151), ([(6, 0, 0), (0, 3, 0), (1, 2, 0)], gi_1212, hc_198, rq_6), [((9, 0, 0), gi_1213, hq_887, [], tg_1)])
theorem hd_1847 : con_1847.1 = (yX11_guessAll, cX11_guessAll, 4, none) := rfl
theorem ck_RX11_483_1846 : COK2 RX11 vwCl gTbl 483 0 con_1846 := ⟨wd_1230, wd_125, mh_X11_isAsSeen, .inr (.inr ⟨rfl, wd_1227, wd_1229, wd_43, ⟨_, rfl, pd_X11_isAsSeen⟩, 11, _, TX11, 16, rfl, rfl⟩)⟩
noncomputable def ct_1847 : CTB2 := [(1, 208, 0, con_929, [0, 1, 2, 3, 4, 5, 6, 7, 8, 9, 10, 11, 12, 13, 14, 15, 16, 17, 18, 19, 20, 21, 22, 23, 24, 25, 26]), (36, 332, 0, con_1456, [28, 2, 29, 4, 30, 5, 31, 6]), (45, 480, 0, con_869, [28, 29]), (73, 372, 0, con_928, [32, 3, 28, 16, 33, 18, 34, 30, 35, 29, 36, 22, 23, 37, 38, 39, 31]), (78, 483, 0, con_1846, [0, 40, 41, 42, 32, 33]), (105, 486, 0, con_1766, [27, 33, 43]), (105, 486, 0, con_1771, [27, 33, 43])]
noncomputable def gi_1214 : GI := jl_n [gp_621, gp_450, gp_623]
noncomputable def cu_1847 : List CUT2 := [((14, [lq 0 6 0, lq 1 0 3, lq 2 1 2, lq 3 1 204], [], gi_1214, hq_888), rq_6, ([(204, (-1))], 5))]
theorem ch_1847 : staG tb_X11_guessAll 1 bt_RX11 [] ct_1847 [] [] cu_1847 48 con_1847 = true := by decide +kernel
theorem cc_1847 : cu_1847.all (cutG tb_X11_guessAll 1 bt_RX11 [] ct_1847 [] [] cu_1847 48 con_1847) = true := by decide +kernel
theorem cto_1847 (l : Launch) : CTOK2 l RX11 vwCl gTbl ct_1847 := ct2_cons (vl_929 l) ck_RX11_208_929 (ct2_cons (vl_1456 l) ck_RX11_332_1456 (ct2_cons (vl_869 l) ck_RX11_480_869 (ct2_cons (vl_928 l) ck_RX11_372_928 (ct2_cons (vl_1846 l) ck_RX11_483_1846 (ct2_cons (vl_1766 l) ck_RX11_486_1766 (ct2_cons (vl_1771 l) ck_RX11_486_1771 (ct2_nil)))))))
theorem vl_1847 (l : Launch) : Vld2 l vwCl gTbl con_1847 := conR_ok3 gT_all (hd_1847) rfl pn_RX11 tk_X11_guessAll bo_RX11 xo_RX11 (cto_1847 l) ch_1847 (cut_all cc_1847)
/-- RookHusting isAsSeen -/
noncomputable def gi_1215 : GI := jl_n [gp_636, jl_z 9]
noncomputable def gi_1216 : GI := jl_n [gp_636, jl_z 10]
noncomputable def con_1848 : Con2 := ((yX11_isAsSeen, cX11_isAsSeen, 4, (some .boolean)), (1, 22), ([(6, 0, 0), (0, 3, 0)], gi_1215, hc_196, []), [((0, 0, 0), gi_1216, hq_885, [], [1]), ((0, 1, 0), gi_1216, hq_885, [], [1])])
theorem hd_1848 : con_1848.1 = (yX11_isAsSeen, cX11_isAsSeen, 4, (some .boolean)) := rfl
noncomputable def ct_1848 : CTB2 := [(21, 473, 0, con_1756, [1, 3]), (36, 473, 0, con_1757, [1, 3]), (60, 473, 0, con_1758, [1, 3])]
noncomputable def gi_1217 : GI := jl_n [gp_636, jl_z 12]
noncomputable def gi_1218 : GI := jl_n [gp_636, gp_618]
noncomputable def cu_1848 : List CUT2 := [((2, [lq 0 6 0, lq 1 0 3, lq 2 0 0], [], gi_1217, hq_885), [], ([], 3)), ((2, [lq 0 6 0, lq 1 0 3, lq 2 0 3, lq 3 1 97], [], gi_1218, hq_885), [], ([], 0))]
theorem ch_1848 : staG tb_X11_isAsSeen 1 bt_RX11 [] ct_1848 [] [] cu_1848 44 con_1848 = true := by decide +kernel
theorem cc_1848 : cu_1848.all (cutG tb_X11_isAsSeen 1 bt_RX11 [] ct_1848 [] [] cu_1848 44 con_1848) = true := by decide +kernel
theorem cto_1848 (l : Launch) : CTOK2 l RX11 vwCl gTbl ct_1848 := ct2_cons (vl_1756 l) ck_RX11_473_1756 (ct2_cons (vl_1757 l) ck_RX11_473_1757 (ct2_cons (vl_1758 l) ck_RX11_473_1758 (ct2_nil)))
theorem vl_1848 (l : Launch) : Vld2 l vwCl gTbl con_1848 := conR_ok3 gT_all (hd_1848) rfl pn_RX11 tk_X11_isAsSeen bo_RX11 xo_RX11 (cto_1848 l) ch_1848 (cut_all cc_1848)
/-- RookHusting guessAll -/
noncomputable def gi_1219 : GI := jl_n [gp_621, gp_447]
noncomputable def gi_1220 : GI := jl_n [gp_621, gp_447, gp_622]
noncomputable def con_1849 : Con2 := ((yX11_guessAll, cX11_guessAll, 4, none), (6, 151), ([(6, 0, 0), (0, 3, 0), (1, 2, 0)], gi_1219, hc_198, rq_6), [((9, 0, 0), gi_1220, hq_887, [], tg_1)])
theorem hd_1849 : con_1849.1 = (yX11_guessAll, cX11_guessAll, 4, none) := rfl
theorem ck_RX11_483_1848 : COK2 RX11 vwCl gTbl 483 0 con_1848 := ⟨wd_1230, wd_125, mh_X11_isAsSeen, .inr (.inr ⟨rfl, wd_1227, wd_1229, wd_43, ⟨_, rfl, pd_X11_isAsSeen⟩, 11, _, TX11, 16, rfl, rfl⟩)⟩
noncomputable def ct_1849 : CTB2 := [(1, 208, 0, con_929, [0, 1, 2, 3, 4, 5, 6, 7, 8, 9, 10, 11, 12, 13, 14, 15, 16, 17, 18, 19, 20, 21, 22, 23, 24, 25, 26]), (36, 332, 0, con_1456, [28, 2, 29, 4, 30, 5, 31, 6]), (45, 480, 0, con_869, [28, 29]), (73, 372, 0, con_928, [32, 3, 28, 16, 33, 18, 34, 30, 35, 29, 36, 22, 23, 37, 38, 39, 31]), (78, 483, 0, con_1848, [0, 40, 41, 42, 32, 33]), (105, 486, 0, con_1766, [27, 33, 43]), (105, 486, 0, con_1771, [27, 33, 43])]
noncomputable def gi_1221 : GI := jl_n [gp_621, gp_447, gp_623]
noncomputable def cu_1849 : List CUT2 := [((14, [lq 0 6 0, lq 1 0 3, lq 2 1 2, lq 3 1 204], [], gi_1221, hq_888), rq_6, ([(204, (-1))], 5))]
theorem ch_1849 : staG tb_X11_guessAll 1 bt_RX11 [] ct_1849 [] [] cu_1849 48 con_1849 = true := by decide +kernel
theorem cc_1849 : cu_1849.all (cutG tb_X11_guessAll 1 bt_RX11 [] ct_1849 [] [] cu_1849 48 con_1849) = true := by decide +kernel
theorem cto_1849 (l : Launch) : CTOK2 l RX11 vwCl gTbl ct_1849 := ct2_cons (vl_929 l) ck_RX11_208_929 (ct2_cons (vl_1456 l) ck_RX11_332_1456 (ct2_cons (vl_869 l) ck_RX11_480_869 (ct2_cons (vl_928 l) ck_RX11_372_928 (ct2_cons (vl_1848 l) ck_RX11_483_1848 (ct2_cons (vl_1766 l) ck_RX11_486_1766 (ct2_cons (vl_1771 l) ck_RX11_486_1771 (ct2_nil)))))))
theorem vl_1849 (l : Launch) : Vld2 l vwCl gTbl con_1849 := conR_ok3 gT_all (hd_1849) rfl pn_RX11 tk_X11_guessAll bo_RX11 xo_RX11 (cto_1849 l) ch_1849 (cut_all cc_1849)
/-- RookHusting isAsSeen -/
noncomputable def gi_1222 : GI := jl_n [gp_637, jl_z 9]
noncomputable def gi_1223 : GI := jl_n [gp_637, jl_z 10]
noncomputable def con_1850 : Con2 := ((yX11_isAsSeen, cX11_isAsSeen, 4, (some .boolean)), (1, 22), ([(6, 0, 0), (0, 3, 0)], gi_1222, hc_196, []), [((0, 0, 0), gi_1223, hq_885, [], [1]), ((0, 1, 0), gi_1223, hq_885, [], [1])])
theorem hd_1850 : con_1850.1 = (yX11_isAsSeen, cX11_isAsSeen, 4, (some .boolean)) := rfl
noncomputable def ct_1850 : CTB2 := [(21, 473, 0, con_1788, [1, 3]), (21, 473, 0, con_1785, [1, 3]), (21, 473, 0, con_1782, [1, 3]), (21, 473, 0, con_1779, [1, 3]), (21, 473, 0, con_1776, [1, 3]), (21, 473, 0, con_1773, [1, 3]), (21, 473, 0, con_1762, [1, 3]), (21, 473, 0, con_1759, [1, 3]), (21, 473, 0, con_1756, [1, 3]), (36, 473, 0, con_1789, [1, 3]), (36, 473, 0, con_1786, [1, 3]), (36, 473, 0, con_1783, [1, 3]), (36, 473, 0, con_1780, [1, 3]), (36, 473, 0, con_1777, [1, 3]), (36, 473, 0, con_1774, [1, 3]), (36, 473, 0, con_1763, [1, 3]), (36, 473, 0, con_1760, [1, 3]), (36, 473, 0, con_1757, [1, 3]), (60, 473, 0, con_1790, [1, 3]), (60, 473, 0, con_1787, [1, 3]), (60, 473, 0, con_1784, [1, 3]), (60, 473, 0, con_1781, [1, 3]), (60, 473, 0, con_1778, [1, 3]), (60, 473, 0, con_1775, [1, 3]), (60, 473, 0, con_1764, [1, 3]), (60, 473, 0, con_1761, [1, 3]), (60, 473, 0, con_1758, [1, 3])]
noncomputable def gi_1224 : GI := jl_n [gp_637, jl_z 12]
noncomputable def gi_1225 : GI := jl_n [gp_637, gp_618]
noncomputable def cu_1850 : List CUT2 := [((2, [lq 0 6 0, lq 1 0 3, lq 2 0 0], [], gi_1224, hq_885), [], ([], 27)), ((2, [lq 0 6 0, lq 1 0 3, lq 2 0 3, lq 3 1 97], [], gi_1225, hq_885), [], ([], 24)), ((2, [lq 0 6 0, lq 1 0 3, lq 2 0 6, lq 3 1 97], [], gi_1225, hq_885), [], ([], 21)), ((2, [lq 0 6 0, lq 1 0 3, lq 2 0 9, lq 3 1 97], [], gi_1225, hq_885), [], ([], 18)), ((2, [lq 0 6 0, lq 1 0 3, lq 2 0 12, lq 3 1 97], [], gi_1225, hq_885), [], ([], 15)), ((2, [lq 0 6 0, lq 1 0 3, lq 2 0 15, lq 3 1 97], [], gi_1225, hq_885), [], ([], 12)), ((2, [lq 0 6 0, lq 1 0 3, lq 2 0 18, lq 3 1 97], [], gi_1225, hq_885), [], ([], 9)), ((2, [lq 0 6 0, lq 1 0 3, lq 2 0 21, lq 3 1 97], [], gi_1225, hq_885), [], ([], 6)), ((2, [lq 0 6 0, lq 1 0 3, lq 2 0 24, lq 3 1 97], [], gi_1225, hq_885), [], ([], 3)), ((2, [lq 0 6 0, lq 1 0 3, lq 2 0 27, lq 3 1 97], [], gi_1225, hq_885), [], ([], 0))]
theorem ch_1850 : staG tb_X11_isAsSeen 1 bt_RX11 [] ct_1850 [] [] cu_1850 44 con_1850 = true := by decide +kernel
theorem cc_1850 : cu_1850.all (cutG tb_X11_isAsSeen 1 bt_RX11 [] ct_1850 [] [] cu_1850 44 con_1850) = true := by decide +kernel
theorem cto_1850 (l : Launch) : CTOK2 l RX11 vwCl gTbl ct_1850 := ct2_cons (vl_1788 l) ck_RX11_473_1788 (ct2_cons (vl_1785 l) ck_RX11_473_1785 (ct2_cons (vl_1782 l) ck_RX11_473_1782 (ct2_cons (vl_1779 l) ck_RX11_473_1779 (ct2_cons (vl_1776 l) ck_RX11_473_1776 (ct2_cons (vl_1773 l) ck_RX11_473_1773 (ct2_cons (vl_1762 l) ck_RX11_473_1762 (ct2_cons (vl_1759 l) ck_RX11_473_1759 (ct2_cons (vl_1756 l) ck_RX11_473_1756 (ct2_cons (vl_1789 l) ck_RX11_473_1789 (ct2_cons (vl_1786 l) ck_RX11_473_1786 (ct2_cons (vl_1783 l) ck_RX11_473_1783 (ct2_cons (vl_1780 l) ck_RX11_473_1780 (ct2_cons (vl_1777 l) ck_RX11_473_1777 (ct2_cons (vl_1774 l) ck_RX11_473_1774 (ct2_cons (vl_1763 l) ck_RX11_473_1763 (ct2_cons (vl_1760 l) ck_RX11_473_1760 (ct2_cons (vl_1757 l) ck_RX11_473_1757 (ct2_cons (vl_1790 l) ck_RX11_473_1790 (ct2_cons (vl_1787 l) ck_RX11_473_1787 (ct2_cons (vl_1784 l) ck_RX11_473_1784 (ct2_cons (vl_1781 l) ck_RX11_473_1781 (ct2_cons (vl_1778 l) ck_RX11_473_1778 (ct2_cons (vl_1775 l) ck_RX11_473_1775 (ct2_cons (vl_1764 l) ck_RX11_473_1764 (ct2_cons (vl_1761 l) ck_RX11_473_1761 (ct2_cons (vl_1758 l) ck_RX11_473_1758 (ct2_nil)))))))))))))))))))))))))))
theorem vl_1850 (l : Launch) : Vld2 l vwCl gTbl con_1850 := conR_ok3 gT_all (hd_1850) rfl pn_RX11 tk_X11_isAsSeen bo_RX11 xo_RX11 (cto_1850 l) ch_1850 (cut_all cc_1850)
/-- RookHusting guessAll -/
noncomputable def gi_1226 : GI := jl_n [gp_621, gp_445]
noncomputable def gi_1227 : GI := jl_n [gp_621, gp_445, gp_622]
noncomputable def con_1851 : Con2 := ((yX11_guessAll, cX11_guessAll, 4, none), (6, 151), ([(6, 0, 0), (0, 3, 0), (1, 2, 0)], gi_1226, hc_198, rq_6), [((9, 0, 0), gi_1227, hq_887, [], tg_1)])
theorem hd_1851 : con_1851.1 = (yX11_guessAll, cX11_guessAll, 4, none) := rfl
theorem ck_RX11_483_1850 : COK2 RX11 vwCl gTbl 483 0 con_1850 := ⟨wd_1230, wd_125, mh_X11_isAsSeen, .inr (.inr ⟨rfl, wd_1227, wd_1229, wd_43, ⟨_, rfl, pd_X11_isAsSeen⟩, 11, _, TX11, 16, rfl, rfl⟩)⟩
noncomputable def ct_1851 : CTB2 := [(1, 208, 0, con_929, [0, 1, 2, 3, 4, 5, 6, 7, 8, 9, 10, 11, 12, 13, 14, 15, 16, 17, 18, 19, 20, 21, 22, 23, 24, 25, 26]), (36, 332, 0, con_1456, [28, 2, 29, 4, 30, 5, 31, 6]), (45, 480, 0, con_869, [28, 29]), (73, 372, 0, con_928, [32, 3, 28, 16, 33, 18, 34, 30, 35, 29, 36, 22, 23, 37, 38, 39, 31]), (78, 483, 0, con_1850, [0, 40, 41, 42, 32, 33]), (105, 486, 0, con_1766, [27, 33, 43]), (105, 486, 0, con_1771, [27, 33, 43])]
noncomputable def gi_1228 : GI := jl_n [gp_621, gp_445, gp_623]
noncomputable def cu_1851 : List CUT2 := [((14, [lq 0 6 0, lq 1 0 3, lq 2 1 2, lq 3 1 204], [], gi_1228, hq_888), rq_6, ([(204, (-1))], 5))]
theorem ch_1851 : staG tb_X11_guessAll 1 bt_RX11 [] ct_1851 [] [] cu_1851 48 con_1851 = true := by decide +kernel
theorem cc_1851 : cu_1851.all (cutG tb_X11_guessAll 1 bt_RX11 [] ct_1851 [] [] cu_1851 48 con_1851) = true := by decide +kernel
theorem cto_1851 (l : Launch) : CTOK2 l RX11 vwCl gTbl ct_1851 := ct2_cons (vl_929 l) ck_RX11_208_929 (ct2_cons (vl_1456 l) ck_RX11_332_1456 (ct2_cons (vl_869 l) ck_RX11_480_869 (ct2_cons (vl_928 l) ck_RX11_372_928 (ct2_cons (vl_1850 l) ck_RX11_483_1850 (ct2_cons (vl_1766 l) ck_RX11_486_1766 (ct2_cons (vl_1771 l) ck_RX11_486_1771 (ct2_nil)))))))
theorem vl_1851 (l : Launch) : Vld2 l vwCl gTbl con_1851 := conR_ok3 gT_all (hd_1851) rfl pn_RX11 tk_X11_guessAll bo_RX11 xo_RX11 (cto_1851 l) ch_1851 (cut_all cc_1851)
/-- RookHusting isAsSeen -/
noncomputable def gi_1229 : GI := jl_n [gp_638, jl_z 9]
noncomputable def gi_1230 : GI := jl_n [gp_638, jl_z 10]
noncomputable def con_1852 : Con2 := ((yX11_isAsSeen, cX11_isAsSeen, 4, (some .boolean)), (1, 22), ([(6, 0, 0), (0, 3, 0)], gi_1229, hc_196, []), [((0, 0, 0), gi_1230, hq_885, [], [1]), ((0, 1, 0), gi_1230, hq_885, [], [1])])
theorem hd_1852 : con_1852.1 = (yX11_isAsSeen, cX11_isAsSeen, 4, (some .boolean)) := rfl
noncomputable def ct_1852 : CTB2 := [(21, 473, 0, con_1785, [1, 3]), (21, 473, 0, con_1782, [1, 3]), (21, 473, 0, con_1779, [1, 3]), (21, 473, 0, con_1776, [1, 3]), (21, 473, 0, con_1773, [1, 3]), (21, 473, 0, con_1762, [1, 3]), (21, 473, 0, con_1759, [1, 3]), (21, 473, 0, con_1756, [1, 3]), (36, 473, 0, con_1786, [1, 3]), (36, 473, 0, con_1783, [1, 3]), (36, 473, 0, con_1780, [1, 3]), (36, 473, 0, con_1777, [1, 3]), (36, 473, 0, con_1774, [1, 3]), (36, 473, 0, con_1763, [1, 3]), (36, 473, 0, con_1760, [1, 3]), (36, 473, 0, con_1757, [1, 3]), (60, 473, 0, con_1787, [1, 3]), (60, 473, 0, con_1784, [1, 3]), (60, 473, 0, con_1781, [1, 3]), (60, 473, 0, con_1778, [1, 3]), (60, 473, 0, con_1775, [1, 3]), (60, 473, 0, con_1764, [1, 3]), (60, 473, 0, con_1761, [1, 3]), (60, 473, 0, con_1758, [1, 3])]
noncomputable def gi_1231 : GI := jl_n [gp_638, jl_z 12]
noncomputable def gi_1232 : GI := jl_n [gp_638, gp_618]
noncomputable def cu_1852 : List CUT2 := [((2, [lq 0 6 0, lq 1 0 3, lq 2 0 0], [], gi_1231, hq_885), [], ([], 24)), ((2, [lq 0 6 0, lq 1 0 3, lq 2 0 3, lq 3 1 97], [], gi_1232, hq_885), [], ([], 21)), ((2, [lq 0 6 0, lq 1 0 3, lq 2 0 6, lq 3 1 97], [], gi_1232, hq_885), [], ([], 18)), ((2, [lq 0 6 0, lq 1 0 3, lq 2 0 9, lq 3 1 97], [], gi_1232, hq_885), [], ([], 15)), ((2, [lq 0 6 0, lq 1 0 3, lq 2 0 12, lq 3 1 97], [], gi_1232, hq_885), [], ([], 12)), ((2, [lq 0 6 0, lq 1 0 3, lq 2 0 15, lq 3 1 97], [], gi_1232, hq_885), [], ([], 9)), ((2, [lq 0 6 0, lq 1 0 3, lq 2 0 18, lq 3 1 97], [], gi_1232, hq_885), [], ([], 6)), ((2, [lq 0 6 0, lq 1 0 3, lq 2 0 21, lq 3 1 97], [], gi_1232, hq_885), [], ([], 3)), ((2, [lq 0 6 0, lq 1 0 3, lq 2 0 24, lq 3 1 97], [], gi_1232, hq_885), [], ([], 0))]
theorem ch_1852 : staG tb_X11_isAsSeen 1 bt_RX11 [] ct_1852 [] [] cu_1852 44 con_1852 = true := by decide +kernel
theorem cc_1852 : cu_1852.all (cutG tb_X11_isAsSeen 1 bt_RX11 [] ct_1852 [] [] cu_1852 44 con_1852) = true := by decide +kernel
theorem cto_1852 (l : Launch) : CTOK2 l RX11 vwCl gTbl ct_1852 := ct2_cons (vl_1785 l) ck_RX11_473_1785 (ct2_cons (vl_1782 l) ck_RX11_473_1782 (ct2_cons (vl_1779 l) ck_RX11_473_1779 (ct2_cons (vl_1776 l) ck_RX11_473_1776 (ct2_cons (vl_1773 l) ck_RX11_473_1773 (ct2_cons (vl_1762 l) ck_RX11_473_1762 (ct2_cons (vl_1759 l) ck_RX11_473_1759 (ct2_cons (vl_1756 l) ck_RX11_473_1756 (ct2_cons (vl_1786 l) ck_RX11_473_1786 (ct2_cons (vl_1783 l) ck_RX11_473_1783 (ct2_cons (vl_1780 l) ck_RX11_473_1780 (ct2_cons (vl_1777 l) ck_RX11_473_1777 (ct2_cons (vl_1774 l) ck_RX11_473_1774 (ct2_cons (vl_1763 l) ck_RX11_473_1763 (ct2_cons (vl_1760 l) ck_RX11_473_1760 (ct2_cons (vl_1757 l) ck_RX11_473_1757 (ct2_cons (vl_1787 l) ck_RX11_473_1787 (ct2_cons (vl_1784 l) ck_RX11_473_1784 (ct2_cons (vl_1781 l) ck_RX11_473_1781 (ct2_cons (vl_1778 l) ck_RX11_473_1778 (ct2_cons (vl_1775 l) ck_RX11_473_1775 (ct2_cons (vl_1764 l) ck_RX11_473_1764 (ct2_cons (vl_1761 l) ck_RX11_473_1761 (ct2_cons (vl_1758 l) ck_RX11_473_1758 (ct2_nil))))))))))))))))))))))))
theorem vl_1852 (l : Launch) : Vld2 l vwCl gTbl con_1852 := conR_ok3 gT_all (hd_1852) rfl pn_RX11 tk_X11_isAsSeen bo_RX11 xo_RX11 (cto_1852 l) ch_1852 (cut_all cc_1852)
/-- RookHusting guessAll -/
noncomputable def gi_1233 : GI := jl_n [gp_621, gp_442]
noncomputable def gi_1234 : GI := jl_n [gp_621, gp_442, gp_622]
noncomputable def con_1853 : Con2 := ((yX11_guessAll, cX11_guessAll, 4, none), (6, 151), ([(6, 0, 0), (0, 3, 0), (1, 2, 0)], gi_1233, hc_198, rq_6), [((9, 0, 0), gi_1234, hq_887, [], tg_1)])
theorem hd_1853 : con_1853.1 = (yX11_guessAll, cX11_guessAll, 4, none) := rfl
theorem ck_RX11_483_1852 : COK2 RX11 vwCl gTbl 483 0 con_1852 := ⟨wd_1230, wd_125, mh_X11_isAsSeen, .inr (.inr ⟨rfl, wd_1227, wd_1229, wd_43, ⟨_, rfl, pd_X11_isAsSeen⟩, 11, _, TX11, 16, rfl, rfl⟩)⟩
noncomputable def ct_1853 : CTB2 := [(1, 208, 0, con_929, [0, 1, 2, 3, 4, 5, 6, 7, 8, 9, 10, 11, 12, 13, 14, 15, 16, 17, 18, 19, 20, 21, 22, 23, 24, 25, 26]), (36, 332, 0, con_1456, [28, 2, 29, 4, 30, 5, 31, 6]), (45, 480, 0, con_869, [28, 29]), (73, 372, 0, con_928, [32, 3, 28, 16, 33, 18, 34, 30, 35, 29, 36, 22, 23, 37, 38, 39, 31]), (78, 483, 0, con_1852, [0, 40, 41, 42, 32, 33]), (105, 486, 0, con_1766, [27, 33, 43]), (105, 486, 0, con_1771, [27, 33, 43])]
noncomputable def gi_1235 : GI := jl_n [gp_621, gp_442, gp_623]
noncomputable def cu_1853 : List CUT2 := [((14, [lq 0 6 0, lq 1 0 3, lq 2 1 2, lq 3 1 204], [], gi_1235, hq_888), rq_6, ([(204, (-1))], 5))]
theorem ch_1853 : staG tb_X11_guessAll 1 bt_RX11 [] ct_1853 [] [] cu_1853 48 con_1853 = true := by decide +kernel
theorem cc_1853 : cu_1853.all (cutG tb_X11_guessAll 1 bt_RX11 [] ct_1853 [] [] cu_1853 48 con_1853) = true := by decide +kernel
theorem cto_1853 (l : Launch) : CTOK2 l RX11 vwCl gTbl ct_1853 := ct2_cons (vl_929 l) ck_RX11_208_929 (ct2_cons (vl_1456 l) ck_RX11_332_1456 (ct2_cons (vl_869 l) ck_RX11_480_869 (ct2_cons (vl_928 l) ck_RX11_372_928 (ct2_cons (vl_1852 l) ck_RX11_483_1852 (ct2_cons (vl_1766 l) ck_RX11_486_1766 (ct2_cons (vl_1771 l) ck_RX11_486_1771 (ct2_nil)))))))
theorem vl_1853 (l : Launch) : Vld2 l vwCl gTbl con_1853 := conR_ok3 gT_all (hd_1853) rfl pn_RX11 tk_X11_guessAll bo_RX11 xo_RX11 (cto_1853 l) ch_1853 (cut_all cc_1853)
/-- RookHusting isAsSeen -/
noncomputable def gi_1236 : GI := jl_n [gp_639, jl_z 9]
noncomputable def gi_1237 : GI := jl_n [gp_639, jl_z 10]
noncomputable def con_1854 : Con2 := ((yX11_isAsSeen, cX11_isAsSeen, 4, (some .boolean)), (1, 22), ([(6, 0, 0), (0, 3, 0)], gi_1236, hc_196, []), [((0, 0, 0), gi_1237, hq_885, [], [1]), ((0, 1, 0), gi_1237, hq_885, [], [1])])
theorem hd_1854 : con_1854.1 = (yX11_isAsSeen, cX11_isAsSeen, 4, (some .boolean)) := rfl
noncomputable def ct_1854 : CTB2 := [(21, 473, 0, con_1782, [1, 3]), (21, 473, 0, con_1779, [1, 3]), (21, 473, 0, con_1776, [1, 3]), (21, 473, 0, con_1773, [1, 3]), (21, 473, 0, con_1762, [1, 3]), (21, 473, 0, con_1759, [1, 3]), (21, 473, 0, con_1756, [1, 3]), (36, 473, 0, con_1783, [1, 3]), (36, 473, 0, con_1780, [1, 3]), (36, 473, 0, con_1777, [1, 3]), (36, 473, 0, con_1774, [1, 3]), (36, 473, 0, con_1763, [1, 3]), (36, 473, 0, con_1760, [1, 3]), (36, 473, 0, con_1757, [1, 3]), (60, 473, 0, con_1784, [1, 3]), (60, 473, 0, con_1781, [1, 3]), (60, 473, 0, con_1778, [1, 3]), (60, 473, 0, con_1775, [1, 3]), (60, 473, 0, con_1764, [1, 3]), (60, 473, 0, con_1761, [1, 3]), (60, 473, 0, con_1758, [1, 3])]
noncomputable def gi_1238 : GI := jl_n [gp_639, jl_z 12]
noncomputable def gi_1239 : GI := jl_n [gp_639, gp_618]
noncomputable def cu_1854 : List CUT2 := [((2, [lq 0 6 0, lq 1 0 3, lq 2 0 0], [], gi_1238, hq_885), [], ([], 21)), ((2, [lq 0 6 0, lq 1 0 3, lq 2 0 3, lq 3 1 97], [], gi_1239, hq_885), [], ([], 18)), ((2, [lq 0 6 0, lq 1 0 3, lq 2 0 6, lq 3 1 97], [], gi_1239, hq_885), [], ([], 15)), ((2, [lq 0 6 0, lq 1 0 3, lq 2 0 9, lq 3 1 97], [], gi_1239, hq_885), [], ([], 12)), ((2, [lq 0 6 0, lq 1 0 3, lq 2 0 12, lq 3 1 97], [], gi_1239, hq_885), [], ([], 9)), ((2, [lq 0 6 0, lq 1 0 3, lq 2 0 15, lq 3 1 97], [], gi_1239, hq_885), [], ([], 6)), ((2, [lq 0 6 0, lq 1 0 3, lq 2 0 18, lq 3 1 97], [], gi_1239, hq_885), [], ([], 3)), ((2, [lq 0 6 0, lq 1 0 3, lq 2 0 21, lq 3 1 97], [], gi_1239, hq_885), [], ([], 0))]
theorem ch_1854 : staG tb_X11_isAsSeen 1 bt_RX11 [] ct_1854 [] [] cu_1854 44 con_1854 = true := by decide +kernel
theorem cc_1854 : cu_1854.all (cutG tb_X11_isAsSeen 1 bt_RX11 [] ct_1854 [] [] cu_1854 44 con_1854) = true := by decide +kernel
theorem cto_1854 (l : Launch) : CTOK2 l RX11 vwCl gTbl ct_1854 := ct2_cons (vl_1782 l) ck_RX11_473_1782 (ct2_cons (vl_1779 l) ck_RX11_473_1779 (ct2_cons (vl_1776 l) ck_RX11_473_1776 (ct2_cons (vl_1773 l) ck_RX11_473_1773 (ct2_cons (vl_1762 l) ck_RX11_473_1762 (ct2_cons (vl_1759 l) ck_RX11_473_1759 (ct2_cons (vl_1756 l) ck_RX11_473_1756 (ct2_cons (vl_1783 l) ck_RX11_473_1783 (ct2_cons (vl_1780 l) ck_RX11_473_1780 (ct2_cons (vl_1777 l) ck_RX11_473_1777 (ct2_cons (vl_1774 l) ck_RX11_473_1774 (ct2_cons (vl_1763 l) ck_RX11_473_1763 (ct2_cons (vl_1760 l) ck_RX11_473_1760 (ct2_cons (vl_1757 l) ck_RX11_473_1757 (ct2_cons (vl_1784 l) ck_RX11_473_1784 (ct2_cons (vl_1781 l) ck_RX11_473_1781 (ct2_cons (vl_1778 l) ck_RX11_473_1778 (ct2_cons (vl_1775 l) ck_RX11_473_1775 (ct2_cons (vl_1764 l) ck_RX11_473_1764 (ct2_cons (vl_1761 l) ck_RX11_473_1761 (ct2_cons (vl_1758 l) ck_RX11_473_1758 (ct2_nil)))))))))))))))))))))
theorem vl_1854 (l : Launch) : Vld2 l vwCl gTbl con_1854 := conR_ok3 gT_all (hd_1854) rfl pn_RX11 tk_X11_isAsSeen bo_RX11 xo_RX11 (cto_1854 l) ch_1854 (cut_all cc_1854)
/-- RookHusting guessAll -/
noncomputable def gi_1240 : GI := jl_n [gp_621, gp_439]
noncomputable def gi_1241 : GI := jl_n [gp_621, gp_439, gp_622]
noncomputable def con_1855 : Con2 := ((yX11_guessAll, cX11_guessAll, 4, none), (6, 151), ([(6, 0, 0), (0, 3, 0), (1, 2, 0)], gi_1240, hc_198, rq_6), [((9, 0, 0), gi_1241, hq_887, [], tg_1)])
theorem hd_1855 : con_1855.1 = (yX11_guessAll, cX11_guessAll, 4, none) := rfl
theorem ck_RX11_483_1854 : COK2 RX11 vwCl gTbl 483 0 con_1854 := ⟨wd_1230, wd_125, mh_X11_isAsSeen, .inr (.inr ⟨rfl, wd_1227, wd_1229, wd_43, ⟨_, rfl, pd_X11_isAsSeen⟩, 11, _, TX11, 16, rfl, rfl⟩)⟩
noncomputable def ct_1855 : CTB2 := [(1, 208, 0, con_929, [0, 1, 2, 3, 4, 5, 6, 7, 8, 9, 10, 11, 12, 13, 14, 15, 16, 17, 18, 19, 20, 21, 22, 23, 24, 25, 26]), (36, 332, 0, con_1456, [28, 2, 29, 4, 30, 5, 31, 6]), (45, 480, 0, con_869, [28, 29]), (73, 372, 0, con_928, [32, 3, 28, 16, 33, 18, 34, 30, 35, 29, 36, 22, 23, 37, 38, 39, 31]), (78, 483, 0, con_1854, [0, 40, 41, 42, 32, 33]), (105, 486, 0, con_1766, [27, 33, 43]), (105, 486, 0, con_1771, [27, 33, 43])]
noncomputable def gi_1242 : GI := jl_n [gp_621, gp_439, gp_623]
noncomputable def cu_1855 : List CUT2 := [((14, [lq 0 6 0, lq 1 0 3, lq 2 1 2, lq 3 1 204], [], gi_1242, hq_888), rq_6, ([(204, (-1))], 5))]
theorem ch_1855 : staG tb_X11_guessAll 1 bt_RX11 [] ct_1855 [] [] cu_1855 48 con_1855 = true := by decide +kernel
theorem cc_1855 : cu_1855.all (cutG tb_X11_guessAll 1 bt_RX11 [] ct_1855 [] [] cu_1855 48 con_1855) = true := by decide +kernel
theorem cto_1855 (l : Launch) : CTOK2 l RX11 vwCl gTbl ct_1855 := ct2_cons (vl_929 l) ck_RX11_208_929 (ct2_cons (vl_1456 l) ck_RX11_332_1456 (ct2_cons (vl_869 l) ck_RX11_480_869 (ct2_cons (vl_928 l) ck_RX11_372_928 (ct2_cons (vl_1854 l) ck_RX11_483_1854 (ct2_cons (vl_1766 l) ck_RX11_486_1766 (ct2_cons (vl_1771 l) ck_RX11_486_1771 (ct2_nil)))))))
theorem vl_1855 (l : Launch) : Vld2 l vwCl gTbl con_1855 := conR_ok3 gT_all (hd_1855) rfl pn_RX11 tk_X11_guessAll bo_RX11 xo_RX11 (cto_1855 l) ch_1855 (cut_all cc_1855)
/-- RookHusting isAsSeen -/
noncomputable def gi_1243 : GI := jl_n [gp_640, jl_z 9]
noncomputable def gi_1244 : GI := jl_n [gp_640, jl_z 10]
noncomputable def con_1856 : Con2 := ((yX11_isAsSeen, cX11_isAsSeen, 4, (some .boolean)), (1, 22), ([(6, 0, 0), (0, 3, 0)], gi_1243, hc_196, []), [((0, 0, 0), gi_1244, hq_885, [], [1]), ((0, 1, 0), gi_1244, hq_885, [], [1])])
theorem hd_1856 : con_1856.1 = (yX11_isAsSeen, cX11_isAsSeen, 4, (some .boolean)) := rfl
noncomputable def ct_1856 : CTB2 := [(21, 473, 0, con_1779, [1, 3]), (21, 473, 0, con_1776, [1, 3]), (21, 473, 0, con_1773, [1, 3]), (21, 473, 0, con_1762, [1, 3]), (21, 473, 0, con_1759, [1, 3]), (21, 473, 0, con_1756, [1, 3]), (36, 473, 0, con_1780, [1, 3]), (36, 473, 0, con_1777, [1, 3]), (36, 473, 0, con_1774, [1, 3]), (36, 473, 0, con_1763, [1, 3]), (36, 473, 0, con_1760, [1, 3]), (36, 473, 0, con_1757, [1, 3]), (60, 473, 0, con_1781, [1, 3]), (60, 473, 0, con_1778, [1, 3]), (60, 473, 0, con_1775, [1, 3]), (60, 473, 0, con_1764, [1, 3]), (60, 473, 0, con_1761, [1, 3]), (60, 473, 0, con_1758, [1, 3])]
noncomputable def gi_1245 : GI := jl_n [gp_640, jl_z 12]
noncomputable def gi_1246 : GI := jl_n [gp_640, gp_618]
noncomputable def cu_1856 : List CUT2 := [((2, [lq 0 6 0, lq 1 0 3, lq 2 0 0], [], gi_1245, hq_885), [], ([], 18)), ((2, [lq 0 6 0, lq 1 0 3, lq 2 0 3, lq 3 1 97], [], gi_1246, hq_885), [], ([], 15)), ((2, [lq 0 6 0, lq 1 0 3, lq 2 0 6, lq 3 1 97], [], gi_1246, hq_885), [], ([], 12)), ((2, [lq 0 6 0, lq 1 0 3, lq 2 0 9, lq 3 1 97], [], gi_1246, hq_885), [], ([], 9)), ((2, [lq 0 6 0, lq 1 0 3, lq 2 0 12, lq 3 1 97], [], gi_1246, hq_885), [], ([], 6)), ((2, [lq 0 6 0, lq 1 0 3, lq 2 0 15, lq 3 1 97], [], gi_1246, hq_885), [], ([], 3)), ((2, [lq 0 6 0, lq 1 0 3, lq 2 0 18, lq 3 1 97], [], gi_1246, hq_885), [], ([], 0))]
theorem ch_1856 : staG tb_X11_isAsSeen 1 bt_RX11 [] ct_1856 [] [] cu_1856 44 con_1856 = true := by decide +kernel
theorem cc_1856 : cu_1856.all (cutG tb_X11_isAsSeen 1 bt_RX11 [] ct_1856 [] [] cu_1856 44 con_1856) = true := by decide +kernel
theorem cto_1856 (l : Launch) : CTOK2 l RX11 vwCl gTbl ct_1856 := ct2_cons (vl_1779 l) ck_RX11_473_1779 (ct2_cons (vl_1776 l) ck_RX11_473_1776 (ct2_cons (vl_1773 l) ck_RX11_473_1773 (ct2_cons (vl_1762 l) ck_RX11_473_1762 (ct2_cons (vl_1759 l) ck_RX11_473_1759 (ct2_cons (vl_1756 l) ck_RX11_473_1756 (ct2_cons (vl_1780 l) ck_RX11_473_1780 (ct2_cons (vl_1777 l) ck_RX11_473_1777 (ct2_cons (vl_1774 l) ck_RX11_473_1774 (ct2_cons (vl_1763 l) ck_RX11_473_1763 (ct2_cons (vl_1760 l) ck_RX11_473_1760 (ct2_cons (vl_1757 l) ck_RX11_473_1757 (ct2_cons (vl_1781 l) ck_RX11_473_1781 (ct2_cons (vl_1778 l) ck_RX11_473_1778 (ct2_cons (vl_1775 l) ck_RX11_473_1775 (ct2_cons (vl_1764 l) ck_RX11_473_1764 (ct2_cons (vl_1761 l) ck_RX11_473_1761 (ct2_cons (vl_1758 l) ck_RX11_473_1758 (ct2_nil))))))))))))))))))
theorem vl_1856 (l : Launch) : Vld2 l vwCl gTbl con_1856 := conR_ok3 gT_all (hd_1856) rfl pn_RX11 tk_X11_isAsSeen bo_RX11 xo_RX11 (cto_1856 l) ch_1856 (cut_all cc_1856)
/-- RookHusting guessAll -/
noncomputable def gi_1247 : GI := jl_n [gp_621, gp_436]
noncomputable def gi_1248 : GI := jl_n [gp_621, gp_436, gp_622]
noncomputable def con_1857 : Con2 := ((yX11_guessAll, cX11_guessAll, 4, none), (6, 151), ([(6, 0, 0), (0, 3, 0), (1, 2, 0)], gi_1247, hc_198, rq_6), [((9, 0, 0), gi_1248, hq_887, [], tg_1)])
theorem hd_1857 : con_1857.1 = (yX11_guessAll, cX11_guessAll, 4, none) := rfl
theorem ck_RX11_483_1856 : COK2 RX11 vwCl gTbl 483 0 con_1856 := ⟨wd_1230, wd_125, mh_X11_isAsSeen, .inr (.inr ⟨rfl, wd_1227, wd_1229, wd_43, ⟨_, rfl, pd_X11_isAsSeen⟩, 11, _, TX11, 16, rfl, rfl⟩)⟩
noncomputable def ct_1857 : CTB2 := [(1, 208, 0, con_929, [0, 1, 2, 3, 4, 5, 6, 7, 8, 9, 10, 11, 12, 13, 14, 15, 16, 17, 18, 19, 20, 21, 22, 23, 24, 25, 26]), (36, 332, 0, con_1456, [28, 2, 29, 4, 30, 5, 31, 6]), (45, 480, 0, con_869, [28, 29]), (73, 372, 0, con_928, [32, 3, 28, 16, 33, 18, 34, 30, 35, 29, 36, 22, 23, 37, 38, 39, 31]), (78, 483, 0, con_1856, [0, 40, 41, 42, 32, 33]), (105, 486, 0, con_1766, [27, 33, 43]), (105, 486, 0, con_1771, [27, 33, 43])]
noncomputable def gi_1249 : GI := jl_n [gp_621, gp_436, gp_623]
noncomputable def cu_1857 : List CUT2 := [((14, [lq 0 6 0, lq 1 0 3, lq 2 1 2, lq 3 1 204], [], gi_1249, hq_888), rq_6, ([(204, (-1))], 5))]
theorem ch_1857 : staG tb_X11_guessAll 1 bt_RX11 [] ct_1857 [] [] cu_1857 48 con_1857 = true := by decide +kernel
theorem cc_1857 : cu_1857.all (cutG tb_X11_guessAll 1 bt_RX11 [] ct_1857 [] [] cu_1857 48 con_1857) = true := by decide +kernel
theorem cto_1857 (l : Launch) : CTOK2 l RX11 vwCl gTbl ct_1857 := ct2_cons (vl_929 l) ck_RX11_208_929 (ct2_cons (vl_1456 l) ck_RX11_332_1456 (ct2_cons (vl_869 l) ck_RX11_480_869 (ct2_cons (vl_928 l) ck_RX11_372_928 (ct2_cons (vl_1856 l) ck_RX11_483_1856 (ct2_cons (vl_1766 l) ck_RX11_486_1766 (ct2_cons (vl_1771 l) ck_RX11_486_1771 (ct2_nil)))))))
theorem vl_1857 (l : Launch) : Vld2 l vwCl gTbl con_1857 := conR_ok3 gT_all (hd_1857) rfl pn_RX11 tk_X11_guessAll bo_RX11 xo_RX11 (cto_1857 l) ch_1857 (cut_all cc_1857)
/-- RookHusting isAsSeen -/
noncomputable def gi_1250 : GI := jl_n [gp_641, jl_z 9]
noncomputable def gi_1251 : GI := jl_n [gp_641, jl_z 10]
noncomputable def con_1858 : Con2 := ((yX11_isAsSeen, cX11_isAsSeen, 4, (some .boolean)), (1, 22), ([(6, 0, 0), (0, 3, 0)], gi_1250, hc_196, []), [((0, 0, 0), gi_1251, hq_885, [], [1]), ((0, 1, 0), gi_1251, hq_885, [], [1])])
theorem hd_1858 : con_1858.1 = (yX11_isAsSeen, cX11_isAsSeen, 4, (some .boolean)) := rfl
noncomputable def ct_1858 : CTB2 := [(21, 473, 0, con_1776, [1, 3]), (21, 473, 0, con_1773, [1, 3]), (21, 473, 0, con_1762, [1, 3]), (21, 473, 0, con_1759, [1, 3]), (21, 473, 0, con_1756, [1, 3]), (36, 473, 0, con_1777, [1, 3]), (36, 473, 0, con_1774, [1, 3]), (36, 473, 0, con_1763, [1, 3]), (36, 473, 0, con_1760, [1, 3]), (36, 473, 0, con_1757, [1, 3]), (60, 473, 0, con_1778, [1, 3]), (60, 473, 0, con_1775, [1, 3]), (60, 473, 0, con_1764, [1, 3]), (60, 473, 0, con_1761, [1, 3]), (60, 473, 0, con_1758, [1, 3])]
noncomputable def gi_1252 : GI := jl_n [gp_641, jl_z 12]
noncomputable def gi_1253 : GI := jl_n [gp_641, gp_618]
noncomputable def cu_1858 : List CUT2 := [((2, [lq 0 6 0, lq 1 0 3, lq 2 0 0], [], gi_1252, hq_885), [], ([], 15)), ((2, [lq 0 6 0, lq 1 0 3, lq 2 0 3, lq 3 1 97], [], gi_1253, hq_885), [], ([], 12)), ((2, [lq 0 6 0, lq 1 0 3, lq 2 0 6, lq 3 1 97], [], gi_1253, hq_885), [], ([], 9)), ((2, [lq 0 6 0, lq 1 0 3, lq 2 0 9, lq 3 1 97], [], gi_1253, hq_885), [], ([], 6)), ((2, [lq 0 6 0, lq 1 0 3, lq 2 0 12, lq 3 1 97], [], gi_1253, hq_885), [], ([], 3)), ((2, [lq 0 6 0, lq 1 0 3, lq 2 0 15, lq 3 1 97], [], gi_1253, hq_885), [], ([], 0))]
theorem ch_1858 : staG tb_X11_isAsSeen 1 bt_RX11 [] ct_1858 [] [] cu_1858 44 con_1858 = true := by decide +kernel
theorem cc_1858 : cu_1858.all (cutG tb_X11_isAsSeen 1 bt_RX11 [] ct_1858 [] [] cu_1858 44 con_1858) = true := by decide +kernel
theorem cto_1858 (l : Launch) : CTOK2 l RX11 vwCl gTbl ct_1858 := ct2_cons (vl_1776 l) ck_RX11_473_1776 (ct2_cons (vl_1773 l) ck_RX11_473_1773 (ct2_cons (vl_1762 l) ck_RX11_473_1762 (ct2_cons (vl_1759 l) ck_RX11_473_1759 (ct2_cons (vl_1756 l) ck_RX11_473_1756 (ct2_cons (vl_1777 l) ck_RX11_473_1777 (ct2_cons (vl_1774 l) ck_RX11_473_1774 (ct2_cons (vl_1763 l) ck_RX11_473_1763 (ct2_cons (vl_1760 l) ck_RX11_473_1760 (ct2_cons (vl_1757 l) ck_RX11_473_1757 (ct2_cons (vl_1778 l) ck_RX11_473_1778 (ct2_cons (vl_1775 l) ck_RX11_473_1775 (ct2_cons (vl_1764 l) ck_RX11_473_1764 (ct2_cons (vl_1761 l) ck_RX11_473_1761 (ct2_cons (vl_1758 l) ck_RX11_473_1758 (ct2_nil)))))))))))))))
theorem vl_1858 (l : Launch) : Vld2 l vwCl gTbl con_1858 := conR_ok3 gT_all (hd_1858) rfl pn_RX11 tk_X11_isAsSeen bo_RX11 xo_RX11 (cto_1858 l) ch_1858 (cut_all cc_1858)
/-- RookHusting guessAll -/
noncomputable def gi_1254 : GI := jl_n [gp_621, gp_433]
noncomputable def gi_1255 : GI := jl_n [gp_621, gp_433, gp_622]
noncomputable def con_1859 : Con2 := ((yX11_guessAll, cX11_guessAll, 4, none), (6, 151), ([(6, 0, 0), (0, 3, 0), (1, 2, 0)], gi_1254, hc_198, rq_6), [((9, 0, 0), gi_1255, hq_887, [], tg_1)])
theorem hd_1859 : con_1859.1 = (yX11_guessAll, cX11_guessAll, 4, none) := rfl
theorem ck_RX11_483_1858 : COK2 RX11 vwCl gTbl 483 0 con_1858 := ⟨wd_1230, wd_125, mh_X11_isAsSeen, .inr (.inr ⟨rfl, wd_1227, wd_1229, wd_43, ⟨_, rfl, pd_X11_isAsSeen⟩, 11, _, TX11, 16, rfl, rfl⟩)⟩
noncomputable def ct_1859 : CTB2 := [(1, 208, 0, con_929, [0, 1, 2, 3, 4, 5, 6, 7, 8, 9, 10, 11, 12, 13, 14, 15, 16, 17, 18, 19, 20, 21, 22, 23, 24, 25, 26]), (36, 332, 0, con_1456, [28, 2, 29, 4, 30, 5, 31, 6]), (45, 480, 0, con_869, [28, 29]), (73, 372, 0, con_928, [32, 3, 28, 16, 33, 18, 34, 30, 35, 29, 36, 22, 23, 37, 38, 39, 31]), (78, 483, 0, con_1858, [0, 40, 41, 42, 32, 33]), (105, 486, 0, con_1766, [27, 33, 43]), (105, 486, 0, con_1771, [27, 33, 43])]
noncomputable def gi_1256 : GI := jl_n [gp_621, gp_433, gp_623]
noncomputable def cu_1859 : List CUT2 := [((14, [lq 0 6 0, lq 1 0 3, lq 2 1 2, lq 3 1 204], [], gi_1256, hq_888), rq_6, ([(204, (-1))], 5))]
theorem ch_1859 : staG tb_X11_guessAll 1 bt_RX11 [] ct_1859 [] [] cu_1859 48 con_1859 = true := by decide +kernel
theorem cc_1859 : cu_1859.all (cutG tb_X11_guessAll 1 bt_RX11 [] ct_1859 [] [] cu_1859 48 con_1859) = true := by decide +kernel
theorem cto_1859 (l : Launch) : CTOK2 l RX11 vwCl gTbl ct_1859 := ct2_cons (vl_929 l) ck_RX11_208_929 (ct2_cons (vl_1456 l) ck_RX11_332_1456 (ct2_cons (vl_869 l) ck_RX11_480_869 (ct2_cons (vl_928 l) ck_RX11_372_928 (ct2_cons (vl_1858 l) ck_RX11_483_1858 (ct2_cons (vl_1766 l) ck_RX11_486_1766 (ct2_cons (vl_1771 l) ck_RX11_486_1771 (ct2_nil)))))))
theorem vl_1859 (l : Launch) : Vld2 l vwCl gTbl con_1859 := conR_ok3 gT_all (hd_1859) rfl pn_RX11 tk_X11_guessAll bo_RX11 xo_RX11 (cto_1859 l) ch_1859 (cut_all cc_1859)
/-- RookHusting isAsSeen -/
noncomputable def gi_1257 : GI := jl_n [gp_642, jl_z 9]
noncomputable def gi_1258 : GI := jl_n [gp_642, jl_z 10]
noncomputable def con_1860 : Con2 := ((yX11_isAsSeen, cX11_isAsSeen, 4, (some .boolean)), (1, 22), ([(6, 0, 0), (0, 3, 0)], gi_1257, hc_196, []), [((0, 0, 0), gi_1258, hq_885, [], [1]), ((0, 1, 0), gi_1258, hq_885, [], [1])])
theorem hd_1860 : con_1860.1 = (yX11_isAsSeen, cX11_isAsSeen, 4, (some .boolean)) := rfl
noncomputable def ct_1860 : CTB2 := [(21, 473, 0, con_1773, [1, 3]), (21, 473, 0, con_1762, [1, 3]), (21, 473, 0, con_1759, [1, 3]), (21, 473, 0, con_1756, [1, 3]), (36, 473, 0, con_1774, [1, 3]), (36, 473, 0, con_1763, [1, 3]), (36, 473, 0, con_1760, [1, 3]), (36, 473, 0, con_1757, [1, 3]), (60, 473, 0, con_1775, [1, 3]), (60, 473, 0, con_1764, [1, 3]), (60, 473, 0, con_1761, [1, 3]), (60, 473, 0, con_1758, [1, 3])]
noncomputable def gi_1259 : GI := jl_n [gp_642, jl_z 12]
noncomputable def gi_1260 : GI := jl_n [gp_642, gp_618]
noncomputable def cu_1860 : List CUT2 := [((2, [lq 0 6 0, lq 1 0 3, lq 2 0 0], [], gi_1259, hq_885), [], ([], 12)), ((2, [lq 0 6 0, lq 1 0 3, lq 2 0 3, lq 3 1 97], [], gi_1260, hq_885), [], ([], 9)), ((2, [lq 0 6 0, lq 1 0 3, lq 2 0 6, lq 3 1 97], [], gi_1260, hq_885), [], ([], 6)), ((2, [lq 0 6 0, lq 1 0 3, lq 2 0 9, lq 3 1 97], [], gi_1260, hq_885), [], ([], 3)), ((2, [lq 0 6 0, lq 1 0 3, lq 2 0 12, lq 3 1 97], [], gi_1260, hq_885), [], ([], 0))]
theorem ch_1860 : staG tb_X11_isAsSeen 1 bt_RX11 [] ct_1860 [] [] cu_1860 44 con_1860 = true := by decide +kernel
theorem cc_1860 : cu_1860.all (cutG tb_X11_isAsSeen 1 bt_RX11 [] ct_1860 [] [] cu_1860 44 con_1860) = true := by decide +kernel
theorem cto_1860 (l : Launch) : CTOK2 l RX11 vwCl gTbl ct_1860 := ct2_cons (vl_1773 l) ck_RX11_473_1773 (ct2_cons (vl_1762 l) ck_RX11_473_1762 (ct2_cons (vl_1759 l) ck_RX11_473_1759 (ct2_cons (vl_1756 l) ck_RX11_473_1756 (ct2_cons (vl_1774 l) ck_RX11_473_1774 (ct2_cons (vl_1763 l) ck_RX11_473_1763 (ct2_cons (vl_1760 l) ck_RX11_473_1760 (ct2_cons (vl_1757 l) ck_RX11_473_1757 (ct2_cons (vl_1775 l) ck_RX11_473_1775 (ct2_cons (vl_1764 l) ck_RX11_473_1764 (ct2_cons (vl_1761 l) ck_RX11_473_1761 (ct2_cons (vl_1758 l) ck_RX11_473_1758 (ct2_nil))))))))))))
theorem vl_1860 (l : Launch) : Vld2 l vwCl gTbl con_1860 := conR_ok3 gT_all (hd_1860) rfl pn_RX11 tk_X11_isAsSeen bo_RX11 xo_RX11 (cto_1860 l) ch_1860 (cut_all cc_1860)
/-- RookHusting guessAll -/
noncomputable def gi_1261 : GI := jl_n [gp_621, gp_430]
noncomputable def gi_1262 : GI := jl_n [gp_621, gp_430, gp_622]
noncomputable def con_1861 : Con2 := ((yX11_guessAll, cX11_guessAll, 4, none), (6, 151), ([(6, 0, 0), (0, 3, 0), (1, 2, 0)], gi_1261, hc_198, rq_6), [((9, 0, 0), gi_1262, hq_887, [], tg_1)])
theorem hd_1861 : con_1861.1 = (yX11_guessAll, cX11_guessAll, 4, none) := rfl
theorem ck_RX11_483_1860 : COK2 RX11 vwCl gTbl 483 0 con_1860 := ⟨wd_1230, wd_125, mh_X11_isAsSeen, .inr (.inr ⟨rfl, wd_1227, wd_1229, wd_43, ⟨_, rfl, pd_X11_isAsSeen⟩, 11, _, TX11, 16, rfl, rfl⟩)⟩
noncomputable def ct_1861 : CTB2 := [(1, 208, 0, con_929, [0, 1, 2, 3, 4, 5, 6, 7, 8, 9, 10, 11, 12, 13, 14, 15, 16, 17, 18, 19, 20, 21, 22, 23, 24, 25, 26]), (36, 332, 0, con_1456, [28, 2, 29, 4, 30, 5, 31, 6]), (45, 480, 0, con_869, [28, 29]), (73, 372, 0, con_928, [32, 3, 28, 16, 33, 18, 34, 30, 35, 29, 36, 22, 23, 37, 38, 39, 31]), (78, 483, 0, con_1860, [0, 40, 41, 42, 32, 33]), (105, 486, 0, con_1766, [27, 33, 43]), (105, 486, 0, con_1771, [27, 33, 43])]
noncomputable def gi_1263 : GI := jl_n [gp_621, gp_430, gp_623]
noncomputable def cu_1861 : List CUT2 := [((14, [lq 0 6 0, lq 1 0 3, lq 2 1 2, lq 3 1 204], [], gi_1263, hq_888), rq_6, ([(204, (-1))], 5))]
theorem ch_1861 : staG tb_X11_guessAll 1 bt_RX11 [] ct_1861 [] [] cu_1861 48 con_1861 = true := by decide +kernel
theorem cc_1861 : cu_1861.all (cutG tb_X11_guessAll 1 bt_RX11 [] ct_1861 [] [] cu_1861 48 con_1861) = true := by decide +kernel
theorem cto_1861 (l : Launch) : CTOK2 l RX11 vwCl gTbl ct_1861 := ct2_cons (vl_929 l) ck_RX11_208_929 (ct2_cons (vl_1456 l) ck_RX11_332_1456 (ct2_cons (vl_869 l) ck_RX11_480_869 (ct2_cons (vl_928 l) ck_RX11_372_928 (ct2_cons (vl_1860 l) ck_RX11_483_1860 (ct2_cons (vl_1766 l) ck_RX11_486_1766 (ct2_cons (vl_1771 l) ck_RX11_486_1771 (ct2_nil)))))))
theorem vl_1861 (l : Launch) : Vld2 l vwCl gTbl con_1861 := conR_ok3 gT_all (hd_1861) rfl pn_RX11 tk_X11_guessAll bo_RX11 xo_RX11 (cto_1861 l) ch_1861 (cut_all cc_1861)
/-- RookHusting isAsSeen -/
noncomputable def gi_1264 : GI := jl_n [gp_616, gp_425, jl_z 9]
noncomputable def ac_1071 : AC := .inr (1, jl_n [js_1 24 3, jl_x (1, (0, 0, 0))])
noncomputable def hc_199 : List AC := [ac_1053, .inl (8, [(6, 3, 0), (8, 19, 0), (6, 2, 0)]), ac_1071, ac_1055, ac_1056, am_0]
noncomputable def gi_1265 : GI := jl_n [gp_616, gp_425, jl_z 10]
noncomputable def hq_889 : HP := [(false, ac_1053), (false, .inl (8, [(6, 3, 0), (8, 19, 0), (6, 2, 0)])), (false, ac_1071), (false, ac_1055), (false, ac_1056), (false, am_0)]
noncomputable def con_1862 : Con2 := ((yX11_isAsSeen, cX11_isAsSeen, 4, (some .boolean)), (0, 0), ([(6, 0, 0), (0, 3, 0)], gi_1264, hc_199, []), [((0, 1, 0), gi_1265, hq_889, [], [1])])
theorem hd_1862 : con_1862.1 = (yX11_isAsSeen, cX11_isAsSeen, 4, (some .boolean)) := rfl
noncomputable def gi_1266 : GI := jl_n [gp_616, gp_425, jl_z 12]
noncomputable def cu_1862 : List CUT2 := [((2, [lq 0 6 0, lq 1 0 3, lq 2 0 0], [], gi_1266, hq_889), [], ([], 0))]
theorem ch_1862 : staG tb_X11_isAsSeen 1 bt_RX11 [] ct_3 [] [] cu_1862 11 con_1862 = true := by decide +kernel
theorem cc_1862 : cu_1862.all (cutG tb_X11_isAsSeen 1 bt_RX11 [] ct_3 [] [] cu_1862 11 con_1862) = true := by decide +kernel
theorem vl_1862 (l : Launch) : Vld2 l vwCl gTbl con_1862 := conR_ok3 gT_all (hd_1862) rfl pn_RX11 tk_X11_isAsSeen bo_RX11 xo_RX11 (cto_3 l) ch_1862 (cut_all cc_1862)
/-- RookHusting guessAll -/
noncomputable def gi_1267 : GI := jl_n [gp_621, gp_425]
noncomputable def ac_1072 : AC := .inr (1, jl_n [js_1 140 3, jl_x (1, (0, 0, 0))])
noncomputable def hc_200 : List AC := [ac_1057, .inl (9, [(6, 3, 0), (6, 11, 0)]), .inl (7, [(6, 4, 0), (6, 5, 0), (6, 6, 0), (1, 24, 0)]), ac_1058, am_7, am_1, am_1, am_1, .inl (1, [(6, 3, 0), (8, 43, 0)]), am_4, am_6, .inl (0, [(1, 44, 0), (6, 12, 0), (6, 13, 0), (6, 14, 0)]), ac_642, am_11, ac_643, ac_1059, am_2, am_0, am_10, am_0, am_1, am_0, am_2, am_9, am_0, am_0, am_12, ac_1060, .inl (7, [(6, 29, 0), (6, 30, 0), (6, 31, 0), (1, 124, 0)]), am_7, am_1, am_1, ac_1061, am_0, am_0, am_1, am_0, am_0, am_0, am_12, .inl (8, [(6, 42, 0), (8, 135, 0), (6, 41, 0)]), ac_1072, ac_1063, am_16]
noncomputable def gi_1268 : GI := jl_n [gp_621, gp_425, gp_622]
noncomputable def hq_890 : HP := [(true, ac_1064), (false, .inl (9, [(6, 3, 0), (6, 11, 0)])), (true, .inl (7, [(6, 4, 0), (6, 5, 0), (6, 6, 0), (1, 220, 0)])), (false, ac_1058), (true, am_7), (true, am_1), (true, am_1), (false, am_1), (false, .inl (1, [(6, 3, 0), (8, 43, 0)])), (false, am_4), (false, am_6), (false, .inl (0, [(1, 44, 0), (6, 12, 0), (6, 13, 0), (6, 14, 0)])), (false, ac_642), (false, am_11), (false, ac_643), (true, ac_1065), (false, am_2), (true, am_0), (false, am_10), (true, am_0), (true, am_1), (true, am_0), (false, am_2), (false, am_9), (true, am_0), (true, am_0), (true, am_12), (true, ac_1066), (true, .inl (7, [(6, 29, 0), (6, 30, 0), (6, 31, 0), (1, 237, 0)])), (true, am_7), (true, am_1), (true, am_1), (true, ac_1067), (true, am_0), (true, am_0), (true, am_1), (true, am_0), (true, am_0), (true, am_0), (true, am_12), (false, .inl (8, [(6, 42, 0), (8, 135, 0), (6, 41, 0)])), (false, ac_1072), (false, ac_1063), (true, am_16)]
noncomputable def con_1863 : Con2 := ((yX11_guessAll, cX11_guessAll, 4, none), (6, 151), ([(6, 0, 0), (0, 3, 0), (1, 2, 0)], gi_1267, hc_200, rq_6), [((9, 0, 0), gi_1268, hq_890, [], tg_1)])
theorem hd_1863 : con_1863.1 = (yX11_guessAll, cX11_guessAll, 4, none) := rfl
theorem ck_RX11_483_1862 : COK2 RX11 vwCl gTbl 483 0 con_1862 := ⟨wd_1230, wd_125, mh_X11_isAsSeen, .inr (.inr ⟨rfl, wd_1227, wd_1229, wd_43, ⟨_, rfl, pd_X11_isAsSeen⟩, 11, _, TX11, 16, rfl, rfl⟩)⟩
noncomputable def ct_1863 : CTB2 := [(1, 208, 0, con_929, [0, 1, 2, 3, 4, 5, 6, 7, 8, 9, 10, 11, 12, 13, 14, 15, 16, 17, 18, 19, 20, 21, 22, 23, 24, 25, 26]), (36, 332, 0, con_1456, [28, 2, 29, 4, 30, 5, 31, 6]), (45, 480, 0, con_869, [28, 29]), (73, 372, 0, con_928, [32, 3, 28, 16, 33, 18, 34, 30, 35, 29, 36, 22, 23, 37, 38, 39, 31]), (78, 483, 0, con_1862, [0, 40, 41, 42, 32, 33]), (105, 486, 0, con_1766, [27, 33, 43]), (105, 486, 0, con_1771, [27, 33, 43])]
noncomputable def gi_1269 : GI := jl_n [gp_621, gp_425, gp_623]
noncomputable def hq_891 : HP := [(true, ac_1064), (false, .inl (9, [(6, 3, 0), (6, 11, 0)])), (true, .inl (7, [(6, 4, 0), (6, 5, 0), (6, 6, 0), (1, 224, 0)])), (false, ac_1058), (true, am_7), (true, am_1), (true, am_1), (false, am_1), (false, .inl (1, [(6, 3, 0), (8, 43, 0)])), (false, am_4), (false, am_6), (false, .inl (0, [(1, 44, 0), (6, 12, 0), (6, 13, 0), (6, 14, 0)])), (false, ac_642), (false, am_11), (false, ac_643), (true, ac_1068), (false, am_2), (true, am_0), (false, am_10), (true, am_0), (true, am_1), (true, am_0), (false, am_2), (false, am_9), (true, am_0), (true, am_0), (true, am_12), (true, ac_1069), (true, .inl (7, [(6, 29, 0), (6, 30, 0), (6, 31, 0), (1, 241, 0)])), (true, am_7), (true, am_1), (true, am_1), (true, ac_1070), (true, am_0), (true, am_0), (true, am_1), (true, am_0), (true, am_0), (true, am_0), (true, am_12), (false, .inl (8, [(6, 42, 0), (8, 135, 0), (6, 41, 0)])), (false, ac_1072), (false, ac_1063), (true, am_16)]
noncomputable def cu_1863 : List CUT2 := [((14, [lq 0 6 0, lq 1 0 3, lq 2 1 2, lq 3 1 204], [], gi_1269, hq_891), rq_6, ([(204, (-1))], 5))]
theorem ch_1863 : staG tb_X11_guessAll 1 bt_RX11 [] ct_1863 [] [] cu_1863 48 con_1863 = true := by decide +kernel
theorem cc_1863 : cu_1863.all (cutG tb_X11_guessAll 1 bt_RX11 [] ct_1863 [] [] cu_1863 48 con_1863) = true := by decide +kernel
theorem cto_1863 (l : Launch) : CTOK2 l RX11 vwCl gTbl ct_1863 := ct2_cons (vl_929 l) ck_RX11_208_929 (ct2_cons (vl_1456 l) ck_RX11_332_1456 (ct2_cons (vl_869 l) ck_RX11_480_869 (ct2_cons (vl_928 l) ck_RX11_372_928 (ct2_cons (vl_1862 l) ck_RX11_483_1862 (ct2_cons (vl_1766 l) ck_RX11_486_1766 (ct2_cons (vl_1771 l) ck_RX11_486_1771 (ct2_nil)))))))
theorem vl_1863 (l : Launch) : Vld2 l vwCl gTbl con_1863 := conR_ok3 gT_all (hd_1863) rfl pn_RX11 tk_X11_guessAll bo_RX11 xo_RX11 (cto_1863 l) ch_1863 (cut_all cc_1863)
/-- RookHusting$Slots at -/
noncomputable def con_1864 : Con2 := ((yX8_at, cX8_at, 3, (some .long)), (0, 0), ([(6, 0, 0), (0, 2, 0), (0, 0, 0)], [(0, 0), (0, 0), (0, 0), (0, 0), (0, 0), (0, 0), (0, 4)], [.inl (8, [(6, 1, 0), (8, 4, 0), (8, 5, 0)]), ac_870], []), [((4, 6, 0), gi_1116, hq_702, [], [1])])
theorem hd_1864 : con_1864.1 = (yX8_at, cX8_at, 3, (some .long)) := rfl
noncomputable def cu_1864 : List CUT2 := []
theorem ch_1864 : staG tb_X8_at 1 bt_RX8 [] ct_1497 [] [] cu_1864 11 con_1864 = true := by decide +kernel
theorem vl_1864 (l : Launch) : Vld2 l vwCl gTbl con_1864 := conR_ok3 gT_all (hd_1864) rfl pn_RX8 tk_X8_at bo_RX8 xo_RX8 (cto_1497 l) ch_1864 cut_nil
/-- RookHusting$Slots at -/
noncomputable def con_1865 : Con2 := ((yX8_at, cX8_at, 3, (some .long)), (0, 0), ([(6, 0, 0), (0, 2, 0), (0, 1, 0)], [(0, 0), (0, 0), (0, 0), (0, 0), (0, 0), (0, 0), (0, 16)], [.inl (8, [(6, 1, 0), (8, 4, 0), (8, 5, 0)]), ac_871], []), [((4, 6, 0), gi_1117, hq_703, [], [1])])
theorem hd_1865 : con_1865.1 = (yX8_at, cX8_at, 3, (some .long)) := rfl
noncomputable def cu_1865 : List CUT2 := []
theorem ch_1865 : staG tb_X8_at 1 bt_RX8 [] ct_1497 [] [] cu_1865 11 con_1865 = true := by decide +kernel
theorem vl_1865 (l : Launch) : Vld2 l vwCl gTbl con_1865 := conR_ok3 gT_all (hd_1865) rfl pn_RX8 tk_X8_at bo_RX8 xo_RX8 (cto_1497 l) ch_1865 cut_nil
/-- RookHusting$Slots at -/
noncomputable def con_1866 : Con2 := ((yX8_at, cX8_at, 3, (some .long)), (0, 0), ([(6, 0, 0), (0, 2, 0), (0, 2, 0)], [(0, 0), (0, 0), (0, 0), (0, 0), (0, 0), (0, 0), (0, 250)], [.inl (8, [(6, 1, 0), (8, 4, 0), (8, 5, 0)]), ac_872], []), [((4, 6, 0), gi_1118, hq_704, [], [1])])
theorem hd_1866 : con_1866.1 = (yX8_at, cX8_at, 3, (some .long)) := rfl
noncomputable def cu_1866 : List CUT2 := []
theorem ch_1866 : staG tb_X8_at 1 bt_RX8 [] ct_1497 [] [] cu_1866 11 con_1866 = true := by decide +kernel
theorem vl_1866 (l : Launch) : Vld2 l vwCl gTbl con_1866 := conR_ok3 gT_all (hd_1866) rfl pn_RX8 tk_X8_at bo_RX8 xo_RX8 (cto_1497 l) ch_1866 cut_nil
/-- RookHusting$Slots at -/
noncomputable def con_1867 : Con2 := ((yX8_at, cX8_at, 3, (some .long)), (0, 0), ([(6, 0, 0), (0, 2, 0), (0, 3, 0)], [(0, 0), (0, 0), (0, 0), (0, 0), (0, 0), (0, 0), (0, 4)], [.inl (8, [(6, 1, 0), (8, 4, 0), (8, 5, 0)]), ac_873], []), [((4, 6, 0), gi_1116, hq_705, [], [1])])
theorem hd_1867 : con_1867.1 = (yX8_at, cX8_at, 3, (some .long)) := rfl
noncomputable def cu_1867 : List CUT2 := []
theorem ch_1867 : staG tb_X8_at 1 bt_RX8 [] ct_1497 [] [] cu_1867 11 con_1867 = true := by decide +kernel
theorem vl_1867 (l : Launch) : Vld2 l vwCl gTbl con_1867 := conR_ok3 gT_all (hd_1867) rfl pn_RX8 tk_X8_at bo_RX8 xo_RX8 (cto_1497 l) ch_1867 cut_nil
/-- RookHusting$Slots at -/
noncomputable def con_1868 : Con2 := ((yX8_at, cX8_at, 3, (some .long)), (0, 0), ([(6, 0, 0), (0, 2, 0), (0, 4, 0)], [(0, 0), (0, 0), (0, 0), (0, 0), (0, 0), (0, 0), (0, 16)], [.inl (8, [(6, 1, 0), (8, 4, 0), (8, 5, 0)]), ac_874], []), [((4, 6, 0), gi_1117, hq_706, [], [1])])
theorem hd_1868 : con_1868.1 = (yX8_at, cX8_at, 3, (some .long)) := rfl
noncomputable def cu_1868 : List CUT2 := []
theorem ch_1868 : staG tb_X8_at 1 bt_RX8 [] ct_1497 [] [] cu_1868 11 con_1868 = true := by decide +kernel
theorem vl_1868 (l : Launch) : Vld2 l vwCl gTbl con_1868 := conR_ok3 gT_all (hd_1868) rfl pn_RX8 tk_X8_at bo_RX8 xo_RX8 (cto_1497 l) ch_1868 cut_nil
/-- RookHusting$Slots at -/
noncomputable def con_1869 : Con2 := ((yX8_at, cX8_at, 3, (some .long)), (0, 0), ([(6, 0, 0), (0, 2, 0), (0, 5, 0)], [(0, 0), (0, 0), (0, 0), (0, 0), (0, 0), (0, 0), (0, 250)], [.inl (8, [(6, 1, 0), (8, 4, 0), (8, 5, 0)]), ac_875], []), [((4, 6, 0), gi_1118, hq_707, [], [1])])
theorem hd_1869 : con_1869.1 = (yX8_at, cX8_at, 3, (some .long)) := rfl
noncomputable def cu_1869 : List CUT2 := []
theorem ch_1869 : staG tb_X8_at 1 bt_RX8 [] ct_1497 [] [] cu_1869 11 con_1869 = true := by decide +kernel
theorem vl_1869 (l : Launch) : Vld2 l vwCl gTbl con_1869 := conR_ok3 gT_all (hd_1869) rfl pn_RX8 tk_X8_at bo_RX8 xo_RX8 (cto_1497 l) ch_1869 cut_nil
/-- RookHusting$Slots at -/
noncomputable def con_1870 : Con2 := ((yX8_at, cX8_at, 3, (some .long)), (0, 0), ([(6, 0, 0), (0, 2, 0), (0, 6, 0)], [(0, 0), (0, 0), (0, 0), (0, 0), (0, 0), (0, 0), (0, 4)], [.inl (8, [(6, 1, 0), (8, 4, 0), (8, 5, 0)]), ac_876], []), [((4, 6, 0), gi_1116, hq_708, [], [1])])
theorem hd_1870 : con_1870.1 = (yX8_at, cX8_at, 3, (some .long)) := rfl
noncomputable def cu_1870 : List CUT2 := []
theorem ch_1870 : staG tb_X8_at 1 bt_RX8 [] ct_1497 [] [] cu_1870 11 con_1870 = true := by decide +kernel
theorem vl_1870 (l : Launch) : Vld2 l vwCl gTbl con_1870 := conR_ok3 gT_all (hd_1870) rfl pn_RX8 tk_X8_at bo_RX8 xo_RX8 (cto_1497 l) ch_1870 cut_nil
/-- RookHusting$Slots at -/
noncomputable def con_1871 : Con2 := ((yX8_at, cX8_at, 3, (some .long)), (0, 0), ([(6, 0, 0), (0, 2, 0), (0, 7, 0)], [(0, 0), (0, 0), (0, 0), (0, 0), (0, 0), (0, 0), (0, 16)], [.inl (8, [(6, 1, 0), (8, 4, 0), (8, 5, 0)]), ac_877], []), [((4, 6, 0), gi_1117, hq_709, [], [1])])
theorem hd_1871 : con_1871.1 = (yX8_at, cX8_at, 3, (some .long)) := rfl
noncomputable def cu_1871 : List CUT2 := []
theorem ch_1871 : staG tb_X8_at 1 bt_RX8 [] ct_1497 [] [] cu_1871 11 con_1871 = true := by decide +kernel
theorem vl_1871 (l : Launch) : Vld2 l vwCl gTbl con_1871 := conR_ok3 gT_all (hd_1871) rfl pn_RX8 tk_X8_at bo_RX8 xo_RX8 (cto_1497 l) ch_1871 cut_nil
/-- RookHusting$Slots at -/
noncomputable def con_1872 : Con2 := ((yX8_at, cX8_at, 3, (some .long)), (0, 0), ([(6, 0, 0), (0, 2, 0), (0, 8, 0)], [(0, 0), (0, 0), (0, 0), (0, 0), (0, 0), (0, 0), (0, 250)], [.inl (8, [(6, 1, 0), (8, 4, 0), (8, 5, 0)]), ac_878], []), [((4, 6, 0), gi_1118, hq_710, [], [1])])
theorem hd_1872 : con_1872.1 = (yX8_at, cX8_at, 3, (some .long)) := rfl
noncomputable def cu_1872 : List CUT2 := []
theorem ch_1872 : staG tb_X8_at 1 bt_RX8 [] ct_1497 [] [] cu_1872 11 con_1872 = true := by decide +kernel
theorem vl_1872 (l : Launch) : Vld2 l vwCl gTbl con_1872 := conR_ok3 gT_all (hd_1872) rfl pn_RX8 tk_X8_at bo_RX8 xo_RX8 (cto_1497 l) ch_1872 cut_nil
/-- RookHusting isAsSeen -/
noncomputable def gi_1270 : GI := jl_n [gp_644, jl_z 9]
noncomputable def ac_1073 : AC := .inr (2, jl_n [js_5 120 9223372036854775807 9223372036854775807, js_4 85 60, js_5 60 9223372036854775807 9223372036854775807])
noncomputable def hc_201 : List AC := [ac_1053, .inl (8, [(6, 3, 0), (8, 19, 0), (6, 2, 0)]), ac_1054, ac_1073, ac_1056, am_0]
noncomputable def gi_1271 : GI := jl_n [gp_644, jl_z 10]
noncomputable def hq_892 : HP := [(false, ac_1053), (false, .inl (8, [(6, 3, 0), (8, 19, 0), (6, 2, 0)])), (false, ac_1054), (false, ac_1073), (false, ac_1056), (false, am_0)]
noncomputable def con_1873 : Con2 := ((yX11_isAsSeen, cX11_isAsSeen, 4, (some .boolean)), (1, 22), ([(6, 0, 0), (0, 2, 0)], gi_1270, hc_201, []), [((0, 0, 0), gi_1271, hq_892, [], [1]), ((0, 1, 0), gi_1271, hq_892, [], [1])])
theorem hd_1873 : con_1873.1 = (yX11_isAsSeen, cX11_isAsSeen, 4, (some .boolean)) := rfl
theorem ck_RX11_473_1866 : COK2 RX11 vwCl gTbl 473 0 con_1866 := ⟨wd_1218, wd_131, mh_X8_at, .inr (.inr ⟨rfl, wd_1215, wd_1216, wd_1217, ⟨_, rfl, pd_X8_at⟩, 8, _, TX8, 3, rfl, rfl⟩)⟩
theorem ck_RX11_473_1869 : COK2 RX11 vwCl gTbl 473 0 con_1869 := ⟨wd_1218, wd_131, mh_X8_at, .inr (.inr ⟨rfl, wd_1215, wd_1216, wd_1217, ⟨_, rfl, pd_X8_at⟩, 8, _, TX8, 3, rfl, rfl⟩)⟩
theorem ck_RX11_473_1872 : COK2 RX11 vwCl gTbl 473 0 con_1872 := ⟨wd_1218, wd_131, mh_X8_at, .inr (.inr ⟨rfl, wd_1215, wd_1216, wd_1217, ⟨_, rfl, pd_X8_at⟩, 8, _, TX8, 3, rfl, rfl⟩)⟩
theorem ck_RX11_473_1865 : COK2 RX11 vwCl gTbl 473 0 con_1865 := ⟨wd_1218, wd_131, mh_X8_at, .inr (.inr ⟨rfl, wd_1215, wd_1216, wd_1217, ⟨_, rfl, pd_X8_at⟩, 8, _, TX8, 3, rfl, rfl⟩)⟩
theorem ck_RX11_473_1868 : COK2 RX11 vwCl gTbl 473 0 con_1868 := ⟨wd_1218, wd_131, mh_X8_at, .inr (.inr ⟨rfl, wd_1215, wd_1216, wd_1217, ⟨_, rfl, pd_X8_at⟩, 8, _, TX8, 3, rfl, rfl⟩)⟩
theorem ck_RX11_473_1871 : COK2 RX11 vwCl gTbl 473 0 con_1871 := ⟨wd_1218, wd_131, mh_X8_at, .inr (.inr ⟨rfl, wd_1215, wd_1216, wd_1217, ⟨_, rfl, pd_X8_at⟩, 8, _, TX8, 3, rfl, rfl⟩)⟩
theorem ck_RX11_473_1864 : COK2 RX11 vwCl gTbl 473 0 con_1864 := ⟨wd_1218, wd_131, mh_X8_at, .inr (.inr ⟨rfl, wd_1215, wd_1216, wd_1217, ⟨_, rfl, pd_X8_at⟩, 8, _, TX8, 3, rfl, rfl⟩)⟩
theorem ck_RX11_473_1867 : COK2 RX11 vwCl gTbl 473 0 con_1867 := ⟨wd_1218, wd_131, mh_X8_at, .inr (.inr ⟨rfl, wd_1215, wd_1216, wd_1217, ⟨_, rfl, pd_X8_at⟩, 8, _, TX8, 3, rfl, rfl⟩)⟩
theorem ck_RX11_473_1870 : COK2 RX11 vwCl gTbl 473 0 con_1870 := ⟨wd_1218, wd_131, mh_X8_at, .inr (.inr ⟨rfl, wd_1215, wd_1216, wd_1217, ⟨_, rfl, pd_X8_at⟩, 8, _, TX8, 3, rfl, rfl⟩)⟩
noncomputable def ct_1873 : CTB2 := [(21, 473, 0, con_1870, [1, 3]), (21, 473, 0, con_1867, [1, 3]), (21, 473, 0, con_1864, [1, 3]), (36, 473, 0, con_1871, [1, 3]), (36, 473, 0, con_1868, [1, 3]), (36, 473, 0, con_1865, [1, 3]), (60, 473, 0, con_1872, [1, 3]), (60, 473, 0, con_1869, [1, 3]), (60, 473, 0, con_1866, [1, 3])]
noncomputable def gi_1272 : GI := jl_n [gp_644, jl_z 12]
noncomputable def gi_1273 : GI := jl_n [gp_644, gp_618]
noncomputable def cu_1873 : List CUT2 := [((2, [lq 0 6 0, lq 1 0 2, lq 2 0 0], [], gi_1272, hq_892), [], ([], 9)), ((2, [lq 0 6 0, lq 1 0 2, lq 2 0 3, lq 3 1 97], [], gi_1273, hq_892), [], ([], 6)), ((2, [lq 0 6 0, lq 1 0 2, lq 2 0 6, lq 3 1 97], [], gi_1273, hq_892), [], ([], 3)), ((2, [lq 0 6 0, lq 1 0 2, lq 2 0 9, lq 3 1 97], [], gi_1273, hq_892), [], ([], 0))]
theorem ch_1873 : staG tb_X11_isAsSeen 1 bt_RX11 [] ct_1873 [] [] cu_1873 44 con_1873 = true := by decide +kernel
theorem cc_1873 : cu_1873.all (cutG tb_X11_isAsSeen 1 bt_RX11 [] ct_1873 [] [] cu_1873 44 con_1873) = true := by decide +kernel
theorem cto_1873 (l : Launch) : CTOK2 l RX11 vwCl gTbl ct_1873 := ct2_cons (vl_1870 l) ck_RX11_473_1870 (ct2_cons (vl_1867 l) ck_RX11_473_1867 (ct2_cons (vl_1864 l) ck_RX11_473_1864 (ct2_cons (vl_1871 l) ck_RX11_473_1871 (ct2_cons (vl_1868 l) ck_RX11_473_1868 (ct2_cons (vl_1865 l) ck_RX11_473_1865 (ct2_cons (vl_1872 l) ck_RX11_473_1872 (ct2_cons (vl_1869 l) ck_RX11_473_1869 (ct2_cons (vl_1866 l) ck_RX11_473_1866 (ct2_nil)))))))))
theorem vl_1873 (l : Launch) : Vld2 l vwCl gTbl con_1873 := conR_ok3 gT_all (hd_1873) rfl pn_RX11 tk_X11_isAsSeen bo_RX11 xo_RX11 (cto_1873 l) ch_1873 (cut_all cc_1873)
/-- RookHusting guessAll -/
noncomputable def gi_1274 : GI := jl_n [gp_645, gp_527]
noncomputable def ac_1074 : AC := .inr (2, jl_n [js_5 120 9223372036854775807 9223372036854775807, js_4 201 60, js_5 60 9223372036854775807 9223372036854775807])
noncomputable def hc_202 : List AC := [ac_1057, .inl (9, [(6, 3, 0), (6, 11, 0)]), .inl (7, [(6, 4, 0), (6, 5, 0), (6, 6, 0), (1, 24, 0)]), ac_1058, am_7, am_1, am_1, am_1, .inl (1, [(6, 3, 0), (8, 43, 0)]), am_4, am_6, .inl (0, [(1, 44, 0), (6, 12, 0), (6, 13, 0), (6, 14, 0)]), ac_642, am_11, ac_643, ac_1059, am_2, am_0, am_10, am_0, am_1, am_0, am_2, am_9, am_0, am_0, am_12, ac_1060, .inl (7, [(6, 29, 0), (6, 30, 0), (6, 31, 0), (1, 124, 0)]), am_7, am_1, am_1, ac_1061, am_0, am_0, am_1, am_0, am_0, am_0, am_12, .inl (8, [(6, 42, 0), (8, 135, 0), (6, 41, 0)]), ac_1062, ac_1074, am_16]
noncomputable def gi_1275 : GI := jl_n [gp_645, gp_527, gp_622]
noncomputable def hq_893 : HP := [(true, ac_1064), (false, .inl (9, [(6, 3, 0), (6, 11, 0)])), (true, .inl (7, [(6, 4, 0), (6, 5, 0), (6, 6, 0), (1, 220, 0)])), (false, ac_1058), (true, am_7), (true, am_1), (true, am_1), (false, am_1), (false, .inl (1, [(6, 3, 0), (8, 43, 0)])), (false, am_4), (false, am_6), (false, .inl (0, [(1, 44, 0), (6, 12, 0), (6, 13, 0), (6, 14, 0)])), (false, ac_642), (false, am_11), (false, ac_643), (true, ac_1065), (false, am_2), (true, am_0), (false, am_10), (true, am_0), (true, am_1), (true, am_0), (false, am_2), (false, am_9), (true, am_0), (true, am_0), (true, am_12), (true, ac_1066), (true, .inl (7, [(6, 29, 0), (6, 30, 0), (6, 31, 0), (1, 237, 0)])), (true, am_7), (true, am_1), (true, am_1), (true, ac_1067), (true, am_0), (true, am_0), (true, am_1), (true, am_0), (true, am_0), (true, am_0), (true, am_12), (false, .inl (8, [(6, 42, 0), (8, 135, 0), (6, 41, 0)])), (false, ac_1062), (false, ac_1074), (true, am_16)]
noncomputable def con_1874 : Con2 := ((yX11_guessAll, cX11_guessAll, 4, none), (6, 151), ([(6, 0, 0), (0, 2, 0), (1, 2, 0)], gi_1274, hc_202, rq_6), [((9, 0, 0), gi_1275, hq_893, [], tg_1)])
theorem hd_1874 : con_1874.1 = (yX11_guessAll, cX11_guessAll, 4, none) := rfl
theorem ck_RX11_483_1873 : COK2 RX11 vwCl gTbl 483 0 con_1873 := ⟨wd_1230, wd_125, mh_X11_isAsSeen, .inr (.inr ⟨rfl, wd_1227, wd_1229, wd_43, ⟨_, rfl, pd_X11_isAsSeen⟩, 11, _, TX11, 16, rfl, rfl⟩)⟩
noncomputable def ct_1874 : CTB2 := [(1, 208, 0, con_929, [0, 1, 2, 3, 4, 5, 6, 7, 8, 9, 10, 11, 12, 13, 14, 15, 16, 17, 18, 19, 20, 21, 22, 23, 24, 25, 26]), (36, 332, 0, con_1456, [28, 2, 29, 4, 30, 5, 31, 6]), (45, 480, 0, con_869, [28, 29]), (73, 372, 0, con_928, [32, 3, 28, 16, 33, 18, 34, 30, 35, 29, 36, 22, 23, 37, 38, 39, 31]), (78, 483, 0, con_1873, [0, 40, 41, 42, 32, 33]), (105, 486, 0, con_1766, [27, 33, 43]), (105, 486, 0, con_1771, [27, 33, 43])]
noncomputable def gi_1276 : GI := jl_n [gp_645, gp_527, gp_623]
noncomputable def hq_894 : HP := [(true, ac_1064), (false, .inl (9, [(6, 3, 0), (6, 11, 0)])), (true, .inl (7, [(6, 4, 0), (6, 5, 0), (6, 6, 0), (1, 224, 0)])), (false, ac_1058), (true, am_7), (true, am_1), (true, am_1), (false, am_1), (false, .inl (1, [(6, 3, 0), (8, 43, 0)])), (false, am_4), (false, am_6), (false, .inl (0, [(1, 44, 0), (6, 12, 0), (6, 13, 0), (6, 14, 0)])), (false, ac_642), (false, am_11), (false, ac_643), (true, ac_1068), (false, am_2), (true, am_0), (false, am_10), (true, am_0), (true, am_1), (true, am_0), (false, am_2), (false, am_9), (true, am_0), (true, am_0), (true, am_12), (true, ac_1069), (true, .inl (7, [(6, 29, 0), (6, 30, 0), (6, 31, 0), (1, 241, 0)])), (true, am_7), (true, am_1), (true, am_1), (true, ac_1070), (true, am_0), (true, am_0), (true, am_1), (true, am_0), (true, am_0), (true, am_0), (true, am_12), (false, .inl (8, [(6, 42, 0), (8, 135, 0), (6, 41, 0)])), (false, ac_1062), (false, ac_1074), (true, am_16)]
noncomputable def cu_1874 : List CUT2 := [((14, [lq 0 6 0, lq 1 0 2, lq 2 1 2, lq 3 1 204], [], gi_1276, hq_894), rq_6, ([(204, (-1))], 5))]
theorem ch_1874 : staG tb_X11_guessAll 1 bt_RX11 [] ct_1874 [] [] cu_1874 48 con_1874 = true := by decide +kernel
theorem cc_1874 : cu_1874.all (cutG tb_X11_guessAll 1 bt_RX11 [] ct_1874 [] [] cu_1874 48 con_1874) = true := by decide +kernel
theorem cto_1874 (l : Launch) : CTOK2 l RX11 vwCl gTbl ct_1874 := ct2_cons (vl_929 l) ck_RX11_208_929 (ct2_cons (vl_1456 l) ck_RX11_332_1456 (ct2_cons (vl_869 l) ck_RX11_480_869 (ct2_cons (vl_928 l) ck_RX11_372_928 (ct2_cons (vl_1873 l) ck_RX11_483_1873 (ct2_cons (vl_1766 l) ck_RX11_486_1766 (ct2_cons (vl_1771 l) ck_RX11_486_1771 (ct2_nil)))))))
theorem vl_1874 (l : Launch) : Vld2 l vwCl gTbl con_1874 := conR_ok3 gT_all (hd_1874) rfl pn_RX11 tk_X11_guessAll bo_RX11 xo_RX11 (cto_1874 l) ch_1874 (cut_all cc_1874)
/-- RookHusting$Slots at -/
noncomputable def con_1875 : Con2 := ((yX8_at, cX8_at, 3, (some .long)), (0, 0), ([(6, 0, 0), (0, 2, 0), (0, 9, 0)], [(0, 0), (0, 0), (0, 0), (0, 0), (0, 0), (0, 0), (0, 4)], [.inl (8, [(6, 1, 0), (8, 4, 0), (8, 5, 0)]), ac_879], []), [((4, 6, 0), gi_1116, hq_711, [], [1])])
theorem hd_1875 : con_1875.1 = (yX8_at, cX8_at, 3, (some .long)) := rfl
noncomputable def cu_1875 : List CUT2 := []
theorem ch_1875 : staG tb_X8_at 1 bt_RX8 [] ct_1497 [] [] cu_1875 11 con_1875 = true := by decide +kernel
theorem vl_1875 (l : Launch) : Vld2 l vwCl gTbl con_1875 := conR_ok3 gT_all (hd_1875) rfl pn_RX8 tk_X8_at bo_RX8 xo_RX8 (cto_1497 l) ch_1875 cut_nil
/-- RookHusting$Slots at -/
noncomputable def con_1876 : Con2 := ((yX8_at, cX8_at, 3, (some .long)), (0, 0), ([(6, 0, 0), (0, 2, 0), (0, 10, 0)], [(0, 0), (0, 0), (0, 0), (0, 0), (0, 0), (0, 0), (0, 16)], [.inl (8, [(6, 1, 0), (8, 4, 0), (8, 5, 0)]), ac_880], []), [((4, 6, 0), gi_1117, hq_712, [], [1])])
theorem hd_1876 : con_1876.1 = (yX8_at, cX8_at, 3, (some .long)) := rfl
noncomputable def cu_1876 : List CUT2 := []
theorem ch_1876 : staG tb_X8_at 1 bt_RX8 [] ct_1497 [] [] cu_1876 11 con_1876 = true := by decide +kernel
theorem vl_1876 (l : Launch) : Vld2 l vwCl gTbl con_1876 := conR_ok3 gT_all (hd_1876) rfl pn_RX8 tk_X8_at bo_RX8 xo_RX8 (cto_1497 l) ch_1876 cut_nil
/-- RookHusting$Slots at -/
noncomputable def con_1877 : Con2 := ((yX8_at, cX8_at, 3, (some .long)), (0, 0), ([(6, 0, 0), (0, 2, 0), (0, 11, 0)], [(0, 0), (0, 0), (0, 0), (0, 0), (0, 0), (0, 0), (0, 250)], [.inl (8, [(6, 1, 0), (8, 4, 0), (8, 5, 0)]), ac_881], []), [((4, 6, 0), gi_1118, hq_713, [], [1])])
theorem hd_1877 : con_1877.1 = (yX8_at, cX8_at, 3, (some .long)) := rfl
noncomputable def cu_1877 : List CUT2 := []
theorem ch_1877 : staG tb_X8_at 1 bt_RX8 [] ct_1497 [] [] cu_1877 11 con_1877 = true := by decide +kernel
theorem vl_1877 (l : Launch) : Vld2 l vwCl gTbl con_1877 := conR_ok3 gT_all (hd_1877) rfl pn_RX8 tk_X8_at bo_RX8 xo_RX8 (cto_1497 l) ch_1877 cut_nil
/-- RookHusting$Slots at -/
noncomputable def con_1878 : Con2 := ((yX8_at, cX8_at, 3, (some .long)), (0, 0), ([(6, 0, 0), (0, 2, 0), (0, 12, 0)], [(0, 0), (0, 0), (0, 0), (0, 0), (0, 0), (0, 0), (0, 4)], [.inl (8, [(6, 1, 0), (8, 4, 0), (8, 5, 0)]), ac_882], []), [((4, 6, 0), gi_1116, hq_714, [], [1])])
theorem hd_1878 : con_1878.1 = (yX8_at, cX8_at, 3, (some .long)) := rfl
noncomputable def cu_1878 : List CUT2 := []
theorem ch_1878 : staG tb_X8_at 1 bt_RX8 [] ct_1497 [] [] cu_1878 11 con_1878 = true := by decide +kernel
theorem vl_1878 (l : Launch) : Vld2 l vwCl gTbl con_1878 := conR_ok3 gT_all (hd_1878) rfl pn_RX8 tk_X8_at bo_RX8 xo_RX8 (cto_1497 l) ch_1878 cut_nil
/-- RookHusting$Slots at -/
noncomputable def con_1879 : Con2 := ((yX8_at, cX8_at, 3, (some .long)), (0, 0), ([(6, 0, 0), (0, 2, 0), (0, 13, 0)], [(0, 0), (0, 0), (0, 0), (0, 0), (0, 0), (0, 0), (0, 16)], [.inl (8, [(6, 1, 0), (8, 4, 0), (8, 5, 0)]), ac_883], []), [((4, 6, 0), gi_1117, hq_715, [], [1])])
theorem hd_1879 : con_1879.1 = (yX8_at, cX8_at, 3, (some .long)) := rfl
noncomputable def cu_1879 : List CUT2 := []
theorem ch_1879 : staG tb_X8_at 1 bt_RX8 [] ct_1497 [] [] cu_1879 11 con_1879 = true := by decide +kernel
theorem vl_1879 (l : Launch) : Vld2 l vwCl gTbl con_1879 := conR_ok3 gT_all (hd_1879) rfl pn_RX8 tk_X8_at bo_RX8 xo_RX8 (cto_1497 l) ch_1879 cut_nil
/-- RookHusting$Slots at -/
noncomputable def con_1880 : Con2 := ((yX8_at, cX8_at, 3, (some .long)), (0, 0), ([(6, 0, 0), (0, 2, 0), (0, 14, 0)], [(0, 0), (0, 0), (0, 0), (0, 0), (0, 0), (0, 0), (0, 250)], [.inl (8, [(6, 1, 0), (8, 4, 0), (8, 5, 0)]), ac_884], []), [((4, 6, 0), gi_1118, hq_716, [], [1])])
theorem hd_1880 : con_1880.1 = (yX8_at, cX8_at, 3, (some .long)) := rfl
noncomputable def cu_1880 : List CUT2 := []
theorem ch_1880 : staG tb_X8_at 1 bt_RX8 [] ct_1497 [] [] cu_1880 11 con_1880 = true := by decide +kernel
theorem vl_1880 (l : Launch) : Vld2 l vwCl gTbl con_1880 := conR_ok3 gT_all (hd_1880) rfl pn_RX8 tk_X8_at bo_RX8 xo_RX8 (cto_1497 l) ch_1880 cut_nil
/-- RookHusting$Slots at -/
noncomputable def con_1881 : Con2 := ((yX8_at, cX8_at, 3, (some .long)), (0, 0), ([(6, 0, 0), (0, 2, 0), (0, 15, 0)], [(0, 0), (0, 0), (0, 0), (0, 0), (0, 0), (0, 0), (0, 4)], [.inl (8, [(6, 1, 0), (8, 4, 0), (8, 5, 0)]), ac_885], []), [((4, 6, 0), gi_1116, hq_717, [], [1])])
theorem hd_1881 : con_1881.1 = (yX8_at, cX8_at, 3, (some .long)) := rfl
noncomputable def cu_1881 : List CUT2 := []
theorem ch_1881 : staG tb_X8_at 1 bt_RX8 [] ct_1497 [] [] cu_1881 11 con_1881 = true := by decide +kernel
theorem vl_1881 (l : Launch) : Vld2 l vwCl gTbl con_1881 := conR_ok3 gT_all (hd_1881) rfl pn_RX8 tk_X8_at bo_RX8 xo_RX8 (cto_1497 l) ch_1881 cut_nil
/-- RookHusting$Slots at -/
noncomputable def con_1882 : Con2 := ((yX8_at, cX8_at, 3, (some .long)), (0, 0), ([(6, 0, 0), (0, 2, 0), (0, 16, 0)], [(0, 0), (0, 0), (0, 0), (0, 0), (0, 0), (0, 0), (0, 16)], [.inl (8, [(6, 1, 0), (8, 4, 0), (8, 5, 0)]), ac_886], []), [((4, 6, 0), gi_1117, hq_718, [], [1])])
theorem hd_1882 : con_1882.1 = (yX8_at, cX8_at, 3, (some .long)) := rfl
noncomputable def cu_1882 : List CUT2 := []
theorem ch_1882 : staG tb_X8_at 1 bt_RX8 [] ct_1497 [] [] cu_1882 11 con_1882 = true := by decide +kernel
theorem vl_1882 (l : Launch) : Vld2 l vwCl gTbl con_1882 := conR_ok3 gT_all (hd_1882) rfl pn_RX8 tk_X8_at bo_RX8 xo_RX8 (cto_1497 l) ch_1882 cut_nil
/-- RookHusting$Slots at -/
noncomputable def con_1883 : Con2 := ((yX8_at, cX8_at, 3, (some .long)), (0, 0), ([(6, 0, 0), (0, 2, 0), (0, 17, 0)], [(0, 0), (0, 0), (0, 0), (0, 0), (0, 0), (0, 0), (0, 250)], [.inl (8, [(6, 1, 0), (8, 4, 0), (8, 5, 0)]), ac_887], []), [((4, 6, 0), gi_1118, hq_719, [], [1])])
theorem hd_1883 : con_1883.1 = (yX8_at, cX8_at, 3, (some .long)) := rfl
noncomputable def cu_1883 : List CUT2 := []
theorem ch_1883 : staG tb_X8_at 1 bt_RX8 [] ct_1497 [] [] cu_1883 11 con_1883 = true := by decide +kernel
theorem vl_1883 (l : Launch) : Vld2 l vwCl gTbl con_1883 := conR_ok3 gT_all (hd_1883) rfl pn_RX8 tk_X8_at bo_RX8 xo_RX8 (cto_1497 l) ch_1883 cut_nil
/-- RookHusting$Slots at -/
noncomputable def con_1884 : Con2 := ((yX8_at, cX8_at, 3, (some .long)), (0, 0), ([(6, 0, 0), (0, 2, 0), (0, 18, 0)], [(0, 0), (0, 0), (0, 0), (0, 0), (0, 0), (0, 0), (0, 4)], [.inl (8, [(6, 1, 0), (8, 4, 0), (8, 5, 0)]), ac_888], []), [((4, 6, 0), gi_1116, hq_720, [], [1])])
theorem hd_1884 : con_1884.1 = (yX8_at, cX8_at, 3, (some .long)) := rfl
noncomputable def cu_1884 : List CUT2 := []
theorem ch_1884 : staG tb_X8_at 1 bt_RX8 [] ct_1497 [] [] cu_1884 11 con_1884 = true := by decide +kernel
theorem vl_1884 (l : Launch) : Vld2 l vwCl gTbl con_1884 := conR_ok3 gT_all (hd_1884) rfl pn_RX8 tk_X8_at bo_RX8 xo_RX8 (cto_1497 l) ch_1884 cut_nil
/-- RookHusting$Slots at -/
noncomputable def con_1885 : Con2 := ((yX8_at, cX8_at, 3, (some .long)), (0, 0), ([(6, 0, 0), (0, 2, 0), (0, 19, 0)], [(0, 0), (0, 0), (0, 0), (0, 0), (0, 0), (0, 0), (0, 16)], [.inl (8, [(6, 1, 0), (8, 4, 0), (8, 5, 0)]), ac_889], []), [((4, 6, 0), gi_1117, hq_721, [], [1])])
theorem hd_1885 : con_1885.1 = (yX8_at, cX8_at, 3, (some .long)) := rfl
noncomputable def cu_1885 : List CUT2 := []
theorem ch_1885 : staG tb_X8_at 1 bt_RX8 [] ct_1497 [] [] cu_1885 11 con_1885 = true := by decide +kernel
theorem vl_1885 (l : Launch) : Vld2 l vwCl gTbl con_1885 := conR_ok3 gT_all (hd_1885) rfl pn_RX8 tk_X8_at bo_RX8 xo_RX8 (cto_1497 l) ch_1885 cut_nil
/-- RookHusting$Slots at -/
noncomputable def con_1886 : Con2 := ((yX8_at, cX8_at, 3, (some .long)), (0, 0), ([(6, 0, 0), (0, 2, 0), (0, 20, 0)], [(0, 0), (0, 0), (0, 0), (0, 0), (0, 0), (0, 0), (0, 250)], [.inl (8, [(6, 1, 0), (8, 4, 0), (8, 5, 0)]), ac_890], []), [((4, 6, 0), gi_1118, hq_722, [], [1])])
theorem hd_1886 : con_1886.1 = (yX8_at, cX8_at, 3, (some .long)) := rfl
noncomputable def cu_1886 : List CUT2 := []
theorem ch_1886 : staG tb_X8_at 1 bt_RX8 [] ct_1497 [] [] cu_1886 11 con_1886 = true := by decide +kernel
theorem vl_1886 (l : Launch) : Vld2 l vwCl gTbl con_1886 := conR_ok3 gT_all (hd_1886) rfl pn_RX8 tk_X8_at bo_RX8 xo_RX8 (cto_1497 l) ch_1886 cut_nil
/-- RookHusting$Slots at -/
noncomputable def con_1887 : Con2 := ((yX8_at, cX8_at, 3, (some .long)), (0, 0), ([(6, 0, 0), (0, 2, 0), (0, 21, 0)], [(0, 0), (0, 0), (0, 0), (0, 0), (0, 0), (0, 0), (0, 4)], [.inl (8, [(6, 1, 0), (8, 4, 0), (8, 5, 0)]), ac_891], []), [((4, 6, 0), gi_1116, hq_723, [], [1])])
theorem hd_1887 : con_1887.1 = (yX8_at, cX8_at, 3, (some .long)) := rfl
noncomputable def cu_1887 : List CUT2 := []
theorem ch_1887 : staG tb_X8_at 1 bt_RX8 [] ct_1497 [] [] cu_1887 11 con_1887 = true := by decide +kernel
theorem vl_1887 (l : Launch) : Vld2 l vwCl gTbl con_1887 := conR_ok3 gT_all (hd_1887) rfl pn_RX8 tk_X8_at bo_RX8 xo_RX8 (cto_1497 l) ch_1887 cut_nil
/-- RookHusting$Slots at -/
noncomputable def con_1888 : Con2 := ((yX8_at, cX8_at, 3, (some .long)), (0, 0), ([(6, 0, 0), (0, 2, 0), (0, 22, 0)], [(0, 0), (0, 0), (0, 0), (0, 0), (0, 0), (0, 0), (0, 16)], [.inl (8, [(6, 1, 0), (8, 4, 0), (8, 5, 0)]), ac_892], []), [((4, 6, 0), gi_1117, hq_724, [], [1])])
theorem hd_1888 : con_1888.1 = (yX8_at, cX8_at, 3, (some .long)) := rfl
noncomputable def cu_1888 : List CUT2 := []
theorem ch_1888 : staG tb_X8_at 1 bt_RX8 [] ct_1497 [] [] cu_1888 11 con_1888 = true := by decide +kernel
theorem vl_1888 (l : Launch) : Vld2 l vwCl gTbl con_1888 := conR_ok3 gT_all (hd_1888) rfl pn_RX8 tk_X8_at bo_RX8 xo_RX8 (cto_1497 l) ch_1888 cut_nil
/-- RookHusting$Slots at -/
noncomputable def con_1889 : Con2 := ((yX8_at, cX8_at, 3, (some .long)), (0, 0), ([(6, 0, 0), (0, 2, 0), (0, 23, 0)], [(0, 0), (0, 0), (0, 0), (0, 0), (0, 0), (0, 0), (0, 250)], [.inl (8, [(6, 1, 0), (8, 4, 0), (8, 5, 0)]), ac_893], []), [((4, 6, 0), gi_1118, hq_725, [], [1])])
theorem hd_1889 : con_1889.1 = (yX8_at, cX8_at, 3, (some .long)) := rfl
noncomputable def cu_1889 : List CUT2 := []
theorem ch_1889 : staG tb_X8_at 1 bt_RX8 [] ct_1497 [] [] cu_1889 11 con_1889 = true := by decide +kernel
theorem vl_1889 (l : Launch) : Vld2 l vwCl gTbl con_1889 := conR_ok3 gT_all (hd_1889) rfl pn_RX8 tk_X8_at bo_RX8 xo_RX8 (cto_1497 l) ch_1889 cut_nil
/-- RookHusting$Slots at -/
noncomputable def con_1890 : Con2 := ((yX8_at, cX8_at, 3, (some .long)), (0, 0), ([(6, 0, 0), (0, 2, 0), (0, 24, 0)], [(0, 0), (0, 0), (0, 0), (0, 0), (0, 0), (0, 0), (0, 4)], [.inl (8, [(6, 1, 0), (8, 4, 0), (8, 5, 0)]), ac_894], []), [((4, 6, 0), gi_1116, hq_726, [], [1])])
theorem hd_1890 : con_1890.1 = (yX8_at, cX8_at, 3, (some .long)) := rfl
noncomputable def cu_1890 : List CUT2 := []
theorem ch_1890 : staG tb_X8_at 1 bt_RX8 [] ct_1497 [] [] cu_1890 11 con_1890 = true := by decide +kernel
theorem vl_1890 (l : Launch) : Vld2 l vwCl gTbl con_1890 := conR_ok3 gT_all (hd_1890) rfl pn_RX8 tk_X8_at bo_RX8 xo_RX8 (cto_1497 l) ch_1890 cut_nil
/-- RookHusting$Slots at -/
noncomputable def con_1891 : Con2 := ((yX8_at, cX8_at, 3, (some .long)), (0, 0), ([(6, 0, 0), (0, 2, 0), (0, 25, 0)], [(0, 0), (0, 0), (0, 0), (0, 0), (0, 0), (0, 0), (0, 16)], [.inl (8, [(6, 1, 0), (8, 4, 0), (8, 5, 0)]), ac_895], []), [((4, 6, 0), gi_1117, hq_727, [], [1])])
theorem hd_1891 : con_1891.1 = (yX8_at, cX8_at, 3, (some .long)) := rfl
noncomputable def cu_1891 : List CUT2 := []
theorem ch_1891 : staG tb_X8_at 1 bt_RX8 [] ct_1497 [] [] cu_1891 11 con_1891 = true := by decide +kernel
theorem vl_1891 (l : Launch) : Vld2 l vwCl gTbl con_1891 := conR_ok3 gT_all (hd_1891) rfl pn_RX8 tk_X8_at bo_RX8 xo_RX8 (cto_1497 l) ch_1891 cut_nil
/-- RookHusting$Slots at -/
noncomputable def con_1892 : Con2 := ((yX8_at, cX8_at, 3, (some .long)), (0, 0), ([(6, 0, 0), (0, 2, 0), (0, 26, 0)], [(0, 0), (0, 0), (0, 0), (0, 0), (0, 0), (0, 0), (0, 250)], [.inl (8, [(6, 1, 0), (8, 4, 0), (8, 5, 0)]), ac_896], []), [((4, 6, 0), gi_1118, hq_728, [], [1])])
theorem hd_1892 : con_1892.1 = (yX8_at, cX8_at, 3, (some .long)) := rfl
noncomputable def cu_1892 : List CUT2 := []
theorem ch_1892 : staG tb_X8_at 1 bt_RX8 [] ct_1497 [] [] cu_1892 11 con_1892 = true := by decide +kernel
theorem vl_1892 (l : Launch) : Vld2 l vwCl gTbl con_1892 := conR_ok3 gT_all (hd_1892) rfl pn_RX8 tk_X8_at bo_RX8 xo_RX8 (cto_1497 l) ch_1892 cut_nil
/-- RookHusting$Slots at -/
noncomputable def con_1893 : Con2 := ((yX8_at, cX8_at, 3, (some .long)), (0, 0), ([(6, 0, 0), (0, 2, 0), (0, 27, 0)], [(0, 0), (0, 0), (0, 0), (0, 0), (0, 0), (0, 0), (0, 4)], [.inl (8, [(6, 1, 0), (8, 4, 0), (8, 5, 0)]), ac_897], []), [((4, 6, 0), gi_1116, hq_729, [], [1])])
theorem hd_1893 : con_1893.1 = (yX8_at, cX8_at, 3, (some .long)) := rfl
noncomputable def cu_1893 : List CUT2 := []
theorem ch_1893 : staG tb_X8_at 1 bt_RX8 [] ct_1497 [] [] cu_1893 11 con_1893 = true := by decide +kernel
theorem vl_1893 (l : Launch) : Vld2 l vwCl gTbl con_1893 := conR_ok3 gT_all (hd_1893) rfl pn_RX8 tk_X8_at bo_RX8 xo_RX8 (cto_1497 l) ch_1893 cut_nil
/-- RookHusting$Slots at -/
noncomputable def con_1894 : Con2 := ((yX8_at, cX8_at, 3, (some .long)), (0, 0), ([(6, 0, 0), (0, 2, 0), (0, 28, 0)], [(0, 0), (0, 0), (0, 0), (0, 0), (0, 0), (0, 0), (0, 16)], [.inl (8, [(6, 1, 0), (8, 4, 0), (8, 5, 0)]), ac_898], []), [((4, 6, 0), gi_1117, hq_730, [], [1])])
theorem hd_1894 : con_1894.1 = (yX8_at, cX8_at, 3, (some .long)) := rfl
noncomputable def cu_1894 : List CUT2 := []
theorem ch_1894 : staG tb_X8_at 1 bt_RX8 [] ct_1497 [] [] cu_1894 11 con_1894 = true := by decide +kernel
theorem vl_1894 (l : Launch) : Vld2 l vwCl gTbl con_1894 := conR_ok3 gT_all (hd_1894) rfl pn_RX8 tk_X8_at bo_RX8 xo_RX8 (cto_1497 l) ch_1894 cut_nil
/-- RookHusting$Slots at -/
noncomputable def con_1895 : Con2 := ((yX8_at, cX8_at, 3, (some .long)), (0, 0), ([(6, 0, 0), (0, 2, 0), (0, 29, 0)], [(0, 0), (0, 0), (0, 0), (0, 0), (0, 0), (0, 0), (0, 250)], [.inl (8, [(6, 1, 0), (8, 4, 0), (8, 5, 0)]), ac_899], []), [((4, 6, 0), gi_1118, hq_731, [], [1])])
theorem hd_1895 : con_1895.1 = (yX8_at, cX8_at, 3, (some .long)) := rfl
noncomputable def cu_1895 : List CUT2 := []
theorem ch_1895 : staG tb_X8_at 1 bt_RX8 [] ct_1497 [] [] cu_1895 11 con_1895 = true := by decide +kernel
theorem vl_1895 (l : Launch) : Vld2 l vwCl gTbl con_1895 := conR_ok3 gT_all (hd_1895) rfl pn_RX8 tk_X8_at bo_RX8 xo_RX8 (cto_1497 l) ch_1895 cut_nil
/-- RookHusting$Slots at -/
noncomputable def con_1896 : Con2 := ((yX8_at, cX8_at, 3, (some .long)), (0, 0), ([(6, 0, 0), (0, 2, 0), (0, 30, 0)], [(0, 0), (0, 0), (0, 0), (0, 0), (0, 0), (0, 0), (0, 4)], [.inl (8, [(6, 1, 0), (8, 4, 0), (8, 5, 0)]), ac_900], []), [((4, 6, 0), gi_1116, hq_732, [], [1])])
theorem hd_1896 : con_1896.1 = (yX8_at, cX8_at, 3, (some .long)) := rfl
noncomputable def cu_1896 : List CUT2 := []
theorem ch_1896 : staG tb_X8_at 1 bt_RX8 [] ct_1497 [] [] cu_1896 11 con_1896 = true := by decide +kernel
theorem vl_1896 (l : Launch) : Vld2 l vwCl gTbl con_1896 := conR_ok3 gT_all (hd_1896) rfl pn_RX8 tk_X8_at bo_RX8 xo_RX8 (cto_1497 l) ch_1896 cut_nil
/-- RookHusting$Slots at -/
noncomputable def con_1897 : Con2 := ((yX8_at, cX8_at, 3, (some .long)), (0, 0), ([(6, 0, 0), (0, 2, 0), (0, 31, 0)], [(0, 0), (0, 0), (0, 0), (0, 0), (0, 0), (0, 0), (0, 16)], [.inl (8, [(6, 1, 0), (8, 4, 0), (8, 5, 0)]), ac_901], []), [((4, 6, 0), gi_1117, hq_733, [], [1])])
theorem hd_1897 : con_1897.1 = (yX8_at, cX8_at, 3, (some .long)) := rfl
noncomputable def cu_1897 : List CUT2 := []
theorem ch_1897 : staG tb_X8_at 1 bt_RX8 [] ct_1497 [] [] cu_1897 11 con_1897 = true := by decide +kernel
theorem vl_1897 (l : Launch) : Vld2 l vwCl gTbl con_1897 := conR_ok3 gT_all (hd_1897) rfl pn_RX8 tk_X8_at bo_RX8 xo_RX8 (cto_1497 l) ch_1897 cut_nil
/-- RookHusting$Slots at -/
noncomputable def con_1898 : Con2 := ((yX8_at, cX8_at, 3, (some .long)), (0, 0), ([(6, 0, 0), (0, 2, 0), (0, 32, 0)], [(0, 0), (0, 0), (0, 0), (0, 0), (0, 0), (0, 0), (0, 250)], [.inl (8, [(6, 1, 0), (8, 4, 0), (8, 5, 0)]), ac_902], []), [((4, 6, 0), gi_1118, hq_734, [], [1])])
theorem hd_1898 : con_1898.1 = (yX8_at, cX8_at, 3, (some .long)) := rfl
noncomputable def cu_1898 : List CUT2 := []
theorem ch_1898 : staG tb_X8_at 1 bt_RX8 [] ct_1497 [] [] cu_1898 11 con_1898 = true := by decide +kernel
theorem vl_1898 (l : Launch) : Vld2 l vwCl gTbl con_1898 := conR_ok3 gT_all (hd_1898) rfl pn_RX8 tk_X8_at bo_RX8 xo_RX8 (cto_1497 l) ch_1898 cut_nil
/-- RookHusting$Slots at -/
noncomputable def con_1899 : Con2 := ((yX8_at, cX8_at, 3, (some .long)), (0, 0), ([(6, 0, 0), (0, 2, 0), (0, 33, 0)], [(0, 0), (0, 0), (0, 0), (0, 0), (0, 0), (0, 0), (0, 4)], [.inl (8, [(6, 1, 0), (8, 4, 0), (8, 5, 0)]), ac_903], []), [((4, 6, 0), gi_1116, hq_735, [], [1])])
theorem hd_1899 : con_1899.1 = (yX8_at, cX8_at, 3, (some .long)) := rfl
noncomputable def cu_1899 : List CUT2 := []
theorem ch_1899 : staG tb_X8_at 1 bt_RX8 [] ct_1497 [] [] cu_1899 11 con_1899 = true := by decide +kernel
theorem vl_1899 (l : Launch) : Vld2 l vwCl gTbl con_1899 := conR_ok3 gT_all (hd_1899) rfl pn_RX8 tk_X8_at bo_RX8 xo_RX8 (cto_1497 l) ch_1899 cut_nil
/-- RookHusting$Slots at -/
noncomputable def con_1900 : Con2 := ((yX8_at, cX8_at, 3, (some .long)), (0, 0), ([(6, 0, 0), (0, 2, 0), (0, 34, 0)], [(0, 0), (0, 0), (0, 0), (0, 0), (0, 0), (0, 0), (0, 16)], [.inl (8, [(6, 1, 0), (8, 4, 0), (8, 5, 0)]), ac_904], []), [((4, 6, 0), gi_1117, hq_736, [], [1])])
theorem hd_1900 : con_1900.1 = (yX8_at, cX8_at, 3, (some .long)) := rfl
noncomputable def cu_1900 : List CUT2 := []
theorem ch_1900 : staG tb_X8_at 1 bt_RX8 [] ct_1497 [] [] cu_1900 11 con_1900 = true := by decide +kernel
theorem vl_1900 (l : Launch) : Vld2 l vwCl gTbl con_1900 := conR_ok3 gT_all (hd_1900) rfl pn_RX8 tk_X8_at bo_RX8 xo_RX8 (cto_1497 l) ch_1900 cut_nil
/-- RookHusting$Slots at -/
noncomputable def con_1901 : Con2 := ((yX8_at, cX8_at, 3, (some .long)), (0, 0), ([(6, 0, 0), (0, 2, 0), (0, 35, 0)], [(0, 0), (0, 0), (0, 0), (0, 0), (0, 0), (0, 0), (0, 250)], [.inl (8, [(6, 1, 0), (8, 4, 0), (8, 5, 0)]), ac_905], []), [((4, 6, 0), gi_1118, hq_737, [], [1])])
theorem hd_1901 : con_1901.1 = (yX8_at, cX8_at, 3, (some .long)) := rfl
noncomputable def cu_1901 : List CUT2 := []
theorem ch_1901 : staG tb_X8_at 1 bt_RX8 [] ct_1497 [] [] cu_1901 11 con_1901 = true := by decide +kernel
theorem vl_1901 (l : Launch) : Vld2 l vwCl gTbl con_1901 := conR_ok3 gT_all (hd_1901) rfl pn_RX8 tk_X8_at bo_RX8 xo_RX8 (cto_1497 l) ch_1901 cut_nil
/-- RookHusting$Slots at -/
noncomputable def con_1902 : Con2 := ((yX8_at, cX8_at, 3, (some .long)), (0, 0), ([(6, 0, 0), (0, 2, 0), (0, 36, 0)], [(0, 0), (0, 0), (0, 0), (0, 0), (0, 0), (0, 0), (0, 4)], [.inl (8, [(6, 1, 0), (8, 4, 0), (8, 5, 0)]), ac_906], []), [((4, 6, 0), gi_1116, hq_738, [], [1])])
theorem hd_1902 : con_1902.1 = (yX8_at, cX8_at, 3, (some .long)) := rfl
noncomputable def cu_1902 : List CUT2 := []
theorem ch_1902 : staG tb_X8_at 1 bt_RX8 [] ct_1497 [] [] cu_1902 11 con_1902 = true := by decide +kernel
theorem vl_1902 (l : Launch) : Vld2 l vwCl gTbl con_1902 := conR_ok3 gT_all (hd_1902) rfl pn_RX8 tk_X8_at bo_RX8 xo_RX8 (cto_1497 l) ch_1902 cut_nil
/-- RookHusting$Slots at -/
noncomputable def con_1903 : Con2 := ((yX8_at, cX8_at, 3, (some .long)), (0, 0), ([(6, 0, 0), (0, 2, 0), (0, 37, 0)], [(0, 0), (0, 0), (0, 0), (0, 0), (0, 0), (0, 0), (0, 16)], [.inl (8, [(6, 1, 0), (8, 4, 0), (8, 5, 0)]), ac_907], []), [((4, 6, 0), gi_1117, hq_739, [], [1])])
theorem hd_1903 : con_1903.1 = (yX8_at, cX8_at, 3, (some .long)) := rfl
noncomputable def cu_1903 : List CUT2 := []
theorem ch_1903 : staG tb_X8_at 1 bt_RX8 [] ct_1497 [] [] cu_1903 11 con_1903 = true := by decide +kernel
theorem vl_1903 (l : Launch) : Vld2 l vwCl gTbl con_1903 := conR_ok3 gT_all (hd_1903) rfl pn_RX8 tk_X8_at bo_RX8 xo_RX8 (cto_1497 l) ch_1903 cut_nil
/-- RookHusting$Slots at -/
noncomputable def con_1904 : Con2 := ((yX8_at, cX8_at, 3, (some .long)), (0, 0), ([(6, 0, 0), (0, 2, 0), (0, 38, 0)], [(0, 0), (0, 0), (0, 0), (0, 0), (0, 0), (0, 0), (0, 250)], [.inl (8, [(6, 1, 0), (8, 4, 0), (8, 5, 0)]), ac_908], []), [((4, 6, 0), gi_1118, hq_740, [], [1])])
theorem hd_1904 : con_1904.1 = (yX8_at, cX8_at, 3, (some .long)) := rfl
noncomputable def cu_1904 : List CUT2 := []
theorem ch_1904 : staG tb_X8_at 1 bt_RX8 [] ct_1497 [] [] cu_1904 11 con_1904 = true := by decide +kernel
theorem vl_1904 (l : Launch) : Vld2 l vwCl gTbl con_1904 := conR_ok3 gT_all (hd_1904) rfl pn_RX8 tk_X8_at bo_RX8 xo_RX8 (cto_1497 l) ch_1904 cut_nil
/-- RookHusting$Slots at -/
noncomputable def con_1905 : Con2 := ((yX8_at, cX8_at, 3, (some .long)), (0, 0), ([(6, 0, 0), (0, 2, 0), (0, 39, 0)], [(0, 0), (0, 0), (0, 0), (0, 0), (0, 0), (0, 0), (0, 4)], [.inl (8, [(6, 1, 0), (8, 4, 0), (8, 5, 0)]), ac_909], []), [((4, 6, 0), gi_1116, hq_741, [], [1])])
theorem hd_1905 : con_1905.1 = (yX8_at, cX8_at, 3, (some .long)) := rfl
noncomputable def cu_1905 : List CUT2 := []
theorem ch_1905 : staG tb_X8_at 1 bt_RX8 [] ct_1497 [] [] cu_1905 11 con_1905 = true := by decide +kernel
theorem vl_1905 (l : Launch) : Vld2 l vwCl gTbl con_1905 := conR_ok3 gT_all (hd_1905) rfl pn_RX8 tk_X8_at bo_RX8 xo_RX8 (cto_1497 l) ch_1905 cut_nil
/-- RookHusting$Slots at -/
noncomputable def con_1906 : Con2 := ((yX8_at, cX8_at, 3, (some .long)), (0, 0), ([(6, 0, 0), (0, 2, 0), (0, 40, 0)], [(0, 0), (0, 0), (0, 0), (0, 0), (0, 0), (0, 0), (0, 16)], [.inl (8, [(6, 1, 0), (8, 4, 0), (8, 5, 0)]), ac_910], []), [((4, 6, 0), gi_1117, hq_742, [], [1])])
theorem hd_1906 : con_1906.1 = (yX8_at, cX8_at, 3, (some .long)) := rfl
noncomputable def cu_1906 : List CUT2 := []
theorem ch_1906 : staG tb_X8_at 1 bt_RX8 [] ct_1497 [] [] cu_1906 11 con_1906 = true := by decide +kernel
theorem vl_1906 (l : Launch) : Vld2 l vwCl gTbl con_1906 := conR_ok3 gT_all (hd_1906) rfl pn_RX8 tk_X8_at bo_RX8 xo_RX8 (cto_1497 l) ch_1906 cut_nil
/-- RookHusting$Slots at -/
noncomputable def con_1907 : Con2 := ((yX8_at, cX8_at, 3, (some .long)), (0, 0), ([(6, 0, 0), (0, 2, 0), (0, 41, 0)], [(0, 0), (0, 0), (0, 0), (0, 0), (0, 0), (0, 0), (0, 250)], [.inl (8, [(6, 1, 0), (8, 4, 0), (8, 5, 0)]), ac_911], []), [((4, 6, 0), gi_1118, hq_743, [], [1])])
theorem hd_1907 : con_1907.1 = (yX8_at, cX8_at, 3, (some .long)) := rfl
noncomputable def cu_1907 : List CUT2 := []
theorem ch_1907 : staG tb_X8_at 1 bt_RX8 [] ct_1497 [] [] cu_1907 11 con_1907 = true := by decide +kernel
theorem vl_1907 (l : Launch) : Vld2 l vwCl gTbl con_1907 := conR_ok3 gT_all (hd_1907) rfl pn_RX8 tk_X8_at bo_RX8 xo_RX8 (cto_1497 l) ch_1907 cut_nil
/-- RookHusting$Slots at -/
noncomputable def con_1908 : Con2 := ((yX8_at, cX8_at, 3, (some .long)), (0, 0), ([(6, 0, 0), (0, 2, 0), (0, 42, 0)], [(0, 0), (0, 0), (0, 0), (0, 0), (0, 0), (0, 0), (0, 4)], [.inl (8, [(6, 1, 0), (8, 4, 0), (8, 5, 0)]), ac_912], []), [((4, 6, 0), gi_1116, hq_744, [], [1])])
theorem hd_1908 : con_1908.1 = (yX8_at, cX8_at, 3, (some .long)) := rfl
noncomputable def cu_1908 : List CUT2 := []
theorem ch_1908 : staG tb_X8_at 1 bt_RX8 [] ct_1497 [] [] cu_1908 11 con_1908 = true := by decide +kernel
theorem vl_1908 (l : Launch) : Vld2 l vwCl gTbl con_1908 := conR_ok3 gT_all (hd_1908) rfl pn_RX8 tk_X8_at bo_RX8 xo_RX8 (cto_1497 l) ch_1908 cut_nil
/-- RookHusting$Slots at -/
noncomputable def con_1909 : Con2 := ((yX8_at, cX8_at, 3, (some .long)), (0, 0), ([(6, 0, 0), (0, 2, 0), (0, 43, 0)], [(0, 0), (0, 0), (0, 0), (0, 0), (0, 0), (0, 0), (0, 16)], [.inl (8, [(6, 1, 0), (8, 4, 0), (8, 5, 0)]), ac_913], []), [((4, 6, 0), gi_1117, hq_745, [], [1])])
theorem hd_1909 : con_1909.1 = (yX8_at, cX8_at, 3, (some .long)) := rfl
noncomputable def cu_1909 : List CUT2 := []
theorem ch_1909 : staG tb_X8_at 1 bt_RX8 [] ct_1497 [] [] cu_1909 11 con_1909 = true := by decide +kernel
theorem vl_1909 (l : Launch) : Vld2 l vwCl gTbl con_1909 := conR_ok3 gT_all (hd_1909) rfl pn_RX8 tk_X8_at bo_RX8 xo_RX8 (cto_1497 l) ch_1909 cut_nil
/-- RookHusting$Slots at -/
noncomputable def con_1910 : Con2 := ((yX8_at, cX8_at, 3, (some .long)), (0, 0), ([(6, 0, 0), (0, 2, 0), (0, 44, 0)], [(0, 0), (0, 0), (0, 0), (0, 0), (0, 0), (0, 0), (0, 250)], [.inl (8, [(6, 1, 0), (8, 4, 0), (8, 5, 0)]), ac_914], []), [((4, 6, 0), gi_1118, hq_746, [], [1])])
theorem hd_1910 : con_1910.1 = (yX8_at, cX8_at, 3, (some .long)) := rfl
noncomputable def cu_1910 : List CUT2 := []
theorem ch_1910 : staG tb_X8_at 1 bt_RX8 [] ct_1497 [] [] cu_1910 11 con_1910 = true := by decide +kernel
theorem vl_1910 (l : Launch) : Vld2 l vwCl gTbl con_1910 := conR_ok3 gT_all (hd_1910) rfl pn_RX8 tk_X8_at bo_RX8 xo_RX8 (cto_1497 l) ch_1910 cut_nil
/-- RookHusting$Slots at -/
noncomputable def con_1911 : Con2 := ((yX8_at, cX8_at, 3, (some .long)), (0, 0), ([(6, 0, 0), (0, 2, 0), (0, 45, 0)], [(0, 0), (0, 0), (0, 0), (0, 0), (0, 0), (0, 0), (0, 4)], [.inl (8, [(6, 1, 0), (8, 4, 0), (8, 5, 0)]), ac_915], []), [((4, 6, 0), gi_1116, hq_747, [], [1])])
theorem hd_1911 : con_1911.1 = (yX8_at, cX8_at, 3, (some .long)) := rfl
noncomputable def cu_1911 : List CUT2 := []
theorem ch_1911 : staG tb_X8_at 1 bt_RX8 [] ct_1497 [] [] cu_1911 11 con_1911 = true := by decide +kernel
theorem vl_1911 (l : Launch) : Vld2 l vwCl gTbl con_1911 := conR_ok3 gT_all (hd_1911) rfl pn_RX8 tk_X8_at bo_RX8 xo_RX8 (cto_1497 l) ch_1911 cut_nil
/-- RookHusting$Slots at -/
noncomputable def con_1912 : Con2 := ((yX8_at, cX8_at, 3, (some .long)), (0, 0), ([(6, 0, 0), (0, 2, 0), (0, 46, 0)], [(0, 0), (0, 0), (0, 0), (0, 0), (0, 0), (0, 0), (0, 16)], [.inl (8, [(6, 1, 0), (8, 4, 0), (8, 5, 0)]), ac_916], []), [((4, 6, 0), gi_1117, hq_748, [], [1])])
theorem hd_1912 : con_1912.1 = (yX8_at, cX8_at, 3, (some .long)) := rfl
noncomputable def cu_1912 : List CUT2 := []
theorem ch_1912 : staG tb_X8_at 1 bt_RX8 [] ct_1497 [] [] cu_1912 11 con_1912 = true := by decide +kernel
theorem vl_1912 (l : Launch) : Vld2 l vwCl gTbl con_1912 := conR_ok3 gT_all (hd_1912) rfl pn_RX8 tk_X8_at bo_RX8 xo_RX8 (cto_1497 l) ch_1912 cut_nil
/-- RookHusting$Slots at -/
noncomputable def con_1913 : Con2 := ((yX8_at, cX8_at, 3, (some .long)), (0, 0), ([(6, 0, 0), (0, 2, 0), (0, 47, 0)], [(0, 0), (0, 0), (0, 0), (0, 0), (0, 0), (0, 0), (0, 250)], [.inl (8, [(6, 1, 0), (8, 4, 0), (8, 5, 0)]), ac_917], []), [((4, 6, 0), gi_1118, hq_749, [], [1])])
theorem hd_1913 : con_1913.1 = (yX8_at, cX8_at, 3, (some .long)) := rfl
noncomputable def cu_1913 : List CUT2 := []
theorem ch_1913 : staG tb_X8_at 1 bt_RX8 [] ct_1497 [] [] cu_1913 11 con_1913 = true := by decide +kernel
theorem vl_1913 (l : Launch) : Vld2 l vwCl gTbl con_1913 := conR_ok3 gT_all (hd_1913) rfl pn_RX8 tk_X8_at bo_RX8 xo_RX8 (cto_1497 l) ch_1913 cut_nil
/-- RookHusting$Slots at -/
noncomputable def con_1914 : Con2 := ((yX8_at, cX8_at, 3, (some .long)), (0, 0), ([(6, 0, 0), (0, 2, 0), (0, 48, 0)], [(0, 0), (0, 0), (0, 0), (0, 0), (0, 0), (0, 0), (0, 4)], [.inl (8, [(6, 1, 0), (8, 4, 0), (8, 5, 0)]), ac_918], []), [((4, 6, 0), gi_1116, hq_750, [], [1])])
theorem hd_1914 : con_1914.1 = (yX8_at, cX8_at, 3, (some .long)) := rfl
noncomputable def cu_1914 : List CUT2 := []
theorem ch_1914 : staG tb_X8_at 1 bt_RX8 [] ct_1497 [] [] cu_1914 11 con_1914 = true := by decide +kernel
theorem vl_1914 (l : Launch) : Vld2 l vwCl gTbl con_1914 := conR_ok3 gT_all (hd_1914) rfl pn_RX8 tk_X8_at bo_RX8 xo_RX8 (cto_1497 l) ch_1914 cut_nil
/-- RookHusting$Slots at -/
noncomputable def con_1915 : Con2 := ((yX8_at, cX8_at, 3, (some .long)), (0, 0), ([(6, 0, 0), (0, 2, 0), (0, 49, 0)], [(0, 0), (0, 0), (0, 0), (0, 0), (0, 0), (0, 0), (0, 16)], [.inl (8, [(6, 1, 0), (8, 4, 0), (8, 5, 0)]), ac_919], []), [((4, 6, 0), gi_1117, hq_751, [], [1])])
theorem hd_1915 : con_1915.1 = (yX8_at, cX8_at, 3, (some .long)) := rfl
noncomputable def cu_1915 : List CUT2 := []
theorem ch_1915 : staG tb_X8_at 1 bt_RX8 [] ct_1497 [] [] cu_1915 11 con_1915 = true := by decide +kernel
theorem vl_1915 (l : Launch) : Vld2 l vwCl gTbl con_1915 := conR_ok3 gT_all (hd_1915) rfl pn_RX8 tk_X8_at bo_RX8 xo_RX8 (cto_1497 l) ch_1915 cut_nil
/-- RookHusting$Slots at -/
noncomputable def con_1916 : Con2 := ((yX8_at, cX8_at, 3, (some .long)), (0, 0), ([(6, 0, 0), (0, 2, 0), (0, 50, 0)], [(0, 0), (0, 0), (0, 0), (0, 0), (0, 0), (0, 0), (0, 250)], [.inl (8, [(6, 1, 0), (8, 4, 0), (8, 5, 0)]), ac_920], []), [((4, 6, 0), gi_1118, hq_752, [], [1])])
theorem hd_1916 : con_1916.1 = (yX8_at, cX8_at, 3, (some .long)) := rfl
noncomputable def cu_1916 : List CUT2 := []
theorem ch_1916 : staG tb_X8_at 1 bt_RX8 [] ct_1497 [] [] cu_1916 11 con_1916 = true := by decide +kernel
theorem vl_1916 (l : Launch) : Vld2 l vwCl gTbl con_1916 := conR_ok3 gT_all (hd_1916) rfl pn_RX8 tk_X8_at bo_RX8 xo_RX8 (cto_1497 l) ch_1916 cut_nil
/-- RookHusting$Slots at -/
noncomputable def con_1917 : Con2 := ((yX8_at, cX8_at, 3, (some .long)), (0, 0), ([(6, 0, 0), (0, 2, 0), (0, 51, 0)], [(0, 0), (0, 0), (0, 0), (0, 0), (0, 0), (0, 0), (0, 4)], [.inl (8, [(6, 1, 0), (8, 4, 0), (8, 5, 0)]), ac_921], []), [((4, 6, 0), gi_1116, hq_753, [], [1])])
theorem hd_1917 : con_1917.1 = (yX8_at, cX8_at, 3, (some .long)) := rfl
noncomputable def cu_1917 : List CUT2 := []
theorem ch_1917 : staG tb_X8_at 1 bt_RX8 [] ct_1497 [] [] cu_1917 11 con_1917 = true := by decide +kernel
theorem vl_1917 (l : Launch) : Vld2 l vwCl gTbl con_1917 := conR_ok3 gT_all (hd_1917) rfl pn_RX8 tk_X8_at bo_RX8 xo_RX8 (cto_1497 l) ch_1917 cut_nil
/-- RookHusting$Slots at -/
noncomputable def con_1918 : Con2 := ((yX8_at, cX8_at, 3, (some .long)), (0, 0), ([(6, 0, 0), (0, 2, 0), (0, 52, 0)], [(0, 0), (0, 0), (0, 0), (0, 0), (0, 0), (0, 0), (0, 16)], [.inl (8, [(6, 1, 0), (8, 4, 0), (8, 5, 0)]), ac_922], []), [((4, 6, 0), gi_1117, hq_754, [], [1])])
theorem hd_1918 : con_1918.1 = (yX8_at, cX8_at, 3, (some .long)) := rfl
noncomputable def cu_1918 : List CUT2 := []
theorem ch_1918 : staG tb_X8_at 1 bt_RX8 [] ct_1497 [] [] cu_1918 11 con_1918 = true := by decide +kernel
theorem vl_1918 (l : Launch) : Vld2 l vwCl gTbl con_1918 := conR_ok3 gT_all (hd_1918) rfl pn_RX8 tk_X8_at bo_RX8 xo_RX8 (cto_1497 l) ch_1918 cut_nil
/-- RookHusting$Slots at -/
noncomputable def con_1919 : Con2 := ((yX8_at, cX8_at, 3, (some .long)), (0, 0), ([(6, 0, 0), (0, 2, 0), (0, 53, 0)], [(0, 0), (0, 0), (0, 0), (0, 0), (0, 0), (0, 0), (0, 250)], [.inl (8, [(6, 1, 0), (8, 4, 0), (8, 5, 0)]), ac_923], []), [((4, 6, 0), gi_1118, hq_755, [], [1])])
theorem hd_1919 : con_1919.1 = (yX8_at, cX8_at, 3, (some .long)) := rfl
noncomputable def cu_1919 : List CUT2 := []
theorem ch_1919 : staG tb_X8_at 1 bt_RX8 [] ct_1497 [] [] cu_1919 11 con_1919 = true := by decide +kernel
theorem vl_1919 (l : Launch) : Vld2 l vwCl gTbl con_1919 := conR_ok3 gT_all (hd_1919) rfl pn_RX8 tk_X8_at bo_RX8 xo_RX8 (cto_1497 l) ch_1919 cut_nil
/-- RookHusting$Slots at -/
noncomputable def con_1920 : Con2 := ((yX8_at, cX8_at, 3, (some .long)), (0, 0), ([(6, 0, 0), (0, 2, 0), (0, 54, 0)], [(0, 0), (0, 0), (0, 0), (0, 0), (0, 0), (0, 0), (0, 4)], [.inl (8, [(6, 1, 0), (8, 4, 0), (8, 5, 0)]), ac_924], []), [((4, 6, 0), gi_1116, hq_756, [], [1])])
theorem hd_1920 : con_1920.1 = (yX8_at, cX8_at, 3, (some .long)) := rfl
noncomputable def cu_1920 : List CUT2 := []
theorem ch_1920 : staG tb_X8_at 1 bt_RX8 [] ct_1497 [] [] cu_1920 11 con_1920 = true := by decide +kernel
theorem vl_1920 (l : Launch) : Vld2 l vwCl gTbl con_1920 := conR_ok3 gT_all (hd_1920) rfl pn_RX8 tk_X8_at bo_RX8 xo_RX8 (cto_1497 l) ch_1920 cut_nil
/-- RookHusting$Slots at -/
noncomputable def con_1921 : Con2 := ((yX8_at, cX8_at, 3, (some .long)), (0, 0), ([(6, 0, 0), (0, 2, 0), (0, 55, 0)], [(0, 0), (0, 0), (0, 0), (0, 0), (0, 0), (0, 0), (0, 16)], [.inl (8, [(6, 1, 0), (8, 4, 0), (8, 5, 0)]), ac_925], []), [((4, 6, 0), gi_1117, hq_757, [], [1])])
theorem hd_1921 : con_1921.1 = (yX8_at, cX8_at, 3, (some .long)) := rfl
noncomputable def cu_1921 : List CUT2 := []
theorem ch_1921 : staG tb_X8_at 1 bt_RX8 [] ct_1497 [] [] cu_1921 11 con_1921 = true := by decide +kernel
theorem vl_1921 (l : Launch) : Vld2 l vwCl gTbl con_1921 := conR_ok3 gT_all (hd_1921) rfl pn_RX8 tk_X8_at bo_RX8 xo_RX8 (cto_1497 l) ch_1921 cut_nil
/-- RookHusting$Slots at -/
noncomputable def con_1922 : Con2 := ((yX8_at, cX8_at, 3, (some .long)), (0, 0), ([(6, 0, 0), (0, 2, 0), (0, 56, 0)], [(0, 0), (0, 0), (0, 0), (0, 0), (0, 0), (0, 0), (0, 250)], [.inl (8, [(6, 1, 0), (8, 4, 0), (8, 5, 0)]), ac_926], []), [((4, 6, 0), gi_1118, hq_758, [], [1])])
theorem hd_1922 : con_1922.1 = (yX8_at, cX8_at, 3, (some .long)) := rfl
noncomputable def cu_1922 : List CUT2 := []
theorem ch_1922 : staG tb_X8_at 1 bt_RX8 [] ct_1497 [] [] cu_1922 11 con_1922 = true := by decide +kernel
theorem vl_1922 (l : Launch) : Vld2 l vwCl gTbl con_1922 := conR_ok3 gT_all (hd_1922) rfl pn_RX8 tk_X8_at bo_RX8 xo_RX8 (cto_1497 l) ch_1922 cut_nil
/-- RookHusting$Slots at -/
noncomputable def con_1923 : Con2 := ((yX8_at, cX8_at, 3, (some .long)), (0, 0), ([(6, 0, 0), (0, 2, 0), (0, 57, 0)], [(0, 0), (0, 0), (0, 0), (0, 0), (0, 0), (0, 0), (0, 4)], [.inl (8, [(6, 1, 0), (8, 4, 0), (8, 5, 0)]), ac_927], []), [((4, 6, 0), gi_1116, hq_759, [], [1])])
theorem hd_1923 : con_1923.1 = (yX8_at, cX8_at, 3, (some .long)) := rfl
noncomputable def cu_1923 : List CUT2 := []
theorem ch_1923 : staG tb_X8_at 1 bt_RX8 [] ct_1497 [] [] cu_1923 11 con_1923 = true := by decide +kernel
theorem vl_1923 (l : Launch) : Vld2 l vwCl gTbl con_1923 := conR_ok3 gT_all (hd_1923) rfl pn_RX8 tk_X8_at bo_RX8 xo_RX8 (cto_1497 l) ch_1923 cut_nil
/-- RookHusting$Slots at -/
noncomputable def con_1924 : Con2 := ((yX8_at, cX8_at, 3, (some .long)), (0, 0), ([(6, 0, 0), (0, 2, 0), (0, 58, 0)], [(0, 0), (0, 0), (0, 0), (0, 0), (0, 0), (0, 0), (0, 16)], [.inl (8, [(6, 1, 0), (8, 4, 0), (8, 5, 0)]), ac_928], []), [((4, 6, 0), gi_1117, hq_760, [], [1])])
theorem hd_1924 : con_1924.1 = (yX8_at, cX8_at, 3, (some .long)) := rfl
noncomputable def cu_1924 : List CUT2 := []
theorem ch_1924 : staG tb_X8_at 1 bt_RX8 [] ct_1497 [] [] cu_1924 11 con_1924 = true := by decide +kernel
theorem vl_1924 (l : Launch) : Vld2 l vwCl gTbl con_1924 := conR_ok3 gT_all (hd_1924) rfl pn_RX8 tk_X8_at bo_RX8 xo_RX8 (cto_1497 l) ch_1924 cut_nil
/-- RookHusting$Slots at -/
noncomputable def con_1925 : Con2 := ((yX8_at, cX8_at, 3, (some .long)), (0, 0), ([(6, 0, 0), (0, 2, 0), (0, 59, 0)], [(0, 0), (0, 0), (0, 0), (0, 0), (0, 0), (0, 0), (0, 250)], [.inl (8, [(6, 1, 0), (8, 4, 0), (8, 5, 0)]), ac_929], []), [((4, 6, 0), gi_1118, hq_761, [], [1])])
theorem hd_1925 : con_1925.1 = (yX8_at, cX8_at, 3, (some .long)) := rfl
noncomputable def cu_1925 : List CUT2 := []
theorem ch_1925 : staG tb_X8_at 1 bt_RX8 [] ct_1497 [] [] cu_1925 11 con_1925 = true := by decide +kernel
theorem vl_1925 (l : Launch) : Vld2 l vwCl gTbl con_1925 := conR_ok3 gT_all (hd_1925) rfl pn_RX8 tk_X8_at bo_RX8 xo_RX8 (cto_1497 l) ch_1925 cut_nil
