/-! ===== contracts, 40 ===== -/
/-- RookHusting isAsSeen -/
noncomputable def gi_1649 : GI := jl_n [gp_709, jl_z 9]
noncomputable def gi_1650 : GI := jl_n [gp_709, jl_z 10]
noncomputable def con_1908 : Con2 := ((yX11_isAsSeen, cX11_isAsSeen, 4, (some .boolean)), (1, 22), ([(6, 0, 0), (0, 0, 0)], gi_1649, hc_209, []), [((0, 0, 0), gi_1650, hq_904, [], [1]), ((0, 1, 0), gi_1650, hq_904, [], [1])])
theorem hd_1908 : con_1908.1 = (yX11_isAsSeen, cX11_isAsSeen, 4, (some .boolean)) := rfl
noncomputable def ct_1908 : CTB2 := [(21, 473, 0, con_1853, [1, 3]), (21, 473, 0, con_1850, [1, 3]), (21, 473, 0, con_1847, [1, 3]), (21, 473, 0, con_1844, [1, 3]), (21, 473, 0, con_1841, [1, 3]), (21, 473, 0, con_1838, [1, 3]), (21, 473, 0, con_1835, [1, 3]), (21, 473, 0, con_1830, [1, 3]), (21, 473, 0, con_1827, [1, 3]), (21, 473, 0, con_1824, [1, 3]), (36, 473, 0, con_1854, [1, 3]), (36, 473, 0, con_1851, [1, 3]), (36, 473, 0, con_1848, [1, 3]), (36, 473, 0, con_1845, [1, 3]), (36, 473, 0, con_1842, [1, 3]), (36, 473, 0, con_1839, [1, 3]), (36, 473, 0, con_1836, [1, 3]), (36, 473, 0, con_1831, [1, 3]), (36, 473, 0, con_1828, [1, 3]), (36, 473, 0, con_1825, [1, 3]), (60, 473, 0, con_1855, [1, 3]), (60, 473, 0, con_1852, [1, 3]), (60, 473, 0, con_1849, [1, 3]), (60, 473, 0, con_1846, [1, 3]), (60, 473, 0, con_1843, [1, 3]), (60, 473, 0, con_1840, [1, 3]), (60, 473, 0, con_1837, [1, 3]), (60, 473, 0, con_1832, [1, 3]), (60, 473, 0, con_1829, [1, 3]), (60, 473, 0, con_1826, [1, 3])]
noncomputable def gi_1651 : GI := jl_n [gp_709, jl_z 12]
noncomputable def gi_1652 : GI := jl_n [gp_709, gp_628]
noncomputable def cu_1908 : List CUT2 := [((2, [lq 0 6 0, lq 1 0 0, lq 2 0 0], [], gi_1651, hq_904), [], ([], 30)), ((2, [lq 0 6 0, lq 1 0 0, lq 2 0 3, lq 3 1 97], [], gi_1652, hq_904), [], ([], 27)), ((2, [lq 0 6 0, lq 1 0 0, lq 2 0 6, lq 3 1 97], [], gi_1652, hq_904), [], ([], 24)), ((2, [lq 0 6 0, lq 1 0 0, lq 2 0 9, lq 3 1 97], [], gi_1652, hq_904), [], ([], 21)), ((2, [lq 0 6 0, lq 1 0 0, lq 2 0 12, lq 3 1 97], [], gi_1652, hq_904), [], ([], 18)), ((2, [lq 0 6 0, lq 1 0 0, lq 2 0 15, lq 3 1 97], [], gi_1652, hq_904), [], ([], 15)), ((2, [lq 0 6 0, lq 1 0 0, lq 2 0 18, lq 3 1 97], [], gi_1652, hq_904), [], ([], 12)), ((2, [lq 0 6 0, lq 1 0 0, lq 2 0 21, lq 3 1 97], [], gi_1652, hq_904), [], ([], 9)), ((2, [lq 0 6 0, lq 1 0 0, lq 2 0 24, lq 3 1 97], [], gi_1652, hq_904), [], ([], 6)), ((2, [lq 0 6 0, lq 1 0 0, lq 2 0 27, lq 3 1 97], [], gi_1652, hq_904), [], ([], 3)), ((2, [lq 0 6 0, lq 1 0 0, lq 2 0 30, lq 3 1 97], [], gi_1652, hq_904), [], ([], 0))]
theorem ch_1908 : staG tb_X11_isAsSeen 1 bt_RX11 [] ct_1908 [] [] cu_1908 44 con_1908 = true := by decide +kernel
theorem cc_1908 : cu_1908.all (cutG tb_X11_isAsSeen 1 bt_RX11 [] ct_1908 [] [] cu_1908 44 con_1908) = true := by decide +kernel
theorem cto_1908 (l : Launch) : CTOK2 l RX11 vwCl gTbl ct_1908 := ct2_cons (vl_1853 l) ck_RX11_473_1853 (ct2_cons (vl_1850 l) ck_RX11_473_1850 (ct2_cons (vl_1847 l) ck_RX11_473_1847 (ct2_cons (vl_1844 l) ck_RX11_473_1844 (ct2_cons (vl_1841 l) ck_RX11_473_1841 (ct2_cons (vl_1838 l) ck_RX11_473_1838 (ct2_cons (vl_1835 l) ck_RX11_473_1835 (ct2_cons (vl_1830 l) ck_RX11_473_1830 (ct2_cons (vl_1827 l) ck_RX11_473_1827 (ct2_cons (vl_1824 l) ck_RX11_473_1824 (ct2_cons (vl_1854 l) ck_RX11_473_1854 (ct2_cons (vl_1851 l) ck_RX11_473_1851 (ct2_cons (vl_1848 l) ck_RX11_473_1848 (ct2_cons (vl_1845 l) ck_RX11_473_1845 (ct2_cons (vl_1842 l) ck_RX11_473_1842 (ct2_cons (vl_1839 l) ck_RX11_473_1839 (ct2_cons (vl_1836 l) ck_RX11_473_1836 (ct2_cons (vl_1831 l) ck_RX11_473_1831 (ct2_cons (vl_1828 l) ck_RX11_473_1828 (ct2_cons (vl_1825 l) ck_RX11_473_1825 (ct2_cons (vl_1855 l) ck_RX11_473_1855 (ct2_cons (vl_1852 l) ck_RX11_473_1852 (ct2_cons (vl_1849 l) ck_RX11_473_1849 (ct2_cons (vl_1846 l) ck_RX11_473_1846 (ct2_cons (vl_1843 l) ck_RX11_473_1843 (ct2_cons (vl_1840 l) ck_RX11_473_1840 (ct2_cons (vl_1837 l) ck_RX11_473_1837 (ct2_cons (vl_1832 l) ck_RX11_473_1832 (ct2_cons (vl_1829 l) ck_RX11_473_1829 (ct2_cons (vl_1826 l) ck_RX11_473_1826 (ct2_nil))))))))))))))))))))))))))))))
theorem vl_1908 (l : Launch) : Vld2 l vwCl gTbl con_1908 := conR_ok3 gT_all (hd_1908) rfl pn_RX11 tk_X11_isAsSeen bo_RX11 xo_RX11 (cto_1908 l) ch_1908 (cut_all cc_1908)
/-- RookHusting guessAll -/
noncomputable def gi_1653 : GI := jl_n [gp_630, gp_600]
noncomputable def gi_1654 : GI := jl_n [gp_630, gp_600, gp_632]
noncomputable def con_1909 : Con2 := ((yX11_guessAll, cX11_guessAll, 4, none), (6, 151), ([(6, 0, 0), (0, 0, 0), (1, 2, 0)], gi_1653, hc_210, rq_6), [((9, 0, 0), gi_1654, hq_905, [], tg_1)])
theorem hd_1909 : con_1909.1 = (yX11_guessAll, cX11_guessAll, 4, none) := rfl
theorem ck_RX11_483_1908 : COK2 RX11 vwCl gTbl 483 0 con_1908 := ⟨wd_1230, wd_125, mh_X11_isAsSeen, .inr (.inr ⟨rfl, wd_1227, wd_1229, wd_43, ⟨_, rfl, pd_X11_isAsSeen⟩, 11, _, TX11, 16, rfl, rfl⟩)⟩
noncomputable def ct_1909 : CTB2 := [(1, 208, 0, con_900, [0, 1, 2, 3, 4, 5, 6, 7, 8, 9, 10, 11, 12, 13, 14, 15, 16, 17, 18, 19, 20, 21, 22, 23, 24, 25, 26]), (36, 332, 0, con_1212, [28, 2, 29, 4, 30, 5, 31, 6]), (45, 480, 0, con_859, [28, 29]), (73, 372, 0, con_899, [32, 3, 28, 16, 33, 18, 34, 30, 35, 29, 36, 22, 23, 37, 38, 39, 31]), (78, 483, 0, con_1908, [0, 40, 41, 42, 32, 33]), (105, 486, 0, con_1522, [27, 33, 43]), (105, 486, 0, con_1527, [27, 33, 43])]
noncomputable def gi_1655 : GI := jl_n [gp_630, gp_600, gp_633]
noncomputable def cu_1909 : List CUT2 := [((14, [lq 0 6 0, lq 1 0 0, lq 2 1 2, lq 3 1 204], [], gi_1655, hq_906), rq_6, ([(204, (-1))], 5))]
theorem ch_1909 : staG tb_X11_guessAll 1 bt_RX11 [] ct_1909 [] [] cu_1909 48 con_1909 = true := by decide +kernel
theorem cc_1909 : cu_1909.all (cutG tb_X11_guessAll 1 bt_RX11 [] ct_1909 [] [] cu_1909 48 con_1909) = true := by decide +kernel
theorem cto_1909 (l : Launch) : CTOK2 l RX11 vwCl gTbl ct_1909 := ct2_cons (vl_900 l) ck_RX11_208_900 (ct2_cons (vl_1212 l) ck_RX11_332_1212 (ct2_cons (vl_859 l) ck_RX11_480_859 (ct2_cons (vl_899 l) ck_RX11_372_899 (ct2_cons (vl_1908 l) ck_RX11_483_1908 (ct2_cons (vl_1522 l) ck_RX11_486_1522 (ct2_cons (vl_1527 l) ck_RX11_486_1527 (ct2_nil)))))))
theorem vl_1909 (l : Launch) : Vld2 l vwCl gTbl con_1909 := conR_ok3 gT_all (hd_1909) rfl pn_RX11 tk_X11_guessAll bo_RX11 xo_RX11 (cto_1909 l) ch_1909 (cut_all cc_1909)
/-- RookHusting isAsSeen -/
noncomputable def gi_1656 : GI := jl_n [gp_710, jl_z 9]
noncomputable def gi_1657 : GI := jl_n [gp_710, jl_z 10]
noncomputable def con_1910 : Con2 := ((yX11_isAsSeen, cX11_isAsSeen, 4, (some .boolean)), (1, 22), ([(6, 0, 0), (0, 0, 0)], gi_1656, hc_209, []), [((0, 0, 0), gi_1657, hq_904, [], [1]), ((0, 1, 0), gi_1657, hq_904, [], [1])])
theorem hd_1910 : con_1910.1 = (yX11_isAsSeen, cX11_isAsSeen, 4, (some .boolean)) := rfl
noncomputable def ct_1910 : CTB2 := [(21, 473, 0, con_1824, [1, 3]), (36, 473, 0, con_1825, [1, 3]), (60, 473, 0, con_1826, [1, 3])]
noncomputable def gi_1658 : GI := jl_n [gp_710, jl_z 12]
noncomputable def gi_1659 : GI := jl_n [gp_710, gp_628]
noncomputable def cu_1910 : List CUT2 := [((2, [lq 0 6 0, lq 1 0 0, lq 2 0 0], [], gi_1658, hq_904), [], ([], 3)), ((2, [lq 0 6 0, lq 1 0 0, lq 2 0 3, lq 3 1 97], [], gi_1659, hq_904), [], ([], 0))]
theorem ch_1910 : staG tb_X11_isAsSeen 1 bt_RX11 [] ct_1910 [] [] cu_1910 44 con_1910 = true := by decide +kernel
theorem cc_1910 : cu_1910.all (cutG tb_X11_isAsSeen 1 bt_RX11 [] ct_1910 [] [] cu_1910 44 con_1910) = true := by decide +kernel
theorem cto_1910 (l : Launch) : CTOK2 l RX11 vwCl gTbl ct_1910 := ct2_cons (vl_1824 l) ck_RX11_473_1824 (ct2_cons (vl_1825 l) ck_RX11_473_1825 (ct2_cons (vl_1826 l) ck_RX11_473_1826 (ct2_nil)))
theorem vl_1910 (l : Launch) : Vld2 l vwCl gTbl con_1910 := conR_ok3 gT_all (hd_1910) rfl pn_RX11 tk_X11_isAsSeen bo_RX11 xo_RX11 (cto_1910 l) ch_1910 (cut_all cc_1910)
/-- RookHusting guessAll -/
noncomputable def gi_1660 : GI := jl_n [gp_630, gp_598]
noncomputable def gi_1661 : GI := jl_n [gp_630, gp_598, gp_632]
noncomputable def con_1911 : Con2 := ((yX11_guessAll, cX11_guessAll, 4, none), (6, 151), ([(6, 0, 0), (0, 0, 0), (1, 2, 0)], gi_1660, hc_210, rq_6), [((9, 0, 0), gi_1661, hq_905, [], tg_1)])
theorem hd_1911 : con_1911.1 = (yX11_guessAll, cX11_guessAll, 4, none) := rfl
theorem ck_RX11_483_1910 : COK2 RX11 vwCl gTbl 483 0 con_1910 := ⟨wd_1230, wd_125, mh_X11_isAsSeen, .inr (.inr ⟨rfl, wd_1227, wd_1229, wd_43, ⟨_, rfl, pd_X11_isAsSeen⟩, 11, _, TX11, 16, rfl, rfl⟩)⟩
noncomputable def ct_1911 : CTB2 := [(1, 208, 0, con_900, [0, 1, 2, 3, 4, 5, 6, 7, 8, 9, 10, 11, 12, 13, 14, 15, 16, 17, 18, 19, 20, 21, 22, 23, 24, 25, 26]), (36, 332, 0, con_1212, [28, 2, 29, 4, 30, 5, 31, 6]), (45, 480, 0, con_859, [28, 29]), (73, 372, 0, con_899, [32, 3, 28, 16, 33, 18, 34, 30, 35, 29, 36, 22, 23, 37, 38, 39, 31]), (78, 483, 0, con_1910, [0, 40, 41, 42, 32, 33]), (105, 486, 0, con_1522, [27, 33, 43]), (105, 486, 0, con_1527, [27, 33, 43])]
noncomputable def gi_1662 : GI := jl_n [gp_630, gp_598, gp_633]
noncomputable def cu_1911 : List CUT2 := [((14, [lq 0 6 0, lq 1 0 0, lq 2 1 2, lq 3 1 204], [], gi_1662, hq_906), rq_6, ([(204, (-1))], 5))]
theorem ch_1911 : staG tb_X11_guessAll 1 bt_RX11 [] ct_1911 [] [] cu_1911 48 con_1911 = true := by decide +kernel
theorem cc_1911 : cu_1911.all (cutG tb_X11_guessAll 1 bt_RX11 [] ct_1911 [] [] cu_1911 48 con_1911) = true := by decide +kernel
theorem cto_1911 (l : Launch) : CTOK2 l RX11 vwCl gTbl ct_1911 := ct2_cons (vl_900 l) ck_RX11_208_900 (ct2_cons (vl_1212 l) ck_RX11_332_1212 (ct2_cons (vl_859 l) ck_RX11_480_859 (ct2_cons (vl_899 l) ck_RX11_372_899 (ct2_cons (vl_1910 l) ck_RX11_483_1910 (ct2_cons (vl_1522 l) ck_RX11_486_1522 (ct2_cons (vl_1527 l) ck_RX11_486_1527 (ct2_nil)))))))
theorem vl_1911 (l : Launch) : Vld2 l vwCl gTbl con_1911 := conR_ok3 gT_all (hd_1911) rfl pn_RX11 tk_X11_guessAll bo_RX11 xo_RX11 (cto_1911 l) ch_1911 (cut_all cc_1911)
/-- RookHusting isAsSeen -/
noncomputable def gi_1663 : GI := jl_n [gp_711, jl_z 9]
noncomputable def gi_1664 : GI := jl_n [gp_711, jl_z 10]
noncomputable def con_1912 : Con2 := ((yX11_isAsSeen, cX11_isAsSeen, 4, (some .boolean)), (1, 22), ([(6, 0, 0), (0, 0, 0)], gi_1663, hc_209, []), [((0, 0, 0), gi_1664, hq_904, [], [1]), ((0, 1, 0), gi_1664, hq_904, [], [1])])
theorem hd_1912 : con_1912.1 = (yX11_isAsSeen, cX11_isAsSeen, 4, (some .boolean)) := rfl
noncomputable def ct_1912 : CTB2 := [(21, 473, 0, con_1850, [1, 3]), (21, 473, 0, con_1847, [1, 3]), (21, 473, 0, con_1844, [1, 3]), (21, 473, 0, con_1841, [1, 3]), (21, 473, 0, con_1838, [1, 3]), (21, 473, 0, con_1835, [1, 3]), (21, 473, 0, con_1830, [1, 3]), (21, 473, 0, con_1827, [1, 3]), (21, 473, 0, con_1824, [1, 3]), (36, 473, 0, con_1851, [1, 3]), (36, 473, 0, con_1848, [1, 3]), (36, 473, 0, con_1845, [1, 3]), (36, 473, 0, con_1842, [1, 3]), (36, 473, 0, con_1839, [1, 3]), (36, 473, 0, con_1836, [1, 3]), (36, 473, 0, con_1831, [1, 3]), (36, 473, 0, con_1828, [1, 3]), (36, 473, 0, con_1825, [1, 3]), (60, 473, 0, con_1852, [1, 3]), (60, 473, 0, con_1849, [1, 3]), (60, 473, 0, con_1846, [1, 3]), (60, 473, 0, con_1843, [1, 3]), (60, 473, 0, con_1840, [1, 3]), (60, 473, 0, con_1837, [1, 3]), (60, 473, 0, con_1832, [1, 3]), (60, 473, 0, con_1829, [1, 3]), (60, 473, 0, con_1826, [1, 3])]
noncomputable def gi_1665 : GI := jl_n [gp_711, jl_z 12]
noncomputable def gi_1666 : GI := jl_n [gp_711, gp_628]
noncomputable def cu_1912 : List CUT2 := [((2, [lq 0 6 0, lq 1 0 0, lq 2 0 0], [], gi_1665, hq_904), [], ([], 27)), ((2, [lq 0 6 0, lq 1 0 0, lq 2 0 3, lq 3 1 97], [], gi_1666, hq_904), [], ([], 24)), ((2, [lq 0 6 0, lq 1 0 0, lq 2 0 6, lq 3 1 97], [], gi_1666, hq_904), [], ([], 21)), ((2, [lq 0 6 0, lq 1 0 0, lq 2 0 9, lq 3 1 97], [], gi_1666, hq_904), [], ([], 18)), ((2, [lq 0 6 0, lq 1 0 0, lq 2 0 12, lq 3 1 97], [], gi_1666, hq_904), [], ([], 15)), ((2, [lq 0 6 0, lq 1 0 0, lq 2 0 15, lq 3 1 97], [], gi_1666, hq_904), [], ([], 12)), ((2, [lq 0 6 0, lq 1 0 0, lq 2 0 18, lq 3 1 97], [], gi_1666, hq_904), [], ([], 9)), ((2, [lq 0 6 0, lq 1 0 0, lq 2 0 21, lq 3 1 97], [], gi_1666, hq_904), [], ([], 6)), ((2, [lq 0 6 0, lq 1 0 0, lq 2 0 24, lq 3 1 97], [], gi_1666, hq_904), [], ([], 3)), ((2, [lq 0 6 0, lq 1 0 0, lq 2 0 27, lq 3 1 97], [], gi_1666, hq_904), [], ([], 0))]
theorem ch_1912 : staG tb_X11_isAsSeen 1 bt_RX11 [] ct_1912 [] [] cu_1912 44 con_1912 = true := by decide +kernel
theorem cc_1912 : cu_1912.all (cutG tb_X11_isAsSeen 1 bt_RX11 [] ct_1912 [] [] cu_1912 44 con_1912) = true := by decide +kernel
theorem cto_1912 (l : Launch) : CTOK2 l RX11 vwCl gTbl ct_1912 := ct2_cons (vl_1850 l) ck_RX11_473_1850 (ct2_cons (vl_1847 l) ck_RX11_473_1847 (ct2_cons (vl_1844 l) ck_RX11_473_1844 (ct2_cons (vl_1841 l) ck_RX11_473_1841 (ct2_cons (vl_1838 l) ck_RX11_473_1838 (ct2_cons (vl_1835 l) ck_RX11_473_1835 (ct2_cons (vl_1830 l) ck_RX11_473_1830 (ct2_cons (vl_1827 l) ck_RX11_473_1827 (ct2_cons (vl_1824 l) ck_RX11_473_1824 (ct2_cons (vl_1851 l) ck_RX11_473_1851 (ct2_cons (vl_1848 l) ck_RX11_473_1848 (ct2_cons (vl_1845 l) ck_RX11_473_1845 (ct2_cons (vl_1842 l) ck_RX11_473_1842 (ct2_cons (vl_1839 l) ck_RX11_473_1839 (ct2_cons (vl_1836 l) ck_RX11_473_1836 (ct2_cons (vl_1831 l) ck_RX11_473_1831 (ct2_cons (vl_1828 l) ck_RX11_473_1828 (ct2_cons (vl_1825 l) ck_RX11_473_1825 (ct2_cons (vl_1852 l) ck_RX11_473_1852 (ct2_cons (vl_1849 l) ck_RX11_473_1849 (ct2_cons (vl_1846 l) ck_RX11_473_1846 (ct2_cons (vl_1843 l) ck_RX11_473_1843 (ct2_cons (vl_1840 l) ck_RX11_473_1840 (ct2_cons (vl_1837 l) ck_RX11_473_1837 (ct2_cons (vl_1832 l) ck_RX11_473_1832 (ct2_cons (vl_1829 l) ck_RX11_473_1829 (ct2_cons (vl_1826 l) ck_RX11_473_1826 (ct2_nil)))))))))))))))))))))))))))
theorem vl_1912 (l : Launch) : Vld2 l vwCl gTbl con_1912 := conR_ok3 gT_all (hd_1912) rfl pn_RX11 tk_X11_isAsSeen bo_RX11 xo_RX11 (cto_1912 l) ch_1912 (cut_all cc_1912)
/-- RookHusting guessAll -/
noncomputable def gi_1667 : GI := jl_n [gp_630, gp_596]
noncomputable def gi_1668 : GI := jl_n [gp_630, gp_596, gp_632]
noncomputable def con_1913 : Con2 := ((yX11_guessAll, cX11_guessAll, 4, none), (6, 151), ([(6, 0, 0), (0, 0, 0), (1, 2, 0)], gi_1667, hc_210, rq_6), [((9, 0, 0), gi_1668, hq_905, [], tg_1)])
theorem hd_1913 : con_1913.1 = (yX11_guessAll, cX11_guessAll, 4, none) := rfl
theorem ck_RX11_483_1912 : COK2 RX11 vwCl gTbl 483 0 con_1912 := ⟨wd_1230, wd_125, mh_X11_isAsSeen, .inr (.inr ⟨rfl, wd_1227, wd_1229, wd_43, ⟨_, rfl, pd_X11_isAsSeen⟩, 11, _, TX11, 16, rfl, rfl⟩)⟩
noncomputable def ct_1913 : CTB2 := [(1, 208, 0, con_900, [0, 1, 2, 3, 4, 5, 6, 7, 8, 9, 10, 11, 12, 13, 14, 15, 16, 17, 18, 19, 20, 21, 22, 23, 24, 25, 26]), (36, 332, 0, con_1212, [28, 2, 29, 4, 30, 5, 31, 6]), (45, 480, 0, con_859, [28, 29]), (73, 372, 0, con_899, [32, 3, 28, 16, 33, 18, 34, 30, 35, 29, 36, 22, 23, 37, 38, 39, 31]), (78, 483, 0, con_1912, [0, 40, 41, 42, 32, 33]), (105, 486, 0, con_1522, [27, 33, 43]), (105, 486, 0, con_1527, [27, 33, 43])]
noncomputable def gi_1669 : GI := jl_n [gp_630, gp_596, gp_633]
noncomputable def cu_1913 : List CUT2 := [((14, [lq 0 6 0, lq 1 0 0, lq 2 1 2, lq 3 1 204], [], gi_1669, hq_906), rq_6, ([(204, (-1))], 5))]
theorem ch_1913 : staG tb_X11_guessAll 1 bt_RX11 [] ct_1913 [] [] cu_1913 48 con_1913 = true := by decide +kernel
theorem cc_1913 : cu_1913.all (cutG tb_X11_guessAll 1 bt_RX11 [] ct_1913 [] [] cu_1913 48 con_1913) = true := by decide +kernel
theorem cto_1913 (l : Launch) : CTOK2 l RX11 vwCl gTbl ct_1913 := ct2_cons (vl_900 l) ck_RX11_208_900 (ct2_cons (vl_1212 l) ck_RX11_332_1212 (ct2_cons (vl_859 l) ck_RX11_480_859 (ct2_cons (vl_899 l) ck_RX11_372_899 (ct2_cons (vl_1912 l) ck_RX11_483_1912 (ct2_cons (vl_1522 l) ck_RX11_486_1522 (ct2_cons (vl_1527 l) ck_RX11_486_1527 (ct2_nil)))))))
theorem vl_1913 (l : Launch) : Vld2 l vwCl gTbl con_1913 := conR_ok3 gT_all (hd_1913) rfl pn_RX11 tk_X11_guessAll bo_RX11 xo_RX11 (cto_1913 l) ch_1913 (cut_all cc_1913)
/-- RookHusting isAsSeen -/
noncomputable def gi_1670 : GI := jl_n [gp_712, jl_z 9]
noncomputable def gi_1671 : GI := jl_n [gp_712, jl_z 10]
noncomputable def con_1914 : Con2 := ((yX11_isAsSeen, cX11_isAsSeen, 4, (some .boolean)), (1, 22), ([(6, 0, 0), (0, 0, 0)], gi_1670, hc_209, []), [((0, 0, 0), gi_1671, hq_904, [], [1]), ((0, 1, 0), gi_1671, hq_904, [], [1])])
theorem hd_1914 : con_1914.1 = (yX11_isAsSeen, cX11_isAsSeen, 4, (some .boolean)) := rfl
noncomputable def ct_1914 : CTB2 := [(21, 473, 0, con_1847, [1, 3]), (21, 473, 0, con_1844, [1, 3]), (21, 473, 0, con_1841, [1, 3]), (21, 473, 0, con_1838, [1, 3]), (21, 473, 0, con_1835, [1, 3]), (21, 473, 0, con_1830, [1, 3]), (21, 473, 0, con_1827, [1, 3]), (21, 473, 0, con_1824, [1, 3]), (36, 473, 0, con_1848, [1, 3]), (36, 473, 0, con_1845, [1, 3]), (36, 473, 0, con_1842, [1, 3]), (36, 473, 0, con_1839, [1, 3]), (36, 473, 0, con_1836, [1, 3]), (36, 473, 0, con_1831, [1, 3]), (36, 473, 0, con_1828, [1, 3]), (36, 473, 0, con_1825, [1, 3]), (60, 473, 0, con_1849, [1, 3]), (60, 473, 0, con_1846, [1, 3]), (60, 473, 0, con_1843, [1, 3]), (60, 473, 0, con_1840, [1, 3]), (60, 473, 0, con_1837, [1, 3]), (60, 473, 0, con_1832, [1, 3]), (60, 473, 0, con_1829, [1, 3]), (60, 473, 0, con_1826, [1, 3])]
noncomputable def gi_1672 : GI := jl_n [gp_712, jl_z 12]
noncomputable def gi_1673 : GI := jl_n [gp_712, gp_628]
noncomputable def cu_1914 : List CUT2 := [((2, [lq 0 6 0, lq 1 0 0, lq 2 0 0], [], gi_1672, hq_904), [], ([], 24)), ((2, [lq 0 6 0, lq 1 0 0, lq 2 0 3, lq 3 1 97], [], gi_1673, hq_904), [], ([], 21)), ((2, [lq 0 6 0, lq 1 0 0, lq 2 0 6, lq 3 1 97], [], gi_1673, hq_904), [], ([], 18)), ((2, [lq 0 6 0, lq 1 0 0, lq 2 0 9, lq 3 1 97], [], gi_1673, hq_904), [], ([], 15)), ((2, [lq 0 6 0, lq 1 0 0, lq 2 0 12, lq 3 1 97], [], gi_1673, hq_904), [], ([], 12)), ((2, [lq 0 6 0, lq 1 0 0, lq 2 0 15, lq 3 1 97], [], gi_1673, hq_904), [], ([], 9)), ((2, [lq 0 6 0, lq 1 0 0, lq 2 0 18, lq 3 1 97], [], gi_1673, hq_904), [], ([], 6)), ((2, [lq 0 6 0, lq 1 0 0, lq 2 0 21, lq 3 1 97], [], gi_1673, hq_904), [], ([], 3)), ((2, [lq 0 6 0, lq 1 0 0, lq 2 0 24, lq 3 1 97], [], gi_1673, hq_904), [], ([], 0))]
theorem ch_1914 : staG tb_X11_isAsSeen 1 bt_RX11 [] ct_1914 [] [] cu_1914 44 con_1914 = true := by decide +kernel
theorem cc_1914 : cu_1914.all (cutG tb_X11_isAsSeen 1 bt_RX11 [] ct_1914 [] [] cu_1914 44 con_1914) = true := by decide +kernel
theorem cto_1914 (l : Launch) : CTOK2 l RX11 vwCl gTbl ct_1914 := ct2_cons (vl_1847 l) ck_RX11_473_1847 (ct2_cons (vl_1844 l) ck_RX11_473_1844 (ct2_cons (vl_1841 l) ck_RX11_473_1841 (ct2_cons (vl_1838 l) ck_RX11_473_1838 (ct2_cons (vl_1835 l) ck_RX11_473_1835 (ct2_cons (vl_1830 l) ck_RX11_473_1830 (ct2_cons (vl_1827 l) ck_RX11_473_1827 (ct2_cons (vl_1824 l) ck_RX11_473_1824 (ct2_cons (vl_1848 l) ck_RX11_473_1848 (ct2_cons (vl_1845 l) ck_RX11_473_1845 (ct2_cons (vl_1842 l) ck_RX11_473_1842 (ct2_cons (vl_1839 l) ck_RX11_473_1839 (ct2_cons (vl_1836 l) ck_RX11_473_1836 (ct2_cons (vl_1831 l) ck_RX11_473_1831 (ct2_cons (vl_1828 l) ck_RX11_473_1828 (ct2_cons (vl_1825 l) ck_RX11_473_1825 (ct2_cons (vl_1849 l) ck_RX11_473_1849 (ct2_cons (vl_1846 l) ck_RX11_473_1846 (ct2_cons (vl_1843 l) ck_RX11_473_1843 (ct2_cons (vl_1840 l) ck_RX11_473_1840 (ct2_cons (vl_1837 l) ck_RX11_473_1837 (ct2_cons (vl_1832 l) ck_RX11_473_1832 (ct2_cons (vl_1829 l) ck_RX11_473_1829 (ct2_cons (vl_1826 l) ck_RX11_473_1826 (ct2_nil))))))))))))))))))))))))
theorem vl_1914 (l : Launch) : Vld2 l vwCl gTbl con_1914 := conR_ok3 gT_all (hd_1914) rfl pn_RX11 tk_X11_isAsSeen bo_RX11 xo_RX11 (cto_1914 l) ch_1914 (cut_all cc_1914)
/-- RookHusting guessAll -/
noncomputable def gi_1674 : GI := jl_n [gp_630, gp_594]
noncomputable def gi_1675 : GI := jl_n [gp_630, gp_594, gp_632]
noncomputable def con_1915 : Con2 := ((yX11_guessAll, cX11_guessAll, 4, none), (6, 151), ([(6, 0, 0), (0, 0, 0), (1, 2, 0)], gi_1674, hc_210, rq_6), [((9, 0, 0), gi_1675, hq_905, [], tg_1)])
theorem hd_1915 : con_1915.1 = (yX11_guessAll, cX11_guessAll, 4, none) := rfl
theorem ck_RX11_483_1914 : COK2 RX11 vwCl gTbl 483 0 con_1914 := ⟨wd_1230, wd_125, mh_X11_isAsSeen, .inr (.inr ⟨rfl, wd_1227, wd_1229, wd_43, ⟨_, rfl, pd_X11_isAsSeen⟩, 11, _, TX11, 16, rfl, rfl⟩)⟩
noncomputable def ct_1915 : CTB2 := [(1, 208, 0, con_900, [0, 1, 2, 3, 4, 5, 6, 7, 8, 9, 10, 11, 12, 13, 14, 15, 16, 17, 18, 19, 20, 21, 22, 23, 24, 25, 26]), (36, 332, 0, con_1212, [28, 2, 29, 4, 30, 5, 31, 6]), (45, 480, 0, con_859, [28, 29]), (73, 372, 0, con_899, [32, 3, 28, 16, 33, 18, 34, 30, 35, 29, 36, 22, 23, 37, 38, 39, 31]), (78, 483, 0, con_1914, [0, 40, 41, 42, 32, 33]), (105, 486, 0, con_1522, [27, 33, 43]), (105, 486, 0, con_1527, [27, 33, 43])]
noncomputable def gi_1676 : GI := jl_n [gp_630, gp_594, gp_633]
noncomputable def cu_1915 : List CUT2 := [((14, [lq 0 6 0, lq 1 0 0, lq 2 1 2, lq 3 1 204], [], gi_1676, hq_906), rq_6, ([(204, (-1))], 5))]
theorem ch_1915 : staG tb_X11_guessAll 1 bt_RX11 [] ct_1915 [] [] cu_1915 48 con_1915 = true := by decide +kernel
theorem cc_1915 : cu_1915.all (cutG tb_X11_guessAll 1 bt_RX11 [] ct_1915 [] [] cu_1915 48 con_1915) = true := by decide +kernel
theorem cto_1915 (l : Launch) : CTOK2 l RX11 vwCl gTbl ct_1915 := ct2_cons (vl_900 l) ck_RX11_208_900 (ct2_cons (vl_1212 l) ck_RX11_332_1212 (ct2_cons (vl_859 l) ck_RX11_480_859 (ct2_cons (vl_899 l) ck_RX11_372_899 (ct2_cons (vl_1914 l) ck_RX11_483_1914 (ct2_cons (vl_1522 l) ck_RX11_486_1522 (ct2_cons (vl_1527 l) ck_RX11_486_1527 (ct2_nil)))))))
theorem vl_1915 (l : Launch) : Vld2 l vwCl gTbl con_1915 := conR_ok3 gT_all (hd_1915) rfl pn_RX11 tk_X11_guessAll bo_RX11 xo_RX11 (cto_1915 l) ch_1915 (cut_all cc_1915)
/-- RookHusting isAsSeen -/
noncomputable def gi_1677 : GI := jl_n [gp_713, jl_z 9]
noncomputable def gi_1678 : GI := jl_n [gp_713, jl_z 10]
noncomputable def con_1916 : Con2 := ((yX11_isAsSeen, cX11_isAsSeen, 4, (some .boolean)), (1, 22), ([(6, 0, 0), (0, 0, 0)], gi_1677, hc_209, []), [((0, 0, 0), gi_1678, hq_904, [], [1]), ((0, 1, 0), gi_1678, hq_904, [], [1])])
theorem hd_1916 : con_1916.1 = (yX11_isAsSeen, cX11_isAsSeen, 4, (some .boolean)) := rfl
noncomputable def ct_1916 : CTB2 := [(21, 473, 0, con_1844, [1, 3]), (21, 473, 0, con_1841, [1, 3]), (21, 473, 0, con_1838, [1, 3]), (21, 473, 0, con_1835, [1, 3]), (21, 473, 0, con_1830, [1, 3]), (21, 473, 0, con_1827, [1, 3]), (21, 473, 0, con_1824, [1, 3]), (36, 473, 0, con_1845, [1, 3]), (36, 473, 0, con_1842, [1, 3]), (36, 473, 0, con_1839, [1, 3]), (36, 473, 0, con_1836, [1, 3]), (36, 473, 0, con_1831, [1, 3]), (36, 473, 0, con_1828, [1, 3]), (36, 473, 0, con_1825, [1, 3]), (60, 473, 0, con_1846, [1, 3]), (60, 473, 0, con_1843, [1, 3]), (60, 473, 0, con_1840, [1, 3]), (60, 473, 0, con_1837, [1, 3]), (60, 473, 0, con_1832, [1, 3]), (60, 473, 0, con_1829, [1, 3]), (60, 473, 0, con_1826, [1, 3])]
noncomputable def gi_1679 : GI := jl_n [gp_713, jl_z 12]
noncomputable def gi_1680 : GI := jl_n [gp_713, gp_628]
noncomputable def cu_1916 : List CUT2 := [((2, [lq 0 6 0, lq 1 0 0, lq 2 0 0], [], gi_1679, hq_904), [], ([], 21)), ((2, [lq 0 6 0, lq 1 0 0, lq 2 0 3, lq 3 1 97], [], gi_1680, hq_904), [], ([], 18)), ((2, [lq 0 6 0, lq 1 0 0, lq 2 0 6, lq 3 1 97], [], gi_1680, hq_904), [], ([], 15)), ((2, [lq 0 6 0, lq 1 0 0, lq 2 0 9, lq 3 1 97], [], gi_1680, hq_904), [], ([], 12)), ((2, [lq 0 6 0, lq 1 0 0, lq 2 0 12, lq 3 1 97], [], gi_1680, hq_904), [], ([], 9)), ((2, [lq 0 6 0, lq 1 0 0, lq 2 0 15, lq 3 1 97], [], gi_1680, hq_904), [], ([], 6)), ((2, [lq 0 6 0, lq 1 0 0, lq 2 0 18, lq 3 1 97], [], gi_1680, hq_904), [], ([], 3)), ((2, [lq 0 6 0, lq 1 0 0, lq 2 0 21, lq 3 1 97], [], gi_1680, hq_904), [], ([], 0))]
theorem ch_1916 : staG tb_X11_isAsSeen 1 bt_RX11 [] ct_1916 [] [] cu_1916 44 con_1916 = true := by decide +kernel
theorem cc_1916 : cu_1916.all (cutG tb_X11_isAsSeen 1 bt_RX11 [] ct_1916 [] [] cu_1916 44 con_1916) = true := by decide +kernel
theorem cto_1916 (l : Launch) : CTOK2 l RX11 vwCl gTbl ct_1916 := ct2_cons (vl_1844 l) ck_RX11_473_1844 (ct2_cons (vl_1841 l) ck_RX11_473_1841 (ct2_cons (vl_1838 l) ck_RX11_473_1838 (ct2_cons (vl_1835 l) ck_RX11_473_1835 (ct2_cons (vl_1830 l) ck_RX11_473_1830 (ct2_cons (vl_1827 l) ck_RX11_473_1827 (ct2_cons (vl_1824 l) ck_RX11_473_1824 (ct2_cons (vl_1845 l) ck_RX11_473_1845 (ct2_cons (vl_1842 l) ck_RX11_473_1842 (ct2_cons (vl_1839 l) ck_RX11_473_1839 (ct2_cons (vl_1836 l) ck_RX11_473_1836 (ct2_cons (vl_1831 l) ck_RX11_473_1831 (ct2_cons (vl_1828 l) ck_RX11_473_1828 (ct2_cons (vl_1825 l) ck_RX11_473_1825 (ct2_cons (vl_1846 l) ck_RX11_473_1846 (ct2_cons (vl_1843 l) ck_RX11_473_1843 (ct2_cons (vl_1840 l) ck_RX11_473_1840 (ct2_cons (vl_1837 l) ck_RX11_473_1837 (ct2_cons (vl_1832 l) ck_RX11_473_1832 (ct2_cons (vl_1829 l) ck_RX11_473_1829 (ct2_cons (vl_1826 l) ck_RX11_473_1826 (ct2_nil)))))))))))))))))))))
theorem vl_1916 (l : Launch) : Vld2 l vwCl gTbl con_1916 := conR_ok3 gT_all (hd_1916) rfl pn_RX11 tk_X11_isAsSeen bo_RX11 xo_RX11 (cto_1916 l) ch_1916 (cut_all cc_1916)
/-- RookHusting guessAll -/
noncomputable def gi_1681 : GI := jl_n [gp_630, gp_591]
noncomputable def gi_1682 : GI := jl_n [gp_630, gp_591, gp_632]
noncomputable def con_1917 : Con2 := ((yX11_guessAll, cX11_guessAll, 4, none), (6, 151), ([(6, 0, 0), (0, 0, 0), (1, 2, 0)], gi_1681, hc_210, rq_6), [((9, 0, 0), gi_1682, hq_905, [], tg_1)])
theorem hd_1917 : con_1917.1 = (yX11_guessAll, cX11_guessAll, 4, none) := rfl
theorem ck_RX11_483_1916 : COK2 RX11 vwCl gTbl 483 0 con_1916 := ⟨wd_1230, wd_125, mh_X11_isAsSeen, .inr (.inr ⟨rfl, wd_1227, wd_1229, wd_43, ⟨_, rfl, pd_X11_isAsSeen⟩, 11, _, TX11, 16, rfl, rfl⟩)⟩
noncomputable def ct_1917 : CTB2 := [(1, 208, 0, con_900, [0, 1, 2, 3, 4, 5, 6, 7, 8, 9, 10, 11, 12, 13, 14, 15, 16, 17, 18, 19, 20, 21, 22, 23, 24, 25, 26]), (36, 332, 0, con_1212, [28, 2, 29, 4, 30, 5, 31, 6]), (45, 480, 0, con_859, [28, 29]), (73, 372, 0, con_899, [32, 3, 28, 16, 33, 18, 34, 30, 35, 29, 36, 22, 23, 37, 38, 39, 31]), (78, 483, 0, con_1916, [0, 40, 41, 42, 32, 33]), (105, 486, 0, con_1522, [27, 33, 43]), (105, 486, 0, con_1527, [27, 33, 43])]
noncomputable def gi_1683 : GI := jl_n [gp_630, gp_591, gp_633]
noncomputable def cu_1917 : List CUT2 := [((14, [lq 0 6 0, lq 1 0 0, lq 2 1 2, lq 3 1 204], [], gi_1683, hq_906), rq_6, ([(204, (-1))], 5))]
theorem ch_1917 : staG tb_X11_guessAll 1 bt_RX11 [] ct_1917 [] [] cu_1917 48 con_1917 = true := by decide +kernel
theorem cc_1917 : cu_1917.all (cutG tb_X11_guessAll 1 bt_RX11 [] ct_1917 [] [] cu_1917 48 con_1917) = true := by decide +kernel
theorem cto_1917 (l : Launch) : CTOK2 l RX11 vwCl gTbl ct_1917 := ct2_cons (vl_900 l) ck_RX11_208_900 (ct2_cons (vl_1212 l) ck_RX11_332_1212 (ct2_cons (vl_859 l) ck_RX11_480_859 (ct2_cons (vl_899 l) ck_RX11_372_899 (ct2_cons (vl_1916 l) ck_RX11_483_1916 (ct2_cons (vl_1522 l) ck_RX11_486_1522 (ct2_cons (vl_1527 l) ck_RX11_486_1527 (ct2_nil)))))))
theorem vl_1917 (l : Launch) : Vld2 l vwCl gTbl con_1917 := conR_ok3 gT_all (hd_1917) rfl pn_RX11 tk_X11_guessAll bo_RX11 xo_RX11 (cto_1917 l) ch_1917 (cut_all cc_1917)
/-- RookHusting isAsSeen -/
noncomputable def gi_1684 : GI := jl_n [gp_714, jl_z 9]
noncomputable def gi_1685 : GI := jl_n [gp_714, jl_z 10]
noncomputable def con_1918 : Con2 := ((yX11_isAsSeen, cX11_isAsSeen, 4, (some .boolean)), (1, 22), ([(6, 0, 0), (0, 0, 0)], gi_1684, hc_209, []), [((0, 0, 0), gi_1685, hq_904, [], [1]), ((0, 1, 0), gi_1685, hq_904, [], [1])])
theorem hd_1918 : con_1918.1 = (yX11_isAsSeen, cX11_isAsSeen, 4, (some .boolean)) := rfl
noncomputable def ct_1918 : CTB2 := [(21, 473, 0, con_1841, [1, 3]), (21, 473, 0, con_1838, [1, 3]), (21, 473, 0, con_1835, [1, 3]), (21, 473, 0, con_1830, [1, 3]), (21, 473, 0, con_1827, [1, 3]), (21, 473, 0, con_1824, [1, 3]), (36, 473, 0, con_1842, [1, 3]), (36, 473, 0, con_1839, [1, 3]), (36, 473, 0, con_1836, [1, 3]), (36, 473, 0, con_1831, [1, 3]), (36, 473, 0, con_1828, [1, 3]), (36, 473, 0, con_1825, [1, 3]), (60, 473, 0, con_1843, [1, 3]), (60, 473, 0, con_1840, [1, 3]), (60, 473, 0, con_1837, [1, 3]), (60, 473, 0, con_1832, [1, 3]), (60, 473, 0, con_1829, [1, 3]), (60, 473, 0, con_1826, [1, 3])]
noncomputable def gi_1686 : GI := jl_n [gp_714, jl_z 12]
noncomputable def gi_1687 : GI := jl_n [gp_714, gp_628]
noncomputable def cu_1918 : List CUT2 := [((2, [lq 0 6 0, lq 1 0 0, lq 2 0 0], [], gi_1686, hq_904), [], ([], 18)), ((2, [lq 0 6 0, lq 1 0 0, lq 2 0 3, lq 3 1 97], [], gi_1687, hq_904), [], ([], 15)), ((2, [lq 0 6 0, lq 1 0 0, lq 2 0 6, lq 3 1 97], [], gi_1687, hq_904), [], ([], 12)), ((2, [lq 0 6 0, lq 1 0 0, lq 2 0 9, lq 3 1 97], [], gi_1687, hq_904), [], ([], 9)), ((2, [lq 0 6 0, lq 1 0 0, lq 2 0 12, lq 3 1 97], [], gi_1687, hq_904), [], ([], 6)), ((2, [lq 0 6 0, lq 1 0 0, lq 2 0 15, lq 3 1 97], [], gi_1687, hq_904), [], ([], 3)), ((2, [lq 0 6 0, lq 1 0 0, lq 2 0 18, lq 3 1 97], [], gi_1687, hq_904), [], ([], 0))]
theorem ch_1918 : staG tb_X11_isAsSeen 1 bt_RX11 [] ct_1918 [] [] cu_1918 44 con_1918 = true := by decide +kernel
theorem cc_1918 : cu_1918.all (cutG tb_X11_isAsSeen 1 bt_RX11 [] ct_1918 [] [] cu_1918 44 con_1918) = true := by decide +kernel
theorem cto_1918 (l : Launch) : CTOK2 l RX11 vwCl gTbl ct_1918 := ct2_cons (vl_1841 l) ck_RX11_473_1841 (ct2_cons (vl_1838 l) ck_RX11_473_1838 (ct2_cons (vl_1835 l) ck_RX11_473_1835 (ct2_cons (vl_1830 l) ck_RX11_473_1830 (ct2_cons (vl_1827 l) ck_RX11_473_1827 (ct2_cons (vl_1824 l) ck_RX11_473_1824 (ct2_cons (vl_1842 l) ck_RX11_473_1842 (ct2_cons (vl_1839 l) ck_RX11_473_1839 (ct2_cons (vl_1836 l) ck_RX11_473_1836 (ct2_cons (vl_1831 l) ck_RX11_473_1831 (ct2_cons (vl_1828 l) ck_RX11_473_1828 (ct2_cons (vl_1825 l) ck_RX11_473_1825 (ct2_cons (vl_1843 l) ck_RX11_473_1843 (ct2_cons (vl_1840 l) ck_RX11_473_1840 (ct2_cons (vl_1837 l) ck_RX11_473_1837 (ct2_cons (vl_1832 l) ck_RX11_473_1832 (ct2_cons (vl_1829 l) ck_RX11_473_1829 (ct2_cons (vl_1826 l) ck_RX11_473_1826 (ct2_nil))))))))))))))))))
theorem vl_1918 (l : Launch) : Vld2 l vwCl gTbl con_1918 := conR_ok3 gT_all (hd_1918) rfl pn_RX11 tk_X11_isAsSeen bo_RX11 xo_RX11 (cto_1918 l) ch_1918 (cut_all cc_1918)
/-- RookHusting guessAll -/
noncomputable def gi_1688 : GI := jl_n [gp_630, gp_589]
noncomputable def gi_1689 : GI := jl_n [gp_630, gp_589, gp_632]
noncomputable def con_1919 : Con2 := ((yX11_guessAll, cX11_guessAll, 4, none), (6, 151), ([(6, 0, 0), (0, 0, 0), (1, 2, 0)], gi_1688, hc_210, rq_6), [((9, 0, 0), gi_1689, hq_905, [], tg_1)])
theorem hd_1919 : con_1919.1 = (yX11_guessAll, cX11_guessAll, 4, none) := rfl
theorem ck_RX11_483_1918 : COK2 RX11 vwCl gTbl 483 0 con_1918 := ⟨wd_1230, wd_125, mh_X11_isAsSeen, .inr (.inr ⟨rfl, wd_1227, wd_1229, wd_43, ⟨_, rfl, pd_X11_isAsSeen⟩, 11, _, TX11, 16, rfl, rfl⟩)⟩
noncomputable def ct_1919 : CTB2 := [(1, 208, 0, con_900, [0, 1, 2, 3, 4, 5, 6, 7, 8, 9, 10, 11, 12, 13, 14, 15, 16, 17, 18, 19, 20, 21, 22, 23, 24, 25, 26]), (36, 332, 0, con_1212, [28, 2, 29, 4, 30, 5, 31, 6]), (45, 480, 0, con_859, [28, 29]), (73, 372, 0, con_899, [32, 3, 28, 16, 33, 18, 34, 30, 35, 29, 36, 22, 23, 37, 38, 39, 31]), (78, 483, 0, con_1918, [0, 40, 41, 42, 32, 33]), (105, 486, 0, con_1522, [27, 33, 43]), (105, 486, 0, con_1527, [27, 33, 43])]
noncomputable def gi_1690 : GI := jl_n [gp_630, gp_589, gp_633]
noncomputable def cu_1919 : List CUT2 := [((14, [lq 0 6 0, lq 1 0 0, lq 2 1 2, lq 3 1 204], [], gi_1690, hq_906), rq_6, ([(204, (-1))], 5))]
theorem ch_1919 : staG tb_X11_guessAll 1 bt_RX11 [] ct_1919 [] [] cu_1919 48 con_1919 = true := by decide +kernel
theorem cc_1919 : cu_1919.all (cutG tb_X11_guessAll 1 bt_RX11 [] ct_1919 [] [] cu_1919 48 con_1919) = true := by decide +kernel
theorem cto_1919 (l : Launch) : CTOK2 l RX11 vwCl gTbl ct_1919 := ct2_cons (vl_900 l) ck_RX11_208_900 (ct2_cons (vl_1212 l) ck_RX11_332_1212 (ct2_cons (vl_859 l) ck_RX11_480_859 (ct2_cons (vl_899 l) ck_RX11_372_899 (ct2_cons (vl_1918 l) ck_RX11_483_1918 (ct2_cons (vl_1522 l) ck_RX11_486_1522 (ct2_cons (vl_1527 l) ck_RX11_486_1527 (ct2_nil)))))))
theorem vl_1919 (l : Launch) : Vld2 l vwCl gTbl con_1919 := conR_ok3 gT_all (hd_1919) rfl pn_RX11 tk_X11_guessAll bo_RX11 xo_RX11 (cto_1919 l) ch_1919 (cut_all cc_1919)
/-- RookHusting isAsSeen -/
noncomputable def gi_1691 : GI := jl_n [gp_715, jl_z 9]
noncomputable def gi_1692 : GI := jl_n [gp_715, jl_z 10]
noncomputable def con_1920 : Con2 := ((yX11_isAsSeen, cX11_isAsSeen, 4, (some .boolean)), (1, 22), ([(6, 0, 0), (0, 0, 0)], gi_1691, hc_209, []), [((0, 0, 0), gi_1692, hq_904, [], [1]), ((0, 1, 0), gi_1692, hq_904, [], [1])])
theorem hd_1920 : con_1920.1 = (yX11_isAsSeen, cX11_isAsSeen, 4, (some .boolean)) := rfl
noncomputable def ct_1920 : CTB2 := [(21, 473, 0, con_1838, [1, 3]), (21, 473, 0, con_1835, [1, 3]), (21, 473, 0, con_1830, [1, 3]), (21, 473, 0, con_1827, [1, 3]), (21, 473, 0, con_1824, [1, 3]), (36, 473, 0, con_1839, [1, 3]), (36, 473, 0, con_1836, [1, 3]), (36, 473, 0, con_1831, [1, 3]), (36, 473, 0, con_1828, [1, 3]), (36, 473, 0, con_1825, [1, 3]), (60, 473, 0, con_1840, [1, 3]), (60, 473, 0, con_1837, [1, 3]), (60, 473, 0, con_1832, [1, 3]), (60, 473, 0, con_1829, [1, 3]), (60, 473, 0, con_1826, [1, 3])]
noncomputable def gi_1693 : GI := jl_n [gp_715, jl_z 12]
noncomputable def gi_1694 : GI := jl_n [gp_715, gp_628]
noncomputable def cu_1920 : List CUT2 := [((2, [lq 0 6 0, lq 1 0 0, lq 2 0 0], [], gi_1693, hq_904), [], ([], 15)), ((2, [lq 0 6 0, lq 1 0 0, lq 2 0 3, lq 3 1 97], [], gi_1694, hq_904), [], ([], 12)), ((2, [lq 0 6 0, lq 1 0 0, lq 2 0 6, lq 3 1 97], [], gi_1694, hq_904), [], ([], 9)), ((2, [lq 0 6 0, lq 1 0 0, lq 2 0 9, lq 3 1 97], [], gi_1694, hq_904), [], ([], 6)), ((2, [lq 0 6 0, lq 1 0 0, lq 2 0 12, lq 3 1 97], [], gi_1694, hq_904), [], ([], 3)), ((2, [lq 0 6 0, lq 1 0 0, lq 2 0 15, lq 3 1 97], [], gi_1694, hq_904), [], ([], 0))]
theorem ch_1920 : staG tb_X11_isAsSeen 1 bt_RX11 [] ct_1920 [] [] cu_1920 44 con_1920 = true := by decide +kernel
theorem cc_1920 : cu_1920.all (cutG tb_X11_isAsSeen 1 bt_RX11 [] ct_1920 [] [] cu_1920 44 con_1920) = true := by decide +kernel
theorem cto_1920 (l : Launch) : CTOK2 l RX11 vwCl gTbl ct_1920 := ct2_cons (vl_1838 l) ck_RX11_473_1838 (ct2_cons (vl_1835 l) ck_RX11_473_1835 (ct2_cons (vl_1830 l) ck_RX11_473_1830 (ct2_cons (vl_1827 l) ck_RX11_473_1827 (ct2_cons (vl_1824 l) ck_RX11_473_1824 (ct2_cons (vl_1839 l) ck_RX11_473_1839 (ct2_cons (vl_1836 l) ck_RX11_473_1836 (ct2_cons (vl_1831 l) ck_RX11_473_1831 (ct2_cons (vl_1828 l) ck_RX11_473_1828 (ct2_cons (vl_1825 l) ck_RX11_473_1825 (ct2_cons (vl_1840 l) ck_RX11_473_1840 (ct2_cons (vl_1837 l) ck_RX11_473_1837 (ct2_cons (vl_1832 l) ck_RX11_473_1832 (ct2_cons (vl_1829 l) ck_RX11_473_1829 (ct2_cons (vl_1826 l) ck_RX11_473_1826 (ct2_nil)))))))))))))))
theorem vl_1920 (l : Launch) : Vld2 l vwCl gTbl con_1920 := conR_ok3 gT_all (hd_1920) rfl pn_RX11 tk_X11_isAsSeen bo_RX11 xo_RX11 (cto_1920 l) ch_1920 (cut_all cc_1920)
/-- RookHusting guessAll -/
noncomputable def gi_1695 : GI := jl_n [gp_630, gp_587]
noncomputable def gi_1696 : GI := jl_n [gp_630, gp_587, gp_632]
noncomputable def con_1921 : Con2 := ((yX11_guessAll, cX11_guessAll, 4, none), (6, 151), ([(6, 0, 0), (0, 0, 0), (1, 2, 0)], gi_1695, hc_210, rq_6), [((9, 0, 0), gi_1696, hq_905, [], tg_1)])
theorem hd_1921 : con_1921.1 = (yX11_guessAll, cX11_guessAll, 4, none) := rfl
theorem ck_RX11_483_1920 : COK2 RX11 vwCl gTbl 483 0 con_1920 := ⟨wd_1230, wd_125, mh_X11_isAsSeen, .inr (.inr ⟨rfl, wd_1227, wd_1229, wd_43, ⟨_, rfl, pd_X11_isAsSeen⟩, 11, _, TX11, 16, rfl, rfl⟩)⟩
noncomputable def ct_1921 : CTB2 := [(1, 208, 0, con_900, [0, 1, 2, 3, 4, 5, 6, 7, 8, 9, 10, 11, 12, 13, 14, 15, 16, 17, 18, 19, 20, 21, 22, 23, 24, 25, 26]), (36, 332, 0, con_1212, [28, 2, 29, 4, 30, 5, 31, 6]), (45, 480, 0, con_859, [28, 29]), (73, 372, 0, con_899, [32, 3, 28, 16, 33, 18, 34, 30, 35, 29, 36, 22, 23, 37, 38, 39, 31]), (78, 483, 0, con_1920, [0, 40, 41, 42, 32, 33]), (105, 486, 0, con_1522, [27, 33, 43]), (105, 486, 0, con_1527, [27, 33, 43])]
noncomputable def gi_1697 : GI := jl_n [gp_630, gp_587, gp_633]
noncomputable def cu_1921 : List CUT2 := [((14, [lq 0 6 0, lq 1 0 0, lq 2 1 2, lq 3 1 204], [], gi_1697, hq_906), rq_6, ([(204, (-1))], 5))]
theorem ch_1921 : staG tb_X11_guessAll 1 bt_RX11 [] ct_1921 [] [] cu_1921 48 con_1921 = true := by decide +kernel
theorem cc_1921 : cu_1921.all (cutG tb_X11_guessAll 1 bt_RX11 [] ct_1921 [] [] cu_1921 48 con_1921) = true := by decide +kernel
theorem cto_1921 (l : Launch) : CTOK2 l RX11 vwCl gTbl ct_1921 := ct2_cons (vl_900 l) ck_RX11_208_900 (ct2_cons (vl_1212 l) ck_RX11_332_1212 (ct2_cons (vl_859 l) ck_RX11_480_859 (ct2_cons (vl_899 l) ck_RX11_372_899 (ct2_cons (vl_1920 l) ck_RX11_483_1920 (ct2_cons (vl_1522 l) ck_RX11_486_1522 (ct2_cons (vl_1527 l) ck_RX11_486_1527 (ct2_nil)))))))
theorem vl_1921 (l : Launch) : Vld2 l vwCl gTbl con_1921 := conR_ok3 gT_all (hd_1921) rfl pn_RX11 tk_X11_guessAll bo_RX11 xo_RX11 (cto_1921 l) ch_1921 (cut_all cc_1921)
/-- RookHusting isAsSeen -/
noncomputable def gi_1698 : GI := jl_n [gp_716, jl_z 9]
noncomputable def gi_1699 : GI := jl_n [gp_716, jl_z 10]
noncomputable def con_1922 : Con2 := ((yX11_isAsSeen, cX11_isAsSeen, 4, (some .boolean)), (1, 22), ([(6, 0, 0), (0, 0, 0)], gi_1698, hc_209, []), [((0, 0, 0), gi_1699, hq_904, [], [1]), ((0, 1, 0), gi_1699, hq_904, [], [1])])
theorem hd_1922 : con_1922.1 = (yX11_isAsSeen, cX11_isAsSeen, 4, (some .boolean)) := rfl
noncomputable def ct_1922 : CTB2 := [(21, 473, 0, con_1835, [1, 3]), (21, 473, 0, con_1830, [1, 3]), (21, 473, 0, con_1827, [1, 3]), (21, 473, 0, con_1824, [1, 3]), (36, 473, 0, con_1836, [1, 3]), (36, 473, 0, con_1831, [1, 3]), (36, 473, 0, con_1828, [1, 3]), (36, 473, 0, con_1825, [1, 3]), (60, 473, 0, con_1837, [1, 3]), (60, 473, 0, con_1832, [1, 3]), (60, 473, 0, con_1829, [1, 3]), (60, 473, 0, con_1826, [1, 3])]
noncomputable def gi_1700 : GI := jl_n [gp_716, jl_z 12]
noncomputable def gi_1701 : GI := jl_n [gp_716, gp_628]
noncomputable def cu_1922 : List CUT2 := [((2, [lq 0 6 0, lq 1 0 0, lq 2 0 0], [], gi_1700, hq_904), [], ([], 12)), ((2, [lq 0 6 0, lq 1 0 0, lq 2 0 3, lq 3 1 97], [], gi_1701, hq_904), [], ([], 9)), ((2, [lq 0 6 0, lq 1 0 0, lq 2 0 6, lq 3 1 97], [], gi_1701, hq_904), [], ([], 6)), ((2, [lq 0 6 0, lq 1 0 0, lq 2 0 9, lq 3 1 97], [], gi_1701, hq_904), [], ([], 3)), ((2, [lq 0 6 0, lq 1 0 0, lq 2 0 12, lq 3 1 97], [], gi_1701, hq_904), [], ([], 0))]
theorem ch_1922 : staG tb_X11_isAsSeen 1 bt_RX11 [] ct_1922 [] [] cu_1922 44 con_1922 = true := by decide +kernel
theorem cc_1922 : cu_1922.all (cutG tb_X11_isAsSeen 1 bt_RX11 [] ct_1922 [] [] cu_1922 44 con_1922) = true := by decide +kernel
theorem cto_1922 (l : Launch) : CTOK2 l RX11 vwCl gTbl ct_1922 := ct2_cons (vl_1835 l) ck_RX11_473_1835 (ct2_cons (vl_1830 l) ck_RX11_473_1830 (ct2_cons (vl_1827 l) ck_RX11_473_1827 (ct2_cons (vl_1824 l) ck_RX11_473_1824 (ct2_cons (vl_1836 l) ck_RX11_473_1836 (ct2_cons (vl_1831 l) ck_RX11_473_1831 (ct2_cons (vl_1828 l) ck_RX11_473_1828 (ct2_cons (vl_1825 l) ck_RX11_473_1825 (ct2_cons (vl_1837 l) ck_RX11_473_1837 (ct2_cons (vl_1832 l) ck_RX11_473_1832 (ct2_cons (vl_1829 l) ck_RX11_473_1829 (ct2_cons (vl_1826 l) ck_RX11_473_1826 (ct2_nil))))))))))))
theorem vl_1922 (l : Launch) : Vld2 l vwCl gTbl con_1922 := conR_ok3 gT_all (hd_1922) rfl pn_RX11 tk_X11_isAsSeen bo_RX11 xo_RX11 (cto_1922 l) ch_1922 (cut_all cc_1922)
/-- RookHusting guessAll -/
noncomputable def gi_1702 : GI := jl_n [gp_630, gp_585]
noncomputable def gi_1703 : GI := jl_n [gp_630, gp_585, gp_632]
noncomputable def con_1923 : Con2 := ((yX11_guessAll, cX11_guessAll, 4, none), (6, 151), ([(6, 0, 0), (0, 0, 0), (1, 2, 0)], gi_1702, hc_210, rq_6), [((9, 0, 0), gi_1703, hq_905, [], tg_1)])
theorem hd_1923 : con_1923.1 = (yX11_guessAll, cX11_guessAll, 4, none) := rfl
theorem ck_RX11_483_1922 : COK2 RX11 vwCl gTbl 483 0 con_1922 := ⟨wd_1230, wd_125, mh_X11_isAsSeen, .inr (.inr ⟨rfl, wd_1227, wd_1229, wd_43, ⟨_, rfl, pd_X11_isAsSeen⟩, 11, _, TX11, 16, rfl, rfl⟩)⟩
noncomputable def ct_1923 : CTB2 := [(1, 208, 0, con_900, [0, 1, 2, 3, 4, 5, 6, 7, 8, 9, 10, 11, 12, 13, 14, 15, 16, 17, 18, 19, 20, 21, 22, 23, 24, 25, 26]), (36, 332, 0, con_1212, [28, 2, 29, 4, 30, 5, 31, 6]), (45, 480, 0, con_859, [28, 29]), (73, 372, 0, con_899, [32, 3, 28, 16, 33, 18, 34, 30, 35, 29, 36, 22, 23, 37, 38, 39, 31]), (78, 483, 0, con_1922, [0, 40, 41, 42, 32, 33]), (105, 486, 0, con_1522, [27, 33, 43]), (105, 486, 0, con_1527, [27, 33, 43])]
noncomputable def gi_1704 : GI := jl_n [gp_630, gp_585, gp_633]
noncomputable def cu_1923 : List CUT2 := [((14, [lq 0 6 0, lq 1 0 0, lq 2 1 2, lq 3 1 204], [], gi_1704, hq_906), rq_6, ([(204, (-1))], 5))]
theorem ch_1923 : staG tb_X11_guessAll 1 bt_RX11 [] ct_1923 [] [] cu_1923 48 con_1923 = true := by decide +kernel
theorem cc_1923 : cu_1923.all (cutG tb_X11_guessAll 1 bt_RX11 [] ct_1923 [] [] cu_1923 48 con_1923) = true := by decide +kernel
theorem cto_1923 (l : Launch) : CTOK2 l RX11 vwCl gTbl ct_1923 := ct2_cons (vl_900 l) ck_RX11_208_900 (ct2_cons (vl_1212 l) ck_RX11_332_1212 (ct2_cons (vl_859 l) ck_RX11_480_859 (ct2_cons (vl_899 l) ck_RX11_372_899 (ct2_cons (vl_1922 l) ck_RX11_483_1922 (ct2_cons (vl_1522 l) ck_RX11_486_1522 (ct2_cons (vl_1527 l) ck_RX11_486_1527 (ct2_nil)))))))
theorem vl_1923 (l : Launch) : Vld2 l vwCl gTbl con_1923 := conR_ok3 gT_all (hd_1923) rfl pn_RX11 tk_X11_guessAll bo_RX11 xo_RX11 (cto_1923 l) ch_1923 (cut_all cc_1923)
/-- RookHusting isAsSeen -/
noncomputable def gi_1705 : GI := jl_n [jl_z 22, gp_582, jl_z 9]
noncomputable def ac_1083 : AC := .inr (1, jl_n [jl_x (1, (0, 0, 0)), js_1 25 3])
noncomputable def hc_211 : List AC := [ac_1053, .inl (8, [(6, 3, 0), (8, 19, 0), (6, 2, 0)]), ac_1083, ac_1081, ac_1056, am_0]
noncomputable def gi_1706 : GI := jl_n [jl_z 22, gp_582, jl_z 10]
noncomputable def hq_907 : HP := [(false, ac_1053), (false, .inl (8, [(6, 3, 0), (8, 19, 0), (6, 2, 0)])), (false, ac_1083), (false, ac_1081), (false, ac_1056), (false, am_0)]
noncomputable def con_1924 : Con2 := ((yX11_isAsSeen, cX11_isAsSeen, 4, (some .boolean)), (0, 0), ([(6, 0, 0), (0, 0, 0)], gi_1705, hc_211, []), [((0, 1, 0), gi_1706, hq_907, [], [1])])
theorem hd_1924 : con_1924.1 = (yX11_isAsSeen, cX11_isAsSeen, 4, (some .boolean)) := rfl
noncomputable def gi_1707 : GI := jl_n [jl_z 22, gp_582, jl_z 12]
noncomputable def cu_1924 : List CUT2 := [((2, [lq 0 6 0, lq 1 0 0, lq 2 0 0], [], gi_1707, hq_907), [], ([], 0))]
theorem ch_1924 : staG tb_X11_isAsSeen 1 bt_RX11 [] ct_3 [] [] cu_1924 11 con_1924 = true := by decide +kernel
theorem cc_1924 : cu_1924.all (cutG tb_X11_isAsSeen 1 bt_RX11 [] ct_3 [] [] cu_1924 11 con_1924) = true := by decide +kernel
theorem vl_1924 (l : Launch) : Vld2 l vwCl gTbl con_1924 := conR_ok3 gT_all (hd_1924) rfl pn_RX11 tk_X11_isAsSeen bo_RX11 xo_RX11 (cto_3 l) ch_1924 (cut_all cc_1924)
/-- RookHusting guessAll -/
noncomputable def gi_1708 : GI := jl_n [gp_369, gp_629, jl_z 4, gp_582]
noncomputable def ac_1084 : AC := .inr (1, jl_n [jl_x (1, (0, 0, 0)), js_1 141 3])
noncomputable def hc_212 : List AC := [ac_1057, .inl (9, [(6, 3, 0), (6, 11, 0)]), .inl (7, [(6, 4, 0), (6, 5, 0), (6, 6, 0), (1, 24, 0)]), ac_1058, am_3, am_1, am_1, am_1, .inl (1, [(6, 3, 0), (8, 43, 0)]), am_5, am_7, .inl (0, [(1, 44, 0), (6, 12, 0), (6, 13, 0), (6, 14, 0)]), ac_642, am_12, ac_643, ac_1059, am_4, am_0, am_11, am_0, am_1, am_0, am_4, am_10, am_0, am_0, am_9, ac_1060, .inl (7, [(6, 29, 0), (6, 30, 0), (6, 31, 0), (1, 124, 0)]), am_3, am_1, am_1, ac_1061, am_0, am_0, am_1, am_0, am_0, am_0, am_9, .inl (8, [(6, 42, 0), (8, 135, 0), (6, 41, 0)]), ac_1084, ac_1082, am_16]
noncomputable def gi_1709 : GI := jl_n [gp_369, gp_629, jl_z 4, gp_582, gp_632]
noncomputable def hq_908 : HP := [(true, ac_1064), (false, .inl (9, [(6, 3, 0), (6, 11, 0)])), (true, .inl (7, [(6, 4, 0), (6, 5, 0), (6, 6, 0), (1, 220, 0)])), (false, ac_1058), (true, am_3), (true, am_1), (true, am_1), (false, am_1), (false, .inl (1, [(6, 3, 0), (8, 43, 0)])), (false, am_5), (false, am_7), (false, .inl (0, [(1, 44, 0), (6, 12, 0), (6, 13, 0), (6, 14, 0)])), (false, ac_642), (false, am_12), (false, ac_643), (true, ac_1065), (false, am_4), (true, am_0), (false, am_11), (true, am_0), (true, am_1), (true, am_0), (false, am_4), (false, am_10), (true, am_0), (true, am_0), (true, am_9), (true, ac_1066), (true, .inl (7, [(6, 29, 0), (6, 30, 0), (6, 31, 0), (1, 237, 0)])), (true, am_3), (true, am_1), (true, am_1), (true, ac_1067), (true, am_0), (true, am_0), (true, am_1), (true, am_0), (true, am_0), (true, am_0), (true, am_9), (false, .inl (8, [(6, 42, 0), (8, 135, 0), (6, 41, 0)])), (false, ac_1084), (false, ac_1082), (true, am_16)]
noncomputable def con_1925 : Con2 := ((yX11_guessAll, cX11_guessAll, 4, none), (6, 151), ([(6, 0, 0), (0, 0, 0), (1, 2, 0)], gi_1708, hc_212, rq_6), [((9, 0, 0), gi_1709, hq_908, [], tg_1)])
theorem hd_1925 : con_1925.1 = (yX11_guessAll, cX11_guessAll, 4, none) := rfl
theorem ck_RX11_483_1924 : COK2 RX11 vwCl gTbl 483 0 con_1924 := ⟨wd_1230, wd_125, mh_X11_isAsSeen, .inr (.inr ⟨rfl, wd_1227, wd_1229, wd_43, ⟨_, rfl, pd_X11_isAsSeen⟩, 11, _, TX11, 16, rfl, rfl⟩)⟩
noncomputable def ct_1925 : CTB2 := [(1, 208, 0, con_900, [0, 1, 2, 3, 4, 5, 6, 7, 8, 9, 10, 11, 12, 13, 14, 15, 16, 17, 18, 19, 20, 21, 22, 23, 24, 25, 26]), (36, 332, 0, con_1212, [28, 2, 29, 4, 30, 5, 31, 6]), (45, 480, 0, con_859, [28, 29]), (73, 372, 0, con_899, [32, 3, 28, 16, 33, 18, 34, 30, 35, 29, 36, 22, 23, 37, 38, 39, 31]), (78, 483, 0, con_1924, [0, 40, 41, 42, 32, 33]), (105, 486, 0, con_1522, [27, 33, 43]), (105, 486, 0, con_1527, [27, 33, 43])]
noncomputable def gi_1710 : GI := jl_n [gp_369, gp_629, jl_z 4, gp_582, gp_633]
noncomputable def hq_909 : HP := [(true, ac_1064), (false, .inl (9, [(6, 3, 0), (6, 11, 0)])), (true, .inl (7, [(6, 4, 0), (6, 5, 0), (6, 6, 0), (1, 224, 0)])), (false, ac_1058), (true, am_3), (true, am_1), (true, am_1), (false, am_1), (false, .inl (1, [(6, 3, 0), (8, 43, 0)])), (false, am_5), (false, am_7), (false, .inl (0, [(1, 44, 0), (6, 12, 0), (6, 13, 0), (6, 14, 0)])), (false, ac_642), (false, am_12), (false, ac_643), (true, ac_1068), (false, am_4), (true, am_0), (false, am_11), (true, am_0), (true, am_1), (true, am_0), (false, am_4), (false, am_10), (true, am_0), (true, am_0), (true, am_9), (true, ac_1069), (true, .inl (7, [(6, 29, 0), (6, 30, 0), (6, 31, 0), (1, 241, 0)])), (true, am_3), (true, am_1), (true, am_1), (true, ac_1070), (true, am_0), (true, am_0), (true, am_1), (true, am_0), (true, am_0), (true, am_0), (true, am_9), (false, .inl (8, [(6, 42, 0), (8, 135, 0), (6, 41, 0)])), (false, ac_1084), (false, ac_1082), (true, am_16)]
noncomputable def cu_1925 : List CUT2 := [((14, [lq 0 6 0, lq 1 0 0, lq 2 1 2, lq 3 1 204], [], gi_1710, hq_909), rq_6, ([(204, (-1))], 5))]
theorem ch_1925 : staG tb_X11_guessAll 1 bt_RX11 [] ct_1925 [] [] cu_1925 48 con_1925 = true := by decide +kernel
theorem cc_1925 : cu_1925.all (cutG tb_X11_guessAll 1 bt_RX11 [] ct_1925 [] [] cu_1925 48 con_1925) = true := by decide +kernel
theorem cto_1925 (l : Launch) : CTOK2 l RX11 vwCl gTbl ct_1925 := ct2_cons (vl_900 l) ck_RX11_208_900 (ct2_cons (vl_1212 l) ck_RX11_332_1212 (ct2_cons (vl_859 l) ck_RX11_480_859 (ct2_cons (vl_899 l) ck_RX11_372_899 (ct2_cons (vl_1924 l) ck_RX11_483_1924 (ct2_cons (vl_1522 l) ck_RX11_486_1522 (ct2_cons (vl_1527 l) ck_RX11_486_1527 (ct2_nil)))))))
theorem vl_1925 (l : Launch) : Vld2 l vwCl gTbl con_1925 := conR_ok3 gT_all (hd_1925) rfl pn_RX11 tk_X11_guessAll bo_RX11 xo_RX11 (cto_1925 l) ch_1925 (cut_all cc_1925)
