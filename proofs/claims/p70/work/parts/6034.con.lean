/-! ===== contracts, 34 ===== -/
/-- RookHusting isAsSeen -/
noncomputable def gi_1354 : GI := jl_n [gp_657, jl_z 9]
noncomputable def gi_1355 : GI := jl_n [gp_657, jl_z 10]
noncomputable def con_1948 : Con2 := ((yX11_isAsSeen, cX11_isAsSeen, 4, (some .boolean)), (1, 22), ([(6, 0, 0), (0, 2, 0)], gi_1354, hc_201, []), [((0, 0, 0), gi_1355, hq_892, [], [1]), ((0, 1, 0), gi_1355, hq_892, [], [1])])
theorem hd_1948 : con_1948.1 = (yX11_isAsSeen, cX11_isAsSeen, 4, (some .boolean)) := rfl
noncomputable def ct_1948 : CTB2 := [(21, 473, 0, con_1893, [1, 3]), (21, 473, 0, con_1890, [1, 3]), (21, 473, 0, con_1887, [1, 3]), (21, 473, 0, con_1884, [1, 3]), (21, 473, 0, con_1881, [1, 3]), (21, 473, 0, con_1878, [1, 3]), (21, 473, 0, con_1875, [1, 3]), (21, 473, 0, con_1870, [1, 3]), (21, 473, 0, con_1867, [1, 3]), (21, 473, 0, con_1864, [1, 3]), (36, 473, 0, con_1894, [1, 3]), (36, 473, 0, con_1891, [1, 3]), (36, 473, 0, con_1888, [1, 3]), (36, 473, 0, con_1885, [1, 3]), (36, 473, 0, con_1882, [1, 3]), (36, 473, 0, con_1879, [1, 3]), (36, 473, 0, con_1876, [1, 3]), (36, 473, 0, con_1871, [1, 3]), (36, 473, 0, con_1868, [1, 3]), (36, 473, 0, con_1865, [1, 3]), (60, 473, 0, con_1895, [1, 3]), (60, 473, 0, con_1892, [1, 3]), (60, 473, 0, con_1889, [1, 3]), (60, 473, 0, con_1886, [1, 3]), (60, 473, 0, con_1883, [1, 3]), (60, 473, 0, con_1880, [1, 3]), (60, 473, 0, con_1877, [1, 3]), (60, 473, 0, con_1872, [1, 3]), (60, 473, 0, con_1869, [1, 3]), (60, 473, 0, con_1866, [1, 3])]
noncomputable def gi_1356 : GI := jl_n [gp_657, jl_z 12]
noncomputable def gi_1357 : GI := jl_n [gp_657, gp_618]
noncomputable def cu_1948 : List CUT2 := [((2, [lq 0 6 0, lq 1 0 2, lq 2 0 0], [], gi_1356, hq_892), [], ([], 30)), ((2, [lq 0 6 0, lq 1 0 2, lq 2 0 3, lq 3 1 97], [], gi_1357, hq_892), [], ([], 27)), ((2, [lq 0 6 0, lq 1 0 2, lq 2 0 6, lq 3 1 97], [], gi_1357, hq_892), [], ([], 24)), ((2, [lq 0 6 0, lq 1 0 2, lq 2 0 9, lq 3 1 97], [], gi_1357, hq_892), [], ([], 21)), ((2, [lq 0 6 0, lq 1 0 2, lq 2 0 12, lq 3 1 97], [], gi_1357, hq_892), [], ([], 18)), ((2, [lq 0 6 0, lq 1 0 2, lq 2 0 15, lq 3 1 97], [], gi_1357, hq_892), [], ([], 15)), ((2, [lq 0 6 0, lq 1 0 2, lq 2 0 18, lq 3 1 97], [], gi_1357, hq_892), [], ([], 12)), ((2, [lq 0 6 0, lq 1 0 2, lq 2 0 21, lq 3 1 97], [], gi_1357, hq_892), [], ([], 9)), ((2, [lq 0 6 0, lq 1 0 2, lq 2 0 24, lq 3 1 97], [], gi_1357, hq_892), [], ([], 6)), ((2, [lq 0 6 0, lq 1 0 2, lq 2 0 27, lq 3 1 97], [], gi_1357, hq_892), [], ([], 3)), ((2, [lq 0 6 0, lq 1 0 2, lq 2 0 30, lq 3 1 97], [], gi_1357, hq_892), [], ([], 0))]
theorem ch_1948 : staG tb_X11_isAsSeen 1 bt_RX11 [] ct_1948 [] [] cu_1948 44 con_1948 = true := by decide +kernel
theorem cc_1948 : cu_1948.all (cutG tb_X11_isAsSeen 1 bt_RX11 [] ct_1948 [] [] cu_1948 44 con_1948) = true := by decide +kernel
theorem cto_1948 (l : Launch) : CTOK2 l RX11 vwCl gTbl ct_1948 := ct2_cons (vl_1893 l) ck_RX11_473_1893 (ct2_cons (vl_1890 l) ck_RX11_473_1890 (ct2_cons (vl_1887 l) ck_RX11_473_1887 (ct2_cons (vl_1884 l) ck_RX11_473_1884 (ct2_cons (vl_1881 l) ck_RX11_473_1881 (ct2_cons (vl_1878 l) ck_RX11_473_1878 (ct2_cons (vl_1875 l) ck_RX11_473_1875 (ct2_cons (vl_1870 l) ck_RX11_473_1870 (ct2_cons (vl_1867 l) ck_RX11_473_1867 (ct2_cons (vl_1864 l) ck_RX11_473_1864 (ct2_cons (vl_1894 l) ck_RX11_473_1894 (ct2_cons (vl_1891 l) ck_RX11_473_1891 (ct2_cons (vl_1888 l) ck_RX11_473_1888 (ct2_cons (vl_1885 l) ck_RX11_473_1885 (ct2_cons (vl_1882 l) ck_RX11_473_1882 (ct2_cons (vl_1879 l) ck_RX11_473_1879 (ct2_cons (vl_1876 l) ck_RX11_473_1876 (ct2_cons (vl_1871 l) ck_RX11_473_1871 (ct2_cons (vl_1868 l) ck_RX11_473_1868 (ct2_cons (vl_1865 l) ck_RX11_473_1865 (ct2_cons (vl_1895 l) ck_RX11_473_1895 (ct2_cons (vl_1892 l) ck_RX11_473_1892 (ct2_cons (vl_1889 l) ck_RX11_473_1889 (ct2_cons (vl_1886 l) ck_RX11_473_1886 (ct2_cons (vl_1883 l) ck_RX11_473_1883 (ct2_cons (vl_1880 l) ck_RX11_473_1880 (ct2_cons (vl_1877 l) ck_RX11_473_1877 (ct2_cons (vl_1872 l) ck_RX11_473_1872 (ct2_cons (vl_1869 l) ck_RX11_473_1869 (ct2_cons (vl_1866 l) ck_RX11_473_1866 (ct2_nil))))))))))))))))))))))))))))))
theorem vl_1948 (l : Launch) : Vld2 l vwCl gTbl con_1948 := conR_ok3 gT_all (hd_1948) rfl pn_RX11 tk_X11_isAsSeen bo_RX11 xo_RX11 (cto_1948 l) ch_1948 (cut_all cc_1948)
/-- RookHusting guessAll -/
noncomputable def gi_1358 : GI := jl_n [gp_645, gp_504]
noncomputable def gi_1359 : GI := jl_n [gp_645, gp_504, gp_622]
noncomputable def con_1949 : Con2 := ((yX11_guessAll, cX11_guessAll, 4, none), (6, 151), ([(6, 0, 0), (0, 2, 0), (1, 2, 0)], gi_1358, hc_202, rq_6), [((9, 0, 0), gi_1359, hq_893, [], tg_1)])
theorem hd_1949 : con_1949.1 = (yX11_guessAll, cX11_guessAll, 4, none) := rfl
theorem ck_RX11_483_1948 : COK2 RX11 vwCl gTbl 483 0 con_1948 := ⟨wd_1230, wd_125, mh_X11_isAsSeen, .inr (.inr ⟨rfl, wd_1227, wd_1229, wd_43, ⟨_, rfl, pd_X11_isAsSeen⟩, 11, _, TX11, 16, rfl, rfl⟩)⟩
noncomputable def ct_1949 : CTB2 := [(1, 208, 0, con_929, [0, 1, 2, 3, 4, 5, 6, 7, 8, 9, 10, 11, 12, 13, 14, 15, 16, 17, 18, 19, 20, 21, 22, 23, 24, 25, 26]), (36, 332, 0, con_1456, [28, 2, 29, 4, 30, 5, 31, 6]), (45, 480, 0, con_869, [28, 29]), (73, 372, 0, con_928, [32, 3, 28, 16, 33, 18, 34, 30, 35, 29, 36, 22, 23, 37, 38, 39, 31]), (78, 483, 0, con_1948, [0, 40, 41, 42, 32, 33]), (105, 486, 0, con_1766, [27, 33, 43]), (105, 486, 0, con_1771, [27, 33, 43])]
noncomputable def gi_1360 : GI := jl_n [gp_645, gp_504, gp_623]
noncomputable def cu_1949 : List CUT2 := [((14, [lq 0 6 0, lq 1 0 2, lq 2 1 2, lq 3 1 204], [], gi_1360, hq_894), rq_6, ([(204, (-1))], 5))]
theorem ch_1949 : staG tb_X11_guessAll 1 bt_RX11 [] ct_1949 [] [] cu_1949 48 con_1949 = true := by decide +kernel
theorem cc_1949 : cu_1949.all (cutG tb_X11_guessAll 1 bt_RX11 [] ct_1949 [] [] cu_1949 48 con_1949) = true := by decide +kernel
theorem cto_1949 (l : Launch) : CTOK2 l RX11 vwCl gTbl ct_1949 := ct2_cons (vl_929 l) ck_RX11_208_929 (ct2_cons (vl_1456 l) ck_RX11_332_1456 (ct2_cons (vl_869 l) ck_RX11_480_869 (ct2_cons (vl_928 l) ck_RX11_372_928 (ct2_cons (vl_1948 l) ck_RX11_483_1948 (ct2_cons (vl_1766 l) ck_RX11_486_1766 (ct2_cons (vl_1771 l) ck_RX11_486_1771 (ct2_nil)))))))
theorem vl_1949 (l : Launch) : Vld2 l vwCl gTbl con_1949 := conR_ok3 gT_all (hd_1949) rfl pn_RX11 tk_X11_guessAll bo_RX11 xo_RX11 (cto_1949 l) ch_1949 (cut_all cc_1949)
/-- RookHusting isAsSeen -/
noncomputable def gi_1361 : GI := jl_n [gp_658, jl_z 9]
noncomputable def gi_1362 : GI := jl_n [gp_658, jl_z 10]
noncomputable def con_1950 : Con2 := ((yX11_isAsSeen, cX11_isAsSeen, 4, (some .boolean)), (1, 22), ([(6, 0, 0), (0, 2, 0)], gi_1361, hc_201, []), [((0, 0, 0), gi_1362, hq_892, [], [1]), ((0, 1, 0), gi_1362, hq_892, [], [1])])
theorem hd_1950 : con_1950.1 = (yX11_isAsSeen, cX11_isAsSeen, 4, (some .boolean)) := rfl
noncomputable def ct_1950 : CTB2 := [(21, 473, 0, con_1864, [1, 3]), (36, 473, 0, con_1865, [1, 3]), (60, 473, 0, con_1866, [1, 3])]
noncomputable def gi_1363 : GI := jl_n [gp_658, jl_z 12]
noncomputable def gi_1364 : GI := jl_n [gp_658, gp_618]
noncomputable def cu_1950 : List CUT2 := [((2, [lq 0 6 0, lq 1 0 2, lq 2 0 0], [], gi_1363, hq_892), [], ([], 3)), ((2, [lq 0 6 0, lq 1 0 2, lq 2 0 3, lq 3 1 97], [], gi_1364, hq_892), [], ([], 0))]
theorem ch_1950 : staG tb_X11_isAsSeen 1 bt_RX11 [] ct_1950 [] [] cu_1950 44 con_1950 = true := by decide +kernel
theorem cc_1950 : cu_1950.all (cutG tb_X11_isAsSeen 1 bt_RX11 [] ct_1950 [] [] cu_1950 44 con_1950) = true := by decide +kernel
theorem cto_1950 (l : Launch) : CTOK2 l RX11 vwCl gTbl ct_1950 := ct2_cons (vl_1864 l) ck_RX11_473_1864 (ct2_cons (vl_1865 l) ck_RX11_473_1865 (ct2_cons (vl_1866 l) ck_RX11_473_1866 (ct2_nil)))
theorem vl_1950 (l : Launch) : Vld2 l vwCl gTbl con_1950 := conR_ok3 gT_all (hd_1950) rfl pn_RX11 tk_X11_isAsSeen bo_RX11 xo_RX11 (cto_1950 l) ch_1950 (cut_all cc_1950)
/-- RookHusting guessAll -/
noncomputable def gi_1365 : GI := jl_n [gp_645, gp_502]
noncomputable def gi_1366 : GI := jl_n [gp_645, gp_502, gp_622]
noncomputable def con_1951 : Con2 := ((yX11_guessAll, cX11_guessAll, 4, none), (6, 151), ([(6, 0, 0), (0, 2, 0), (1, 2, 0)], gi_1365, hc_202, rq_6), [((9, 0, 0), gi_1366, hq_893, [], tg_1)])
theorem hd_1951 : con_1951.1 = (yX11_guessAll, cX11_guessAll, 4, none) := rfl
theorem ck_RX11_483_1950 : COK2 RX11 vwCl gTbl 483 0 con_1950 := ⟨wd_1230, wd_125, mh_X11_isAsSeen, .inr (.inr ⟨rfl, wd_1227, wd_1229, wd_43, ⟨_, rfl, pd_X11_isAsSeen⟩, 11, _, TX11, 16, rfl, rfl⟩)⟩
noncomputable def ct_1951 : CTB2 := [(1, 208, 0, con_929, [0, 1, 2, 3, 4, 5, 6, 7, 8, 9, 10, 11, 12, 13, 14, 15, 16, 17, 18, 19, 20, 21, 22, 23, 24, 25, 26]), (36, 332, 0, con_1456, [28, 2, 29, 4, 30, 5, 31, 6]), (45, 480, 0, con_869, [28, 29]), (73, 372, 0, con_928, [32, 3, 28, 16, 33, 18, 34, 30, 35, 29, 36, 22, 23, 37, 38, 39, 31]), (78, 483, 0, con_1950, [0, 40, 41, 42, 32, 33]), (105, 486, 0, con_1766, [27, 33, 43]), (105, 486, 0, con_1771, [27, 33, 43])]
noncomputable def gi_1367 : GI := jl_n [gp_645, gp_502, gp_623]
noncomputable def cu_1951 : List CUT2 := [((14, [lq 0 6 0, lq 1 0 2, lq 2 1 2, lq 3 1 204], [], gi_1367, hq_894), rq_6, ([(204, (-1))], 5))]
theorem ch_1951 : staG tb_X11_guessAll 1 bt_RX11 [] ct_1951 [] [] cu_1951 48 con_1951 = true := by decide +kernel
theorem cc_1951 : cu_1951.all (cutG tb_X11_guessAll 1 bt_RX11 [] ct_1951 [] [] cu_1951 48 con_1951) = true := by decide +kernel
theorem cto_1951 (l : Launch) : CTOK2 l RX11 vwCl gTbl ct_1951 := ct2_cons (vl_929 l) ck_RX11_208_929 (ct2_cons (vl_1456 l) ck_RX11_332_1456 (ct2_cons (vl_869 l) ck_RX11_480_869 (ct2_cons (vl_928 l) ck_RX11_372_928 (ct2_cons (vl_1950 l) ck_RX11_483_1950 (ct2_cons (vl_1766 l) ck_RX11_486_1766 (ct2_cons (vl_1771 l) ck_RX11_486_1771 (ct2_nil)))))))
theorem vl_1951 (l : Launch) : Vld2 l vwCl gTbl con_1951 := conR_ok3 gT_all (hd_1951) rfl pn_RX11 tk_X11_guessAll bo_RX11 xo_RX11 (cto_1951 l) ch_1951 (cut_all cc_1951)
/-- RookHusting isAsSeen -/
noncomputable def gi_1368 : GI := jl_n [gp_659, jl_z 9]
noncomputable def gi_1369 : GI := jl_n [gp_659, jl_z 10]
noncomputable def con_1952 : Con2 := ((yX11_isAsSeen, cX11_isAsSeen, 4, (some .boolean)), (1, 22), ([(6, 0, 0), (0, 2, 0)], gi_1368, hc_201, []), [((0, 0, 0), gi_1369, hq_892, [], [1]), ((0, 1, 0), gi_1369, hq_892, [], [1])])
theorem hd_1952 : con_1952.1 = (yX11_isAsSeen, cX11_isAsSeen, 4, (some .boolean)) := rfl
noncomputable def ct_1952 : CTB2 := [(21, 473, 0, con_1890, [1, 3]), (21, 473, 0, con_1887, [1, 3]), (21, 473, 0, con_1884, [1, 3]), (21, 473, 0, con_1881, [1, 3]), (21, 473, 0, con_1878, [1, 3]), (21, 473, 0, con_1875, [1, 3]), (21, 473, 0, con_1870, [1, 3]), (21, 473, 0, con_1867, [1, 3]), (21, 473, 0, con_1864, [1, 3]), (36, 473, 0, con_1891, [1, 3]), (36, 473, 0, con_1888, [1, 3]), (36, 473, 0, con_1885, [1, 3]), (36, 473, 0, con_1882, [1, 3]), (36, 473, 0, con_1879, [1, 3]), (36, 473, 0, con_1876, [1, 3]), (36, 473, 0, con_1871, [1, 3]), (36, 473, 0, con_1868, [1, 3]), (36, 473, 0, con_1865, [1, 3]), (60, 473, 0, con_1892, [1, 3]), (60, 473, 0, con_1889, [1, 3]), (60, 473, 0, con_1886, [1, 3]), (60, 473, 0, con_1883, [1, 3]), (60, 473, 0, con_1880, [1, 3]), (60, 473, 0, con_1877, [1, 3]), (60, 473, 0, con_1872, [1, 3]), (60, 473, 0, con_1869, [1, 3]), (60, 473, 0, con_1866, [1, 3])]
noncomputable def gi_1370 : GI := jl_n [gp_659, jl_z 12]
noncomputable def gi_1371 : GI := jl_n [gp_659, gp_618]
noncomputable def cu_1952 : List CUT2 := [((2, [lq 0 6 0, lq 1 0 2, lq 2 0 0], [], gi_1370, hq_892), [], ([], 27)), ((2, [lq 0 6 0, lq 1 0 2, lq 2 0 3, lq 3 1 97], [], gi_1371, hq_892), [], ([], 24)), ((2, [lq 0 6 0, lq 1 0 2, lq 2 0 6, lq 3 1 97], [], gi_1371, hq_892), [], ([], 21)), ((2, [lq 0 6 0, lq 1 0 2, lq 2 0 9, lq 3 1 97], [], gi_1371, hq_892), [], ([], 18)), ((2, [lq 0 6 0, lq 1 0 2, lq 2 0 12, lq 3 1 97], [], gi_1371, hq_892), [], ([], 15)), ((2, [lq 0 6 0, lq 1 0 2, lq 2 0 15, lq 3 1 97], [], gi_1371, hq_892), [], ([], 12)), ((2, [lq 0 6 0, lq 1 0 2, lq 2 0 18, lq 3 1 97], [], gi_1371, hq_892), [], ([], 9)), ((2, [lq 0 6 0, lq 1 0 2, lq 2 0 21, lq 3 1 97], [], gi_1371, hq_892), [], ([], 6)), ((2, [lq 0 6 0, lq 1 0 2, lq 2 0 24, lq 3 1 97], [], gi_1371, hq_892), [], ([], 3)), ((2, [lq 0 6 0, lq 1 0 2, lq 2 0 27, lq 3 1 97], [], gi_1371, hq_892), [], ([], 0))]
theorem ch_1952 : staG tb_X11_isAsSeen 1 bt_RX11 [] ct_1952 [] [] cu_1952 44 con_1952 = true := by decide +kernel
theorem cc_1952 : cu_1952.all (cutG tb_X11_isAsSeen 1 bt_RX11 [] ct_1952 [] [] cu_1952 44 con_1952) = true := by decide +kernel
theorem cto_1952 (l : Launch) : CTOK2 l RX11 vwCl gTbl ct_1952 := ct2_cons (vl_1890 l) ck_RX11_473_1890 (ct2_cons (vl_1887 l) ck_RX11_473_1887 (ct2_cons (vl_1884 l) ck_RX11_473_1884 (ct2_cons (vl_1881 l) ck_RX11_473_1881 (ct2_cons (vl_1878 l) ck_RX11_473_1878 (ct2_cons (vl_1875 l) ck_RX11_473_1875 (ct2_cons (vl_1870 l) ck_RX11_473_1870 (ct2_cons (vl_1867 l) ck_RX11_473_1867 (ct2_cons (vl_1864 l) ck_RX11_473_1864 (ct2_cons (vl_1891 l) ck_RX11_473_1891 (ct2_cons (vl_1888 l) ck_RX11_473_1888 (ct2_cons (vl_1885 l) ck_RX11_473_1885 (ct2_cons (vl_1882 l) ck_RX11_473_1882 (ct2_cons (vl_1879 l) ck_RX11_473_1879 (ct2_cons (vl_1876 l) ck_RX11_473_1876 (ct2_cons (vl_1871 l) ck_RX11_473_1871 (ct2_cons (vl_1868 l) ck_RX11_473_1868 (ct2_cons (vl_1865 l) ck_RX11_473_1865 (ct2_cons (vl_1892 l) ck_RX11_473_1892 (ct2_cons (vl_1889 l) ck_RX11_473_1889 (ct2_cons (vl_1886 l) ck_RX11_473_1886 (ct2_cons (vl_1883 l) ck_RX11_473_1883 (ct2_cons (vl_1880 l) ck_RX11_473_1880 (ct2_cons (vl_1877 l) ck_RX11_473_1877 (ct2_cons (vl_1872 l) ck_RX11_473_1872 (ct2_cons (vl_1869 l) ck_RX11_473_1869 (ct2_cons (vl_1866 l) ck_RX11_473_1866 (ct2_nil)))))))))))))))))))))))))))
theorem vl_1952 (l : Launch) : Vld2 l vwCl gTbl con_1952 := conR_ok3 gT_all (hd_1952) rfl pn_RX11 tk_X11_isAsSeen bo_RX11 xo_RX11 (cto_1952 l) ch_1952 (cut_all cc_1952)
/-- RookHusting guessAll -/
noncomputable def gi_1372 : GI := jl_n [gp_645, gp_500]
noncomputable def gi_1373 : GI := jl_n [gp_645, gp_500, gp_622]
noncomputable def con_1953 : Con2 := ((yX11_guessAll, cX11_guessAll, 4, none), (6, 151), ([(6, 0, 0), (0, 2, 0), (1, 2, 0)], gi_1372, hc_202, rq_6), [((9, 0, 0), gi_1373, hq_893, [], tg_1)])
theorem hd_1953 : con_1953.1 = (yX11_guessAll, cX11_guessAll, 4, none) := rfl
theorem ck_RX11_483_1952 : COK2 RX11 vwCl gTbl 483 0 con_1952 := ⟨wd_1230, wd_125, mh_X11_isAsSeen, .inr (.inr ⟨rfl, wd_1227, wd_1229, wd_43, ⟨_, rfl, pd_X11_isAsSeen⟩, 11, _, TX11, 16, rfl, rfl⟩)⟩
noncomputable def ct_1953 : CTB2 := [(1, 208, 0, con_929, [0, 1, 2, 3, 4, 5, 6, 7, 8, 9, 10, 11, 12, 13, 14, 15, 16, 17, 18, 19, 20, 21, 22, 23, 24, 25, 26]), (36, 332, 0, con_1456, [28, 2, 29, 4, 30, 5, 31, 6]), (45, 480, 0, con_869, [28, 29]), (73, 372, 0, con_928, [32, 3, 28, 16, 33, 18, 34, 30, 35, 29, 36, 22, 23, 37, 38, 39, 31]), (78, 483, 0, con_1952, [0, 40, 41, 42, 32, 33]), (105, 486, 0, con_1766, [27, 33, 43]), (105, 486, 0, con_1771, [27, 33, 43])]
noncomputable def gi_1374 : GI := jl_n [gp_645, gp_500, gp_623]
noncomputable def cu_1953 : List CUT2 := [((14, [lq 0 6 0, lq 1 0 2, lq 2 1 2, lq 3 1 204], [], gi_1374, hq_894), rq_6, ([(204, (-1))], 5))]
theorem ch_1953 : staG tb_X11_guessAll 1 bt_RX11 [] ct_1953 [] [] cu_1953 48 con_1953 = true := by decide +kernel
theorem cc_1953 : cu_1953.all (cutG tb_X11_guessAll 1 bt_RX11 [] ct_1953 [] [] cu_1953 48 con_1953) = true := by decide +kernel
theorem cto_1953 (l : Launch) : CTOK2 l RX11 vwCl gTbl ct_1953 := ct2_cons (vl_929 l) ck_RX11_208_929 (ct2_cons (vl_1456 l) ck_RX11_332_1456 (ct2_cons (vl_869 l) ck_RX11_480_869 (ct2_cons (vl_928 l) ck_RX11_372_928 (ct2_cons (vl_1952 l) ck_RX11_483_1952 (ct2_cons (vl_1766 l) ck_RX11_486_1766 (ct2_cons (vl_1771 l) ck_RX11_486_1771 (ct2_nil)))))))
theorem vl_1953 (l : Launch) : Vld2 l vwCl gTbl con_1953 := conR_ok3 gT_all (hd_1953) rfl pn_RX11 tk_X11_guessAll bo_RX11 xo_RX11 (cto_1953 l) ch_1953 (cut_all cc_1953)
/-- RookHusting isAsSeen -/
noncomputable def gi_1375 : GI := jl_n [gp_660, jl_z 9]
noncomputable def gi_1376 : GI := jl_n [gp_660, jl_z 10]
noncomputable def con_1954 : Con2 := ((yX11_isAsSeen, cX11_isAsSeen, 4, (some .boolean)), (1, 22), ([(6, 0, 0), (0, 2, 0)], gi_1375, hc_201, []), [((0, 0, 0), gi_1376, hq_892, [], [1]), ((0, 1, 0), gi_1376, hq_892, [], [1])])
theorem hd_1954 : con_1954.1 = (yX11_isAsSeen, cX11_isAsSeen, 4, (some .boolean)) := rfl
noncomputable def ct_1954 : CTB2 := [(21, 473, 0, con_1887, [1, 3]), (21, 473, 0, con_1884, [1, 3]), (21, 473, 0, con_1881, [1, 3]), (21, 473, 0, con_1878, [1, 3]), (21, 473, 0, con_1875, [1, 3]), (21, 473, 0, con_1870, [1, 3]), (21, 473, 0, con_1867, [1, 3]), (21, 473, 0, con_1864, [1, 3]), (36, 473, 0, con_1888, [1, 3]), (36, 473, 0, con_1885, [1, 3]), (36, 473, 0, con_1882, [1, 3]), (36, 473, 0, con_1879, [1, 3]), (36, 473, 0, con_1876, [1, 3]), (36, 473, 0, con_1871, [1, 3]), (36, 473, 0, con_1868, [1, 3]), (36, 473, 0, con_1865, [1, 3]), (60, 473, 0, con_1889, [1, 3]), (60, 473, 0, con_1886, [1, 3]), (60, 473, 0, con_1883, [1, 3]), (60, 473, 0, con_1880, [1, 3]), (60, 473, 0, con_1877, [1, 3]), (60, 473, 0, con_1872, [1, 3]), (60, 473, 0, con_1869, [1, 3]), (60, 473, 0, con_1866, [1, 3])]
noncomputable def gi_1377 : GI := jl_n [gp_660, jl_z 12]
noncomputable def gi_1378 : GI := jl_n [gp_660, gp_618]
noncomputable def cu_1954 : List CUT2 := [((2, [lq 0 6 0, lq 1 0 2, lq 2 0 0], [], gi_1377, hq_892), [], ([], 24)), ((2, [lq 0 6 0, lq 1 0 2, lq 2 0 3, lq 3 1 97], [], gi_1378, hq_892), [], ([], 21)), ((2, [lq 0 6 0, lq 1 0 2, lq 2 0 6, lq 3 1 97], [], gi_1378, hq_892), [], ([], 18)), ((2, [lq 0 6 0, lq 1 0 2, lq 2 0 9, lq 3 1 97], [], gi_1378, hq_892), [], ([], 15)), ((2, [lq 0 6 0, lq 1 0 2, lq 2 0 12, lq 3 1 97], [], gi_1378, hq_892), [], ([], 12)), ((2, [lq 0 6 0, lq 1 0 2, lq 2 0 15, lq 3 1 97], [], gi_1378, hq_892), [], ([], 9)), ((2, [lq 0 6 0, lq 1 0 2, lq 2 0 18, lq 3 1 97], [], gi_1378, hq_892), [], ([], 6)), ((2, [lq 0 6 0, lq 1 0 2, lq 2 0 21, lq 3 1 97], [], gi_1378, hq_892), [], ([], 3)), ((2, [lq 0 6 0, lq 1 0 2, lq 2 0 24, lq 3 1 97], [], gi_1378, hq_892), [], ([], 0))]
theorem ch_1954 : staG tb_X11_isAsSeen 1 bt_RX11 [] ct_1954 [] [] cu_1954 44 con_1954 = true := by decide +kernel
theorem cc_1954 : cu_1954.all (cutG tb_X11_isAsSeen 1 bt_RX11 [] ct_1954 [] [] cu_1954 44 con_1954) = true := by decide +kernel
theorem cto_1954 (l : Launch) : CTOK2 l RX11 vwCl gTbl ct_1954 := ct2_cons (vl_1887 l) ck_RX11_473_1887 (ct2_cons (vl_1884 l) ck_RX11_473_1884 (ct2_cons (vl_1881 l) ck_RX11_473_1881 (ct2_cons (vl_1878 l) ck_RX11_473_1878 (ct2_cons (vl_1875 l) ck_RX11_473_1875 (ct2_cons (vl_1870 l) ck_RX11_473_1870 (ct2_cons (vl_1867 l) ck_RX11_473_1867 (ct2_cons (vl_1864 l) ck_RX11_473_1864 (ct2_cons (vl_1888 l) ck_RX11_473_1888 (ct2_cons (vl_1885 l) ck_RX11_473_1885 (ct2_cons (vl_1882 l) ck_RX11_473_1882 (ct2_cons (vl_1879 l) ck_RX11_473_1879 (ct2_cons (vl_1876 l) ck_RX11_473_1876 (ct2_cons (vl_1871 l) ck_RX11_473_1871 (ct2_cons (vl_1868 l) ck_RX11_473_1868 (ct2_cons (vl_1865 l) ck_RX11_473_1865 (ct2_cons (vl_1889 l) ck_RX11_473_1889 (ct2_cons (vl_1886 l) ck_RX11_473_1886 (ct2_cons (vl_1883 l) ck_RX11_473_1883 (ct2_cons (vl_1880 l) ck_RX11_473_1880 (ct2_cons (vl_1877 l) ck_RX11_473_1877 (ct2_cons (vl_1872 l) ck_RX11_473_1872 (ct2_cons (vl_1869 l) ck_RX11_473_1869 (ct2_cons (vl_1866 l) ck_RX11_473_1866 (ct2_nil))))))))))))))))))))))))
theorem vl_1954 (l : Launch) : Vld2 l vwCl gTbl con_1954 := conR_ok3 gT_all (hd_1954) rfl pn_RX11 tk_X11_isAsSeen bo_RX11 xo_RX11 (cto_1954 l) ch_1954 (cut_all cc_1954)
/-- RookHusting guessAll -/
noncomputable def gi_1379 : GI := jl_n [gp_645, gp_498]
noncomputable def gi_1380 : GI := jl_n [gp_645, gp_498, gp_622]
noncomputable def con_1955 : Con2 := ((yX11_guessAll, cX11_guessAll, 4, none), (6, 151), ([(6, 0, 0), (0, 2, 0), (1, 2, 0)], gi_1379, hc_202, rq_6), [((9, 0, 0), gi_1380, hq_893, [], tg_1)])
theorem hd_1955 : con_1955.1 = (yX11_guessAll, cX11_guessAll, 4, none) := rfl
theorem ck_RX11_483_1954 : COK2 RX11 vwCl gTbl 483 0 con_1954 := ⟨wd_1230, wd_125, mh_X11_isAsSeen, .inr (.inr ⟨rfl, wd_1227, wd_1229, wd_43, ⟨_, rfl, pd_X11_isAsSeen⟩, 11, _, TX11, 16, rfl, rfl⟩)⟩
noncomputable def ct_1955 : CTB2 := [(1, 208, 0, con_929, [0, 1, 2, 3, 4, 5, 6, 7, 8, 9, 10, 11, 12, 13, 14, 15, 16, 17, 18, 19, 20, 21, 22, 23, 24, 25, 26]), (36, 332, 0, con_1456, [28, 2, 29, 4, 30, 5, 31, 6]), (45, 480, 0, con_869, [28, 29]), (73, 372, 0, con_928, [32, 3, 28, 16, 33, 18, 34, 30, 35, 29, 36, 22, 23, 37, 38, 39, 31]), (78, 483, 0, con_1954, [0, 40, 41, 42, 32, 33]), (105, 486, 0, con_1766, [27, 33, 43]), (105, 486, 0, con_1771, [27, 33, 43])]
noncomputable def gi_1381 : GI := jl_n [gp_645, gp_498, gp_623]
noncomputable def cu_1955 : List CUT2 := [((14, [lq 0 6 0, lq 1 0 2, lq 2 1 2, lq 3 1 204], [], gi_1381, hq_894), rq_6, ([(204, (-1))], 5))]
theorem ch_1955 : staG tb_X11_guessAll 1 bt_RX11 [] ct_1955 [] [] cu_1955 48 con_1955 = true := by decide +kernel
theorem cc_1955 : cu_1955.all (cutG tb_X11_guessAll 1 bt_RX11 [] ct_1955 [] [] cu_1955 48 con_1955) = true := by decide +kernel
theorem cto_1955 (l : Launch) : CTOK2 l RX11 vwCl gTbl ct_1955 := ct2_cons (vl_929 l) ck_RX11_208_929 (ct2_cons (vl_1456 l) ck_RX11_332_1456 (ct2_cons (vl_869 l) ck_RX11_480_869 (ct2_cons (vl_928 l) ck_RX11_372_928 (ct2_cons (vl_1954 l) ck_RX11_483_1954 (ct2_cons (vl_1766 l) ck_RX11_486_1766 (ct2_cons (vl_1771 l) ck_RX11_486_1771 (ct2_nil)))))))
theorem vl_1955 (l : Launch) : Vld2 l vwCl gTbl con_1955 := conR_ok3 gT_all (hd_1955) rfl pn_RX11 tk_X11_guessAll bo_RX11 xo_RX11 (cto_1955 l) ch_1955 (cut_all cc_1955)
/-- RookHusting isAsSeen -/
noncomputable def gi_1382 : GI := jl_n [gp_661, jl_z 9]
noncomputable def gi_1383 : GI := jl_n [gp_661, jl_z 10]
noncomputable def con_1956 : Con2 := ((yX11_isAsSeen, cX11_isAsSeen, 4, (some .boolean)), (1, 22), ([(6, 0, 0), (0, 2, 0)], gi_1382, hc_201, []), [((0, 0, 0), gi_1383, hq_892, [], [1]), ((0, 1, 0), gi_1383, hq_892, [], [1])])
theorem hd_1956 : con_1956.1 = (yX11_isAsSeen, cX11_isAsSeen, 4, (some .boolean)) := rfl
noncomputable def ct_1956 : CTB2 := [(21, 473, 0, con_1884, [1, 3]), (21, 473, 0, con_1881, [1, 3]), (21, 473, 0, con_1878, [1, 3]), (21, 473, 0, con_1875, [1, 3]), (21, 473, 0, con_1870, [1, 3]), (21, 473, 0, con_1867, [1, 3]), (21, 473, 0, con_1864, [1, 3]), (36, 473, 0, con_1885, [1, 3]), (36, 473, 0, con_1882, [1, 3]), (36, 473, 0, con_1879, [1, 3]), (36, 473, 0, con_1876, [1, 3]), (36, 473, 0, con_1871, [1, 3]), (36, 473, 0, con_1868, [1, 3]), (36, 473, 0, con_1865, [1, 3]), (60, 473, 0, con_1886, [1, 3]), (60, 473, 0, con_1883, [1, 3]), (60, 473, 0, con_1880, [1, 3]), (60, 473, 0, con_1877, [1, 3]), (60, 473, 0, con_1872, [1, 3]), (60, 473, 0, con_1869, [1, 3]), (60, 473, 0, con_1866, [1, 3])]
noncomputable def gi_1384 : GI := jl_n [gp_661, jl_z 12]
noncomputable def gi_1385 : GI := jl_n [gp_661, gp_618]
noncomputable def cu_1956 : List CUT2 := [((2, [lq 0 6 0, lq 1 0 2, lq 2 0 0], [], gi_1384, hq_892), [], ([], 21)), ((2, [lq 0 6 0, lq 1 0 2, lq 2 0 3, lq 3 1 97], [], gi_1385, hq_892), [], ([], 18)), ((2, [lq 0 6 0, lq 1 0 2, lq 2 0 6, lq 3 1 97], [], gi_1385, hq_892), [], ([], 15)), ((2, [lq 0 6 0, lq 1 0 2, lq 2 0 9, lq 3 1 97], [], gi_1385, hq_892), [], ([], 12)), ((2, [lq 0 6 0, lq 1 0 2, lq 2 0 12, lq 3 1 97], [], gi_1385, hq_892), [], ([], 9)), ((2, [lq 0 6 0, lq 1 0 2, lq 2 0 15, lq 3 1 97], [], gi_1385, hq_892), [], ([], 6)), ((2, [lq 0 6 0, lq 1 0 2, lq 2 0 18, lq 3 1 97], [], gi_1385, hq_892), [], ([], 3)), ((2, [lq 0 6 0, lq 1 0 2, lq 2 0 21, lq 3 1 97], [], gi_1385, hq_892), [], ([], 0))]
theorem ch_1956 : staG tb_X11_isAsSeen 1 bt_RX11 [] ct_1956 [] [] cu_1956 44 con_1956 = true := by decide +kernel
theorem cc_1956 : cu_1956.all (cutG tb_X11_isAsSeen 1 bt_RX11 [] ct_1956 [] [] cu_1956 44 con_1956) = true := by decide +kernel
theorem cto_1956 (l : Launch) : CTOK2 l RX11 vwCl gTbl ct_1956 := ct2_cons (vl_1884 l) ck_RX11_473_1884 (ct2_cons (vl_1881 l) ck_RX11_473_1881 (ct2_cons (vl_1878 l) ck_RX11_473_1878 (ct2_cons (vl_1875 l) ck_RX11_473_1875 (ct2_cons (vl_1870 l) ck_RX11_473_1870 (ct2_cons (vl_1867 l) ck_RX11_473_1867 (ct2_cons (vl_1864 l) ck_RX11_473_1864 (ct2_cons (vl_1885 l) ck_RX11_473_1885 (ct2_cons (vl_1882 l) ck_RX11_473_1882 (ct2_cons (vl_1879 l) ck_RX11_473_1879 (ct2_cons (vl_1876 l) ck_RX11_473_1876 (ct2_cons (vl_1871 l) ck_RX11_473_1871 (ct2_cons (vl_1868 l) ck_RX11_473_1868 (ct2_cons (vl_1865 l) ck_RX11_473_1865 (ct2_cons (vl_1886 l) ck_RX11_473_1886 (ct2_cons (vl_1883 l) ck_RX11_473_1883 (ct2_cons (vl_1880 l) ck_RX11_473_1880 (ct2_cons (vl_1877 l) ck_RX11_473_1877 (ct2_cons (vl_1872 l) ck_RX11_473_1872 (ct2_cons (vl_1869 l) ck_RX11_473_1869 (ct2_cons (vl_1866 l) ck_RX11_473_1866 (ct2_nil)))))))))))))))))))))
theorem vl_1956 (l : Launch) : Vld2 l vwCl gTbl con_1956 := conR_ok3 gT_all (hd_1956) rfl pn_RX11 tk_X11_isAsSeen bo_RX11 xo_RX11 (cto_1956 l) ch_1956 (cut_all cc_1956)
/-- RookHusting guessAll -/
noncomputable def gi_1386 : GI := jl_n [gp_645, gp_495]
noncomputable def gi_1387 : GI := jl_n [gp_645, gp_495, gp_622]
noncomputable def con_1957 : Con2 := ((yX11_guessAll, cX11_guessAll, 4, none), (6, 151), ([(6, 0, 0), (0, 2, 0), (1, 2, 0)], gi_1386, hc_202, rq_6), [((9, 0, 0), gi_1387, hq_893, [], tg_1)])
theorem hd_1957 : con_1957.1 = (yX11_guessAll, cX11_guessAll, 4, none) := rfl
theorem ck_RX11_483_1956 : COK2 RX11 vwCl gTbl 483 0 con_1956 := ⟨wd_1230, wd_125, mh_X11_isAsSeen, .inr (.inr ⟨rfl, wd_1227, wd_1229, wd_43, ⟨_, rfl, pd_X11_isAsSeen⟩, 11, _, TX11, 16, rfl, rfl⟩)⟩
noncomputable def ct_1957 : CTB2 := [(1, 208, 0, con_929, [0, 1, 2, 3, 4, 5, 6, 7, 8, 9, 10, 11, 12, 13, 14, 15, 16, 17, 18, 19, 20, 21, 22, 23, 24, 25, 26]), (36, 332, 0, con_1456, [28, 2, 29, 4, 30, 5, 31, 6]), (45, 480, 0, con_869, [28, 29]), (73, 372, 0, con_928, [32, 3, 28, 16, 33, 18, 34, 30, 35, 29, 36, 22, 23, 37, 38, 39, 31]), (78, 483, 0, con_1956, [0, 40, 41, 42, 32, 33]), (105, 486, 0, con_1766, [27, 33, 43]), (105, 486, 0, con_1771, [27, 33, 43])]
noncomputable def gi_1388 : GI := jl_n [gp_645, gp_495, gp_623]
noncomputable def cu_1957 : List CUT2 := [((14, [lq 0 6 0, lq 1 0 2, lq 2 1 2, lq 3 1 204], [], gi_1388, hq_894), rq_6, ([(204, (-1))], 5))]
theorem ch_1957 : staG tb_X11_guessAll 1 bt_RX11 [] ct_1957 [] [] cu_1957 48 con_1957 = true := by decide +kernel
theorem cc_1957 : cu_1957.all (cutG tb_X11_guessAll 1 bt_RX11 [] ct_1957 [] [] cu_1957 48 con_1957) = true := by decide +kernel
theorem cto_1957 (l : Launch) : CTOK2 l RX11 vwCl gTbl ct_1957 := ct2_cons (vl_929 l) ck_RX11_208_929 (ct2_cons (vl_1456 l) ck_RX11_332_1456 (ct2_cons (vl_869 l) ck_RX11_480_869 (ct2_cons (vl_928 l) ck_RX11_372_928 (ct2_cons (vl_1956 l) ck_RX11_483_1956 (ct2_cons (vl_1766 l) ck_RX11_486_1766 (ct2_cons (vl_1771 l) ck_RX11_486_1771 (ct2_nil)))))))
theorem vl_1957 (l : Launch) : Vld2 l vwCl gTbl con_1957 := conR_ok3 gT_all (hd_1957) rfl pn_RX11 tk_X11_guessAll bo_RX11 xo_RX11 (cto_1957 l) ch_1957 (cut_all cc_1957)
/-- RookHusting isAsSeen -/
noncomputable def gi_1389 : GI := jl_n [gp_662, jl_z 9]
noncomputable def gi_1390 : GI := jl_n [gp_662, jl_z 10]
noncomputable def con_1958 : Con2 := ((yX11_isAsSeen, cX11_isAsSeen, 4, (some .boolean)), (1, 22), ([(6, 0, 0), (0, 2, 0)], gi_1389, hc_201, []), [((0, 0, 0), gi_1390, hq_892, [], [1]), ((0, 1, 0), gi_1390, hq_892, [], [1])])
theorem hd_1958 : con_1958.1 = (yX11_isAsSeen, cX11_isAsSeen, 4, (some .boolean)) := rfl
noncomputable def ct_1958 : CTB2 := [(21, 473, 0, con_1881, [1, 3]), (21, 473, 0, con_1878, [1, 3]), (21, 473, 0, con_1875, [1, 3]), (21, 473, 0, con_1870, [1, 3]), (21, 473, 0, con_1867, [1, 3]), (21, 473, 0, con_1864, [1, 3]), (36, 473, 0, con_1882, [1, 3]), (36, 473, 0, con_1879, [1, 3]), (36, 473, 0, con_1876, [1, 3]), (36, 473, 0, con_1871, [1, 3]), (36, 473, 0, con_1868, [1, 3]), (36, 473, 0, con_1865, [1, 3]), (60, 473, 0, con_1883, [1, 3]), (60, 473, 0, con_1880, [1, 3]), (60, 473, 0, con_1877, [1, 3]), (60, 473, 0, con_1872, [1, 3]), (60, 473, 0, con_1869, [1, 3]), (60, 473, 0, con_1866, [1, 3])]
noncomputable def gi_1391 : GI := jl_n [gp_662, jl_z 12]
noncomputable def gi_1392 : GI := jl_n [gp_662, gp_618]
noncomputable def cu_1958 : List CUT2 := [((2, [lq 0 6 0, lq 1 0 2, lq 2 0 0], [], gi_1391, hq_892), [], ([], 18)), ((2, [lq 0 6 0, lq 1 0 2, lq 2 0 3, lq 3 1 97], [], gi_1392, hq_892), [], ([], 15)), ((2, [lq 0 6 0, lq 1 0 2, lq 2 0 6, lq 3 1 97], [], gi_1392, hq_892), [], ([], 12)), ((2, [lq 0 6 0, lq 1 0 2, lq 2 0 9, lq 3 1 97], [], gi_1392, hq_892), [], ([], 9)), ((2, [lq 0 6 0, lq 1 0 2, lq 2 0 12, lq 3 1 97], [], gi_1392, hq_892), [], ([], 6)), ((2, [lq 0 6 0, lq 1 0 2, lq 2 0 15, lq 3 1 97], [], gi_1392, hq_892), [], ([], 3)), ((2, [lq 0 6 0, lq 1 0 2, lq 2 0 18, lq 3 1 97], [], gi_1392, hq_892), [], ([], 0))]
theorem ch_1958 : staG tb_X11_isAsSeen 1 bt_RX11 [] ct_1958 [] [] cu_1958 44 con_1958 = true := by decide +kernel
theorem cc_1958 : cu_1958.all (cutG tb_X11_isAsSeen 1 bt_RX11 [] ct_1958 [] [] cu_1958 44 con_1958) = true := by decide +kernel
theorem cto_1958 (l : Launch) : CTOK2 l RX11 vwCl gTbl ct_1958 := ct2_cons (vl_1881 l) ck_RX11_473_1881 (ct2_cons (vl_1878 l) ck_RX11_473_1878 (ct2_cons (vl_1875 l) ck_RX11_473_1875 (ct2_cons (vl_1870 l) ck_RX11_473_1870 (ct2_cons (vl_1867 l) ck_RX11_473_1867 (ct2_cons (vl_1864 l) ck_RX11_473_1864 (ct2_cons (vl_1882 l) ck_RX11_473_1882 (ct2_cons (vl_1879 l) ck_RX11_473_1879 (ct2_cons (vl_1876 l) ck_RX11_473_1876 (ct2_cons (vl_1871 l) ck_RX11_473_1871 (ct2_cons (vl_1868 l) ck_RX11_473_1868 (ct2_cons (vl_1865 l) ck_RX11_473_1865 (ct2_cons (vl_1883 l) ck_RX11_473_1883 (ct2_cons (vl_1880 l) ck_RX11_473_1880 (ct2_cons (vl_1877 l) ck_RX11_473_1877 (ct2_cons (vl_1872 l) ck_RX11_473_1872 (ct2_cons (vl_1869 l) ck_RX11_473_1869 (ct2_cons (vl_1866 l) ck_RX11_473_1866 (ct2_nil))))))))))))))))))
theorem vl_1958 (l : Launch) : Vld2 l vwCl gTbl con_1958 := conR_ok3 gT_all (hd_1958) rfl pn_RX11 tk_X11_isAsSeen bo_RX11 xo_RX11 (cto_1958 l) ch_1958 (cut_all cc_1958)
/-- RookHusting guessAll -/
noncomputable def gi_1393 : GI := jl_n [gp_645, gp_493]
noncomputable def gi_1394 : GI := jl_n [gp_645, gp_493, gp_622]
noncomputable def con_1959 : Con2 := ((yX11_guessAll, cX11_guessAll, 4, none), (6, 151), ([(6, 0, 0), (0, 2, 0), (1, 2, 0)], gi_1393, hc_202, rq_6), [((9, 0, 0), gi_1394, hq_893, [], tg_1)])
theorem hd_1959 : con_1959.1 = (yX11_guessAll, cX11_guessAll, 4, none) := rfl
theorem ck_RX11_483_1958 : COK2 RX11 vwCl gTbl 483 0 con_1958 := ⟨wd_1230, wd_125, mh_X11_isAsSeen, .inr (.inr ⟨rfl, wd_1227, wd_1229, wd_43, ⟨_, rfl, pd_X11_isAsSeen⟩, 11, _, TX11, 16, rfl, rfl⟩)⟩
noncomputable def ct_1959 : CTB2 := [(1, 208, 0, con_929, [0, 1, 2, 3, 4, 5, 6, 7, 8, 9, 10, 11, 12, 13, 14, 15, 16, 17, 18, 19, 20, 21, 22, 23, 24, 25, 26]), (36, 332, 0, con_1456, [28, 2, 29, 4, 30, 5, 31, 6]), (45, 480, 0, con_869, [28, 29]), (73, 372, 0, con_928, [32, 3, 28, 16, 33, 18, 34, 30, 35, 29, 36, 22, 23, 37, 38, 39, 31]), (78, 483, 0, con_1958, [0, 40, 41, 42, 32, 33]), (105, 486, 0, con_1766, [27, 33, 43]), (105, 486, 0, con_1771, [27, 33, 43])]
noncomputable def gi_1395 : GI := jl_n [gp_645, gp_493, gp_623]
noncomputable def cu_1959 : List CUT2 := [((14, [lq 0 6 0, lq 1 0 2, lq 2 1 2, lq 3 1 204], [], gi_1395, hq_894), rq_6, ([(204, (-1))], 5))]
theorem ch_1959 : staG tb_X11_guessAll 1 bt_RX11 [] ct_1959 [] [] cu_1959 48 con_1959 = true := by decide +kernel
theorem cc_1959 : cu_1959.all (cutG tb_X11_guessAll 1 bt_RX11 [] ct_1959 [] [] cu_1959 48 con_1959) = true := by decide +kernel
theorem cto_1959 (l : Launch) : CTOK2 l RX11 vwCl gTbl ct_1959 := ct2_cons (vl_929 l) ck_RX11_208_929 (ct2_cons (vl_1456 l) ck_RX11_332_1456 (ct2_cons (vl_869 l) ck_RX11_480_869 (ct2_cons (vl_928 l) ck_RX11_372_928 (ct2_cons (vl_1958 l) ck_RX11_483_1958 (ct2_cons (vl_1766 l) ck_RX11_486_1766 (ct2_cons (vl_1771 l) ck_RX11_486_1771 (ct2_nil)))))))
theorem vl_1959 (l : Launch) : Vld2 l vwCl gTbl con_1959 := conR_ok3 gT_all (hd_1959) rfl pn_RX11 tk_X11_guessAll bo_RX11 xo_RX11 (cto_1959 l) ch_1959 (cut_all cc_1959)
/-- RookHusting isAsSeen -/
noncomputable def gi_1396 : GI := jl_n [gp_663, jl_z 9]
noncomputable def gi_1397 : GI := jl_n [gp_663, jl_z 10]
noncomputable def con_1960 : Con2 := ((yX11_isAsSeen, cX11_isAsSeen, 4, (some .boolean)), (1, 22), ([(6, 0, 0), (0, 2, 0)], gi_1396, hc_201, []), [((0, 0, 0), gi_1397, hq_892, [], [1]), ((0, 1, 0), gi_1397, hq_892, [], [1])])
theorem hd_1960 : con_1960.1 = (yX11_isAsSeen, cX11_isAsSeen, 4, (some .boolean)) := rfl
noncomputable def ct_1960 : CTB2 := [(21, 473, 0, con_1878, [1, 3]), (21, 473, 0, con_1875, [1, 3]), (21, 473, 0, con_1870, [1, 3]), (21, 473, 0, con_1867, [1, 3]), (21, 473, 0, con_1864, [1, 3]), (36, 473, 0, con_1879, [1, 3]), (36, 473, 0, con_1876, [1, 3]), (36, 473, 0, con_1871, [1, 3]), (36, 473, 0, con_1868, [1, 3]), (36, 473, 0, con_1865, [1, 3]), (60, 473, 0, con_1880, [1, 3]), (60, 473, 0, con_1877, [1, 3]), (60, 473, 0, con_1872, [1, 3]), (60, 473, 0, con_1869, [1, 3]), (60, 473, 0, con_1866, [1, 3])]
noncomputable def gi_1398 : GI := jl_n [gp_663, jl_z 12]
noncomputable def gi_1399 : GI := jl_n [gp_663, gp_618]
noncomputable def cu_1960 : List CUT2 := [((2, [lq 0 6 0, lq 1 0 2, lq 2 0 0], [], gi_1398, hq_892), [], ([], 15)), ((2, [lq 0 6 0, lq 1 0 2, lq 2 0 3, lq 3 1 97], [], gi_1399, hq_892), [], ([], 12)), ((2, [lq 0 6 0, lq 1 0 2, lq 2 0 6, lq 3 1 97], [], gi_1399, hq_892), [], ([], 9)), ((2, [lq 0 6 0, lq 1 0 2, lq 2 0 9, lq 3 1 97], [], gi_1399, hq_892), [], ([], 6)), ((2, [lq 0 6 0, lq 1 0 2, lq 2 0 12, lq 3 1 97], [], gi_1399, hq_892), [], ([], 3)), ((2, [lq 0 6 0, lq 1 0 2, lq 2 0 15, lq 3 1 97], [], gi_1399, hq_892), [], ([], 0))]
theorem ch_1960 : staG tb_X11_isAsSeen 1 bt_RX11 [] ct_1960 [] [] cu_1960 44 con_1960 = true := by decide +kernel
theorem cc_1960 : cu_1960.all (cutG tb_X11_isAsSeen 1 bt_RX11 [] ct_1960 [] [] cu_1960 44 con_1960) = true := by decide +kernel
theorem cto_1960 (l : Launch) : CTOK2 l RX11 vwCl gTbl ct_1960 := ct2_cons (vl_1878 l) ck_RX11_473_1878 (ct2_cons (vl_1875 l) ck_RX11_473_1875 (ct2_cons (vl_1870 l) ck_RX11_473_1870 (ct2_cons (vl_1867 l) ck_RX11_473_1867 (ct2_cons (vl_1864 l) ck_RX11_473_1864 (ct2_cons (vl_1879 l) ck_RX11_473_1879 (ct2_cons (vl_1876 l) ck_RX11_473_1876 (ct2_cons (vl_1871 l) ck_RX11_473_1871 (ct2_cons (vl_1868 l) ck_RX11_473_1868 (ct2_cons (vl_1865 l) ck_RX11_473_1865 (ct2_cons (vl_1880 l) ck_RX11_473_1880 (ct2_cons (vl_1877 l) ck_RX11_473_1877 (ct2_cons (vl_1872 l) ck_RX11_473_1872 (ct2_cons (vl_1869 l) ck_RX11_473_1869 (ct2_cons (vl_1866 l) ck_RX11_473_1866 (ct2_nil)))))))))))))))
theorem vl_1960 (l : Launch) : Vld2 l vwCl gTbl con_1960 := conR_ok3 gT_all (hd_1960) rfl pn_RX11 tk_X11_isAsSeen bo_RX11 xo_RX11 (cto_1960 l) ch_1960 (cut_all cc_1960)
/-- RookHusting guessAll -/
noncomputable def gi_1400 : GI := jl_n [gp_645, gp_491]
noncomputable def gi_1401 : GI := jl_n [gp_645, gp_491, gp_622]
noncomputable def con_1961 : Con2 := ((yX11_guessAll, cX11_guessAll, 4, none), (6, 151), ([(6, 0, 0), (0, 2, 0), (1, 2, 0)], gi_1400, hc_202, rq_6), [((9, 0, 0), gi_1401, hq_893, [], tg_1)])
theorem hd_1961 : con_1961.1 = (yX11_guessAll, cX11_guessAll, 4, none) := rfl
theorem ck_RX11_483_1960 : COK2 RX11 vwCl gTbl 483 0 con_1960 := ⟨wd_1230, wd_125, mh_X11_isAsSeen, .inr (.inr ⟨rfl, wd_1227, wd_1229, wd_43, ⟨_, rfl, pd_X11_isAsSeen⟩, 11, _, TX11, 16, rfl, rfl⟩)⟩
noncomputable def ct_1961 : CTB2 := [(1, 208, 0, con_929, [0, 1, 2, 3, 4, 5, 6, 7, 8, 9, 10, 11, 12, 13, 14, 15, 16, 17, 18, 19, 20, 21, 22, 23, 24, 25, 26]), (36, 332, 0, con_1456, [28, 2, 29, 4, 30, 5, 31, 6]), (45, 480, 0, con_869, [28, 29]), (73, 372, 0, con_928, [32, 3, 28, 16, 33, 18, 34, 30, 35, 29, 36, 22, 23, 37, 38, 39, 31]), (78, 483, 0, con_1960, [0, 40, 41, 42, 32, 33]), (105, 486, 0, con_1766, [27, 33, 43]), (105, 486, 0, con_1771, [27, 33, 43])]
noncomputable def gi_1402 : GI := jl_n [gp_645, gp_491, gp_623]
noncomputable def cu_1961 : List CUT2 := [((14, [lq 0 6 0, lq 1 0 2, lq 2 1 2, lq 3 1 204], [], gi_1402, hq_894), rq_6, ([(204, (-1))], 5))]
theorem ch_1961 : staG tb_X11_guessAll 1 bt_RX11 [] ct_1961 [] [] cu_1961 48 con_1961 = true := by decide +kernel
theorem cc_1961 : cu_1961.all (cutG tb_X11_guessAll 1 bt_RX11 [] ct_1961 [] [] cu_1961 48 con_1961) = true := by decide +kernel
theorem cto_1961 (l : Launch) : CTOK2 l RX11 vwCl gTbl ct_1961 := ct2_cons (vl_929 l) ck_RX11_208_929 (ct2_cons (vl_1456 l) ck_RX11_332_1456 (ct2_cons (vl_869 l) ck_RX11_480_869 (ct2_cons (vl_928 l) ck_RX11_372_928 (ct2_cons (vl_1960 l) ck_RX11_483_1960 (ct2_cons (vl_1766 l) ck_RX11_486_1766 (ct2_cons (vl_1771 l) ck_RX11_486_1771 (ct2_nil)))))))
theorem vl_1961 (l : Launch) : Vld2 l vwCl gTbl con_1961 := conR_ok3 gT_all (hd_1961) rfl pn_RX11 tk_X11_guessAll bo_RX11 xo_RX11 (cto_1961 l) ch_1961 (cut_all cc_1961)
/-- RookHusting isAsSeen -/
noncomputable def gi_1403 : GI := jl_n [gp_664, jl_z 9]
noncomputable def gi_1404 : GI := jl_n [gp_664, jl_z 10]
noncomputable def con_1962 : Con2 := ((yX11_isAsSeen, cX11_isAsSeen, 4, (some .boolean)), (1, 22), ([(6, 0, 0), (0, 2, 0)], gi_1403, hc_201, []), [((0, 0, 0), gi_1404, hq_892, [], [1]), ((0, 1, 0), gi_1404, hq_892, [], [1])])
theorem hd_1962 : con_1962.1 = (yX11_isAsSeen, cX11_isAsSeen, 4, (some .boolean)) := rfl
noncomputable def ct_1962 : CTB2 := [(21, 473, 0, con_1875, [1, 3]), (21, 473, 0, con_1870, [1, 3]), (21, 473, 0, con_1867, [1, 3]), (21, 473, 0, con_1864, [1, 3]), (36, 473, 0, con_1876, [1, 3]), (36, 473, 0, con_1871, [1, 3]), (36, 473, 0, con_1868, [1, 3]), (36, 473, 0, con_1865, [1, 3]), (60, 473, 0, con_1877, [1, 3]), (60, 473, 0, con_1872, [1, 3]), (60, 473, 0, con_1869, [1, 3]), (60, 473, 0, con_1866, [1, 3])]
noncomputable def gi_1405 : GI := jl_n [gp_664, jl_z 12]
noncomputable def gi_1406 : GI := jl_n [gp_664, gp_618]
noncomputable def cu_1962 : List CUT2 := [((2, [lq 0 6 0, lq 1 0 2, lq 2 0 0], [], gi_1405, hq_892), [], ([], 12)), ((2, [lq 0 6 0, lq 1 0 2, lq 2 0 3, lq 3 1 97], [], gi_1406, hq_892), [], ([], 9)), ((2, [lq 0 6 0, lq 1 0 2, lq 2 0 6, lq 3 1 97], [], gi_1406, hq_892), [], ([], 6)), ((2, [lq 0 6 0, lq 1 0 2, lq 2 0 9, lq 3 1 97], [], gi_1406, hq_892), [], ([], 3)), ((2, [lq 0 6 0, lq 1 0 2, lq 2 0 12, lq 3 1 97], [], gi_1406, hq_892), [], ([], 0))]
theorem ch_1962 : staG tb_X11_isAsSeen 1 bt_RX11 [] ct_1962 [] [] cu_1962 44 con_1962 = true := by decide +kernel
theorem cc_1962 : cu_1962.all (cutG tb_X11_isAsSeen 1 bt_RX11 [] ct_1962 [] [] cu_1962 44 con_1962) = true := by decide +kernel
theorem cto_1962 (l : Launch) : CTOK2 l RX11 vwCl gTbl ct_1962 := ct2_cons (vl_1875 l) ck_RX11_473_1875 (ct2_cons (vl_1870 l) ck_RX11_473_1870 (ct2_cons (vl_1867 l) ck_RX11_473_1867 (ct2_cons (vl_1864 l) ck_RX11_473_1864 (ct2_cons (vl_1876 l) ck_RX11_473_1876 (ct2_cons (vl_1871 l) ck_RX11_473_1871 (ct2_cons (vl_1868 l) ck_RX11_473_1868 (ct2_cons (vl_1865 l) ck_RX11_473_1865 (ct2_cons (vl_1877 l) ck_RX11_473_1877 (ct2_cons (vl_1872 l) ck_RX11_473_1872 (ct2_cons (vl_1869 l) ck_RX11_473_1869 (ct2_cons (vl_1866 l) ck_RX11_473_1866 (ct2_nil))))))))))))
theorem vl_1962 (l : Launch) : Vld2 l vwCl gTbl con_1962 := conR_ok3 gT_all (hd_1962) rfl pn_RX11 tk_X11_isAsSeen bo_RX11 xo_RX11 (cto_1962 l) ch_1962 (cut_all cc_1962)
/-- RookHusting guessAll -/
noncomputable def gi_1407 : GI := jl_n [gp_645, gp_489]
noncomputable def gi_1408 : GI := jl_n [gp_645, gp_489, gp_622]
noncomputable def con_1963 : Con2 := ((yX11_guessAll, cX11_guessAll, 4, none), (6, 151), ([(6, 0, 0), (0, 2, 0), (1, 2, 0)], gi_1407, hc_202, rq_6), [((9, 0, 0), gi_1408, hq_893, [], tg_1)])
theorem hd_1963 : con_1963.1 = (yX11_guessAll, cX11_guessAll, 4, none) := rfl
theorem ck_RX11_483_1962 : COK2 RX11 vwCl gTbl 483 0 con_1962 := ⟨wd_1230, wd_125, mh_X11_isAsSeen, .inr (.inr ⟨rfl, wd_1227, wd_1229, wd_43, ⟨_, rfl, pd_X11_isAsSeen⟩, 11, _, TX11, 16, rfl, rfl⟩)⟩
noncomputable def ct_1963 : CTB2 := [(1, 208, 0, con_929, [0, 1, 2, 3, 4, 5, 6, 7, 8, 9, 10, 11, 12, 13, 14, 15, 16, 17, 18, 19, 20, 21, 22, 23, 24, 25, 26]), (36, 332, 0, con_1456, [28, 2, 29, 4, 30, 5, 31, 6]), (45, 480, 0, con_869, [28, 29]), (73, 372, 0, con_928, [32, 3, 28, 16, 33, 18, 34, 30, 35, 29, 36, 22, 23, 37, 38, 39, 31]), (78, 483, 0, con_1962, [0, 40, 41, 42, 32, 33]), (105, 486, 0, con_1766, [27, 33, 43]), (105, 486, 0, con_1771, [27, 33, 43])]
noncomputable def gi_1409 : GI := jl_n [gp_645, gp_489, gp_623]
noncomputable def cu_1963 : List CUT2 := [((14, [lq 0 6 0, lq 1 0 2, lq 2 1 2, lq 3 1 204], [], gi_1409, hq_894), rq_6, ([(204, (-1))], 5))]
theorem ch_1963 : staG tb_X11_guessAll 1 bt_RX11 [] ct_1963 [] [] cu_1963 48 con_1963 = true := by decide +kernel
theorem cc_1963 : cu_1963.all (cutG tb_X11_guessAll 1 bt_RX11 [] ct_1963 [] [] cu_1963 48 con_1963) = true := by decide +kernel
theorem cto_1963 (l : Launch) : CTOK2 l RX11 vwCl gTbl ct_1963 := ct2_cons (vl_929 l) ck_RX11_208_929 (ct2_cons (vl_1456 l) ck_RX11_332_1456 (ct2_cons (vl_869 l) ck_RX11_480_869 (ct2_cons (vl_928 l) ck_RX11_372_928 (ct2_cons (vl_1962 l) ck_RX11_483_1962 (ct2_cons (vl_1766 l) ck_RX11_486_1766 (ct2_cons (vl_1771 l) ck_RX11_486_1771 (ct2_nil)))))))
theorem vl_1963 (l : Launch) : Vld2 l vwCl gTbl con_1963 := conR_ok3 gT_all (hd_1963) rfl pn_RX11 tk_X11_guessAll bo_RX11 xo_RX11 (cto_1963 l) ch_1963 (cut_all cc_1963)
/-- RookHusting isAsSeen -/
noncomputable def gi_1410 : GI := jl_n [gp_643, gp_487, jl_z 9]
noncomputable def ac_1075 : AC := .inr (1, jl_n [js_1 23 2, jl_x (1, (0, 0, 0)), js_1 25 1])
noncomputable def hc_203 : List AC := [ac_1053, .inl (8, [(6, 3, 0), (8, 19, 0), (6, 2, 0)]), ac_1075, ac_1073, ac_1056, am_0]
noncomputable def gi_1411 : GI := jl_n [gp_643, gp_487, jl_z 10]
noncomputable def hq_895 : HP := [(false, ac_1053), (false, .inl (8, [(6, 3, 0), (8, 19, 0), (6, 2, 0)])), (false, ac_1075), (false, ac_1073), (false, ac_1056), (false, am_0)]
noncomputable def con_1964 : Con2 := ((yX11_isAsSeen, cX11_isAsSeen, 4, (some .boolean)), (0, 0), ([(6, 0, 0), (0, 2, 0)], gi_1410, hc_203, []), [((0, 1, 0), gi_1411, hq_895, [], [1])])
theorem hd_1964 : con_1964.1 = (yX11_isAsSeen, cX11_isAsSeen, 4, (some .boolean)) := rfl
noncomputable def gi_1412 : GI := jl_n [gp_643, gp_487, jl_z 12]
noncomputable def cu_1964 : List CUT2 := [((2, [lq 0 6 0, lq 1 0 2, lq 2 0 0], [], gi_1412, hq_895), [], ([], 0))]
theorem ch_1964 : staG tb_X11_isAsSeen 1 bt_RX11 [] ct_3 [] [] cu_1964 11 con_1964 = true := by decide +kernel
theorem cc_1964 : cu_1964.all (cutG tb_X11_isAsSeen 1 bt_RX11 [] ct_3 [] [] cu_1964 11 con_1964) = true := by decide +kernel
theorem vl_1964 (l : Launch) : Vld2 l vwCl gTbl con_1964 := conR_ok3 gT_all (hd_1964) rfl pn_RX11 tk_X11_isAsSeen bo_RX11 xo_RX11 (cto_3 l) ch_1964 (cut_all cc_1964)
/-- RookHusting guessAll -/
noncomputable def gi_1413 : GI := jl_n [gp_645, gp_487]
noncomputable def ac_1076 : AC := .inr (1, jl_n [js_1 139 2, jl_x (1, (0, 0, 0)), js_1 141 1])
noncomputable def hc_204 : List AC := [ac_1057, .inl (9, [(6, 3, 0), (6, 11, 0)]), .inl (7, [(6, 4, 0), (6, 5, 0), (6, 6, 0), (1, 24, 0)]), ac_1058, am_7, am_1, am_1, am_1, .inl (1, [(6, 3, 0), (8, 43, 0)]), am_4, am_6, .inl (0, [(1, 44, 0), (6, 12, 0), (6, 13, 0), (6, 14, 0)]), ac_642, am_11, ac_643, ac_1059, am_2, am_0, am_10, am_0, am_1, am_0, am_2, am_9, am_0, am_0, am_12, ac_1060, .inl (7, [(6, 29, 0), (6, 30, 0), (6, 31, 0), (1, 124, 0)]), am_7, am_1, am_1, ac_1061, am_0, am_0, am_1, am_0, am_0, am_0, am_12, .inl (8, [(6, 42, 0), (8, 135, 0), (6, 41, 0)]), ac_1076, ac_1074, am_16]
noncomputable def gi_1414 : GI := jl_n [gp_645, gp_487, gp_622]
noncomputable def hq_896 : HP := [(true, ac_1064), (false, .inl (9, [(6, 3, 0), (6, 11, 0)])), (true, .inl (7, [(6, 4, 0), (6, 5, 0), (6, 6, 0), (1, 220, 0)])), (false, ac_1058), (true, am_7), (true, am_1), (true, am_1), (false, am_1), (false, .inl (1, [(6, 3, 0), (8, 43, 0)])), (false, am_4), (false, am_6), (false, .inl (0, [(1, 44, 0), (6, 12, 0), (6, 13, 0), (6, 14, 0)])), (false, ac_642), (false, am_11), (false, ac_643), (true, ac_1065), (false, am_2), (true, am_0), (false, am_10), (true, am_0), (true, am_1), (true, am_0), (false, am_2), (false, am_9), (true, am_0), (true, am_0), (true, am_12), (true, ac_1066), (true, .inl (7, [(6, 29, 0), (6, 30, 0), (6, 31, 0), (1, 237, 0)])), (true, am_7), (true, am_1), (true, am_1), (true, ac_1067), (true, am_0), (true, am_0), (true, am_1), (true, am_0), (true, am_0), (true, am_0), (true, am_12), (false, .inl (8, [(6, 42, 0), (8, 135, 0), (6, 41, 0)])), (false, ac_1076), (false, ac_1074), (true, am_16)]
noncomputable def con_1965 : Con2 := ((yX11_guessAll, cX11_guessAll, 4, none), (6, 151), ([(6, 0, 0), (0, 2, 0), (1, 2, 0)], gi_1413, hc_204, rq_6), [((9, 0, 0), gi_1414, hq_896, [], tg_1)])
theorem hd_1965 : con_1965.1 = (yX11_guessAll, cX11_guessAll, 4, none) := rfl
theorem ck_RX11_483_1964 : COK2 RX11 vwCl gTbl 483 0 con_1964 := ⟨wd_1230, wd_125, mh_X11_isAsSeen, .inr (.inr ⟨rfl, wd_1227, wd_1229, wd_43, ⟨_, rfl, pd_X11_isAsSeen⟩, 11, _, TX11, 16, rfl, rfl⟩)⟩
noncomputable def ct_1965 : CTB2 := [(1, 208, 0, con_929, [0, 1, 2, 3, 4, 5, 6, 7, 8, 9, 10, 11, 12, 13, 14, 15, 16, 17, 18, 19, 20, 21, 22, 23, 24, 25, 26]), (36, 332, 0, con_1456, [28, 2, 29, 4, 30, 5, 31, 6]), (45, 480, 0, con_869, [28, 29]), (73, 372, 0, con_928, [32, 3, 28, 16, 33, 18, 34, 30, 35, 29, 36, 22, 23, 37, 38, 39, 31]), (78, 483, 0, con_1964, [0, 40, 41, 42, 32, 33]), (105, 486, 0, con_1766, [27, 33, 43]), (105, 486, 0, con_1771, [27, 33, 43])]
noncomputable def gi_1415 : GI := jl_n [gp_645, gp_487, gp_623]
noncomputable def hq_897 : HP := [(true, ac_1064), (false, .inl (9, [(6, 3, 0), (6, 11, 0)])), (true, .inl (7, [(6, 4, 0), (6, 5, 0), (6, 6, 0), (1, 224, 0)])), (false, ac_1058), (true, am_7), (true, am_1), (true, am_1), (false, am_1), (false, .inl (1, [(6, 3, 0), (8, 43, 0)])), (false, am_4), (false, am_6), (false, .inl (0, [(1, 44, 0), (6, 12, 0), (6, 13, 0), (6, 14, 0)])), (false, ac_642), (false, am_11), (false, ac_643), (true, ac_1068), (false, am_2), (true, am_0), (false, am_10), (true, am_0), (true, am_1), (true, am_0), (false, am_2), (false, am_9), (true, am_0), (true, am_0), (true, am_12), (true, ac_1069), (true, .inl (7, [(6, 29, 0), (6, 30, 0), (6, 31, 0), (1, 241, 0)])), (true, am_7), (true, am_1), (true, am_1), (true, ac_1070), (true, am_0), (true, am_0), (true, am_1), (true, am_0), (true, am_0), (true, am_0), (true, am_12), (false, .inl (8, [(6, 42, 0), (8, 135, 0), (6, 41, 0)])), (false, ac_1076), (false, ac_1074), (true, am_16)]
noncomputable def cu_1965 : List CUT2 := [((14, [lq 0 6 0, lq 1 0 2, lq 2 1 2, lq 3 1 204], [], gi_1415, hq_897), rq_6, ([(204, (-1))], 5))]
theorem ch_1965 : staG tb_X11_guessAll 1 bt_RX11 [] ct_1965 [] [] cu_1965 48 con_1965 = true := by decide +kernel
theorem cc_1965 : cu_1965.all (cutG tb_X11_guessAll 1 bt_RX11 [] ct_1965 [] [] cu_1965 48 con_1965) = true := by decide +kernel
theorem cto_1965 (l : Launch) : CTOK2 l RX11 vwCl gTbl ct_1965 := ct2_cons (vl_929 l) ck_RX11_208_929 (ct2_cons (vl_1456 l) ck_RX11_332_1456 (ct2_cons (vl_869 l) ck_RX11_480_869 (ct2_cons (vl_928 l) ck_RX11_372_928 (ct2_cons (vl_1964 l) ck_RX11_483_1964 (ct2_cons (vl_1766 l) ck_RX11_486_1766 (ct2_cons (vl_1771 l) ck_RX11_486_1771 (ct2_nil)))))))
theorem vl_1965 (l : Launch) : Vld2 l vwCl gTbl con_1965 := conR_ok3 gT_all (hd_1965) rfl pn_RX11 tk_X11_guessAll bo_RX11 xo_RX11 (cto_1965 l) ch_1965 (cut_all cc_1965)
/-- RookHusting$Slots at -/
noncomputable def con_1966 : Con2 := ((yX8_at, cX8_at, 3, (some .long)), (0, 0), ([(6, 0, 0), (0, 1, 0), (0, 0, 0)], [(0, 0), (0, 0), (0, 0), (0, 0), (0, 0), (0, 0), (0, 4)], [.inl (8, [(6, 1, 0), (8, 4, 0), (8, 5, 0)]), ac_931], []), [((4, 6, 0), gi_1116, hq_763, [], [1])])
theorem hd_1966 : con_1966.1 = (yX8_at, cX8_at, 3, (some .long)) := rfl
noncomputable def cu_1966 : List CUT2 := []
theorem ch_1966 : staG tb_X8_at 1 bt_RX8 [] ct_1497 [] [] cu_1966 11 con_1966 = true := by decide +kernel
theorem vl_1966 (l : Launch) : Vld2 l vwCl gTbl con_1966 := conR_ok3 gT_all (hd_1966) rfl pn_RX8 tk_X8_at bo_RX8 xo_RX8 (cto_1497 l) ch_1966 cut_nil
/-- RookHusting$Slots at -/
noncomputable def con_1967 : Con2 := ((yX8_at, cX8_at, 3, (some .long)), (0, 0), ([(6, 0, 0), (0, 1, 0), (0, 1, 0)], [(0, 0), (0, 0), (0, 0), (0, 0), (0, 0), (0, 0), (0, 16)], [.inl (8, [(6, 1, 0), (8, 4, 0), (8, 5, 0)]), ac_932], []), [((4, 6, 0), gi_1117, hq_764, [], [1])])
theorem hd_1967 : con_1967.1 = (yX8_at, cX8_at, 3, (some .long)) := rfl
noncomputable def cu_1967 : List CUT2 := []
theorem ch_1967 : staG tb_X8_at 1 bt_RX8 [] ct_1497 [] [] cu_1967 11 con_1967 = true := by decide +kernel
theorem vl_1967 (l : Launch) : Vld2 l vwCl gTbl con_1967 := conR_ok3 gT_all (hd_1967) rfl pn_RX8 tk_X8_at bo_RX8 xo_RX8 (cto_1497 l) ch_1967 cut_nil
/-- RookHusting$Slots at -/
noncomputable def con_1968 : Con2 := ((yX8_at, cX8_at, 3, (some .long)), (0, 0), ([(6, 0, 0), (0, 1, 0), (0, 2, 0)], [(0, 0), (0, 0), (0, 0), (0, 0), (0, 0), (0, 0), (0, 250)], [.inl (8, [(6, 1, 0), (8, 4, 0), (8, 5, 0)]), ac_933], []), [((4, 6, 0), gi_1118, hq_765, [], [1])])
theorem hd_1968 : con_1968.1 = (yX8_at, cX8_at, 3, (some .long)) := rfl
noncomputable def cu_1968 : List CUT2 := []
theorem ch_1968 : staG tb_X8_at 1 bt_RX8 [] ct_1497 [] [] cu_1968 11 con_1968 = true := by decide +kernel
theorem vl_1968 (l : Launch) : Vld2 l vwCl gTbl con_1968 := conR_ok3 gT_all (hd_1968) rfl pn_RX8 tk_X8_at bo_RX8 xo_RX8 (cto_1497 l) ch_1968 cut_nil
/-- RookHusting$Slots at -/
noncomputable def con_1969 : Con2 := ((yX8_at, cX8_at, 3, (some .long)), (0, 0), ([(6, 0, 0), (0, 1, 0), (0, 3, 0)], [(0, 0), (0, 0), (0, 0), (0, 0), (0, 0), (0, 0), (0, 4)], [.inl (8, [(6, 1, 0), (8, 4, 0), (8, 5, 0)]), ac_934], []), [((4, 6, 0), gi_1116, hq_766, [], [1])])
theorem hd_1969 : con_1969.1 = (yX8_at, cX8_at, 3, (some .long)) := rfl
noncomputable def cu_1969 : List CUT2 := []
theorem ch_1969 : staG tb_X8_at 1 bt_RX8 [] ct_1497 [] [] cu_1969 11 con_1969 = true := by decide +kernel
theorem vl_1969 (l : Launch) : Vld2 l vwCl gTbl con_1969 := conR_ok3 gT_all (hd_1969) rfl pn_RX8 tk_X8_at bo_RX8 xo_RX8 (cto_1497 l) ch_1969 cut_nil
/-- RookHusting$Slots at -/
noncomputable def con_1970 : Con2 := ((yX8_at, cX8_at, 3, (some .long)), (0, 0), ([(6, 0, 0), (0, 1, 0), (0, 4, 0)], [(0, 0), (0, 0), (0, 0), (0, 0), (0, 0), (0, 0), (0, 16)], [.inl (8, [(6, 1, 0), (8, 4, 0), (8, 5, 0)]), ac_935], []), [((4, 6, 0), gi_1117, hq_767, [], [1])])
theorem hd_1970 : con_1970.1 = (yX8_at, cX8_at, 3, (some .long)) := rfl
noncomputable def cu_1970 : List CUT2 := []
theorem ch_1970 : staG tb_X8_at 1 bt_RX8 [] ct_1497 [] [] cu_1970 11 con_1970 = true := by decide +kernel
theorem vl_1970 (l : Launch) : Vld2 l vwCl gTbl con_1970 := conR_ok3 gT_all (hd_1970) rfl pn_RX8 tk_X8_at bo_RX8 xo_RX8 (cto_1497 l) ch_1970 cut_nil
/-- RookHusting$Slots at -/
noncomputable def con_1971 : Con2 := ((yX8_at, cX8_at, 3, (some .long)), (0, 0), ([(6, 0, 0), (0, 1, 0), (0, 5, 0)], [(0, 0), (0, 0), (0, 0), (0, 0), (0, 0), (0, 0), (0, 250)], [.inl (8, [(6, 1, 0), (8, 4, 0), (8, 5, 0)]), ac_936], []), [((4, 6, 0), gi_1118, hq_768, [], [1])])
theorem hd_1971 : con_1971.1 = (yX8_at, cX8_at, 3, (some .long)) := rfl
noncomputable def cu_1971 : List CUT2 := []
theorem ch_1971 : staG tb_X8_at 1 bt_RX8 [] ct_1497 [] [] cu_1971 11 con_1971 = true := by decide +kernel
theorem vl_1971 (l : Launch) : Vld2 l vwCl gTbl con_1971 := conR_ok3 gT_all (hd_1971) rfl pn_RX8 tk_X8_at bo_RX8 xo_RX8 (cto_1497 l) ch_1971 cut_nil
/-- RookHusting$Slots at -/
noncomputable def con_1972 : Con2 := ((yX8_at, cX8_at, 3, (some .long)), (0, 0), ([(6, 0, 0), (0, 1, 0), (0, 6, 0)], [(0, 0), (0, 0), (0, 0), (0, 0), (0, 0), (0, 0), (0, 4)], [.inl (8, [(6, 1, 0), (8, 4, 0), (8, 5, 0)]), ac_937], []), [((4, 6, 0), gi_1116, hq_769, [], [1])])
theorem hd_1972 : con_1972.1 = (yX8_at, cX8_at, 3, (some .long)) := rfl
noncomputable def cu_1972 : List CUT2 := []
theorem ch_1972 : staG tb_X8_at 1 bt_RX8 [] ct_1497 [] [] cu_1972 11 con_1972 = true := by decide +kernel
theorem vl_1972 (l : Launch) : Vld2 l vwCl gTbl con_1972 := conR_ok3 gT_all (hd_1972) rfl pn_RX8 tk_X8_at bo_RX8 xo_RX8 (cto_1497 l) ch_1972 cut_nil
/-- RookHusting$Slots at -/
noncomputable def con_1973 : Con2 := ((yX8_at, cX8_at, 3, (some .long)), (0, 0), ([(6, 0, 0), (0, 1, 0), (0, 7, 0)], [(0, 0), (0, 0), (0, 0), (0, 0), (0, 0), (0, 0), (0, 16)], [.inl (8, [(6, 1, 0), (8, 4, 0), (8, 5, 0)]), ac_938], []), [((4, 6, 0), gi_1117, hq_770, [], [1])])
theorem hd_1973 : con_1973.1 = (yX8_at, cX8_at, 3, (some .long)) := rfl
noncomputable def cu_1973 : List CUT2 := []
theorem ch_1973 : staG tb_X8_at 1 bt_RX8 [] ct_1497 [] [] cu_1973 11 con_1973 = true := by decide +kernel
theorem vl_1973 (l : Launch) : Vld2 l vwCl gTbl con_1973 := conR_ok3 gT_all (hd_1973) rfl pn_RX8 tk_X8_at bo_RX8 xo_RX8 (cto_1497 l) ch_1973 cut_nil
/-- RookHusting$Slots at -/
noncomputable def con_1974 : Con2 := ((yX8_at, cX8_at, 3, (some .long)), (0, 0), ([(6, 0, 0), (0, 1, 0), (0, 8, 0)], [(0, 0), (0, 0), (0, 0), (0, 0), (0, 0), (0, 0), (0, 250)], [.inl (8, [(6, 1, 0), (8, 4, 0), (8, 5, 0)]), ac_939], []), [((4, 6, 0), gi_1118, hq_771, [], [1])])
theorem hd_1974 : con_1974.1 = (yX8_at, cX8_at, 3, (some .long)) := rfl
noncomputable def cu_1974 : List CUT2 := []
theorem ch_1974 : staG tb_X8_at 1 bt_RX8 [] ct_1497 [] [] cu_1974 11 con_1974 = true := by decide +kernel
theorem vl_1974 (l : Launch) : Vld2 l vwCl gTbl con_1974 := conR_ok3 gT_all (hd_1974) rfl pn_RX8 tk_X8_at bo_RX8 xo_RX8 (cto_1497 l) ch_1974 cut_nil
/-- RookHusting isAsSeen -/
noncomputable def gi_1416 : GI := jl_n [gp_666, jl_z 9]
noncomputable def ac_1077 : AC := .inr (2, jl_n [js_5 60 9223372036854775807 9223372036854775807, js_4 85 60, js_5 120 9223372036854775807 9223372036854775807])
noncomputable def hc_205 : List AC := [ac_1053, .inl (8, [(6, 3, 0), (8, 19, 0), (6, 2, 0)]), ac_1054, ac_1077, ac_1056, am_0]
noncomputable def gi_1417 : GI := jl_n [gp_666, jl_z 10]
noncomputable def hq_898 : HP := [(false, ac_1053), (false, .inl (8, [(6, 3, 0), (8, 19, 0), (6, 2, 0)])), (false, ac_1054), (false, ac_1077), (false, ac_1056), (false, am_0)]
noncomputable def con_1975 : Con2 := ((yX11_isAsSeen, cX11_isAsSeen, 4, (some .boolean)), (1, 22), ([(6, 0, 0), (0, 1, 0)], gi_1416, hc_205, []), [((0, 0, 0), gi_1417, hq_898, [], [1]), ((0, 1, 0), gi_1417, hq_898, [], [1])])
theorem hd_1975 : con_1975.1 = (yX11_isAsSeen, cX11_isAsSeen, 4, (some .boolean)) := rfl
theorem ck_RX11_473_1968 : COK2 RX11 vwCl gTbl 473 0 con_1968 := ⟨wd_1218, wd_131, mh_X8_at, .inr (.inr ⟨rfl, wd_1215, wd_1216, wd_1217, ⟨_, rfl, pd_X8_at⟩, 8, _, TX8, 3, rfl, rfl⟩)⟩
theorem ck_RX11_473_1971 : COK2 RX11 vwCl gTbl 473 0 con_1971 := ⟨wd_1218, wd_131, mh_X8_at, .inr (.inr ⟨rfl, wd_1215, wd_1216, wd_1217, ⟨_, rfl, pd_X8_at⟩, 8, _, TX8, 3, rfl, rfl⟩)⟩
theorem ck_RX11_473_1974 : COK2 RX11 vwCl gTbl 473 0 con_1974 := ⟨wd_1218, wd_131, mh_X8_at, .inr (.inr ⟨rfl, wd_1215, wd_1216, wd_1217, ⟨_, rfl, pd_X8_at⟩, 8, _, TX8, 3, rfl, rfl⟩)⟩
theorem ck_RX11_473_1967 : COK2 RX11 vwCl gTbl 473 0 con_1967 := ⟨wd_1218, wd_131, mh_X8_at, .inr (.inr ⟨rfl, wd_1215, wd_1216, wd_1217, ⟨_, rfl, pd_X8_at⟩, 8, _, TX8, 3, rfl, rfl⟩)⟩
theorem ck_RX11_473_1970 : COK2 RX11 vwCl gTbl 473 0 con_1970 := ⟨wd_1218, wd_131, mh_X8_at, .inr (.inr ⟨rfl, wd_1215, wd_1216, wd_1217, ⟨_, rfl, pd_X8_at⟩, 8, _, TX8, 3, rfl, rfl⟩)⟩
theorem ck_RX11_473_1973 : COK2 RX11 vwCl gTbl 473 0 con_1973 := ⟨wd_1218, wd_131, mh_X8_at, .inr (.inr ⟨rfl, wd_1215, wd_1216, wd_1217, ⟨_, rfl, pd_X8_at⟩, 8, _, TX8, 3, rfl, rfl⟩)⟩
theorem ck_RX11_473_1966 : COK2 RX11 vwCl gTbl 473 0 con_1966 := ⟨wd_1218, wd_131, mh_X8_at, .inr (.inr ⟨rfl, wd_1215, wd_1216, wd_1217, ⟨_, rfl, pd_X8_at⟩, 8, _, TX8, 3, rfl, rfl⟩)⟩
theorem ck_RX11_473_1969 : COK2 RX11 vwCl gTbl 473 0 con_1969 := ⟨wd_1218, wd_131, mh_X8_at, .inr (.inr ⟨rfl, wd_1215, wd_1216, wd_1217, ⟨_, rfl, pd_X8_at⟩, 8, _, TX8, 3, rfl, rfl⟩)⟩
theorem ck_RX11_473_1972 : COK2 RX11 vwCl gTbl 473 0 con_1972 := ⟨wd_1218, wd_131, mh_X8_at, .inr (.inr ⟨rfl, wd_1215, wd_1216, wd_1217, ⟨_, rfl, pd_X8_at⟩, 8, _, TX8, 3, rfl, rfl⟩)⟩
noncomputable def ct_1975 : CTB2 := [(21, 473, 0, con_1972, [1, 3]), (21, 473, 0, con_1969, [1, 3]), (21, 473, 0, con_1966, [1, 3]), (36, 473, 0, con_1973, [1, 3]), (36, 473, 0, con_1970, [1, 3]), (36, 473, 0, con_1967, [1, 3]), (60, 473, 0, con_1974, [1, 3]), (60, 473, 0, con_1971, [1, 3]), (60, 473, 0, con_1968, [1, 3])]
noncomputable def gi_1418 : GI := jl_n [gp_666, jl_z 12]
noncomputable def gi_1419 : GI := jl_n [gp_666, gp_618]
noncomputable def cu_1975 : List CUT2 := [((2, [lq 0 6 0, lq 1 0 1, lq 2 0 0], [], gi_1418, hq_898), [], ([], 9)), ((2, [lq 0 6 0, lq 1 0 1, lq 2 0 3, lq 3 1 97], [], gi_1419, hq_898), [], ([], 6)), ((2, [lq 0 6 0, lq 1 0 1, lq 2 0 6, lq 3 1 97], [], gi_1419, hq_898), [], ([], 3)), ((2, [lq 0 6 0, lq 1 0 1, lq 2 0 9, lq 3 1 97], [], gi_1419, hq_898), [], ([], 0))]
theorem ch_1975 : staG tb_X11_isAsSeen 1 bt_RX11 [] ct_1975 [] [] cu_1975 44 con_1975 = true := by decide +kernel
theorem cc_1975 : cu_1975.all (cutG tb_X11_isAsSeen 1 bt_RX11 [] ct_1975 [] [] cu_1975 44 con_1975) = true := by decide +kernel
theorem cto_1975 (l : Launch) : CTOK2 l RX11 vwCl gTbl ct_1975 := ct2_cons (vl_1972 l) ck_RX11_473_1972 (ct2_cons (vl_1969 l) ck_RX11_473_1969 (ct2_cons (vl_1966 l) ck_RX11_473_1966 (ct2_cons (vl_1973 l) ck_RX11_473_1973 (ct2_cons (vl_1970 l) ck_RX11_473_1970 (ct2_cons (vl_1967 l) ck_RX11_473_1967 (ct2_cons (vl_1974 l) ck_RX11_473_1974 (ct2_cons (vl_1971 l) ck_RX11_473_1971 (ct2_cons (vl_1968 l) ck_RX11_473_1968 (ct2_nil)))))))))
theorem vl_1975 (l : Launch) : Vld2 l vwCl gTbl con_1975 := conR_ok3 gT_all (hd_1975) rfl pn_RX11 tk_X11_isAsSeen bo_RX11 xo_RX11 (cto_1975 l) ch_1975 (cut_all cc_1975)
/-- RookHusting guessAll -/
noncomputable def gi_1420 : GI := jl_n [gp_667, gp_571]
noncomputable def ac_1078 : AC := .inr (2, jl_n [js_5 60 9223372036854775807 9223372036854775807, js_4 201 60, js_5 120 9223372036854775807 9223372036854775807])
noncomputable def hc_206 : List AC := [ac_1057, .inl (9, [(6, 3, 0), (6, 11, 0)]), .inl (7, [(6, 4, 0), (6, 5, 0), (6, 6, 0), (1, 24, 0)]), ac_1058, am_7, am_1, am_1, am_1, .inl (1, [(6, 3, 0), (8, 43, 0)]), am_4, am_6, .inl (0, [(1, 44, 0), (6, 12, 0), (6, 13, 0), (6, 14, 0)]), ac_642, am_11, ac_643, ac_1059, am_2, am_0, am_10, am_0, am_1, am_0, am_2, am_9, am_0, am_0, am_12, ac_1060, .inl (7, [(6, 29, 0), (6, 30, 0), (6, 31, 0), (1, 124, 0)]), am_7, am_1, am_1, ac_1061, am_0, am_0, am_1, am_0, am_0, am_0, am_12, .inl (8, [(6, 42, 0), (8, 135, 0), (6, 41, 0)]), ac_1062, ac_1078, am_16]
noncomputable def gi_1421 : GI := jl_n [gp_667, gp_571, gp_622]
noncomputable def hq_899 : HP := [(true, ac_1064), (false, .inl (9, [(6, 3, 0), (6, 11, 0)])), (true, .inl (7, [(6, 4, 0), (6, 5, 0), (6, 6, 0), (1, 220, 0)])), (false, ac_1058), (true, am_7), (true, am_1), (true, am_1), (false, am_1), (false, .inl (1, [(6, 3, 0), (8, 43, 0)])), (false, am_4), (false, am_6), (false, .inl (0, [(1, 44, 0), (6, 12, 0), (6, 13, 0), (6, 14, 0)])), (false, ac_642), (false, am_11), (false, ac_643), (true, ac_1065), (false, am_2), (true, am_0), (false, am_10), (true, am_0), (true, am_1), (true, am_0), (false, am_2), (false, am_9), (true, am_0), (true, am_0), (true, am_12), (true, ac_1066), (true, .inl (7, [(6, 29, 0), (6, 30, 0), (6, 31, 0), (1, 237, 0)])), (true, am_7), (true, am_1), (true, am_1), (true, ac_1067), (true, am_0), (true, am_0), (true, am_1), (true, am_0), (true, am_0), (true, am_0), (true, am_12), (false, .inl (8, [(6, 42, 0), (8, 135, 0), (6, 41, 0)])), (false, ac_1062), (false, ac_1078), (true, am_16)]
noncomputable def con_1976 : Con2 := ((yX11_guessAll, cX11_guessAll, 4, none), (6, 151), ([(6, 0, 0), (0, 1, 0), (1, 2, 0)], gi_1420, hc_206, rq_6), [((9, 0, 0), gi_1421, hq_899, [], tg_1)])
theorem hd_1976 : con_1976.1 = (yX11_guessAll, cX11_guessAll, 4, none) := rfl
theorem ck_RX11_483_1975 : COK2 RX11 vwCl gTbl 483 0 con_1975 := ⟨wd_1230, wd_125, mh_X11_isAsSeen, .inr (.inr ⟨rfl, wd_1227, wd_1229, wd_43, ⟨_, rfl, pd_X11_isAsSeen⟩, 11, _, TX11, 16, rfl, rfl⟩)⟩
noncomputable def ct_1976 : CTB2 := [(1, 208, 0, con_929, [0, 1, 2, 3, 4, 5, 6, 7, 8, 9, 10, 11, 12, 13, 14, 15, 16, 17, 18, 19, 20, 21, 22, 23, 24, 25, 26]), (36, 332, 0, con_1456, [28, 2, 29, 4, 30, 5, 31, 6]), (45, 480, 0, con_869, [28, 29]), (73, 372, 0, con_928, [32, 3, 28, 16, 33, 18, 34, 30, 35, 29, 36, 22, 23, 37, 38, 39, 31]), (78, 483, 0, con_1975, [0, 40, 41, 42, 32, 33]), (105, 486, 0, con_1766, [27, 33, 43]), (105, 486, 0, con_1771, [27, 33, 43])]
noncomputable def gi_1422 : GI := jl_n [gp_667, gp_571, gp_623]
noncomputable def hq_900 : HP := [(true, ac_1064), (false, .inl (9, [(6, 3, 0), (6, 11, 0)])), (true, .inl (7, [(6, 4, 0), (6, 5, 0), (6, 6, 0), (1, 224, 0)])), (false, ac_1058), (true, am_7), (true, am_1), (true, am_1), (false, am_1), (false, .inl (1, [(6, 3, 0), (8, 43, 0)])), (false, am_4), (false, am_6), (false, .inl (0, [(1, 44, 0), (6, 12, 0), (6, 13, 0), (6, 14, 0)])), (false, ac_642), (false, am_11), (false, ac_643), (true, ac_1068), (false, am_2), (true, am_0), (false, am_10), (true, am_0), (true, am_1), (true, am_0), (false, am_2), (false, am_9), (true, am_0), (true, am_0), (true, am_12), (true, ac_1069), (true, .inl (7, [(6, 29, 0), (6, 30, 0), (6, 31, 0), (1, 241, 0)])), (true, am_7), (true, am_1), (true, am_1), (true, ac_1070), (true, am_0), (true, am_0), (true, am_1), (true, am_0), (true, am_0), (true, am_0), (true, am_12), (false, .inl (8, [(6, 42, 0), (8, 135, 0), (6, 41, 0)])), (false, ac_1062), (false, ac_1078), (true, am_16)]
noncomputable def cu_1976 : List CUT2 := [((14, [lq 0 6 0, lq 1 0 1, lq 2 1 2, lq 3 1 204], [], gi_1422, hq_900), rq_6, ([(204, (-1))], 5))]
theorem ch_1976 : staG tb_X11_guessAll 1 bt_RX11 [] ct_1976 [] [] cu_1976 48 con_1976 = true := by decide +kernel
theorem cc_1976 : cu_1976.all (cutG tb_X11_guessAll 1 bt_RX11 [] ct_1976 [] [] cu_1976 48 con_1976) = true := by decide +kernel
theorem cto_1976 (l : Launch) : CTOK2 l RX11 vwCl gTbl ct_1976 := ct2_cons (vl_929 l) ck_RX11_208_929 (ct2_cons (vl_1456 l) ck_RX11_332_1456 (ct2_cons (vl_869 l) ck_RX11_480_869 (ct2_cons (vl_928 l) ck_RX11_372_928 (ct2_cons (vl_1975 l) ck_RX11_483_1975 (ct2_cons (vl_1766 l) ck_RX11_486_1766 (ct2_cons (vl_1771 l) ck_RX11_486_1771 (ct2_nil)))))))
theorem vl_1976 (l : Launch) : Vld2 l vwCl gTbl con_1976 := conR_ok3 gT_all (hd_1976) rfl pn_RX11 tk_X11_guessAll bo_RX11 xo_RX11 (cto_1976 l) ch_1976 (cut_all cc_1976)
/-- RookHusting$Slots at -/
noncomputable def con_1977 : Con2 := ((yX8_at, cX8_at, 3, (some .long)), (0, 0), ([(6, 0, 0), (0, 1, 0), (0, 9, 0)], [(0, 0), (0, 0), (0, 0), (0, 0), (0, 0), (0, 0), (0, 4)], [.inl (8, [(6, 1, 0), (8, 4, 0), (8, 5, 0)]), ac_940], []), [((4, 6, 0), gi_1116, hq_772, [], [1])])
theorem hd_1977 : con_1977.1 = (yX8_at, cX8_at, 3, (some .long)) := rfl
noncomputable def cu_1977 : List CUT2 := []
theorem ch_1977 : staG tb_X8_at 1 bt_RX8 [] ct_1497 [] [] cu_1977 11 con_1977 = true := by decide +kernel
theorem vl_1977 (l : Launch) : Vld2 l vwCl gTbl con_1977 := conR_ok3 gT_all (hd_1977) rfl pn_RX8 tk_X8_at bo_RX8 xo_RX8 (cto_1497 l) ch_1977 cut_nil
/-- RookHusting$Slots at -/
noncomputable def con_1978 : Con2 := ((yX8_at, cX8_at, 3, (some .long)), (0, 0), ([(6, 0, 0), (0, 1, 0), (0, 10, 0)], [(0, 0), (0, 0), (0, 0), (0, 0), (0, 0), (0, 0), (0, 16)], [.inl (8, [(6, 1, 0), (8, 4, 0), (8, 5, 0)]), ac_941], []), [((4, 6, 0), gi_1117, hq_773, [], [1])])
theorem hd_1978 : con_1978.1 = (yX8_at, cX8_at, 3, (some .long)) := rfl
noncomputable def cu_1978 : List CUT2 := []
theorem ch_1978 : staG tb_X8_at 1 bt_RX8 [] ct_1497 [] [] cu_1978 11 con_1978 = true := by decide +kernel
theorem vl_1978 (l : Launch) : Vld2 l vwCl gTbl con_1978 := conR_ok3 gT_all (hd_1978) rfl pn_RX8 tk_X8_at bo_RX8 xo_RX8 (cto_1497 l) ch_1978 cut_nil
/-- RookHusting$Slots at -/
noncomputable def con_1979 : Con2 := ((yX8_at, cX8_at, 3, (some .long)), (0, 0), ([(6, 0, 0), (0, 1, 0), (0, 11, 0)], [(0, 0), (0, 0), (0, 0), (0, 0), (0, 0), (0, 0), (0, 250)], [.inl (8, [(6, 1, 0), (8, 4, 0), (8, 5, 0)]), ac_942], []), [((4, 6, 0), gi_1118, hq_774, [], [1])])
theorem hd_1979 : con_1979.1 = (yX8_at, cX8_at, 3, (some .long)) := rfl
noncomputable def cu_1979 : List CUT2 := []
theorem ch_1979 : staG tb_X8_at 1 bt_RX8 [] ct_1497 [] [] cu_1979 11 con_1979 = true := by decide +kernel
theorem vl_1979 (l : Launch) : Vld2 l vwCl gTbl con_1979 := conR_ok3 gT_all (hd_1979) rfl pn_RX8 tk_X8_at bo_RX8 xo_RX8 (cto_1497 l) ch_1979 cut_nil
/-- RookHusting$Slots at -/
noncomputable def con_1980 : Con2 := ((yX8_at, cX8_at, 3, (some .long)), (0, 0), ([(6, 0, 0), (0, 1, 0), (0, 12, 0)], [(0, 0), (0, 0), (0, 0), (0, 0), (0, 0), (0, 0), (0, 4)], [.inl (8, [(6, 1, 0), (8, 4, 0), (8, 5, 0)]), ac_943], []), [((4, 6, 0), gi_1116, hq_775, [], [1])])
theorem hd_1980 : con_1980.1 = (yX8_at, cX8_at, 3, (some .long)) := rfl
noncomputable def cu_1980 : List CUT2 := []
theorem ch_1980 : staG tb_X8_at 1 bt_RX8 [] ct_1497 [] [] cu_1980 11 con_1980 = true := by decide +kernel
theorem vl_1980 (l : Launch) : Vld2 l vwCl gTbl con_1980 := conR_ok3 gT_all (hd_1980) rfl pn_RX8 tk_X8_at bo_RX8 xo_RX8 (cto_1497 l) ch_1980 cut_nil
/-- RookHusting$Slots at -/
noncomputable def con_1981 : Con2 := ((yX8_at, cX8_at, 3, (some .long)), (0, 0), ([(6, 0, 0), (0, 1, 0), (0, 13, 0)], [(0, 0), (0, 0), (0, 0), (0, 0), (0, 0), (0, 0), (0, 16)], [.inl (8, [(6, 1, 0), (8, 4, 0), (8, 5, 0)]), ac_944], []), [((4, 6, 0), gi_1117, hq_776, [], [1])])
theorem hd_1981 : con_1981.1 = (yX8_at, cX8_at, 3, (some .long)) := rfl
noncomputable def cu_1981 : List CUT2 := []
theorem ch_1981 : staG tb_X8_at 1 bt_RX8 [] ct_1497 [] [] cu_1981 11 con_1981 = true := by decide +kernel
theorem vl_1981 (l : Launch) : Vld2 l vwCl gTbl con_1981 := conR_ok3 gT_all (hd_1981) rfl pn_RX8 tk_X8_at bo_RX8 xo_RX8 (cto_1497 l) ch_1981 cut_nil
/-- RookHusting$Slots at -/
noncomputable def con_1982 : Con2 := ((yX8_at, cX8_at, 3, (some .long)), (0, 0), ([(6, 0, 0), (0, 1, 0), (0, 14, 0)], [(0, 0), (0, 0), (0, 0), (0, 0), (0, 0), (0, 0), (0, 250)], [.inl (8, [(6, 1, 0), (8, 4, 0), (8, 5, 0)]), ac_945], []), [((4, 6, 0), gi_1118, hq_777, [], [1])])
theorem hd_1982 : con_1982.1 = (yX8_at, cX8_at, 3, (some .long)) := rfl
noncomputable def cu_1982 : List CUT2 := []
theorem ch_1982 : staG tb_X8_at 1 bt_RX8 [] ct_1497 [] [] cu_1982 11 con_1982 = true := by decide +kernel
theorem vl_1982 (l : Launch) : Vld2 l vwCl gTbl con_1982 := conR_ok3 gT_all (hd_1982) rfl pn_RX8 tk_X8_at bo_RX8 xo_RX8 (cto_1497 l) ch_1982 cut_nil
/-- RookHusting$Slots at -/
noncomputable def con_1983 : Con2 := ((yX8_at, cX8_at, 3, (some .long)), (0, 0), ([(6, 0, 0), (0, 1, 0), (0, 15, 0)], [(0, 0), (0, 0), (0, 0), (0, 0), (0, 0), (0, 0), (0, 4)], [.inl (8, [(6, 1, 0), (8, 4, 0), (8, 5, 0)]), ac_946], []), [((4, 6, 0), gi_1116, hq_778, [], [1])])
theorem hd_1983 : con_1983.1 = (yX8_at, cX8_at, 3, (some .long)) := rfl
noncomputable def cu_1983 : List CUT2 := []
theorem ch_1983 : staG tb_X8_at 1 bt_RX8 [] ct_1497 [] [] cu_1983 11 con_1983 = true := by decide +kernel
theorem vl_1983 (l : Launch) : Vld2 l vwCl gTbl con_1983 := conR_ok3 gT_all (hd_1983) rfl pn_RX8 tk_X8_at bo_RX8 xo_RX8 (cto_1497 l) ch_1983 cut_nil
/-- RookHusting$Slots at -/
noncomputable def con_1984 : Con2 := ((yX8_at, cX8_at, 3, (some .long)), (0, 0), ([(6, 0, 0), (0, 1, 0), (0, 16, 0)], [(0, 0), (0, 0), (0, 0), (0, 0), (0, 0), (0, 0), (0, 16)], [.inl (8, [(6, 1, 0), (8, 4, 0), (8, 5, 0)]), ac_947], []), [((4, 6, 0), gi_1117, hq_779, [], [1])])
theorem hd_1984 : con_1984.1 = (yX8_at, cX8_at, 3, (some .long)) := rfl
noncomputable def cu_1984 : List CUT2 := []
theorem ch_1984 : staG tb_X8_at 1 bt_RX8 [] ct_1497 [] [] cu_1984 11 con_1984 = true := by decide +kernel
theorem vl_1984 (l : Launch) : Vld2 l vwCl gTbl con_1984 := conR_ok3 gT_all (hd_1984) rfl pn_RX8 tk_X8_at bo_RX8 xo_RX8 (cto_1497 l) ch_1984 cut_nil
/-- RookHusting$Slots at -/
noncomputable def con_1985 : Con2 := ((yX8_at, cX8_at, 3, (some .long)), (0, 0), ([(6, 0, 0), (0, 1, 0), (0, 17, 0)], [(0, 0), (0, 0), (0, 0), (0, 0), (0, 0), (0, 0), (0, 250)], [.inl (8, [(6, 1, 0), (8, 4, 0), (8, 5, 0)]), ac_948], []), [((4, 6, 0), gi_1118, hq_780, [], [1])])
theorem hd_1985 : con_1985.1 = (yX8_at, cX8_at, 3, (some .long)) := rfl
noncomputable def cu_1985 : List CUT2 := []
theorem ch_1985 : staG tb_X8_at 1 bt_RX8 [] ct_1497 [] [] cu_1985 11 con_1985 = true := by decide +kernel
theorem vl_1985 (l : Launch) : Vld2 l vwCl gTbl con_1985 := conR_ok3 gT_all (hd_1985) rfl pn_RX8 tk_X8_at bo_RX8 xo_RX8 (cto_1497 l) ch_1985 cut_nil
/-- RookHusting$Slots at -/
noncomputable def con_1986 : Con2 := ((yX8_at, cX8_at, 3, (some .long)), (0, 0), ([(6, 0, 0), (0, 1, 0), (0, 18, 0)], [(0, 0), (0, 0), (0, 0), (0, 0), (0, 0), (0, 0), (0, 4)], [.inl (8, [(6, 1, 0), (8, 4, 0), (8, 5, 0)]), ac_949], []), [((4, 6, 0), gi_1116, hq_781, [], [1])])
theorem hd_1986 : con_1986.1 = (yX8_at, cX8_at, 3, (some .long)) := rfl
noncomputable def cu_1986 : List CUT2 := []
theorem ch_1986 : staG tb_X8_at 1 bt_RX8 [] ct_1497 [] [] cu_1986 11 con_1986 = true := by decide +kernel
theorem vl_1986 (l : Launch) : Vld2 l vwCl gTbl con_1986 := conR_ok3 gT_all (hd_1986) rfl pn_RX8 tk_X8_at bo_RX8 xo_RX8 (cto_1497 l) ch_1986 cut_nil
/-- RookHusting$Slots at -/
noncomputable def con_1987 : Con2 := ((yX8_at, cX8_at, 3, (some .long)), (0, 0), ([(6, 0, 0), (0, 1, 0), (0, 19, 0)], [(0, 0), (0, 0), (0, 0), (0, 0), (0, 0), (0, 0), (0, 16)], [.inl (8, [(6, 1, 0), (8, 4, 0), (8, 5, 0)]), ac_950], []), [((4, 6, 0), gi_1117, hq_782, [], [1])])
theorem hd_1987 : con_1987.1 = (yX8_at, cX8_at, 3, (some .long)) := rfl
noncomputable def cu_1987 : List CUT2 := []
theorem ch_1987 : staG tb_X8_at 1 bt_RX8 [] ct_1497 [] [] cu_1987 11 con_1987 = true := by decide +kernel
theorem vl_1987 (l : Launch) : Vld2 l vwCl gTbl con_1987 := conR_ok3 gT_all (hd_1987) rfl pn_RX8 tk_X8_at bo_RX8 xo_RX8 (cto_1497 l) ch_1987 cut_nil
/-- RookHusting$Slots at -/
noncomputable def con_1988 : Con2 := ((yX8_at, cX8_at, 3, (some .long)), (0, 0), ([(6, 0, 0), (0, 1, 0), (0, 20, 0)], [(0, 0), (0, 0), (0, 0), (0, 0), (0, 0), (0, 0), (0, 250)], [.inl (8, [(6, 1, 0), (8, 4, 0), (8, 5, 0)]), ac_951], []), [((4, 6, 0), gi_1118, hq_783, [], [1])])
theorem hd_1988 : con_1988.1 = (yX8_at, cX8_at, 3, (some .long)) := rfl
noncomputable def cu_1988 : List CUT2 := []
theorem ch_1988 : staG tb_X8_at 1 bt_RX8 [] ct_1497 [] [] cu_1988 11 con_1988 = true := by decide +kernel
theorem vl_1988 (l : Launch) : Vld2 l vwCl gTbl con_1988 := conR_ok3 gT_all (hd_1988) rfl pn_RX8 tk_X8_at bo_RX8 xo_RX8 (cto_1497 l) ch_1988 cut_nil
/-- RookHusting$Slots at -/
noncomputable def con_1989 : Con2 := ((yX8_at, cX8_at, 3, (some .long)), (0, 0), ([(6, 0, 0), (0, 1, 0), (0, 21, 0)], [(0, 0), (0, 0), (0, 0), (0, 0), (0, 0), (0, 0), (0, 4)], [.inl (8, [(6, 1, 0), (8, 4, 0), (8, 5, 0)]), ac_952], []), [((4, 6, 0), gi_1116, hq_784, [], [1])])
theorem hd_1989 : con_1989.1 = (yX8_at, cX8_at, 3, (some .long)) := rfl
noncomputable def cu_1989 : List CUT2 := []
theorem ch_1989 : staG tb_X8_at 1 bt_RX8 [] ct_1497 [] [] cu_1989 11 con_1989 = true := by decide +kernel
theorem vl_1989 (l : Launch) : Vld2 l vwCl gTbl con_1989 := conR_ok3 gT_all (hd_1989) rfl pn_RX8 tk_X8_at bo_RX8 xo_RX8 (cto_1497 l) ch_1989 cut_nil
/-- RookHusting$Slots at -/
noncomputable def con_1990 : Con2 := ((yX8_at, cX8_at, 3, (some .long)), (0, 0), ([(6, 0, 0), (0, 1, 0), (0, 22, 0)], [(0, 0), (0, 0), (0, 0), (0, 0), (0, 0), (0, 0), (0, 16)], [.inl (8, [(6, 1, 0), (8, 4, 0), (8, 5, 0)]), ac_953], []), [((4, 6, 0), gi_1117, hq_785, [], [1])])
theorem hd_1990 : con_1990.1 = (yX8_at, cX8_at, 3, (some .long)) := rfl
noncomputable def cu_1990 : List CUT2 := []
theorem ch_1990 : staG tb_X8_at 1 bt_RX8 [] ct_1497 [] [] cu_1990 11 con_1990 = true := by decide +kernel
theorem vl_1990 (l : Launch) : Vld2 l vwCl gTbl con_1990 := conR_ok3 gT_all (hd_1990) rfl pn_RX8 tk_X8_at bo_RX8 xo_RX8 (cto_1497 l) ch_1990 cut_nil
/-- RookHusting$Slots at -/
noncomputable def con_1991 : Con2 := ((yX8_at, cX8_at, 3, (some .long)), (0, 0), ([(6, 0, 0), (0, 1, 0), (0, 23, 0)], [(0, 0), (0, 0), (0, 0), (0, 0), (0, 0), (0, 0), (0, 250)], [.inl (8, [(6, 1, 0), (8, 4, 0), (8, 5, 0)]), ac_954], []), [((4, 6, 0), gi_1118, hq_786, [], [1])])
theorem hd_1991 : con_1991.1 = (yX8_at, cX8_at, 3, (some .long)) := rfl
noncomputable def cu_1991 : List CUT2 := []
theorem ch_1991 : staG tb_X8_at 1 bt_RX8 [] ct_1497 [] [] cu_1991 11 con_1991 = true := by decide +kernel
theorem vl_1991 (l : Launch) : Vld2 l vwCl gTbl con_1991 := conR_ok3 gT_all (hd_1991) rfl pn_RX8 tk_X8_at bo_RX8 xo_RX8 (cto_1497 l) ch_1991 cut_nil
/-- RookHusting$Slots at -/
noncomputable def con_1992 : Con2 := ((yX8_at, cX8_at, 3, (some .long)), (0, 0), ([(6, 0, 0), (0, 1, 0), (0, 24, 0)], [(0, 0), (0, 0), (0, 0), (0, 0), (0, 0), (0, 0), (0, 4)], [.inl (8, [(6, 1, 0), (8, 4, 0), (8, 5, 0)]), ac_955], []), [((4, 6, 0), gi_1116, hq_787, [], [1])])
theorem hd_1992 : con_1992.1 = (yX8_at, cX8_at, 3, (some .long)) := rfl
noncomputable def cu_1992 : List CUT2 := []
theorem ch_1992 : staG tb_X8_at 1 bt_RX8 [] ct_1497 [] [] cu_1992 11 con_1992 = true := by decide +kernel
theorem vl_1992 (l : Launch) : Vld2 l vwCl gTbl con_1992 := conR_ok3 gT_all (hd_1992) rfl pn_RX8 tk_X8_at bo_RX8 xo_RX8 (cto_1497 l) ch_1992 cut_nil
/-- RookHusting$Slots at -/
noncomputable def con_1993 : Con2 := ((yX8_at, cX8_at, 3, (some .long)), (0, 0), ([(6, 0, 0), (0, 1, 0), (0, 25, 0)], [(0, 0), (0, 0), (0, 0), (0, 0), (0, 0), (0, 0), (0, 16)], [.inl (8, [(6, 1, 0), (8, 4, 0), (8, 5, 0)]), ac_956], []), [((4, 6, 0), gi_1117, hq_788, [], [1])])
theorem hd_1993 : con_1993.1 = (yX8_at, cX8_at, 3, (some .long)) := rfl
noncomputable def cu_1993 : List CUT2 := []
theorem ch_1993 : staG tb_X8_at 1 bt_RX8 [] ct_1497 [] [] cu_1993 11 con_1993 = true := by decide +kernel
theorem vl_1993 (l : Launch) : Vld2 l vwCl gTbl con_1993 := conR_ok3 gT_all (hd_1993) rfl pn_RX8 tk_X8_at bo_RX8 xo_RX8 (cto_1497 l) ch_1993 cut_nil
/-- RookHusting$Slots at -/
noncomputable def con_1994 : Con2 := ((yX8_at, cX8_at, 3, (some .long)), (0, 0), ([(6, 0, 0), (0, 1, 0), (0, 26, 0)], [(0, 0), (0, 0), (0, 0), (0, 0), (0, 0), (0, 0), (0, 250)], [.inl (8, [(6, 1, 0), (8, 4, 0), (8, 5, 0)]), ac_957], []), [((4, 6, 0), gi_1118, hq_789, [], [1])])
theorem hd_1994 : con_1994.1 = (yX8_at, cX8_at, 3, (some .long)) := rfl
noncomputable def cu_1994 : List CUT2 := []
theorem ch_1994 : staG tb_X8_at 1 bt_RX8 [] ct_1497 [] [] cu_1994 11 con_1994 = true := by decide +kernel
theorem vl_1994 (l : Launch) : Vld2 l vwCl gTbl con_1994 := conR_ok3 gT_all (hd_1994) rfl pn_RX8 tk_X8_at bo_RX8 xo_RX8 (cto_1497 l) ch_1994 cut_nil
/-- RookHusting$Slots at -/
noncomputable def con_1995 : Con2 := ((yX8_at, cX8_at, 3, (some .long)), (0, 0), ([(6, 0, 0), (0, 1, 0), (0, 27, 0)], [(0, 0), (0, 0), (0, 0), (0, 0), (0, 0), (0, 0), (0, 4)], [.inl (8, [(6, 1, 0), (8, 4, 0), (8, 5, 0)]), ac_958], []), [((4, 6, 0), gi_1116, hq_790, [], [1])])
theorem hd_1995 : con_1995.1 = (yX8_at, cX8_at, 3, (some .long)) := rfl
noncomputable def cu_1995 : List CUT2 := []
theorem ch_1995 : staG tb_X8_at 1 bt_RX8 [] ct_1497 [] [] cu_1995 11 con_1995 = true := by decide +kernel
theorem vl_1995 (l : Launch) : Vld2 l vwCl gTbl con_1995 := conR_ok3 gT_all (hd_1995) rfl pn_RX8 tk_X8_at bo_RX8 xo_RX8 (cto_1497 l) ch_1995 cut_nil
/-- RookHusting$Slots at -/
noncomputable def con_1996 : Con2 := ((yX8_at, cX8_at, 3, (some .long)), (0, 0), ([(6, 0, 0), (0, 1, 0), (0, 28, 0)], [(0, 0), (0, 0), (0, 0), (0, 0), (0, 0), (0, 0), (0, 16)], [.inl (8, [(6, 1, 0), (8, 4, 0), (8, 5, 0)]), ac_959], []), [((4, 6, 0), gi_1117, hq_791, [], [1])])
theorem hd_1996 : con_1996.1 = (yX8_at, cX8_at, 3, (some .long)) := rfl
noncomputable def cu_1996 : List CUT2 := []
theorem ch_1996 : staG tb_X8_at 1 bt_RX8 [] ct_1497 [] [] cu_1996 11 con_1996 = true := by decide +kernel
theorem vl_1996 (l : Launch) : Vld2 l vwCl gTbl con_1996 := conR_ok3 gT_all (hd_1996) rfl pn_RX8 tk_X8_at bo_RX8 xo_RX8 (cto_1497 l) ch_1996 cut_nil
/-- RookHusting$Slots at -/
noncomputable def con_1997 : Con2 := ((yX8_at, cX8_at, 3, (some .long)), (0, 0), ([(6, 0, 0), (0, 1, 0), (0, 29, 0)], [(0, 0), (0, 0), (0, 0), (0, 0), (0, 0), (0, 0), (0, 250)], [.inl (8, [(6, 1, 0), (8, 4, 0), (8, 5, 0)]), ac_960], []), [((4, 6, 0), gi_1118, hq_792, [], [1])])
theorem hd_1997 : con_1997.1 = (yX8_at, cX8_at, 3, (some .long)) := rfl
noncomputable def cu_1997 : List CUT2 := []
theorem ch_1997 : staG tb_X8_at 1 bt_RX8 [] ct_1497 [] [] cu_1997 11 con_1997 = true := by decide +kernel
theorem vl_1997 (l : Launch) : Vld2 l vwCl gTbl con_1997 := conR_ok3 gT_all (hd_1997) rfl pn_RX8 tk_X8_at bo_RX8 xo_RX8 (cto_1497 l) ch_1997 cut_nil
/-- RookHusting$Slots at -/
noncomputable def con_1998 : Con2 := ((yX8_at, cX8_at, 3, (some .long)), (0, 0), ([(6, 0, 0), (0, 1, 0), (0, 30, 0)], [(0, 0), (0, 0), (0, 0), (0, 0), (0, 0), (0, 0), (0, 4)], [.inl (8, [(6, 1, 0), (8, 4, 0), (8, 5, 0)]), ac_961], []), [((4, 6, 0), gi_1116, hq_793, [], [1])])
theorem hd_1998 : con_1998.1 = (yX8_at, cX8_at, 3, (some .long)) := rfl
noncomputable def cu_1998 : List CUT2 := []
theorem ch_1998 : staG tb_X8_at 1 bt_RX8 [] ct_1497 [] [] cu_1998 11 con_1998 = true := by decide +kernel
theorem vl_1998 (l : Launch) : Vld2 l vwCl gTbl con_1998 := conR_ok3 gT_all (hd_1998) rfl pn_RX8 tk_X8_at bo_RX8 xo_RX8 (cto_1497 l) ch_1998 cut_nil
/-- RookHusting$Slots at -/
noncomputable def con_1999 : Con2 := ((yX8_at, cX8_at, 3, (some .long)), (0, 0), ([(6, 0, 0), (0, 1, 0), (0, 31, 0)], [(0, 0), (0, 0), (0, 0), (0, 0), (0, 0), (0, 0), (0, 16)], [.inl (8, [(6, 1, 0), (8, 4, 0), (8, 5, 0)]), ac_962], []), [((4, 6, 0), gi_1117, hq_794, [], [1])])
theorem hd_1999 : con_1999.1 = (yX8_at, cX8_at, 3, (some .long)) := rfl
noncomputable def cu_1999 : List CUT2 := []
theorem ch_1999 : staG tb_X8_at 1 bt_RX8 [] ct_1497 [] [] cu_1999 11 con_1999 = true := by decide +kernel
theorem vl_1999 (l : Launch) : Vld2 l vwCl gTbl con_1999 := conR_ok3 gT_all (hd_1999) rfl pn_RX8 tk_X8_at bo_RX8 xo_RX8 (cto_1497 l) ch_1999 cut_nil
/-- RookHusting$Slots at -/
noncomputable def con_2000 : Con2 := ((yX8_at, cX8_at, 3, (some .long)), (0, 0), ([(6, 0, 0), (0, 1, 0), (0, 32, 0)], [(0, 0), (0, 0), (0, 0), (0, 0), (0, 0), (0, 0), (0, 250)], [.inl (8, [(6, 1, 0), (8, 4, 0), (8, 5, 0)]), ac_963], []), [((4, 6, 0), gi_1118, hq_795, [], [1])])
theorem hd_2000 : con_2000.1 = (yX8_at, cX8_at, 3, (some .long)) := rfl
noncomputable def cu_2000 : List CUT2 := []
theorem ch_2000 : staG tb_X8_at 1 bt_RX8 [] ct_1497 [] [] cu_2000 11 con_2000 = true := by decide +kernel
theorem vl_2000 (l : Launch) : Vld2 l vwCl gTbl con_2000 := conR_ok3 gT_all (hd_2000) rfl pn_RX8 tk_X8_at bo_RX8 xo_RX8 (cto_1497 l) ch_2000 cut_nil
/-- RookHusting$Slots at -/
noncomputable def con_2001 : Con2 := ((yX8_at, cX8_at, 3, (some .long)), (0, 0), ([(6, 0, 0), (0, 1, 0), (0, 33, 0)], [(0, 0), (0, 0), (0, 0), (0, 0), (0, 0), (0, 0), (0, 4)], [.inl (8, [(6, 1, 0), (8, 4, 0), (8, 5, 0)]), ac_964], []), [((4, 6, 0), gi_1116, hq_796, [], [1])])
theorem hd_2001 : con_2001.1 = (yX8_at, cX8_at, 3, (some .long)) := rfl
noncomputable def cu_2001 : List CUT2 := []
theorem ch_2001 : staG tb_X8_at 1 bt_RX8 [] ct_1497 [] [] cu_2001 11 con_2001 = true := by decide +kernel
theorem vl_2001 (l : Launch) : Vld2 l vwCl gTbl con_2001 := conR_ok3 gT_all (hd_2001) rfl pn_RX8 tk_X8_at bo_RX8 xo_RX8 (cto_1497 l) ch_2001 cut_nil
/-- RookHusting$Slots at -/
noncomputable def con_2002 : Con2 := ((yX8_at, cX8_at, 3, (some .long)), (0, 0), ([(6, 0, 0), (0, 1, 0), (0, 34, 0)], [(0, 0), (0, 0), (0, 0), (0, 0), (0, 0), (0, 0), (0, 16)], [.inl (8, [(6, 1, 0), (8, 4, 0), (8, 5, 0)]), ac_965], []), [((4, 6, 0), gi_1117, hq_797, [], [1])])
theorem hd_2002 : con_2002.1 = (yX8_at, cX8_at, 3, (some .long)) := rfl
noncomputable def cu_2002 : List CUT2 := []
theorem ch_2002 : staG tb_X8_at 1 bt_RX8 [] ct_1497 [] [] cu_2002 11 con_2002 = true := by decide +kernel
theorem vl_2002 (l : Launch) : Vld2 l vwCl gTbl con_2002 := conR_ok3 gT_all (hd_2002) rfl pn_RX8 tk_X8_at bo_RX8 xo_RX8 (cto_1497 l) ch_2002 cut_nil
/-- RookHusting$Slots at -/
noncomputable def con_2003 : Con2 := ((yX8_at, cX8_at, 3, (some .long)), (0, 0), ([(6, 0, 0), (0, 1, 0), (0, 35, 0)], [(0, 0), (0, 0), (0, 0), (0, 0), (0, 0), (0, 0), (0, 250)], [.inl (8, [(6, 1, 0), (8, 4, 0), (8, 5, 0)]), ac_966], []), [((4, 6, 0), gi_1118, hq_798, [], [1])])
theorem hd_2003 : con_2003.1 = (yX8_at, cX8_at, 3, (some .long)) := rfl
noncomputable def cu_2003 : List CUT2 := []
theorem ch_2003 : staG tb_X8_at 1 bt_RX8 [] ct_1497 [] [] cu_2003 11 con_2003 = true := by decide +kernel
theorem vl_2003 (l : Launch) : Vld2 l vwCl gTbl con_2003 := conR_ok3 gT_all (hd_2003) rfl pn_RX8 tk_X8_at bo_RX8 xo_RX8 (cto_1497 l) ch_2003 cut_nil
/-- RookHusting$Slots at -/
noncomputable def con_2004 : Con2 := ((yX8_at, cX8_at, 3, (some .long)), (0, 0), ([(6, 0, 0), (0, 1, 0), (0, 36, 0)], [(0, 0), (0, 0), (0, 0), (0, 0), (0, 0), (0, 0), (0, 4)], [.inl (8, [(6, 1, 0), (8, 4, 0), (8, 5, 0)]), ac_967], []), [((4, 6, 0), gi_1116, hq_799, [], [1])])
theorem hd_2004 : con_2004.1 = (yX8_at, cX8_at, 3, (some .long)) := rfl
noncomputable def cu_2004 : List CUT2 := []
theorem ch_2004 : staG tb_X8_at 1 bt_RX8 [] ct_1497 [] [] cu_2004 11 con_2004 = true := by decide +kernel
theorem vl_2004 (l : Launch) : Vld2 l vwCl gTbl con_2004 := conR_ok3 gT_all (hd_2004) rfl pn_RX8 tk_X8_at bo_RX8 xo_RX8 (cto_1497 l) ch_2004 cut_nil
/-- RookHusting$Slots at -/
noncomputable def con_2005 : Con2 := ((yX8_at, cX8_at, 3, (some .long)), (0, 0), ([(6, 0, 0), (0, 1, 0), (0, 37, 0)], [(0, 0), (0, 0), (0, 0), (0, 0), (0, 0), (0, 0), (0, 16)], [.inl (8, [(6, 1, 0), (8, 4, 0), (8, 5, 0)]), ac_968], []), [((4, 6, 0), gi_1117, hq_800, [], [1])])
theorem hd_2005 : con_2005.1 = (yX8_at, cX8_at, 3, (some .long)) := rfl
noncomputable def cu_2005 : List CUT2 := []
theorem ch_2005 : staG tb_X8_at 1 bt_RX8 [] ct_1497 [] [] cu_2005 11 con_2005 = true := by decide +kernel
theorem vl_2005 (l : Launch) : Vld2 l vwCl gTbl con_2005 := conR_ok3 gT_all (hd_2005) rfl pn_RX8 tk_X8_at bo_RX8 xo_RX8 (cto_1497 l) ch_2005 cut_nil
/-- RookHusting$Slots at -/
noncomputable def con_2006 : Con2 := ((yX8_at, cX8_at, 3, (some .long)), (0, 0), ([(6, 0, 0), (0, 1, 0), (0, 38, 0)], [(0, 0), (0, 0), (0, 0), (0, 0), (0, 0), (0, 0), (0, 250)], [.inl (8, [(6, 1, 0), (8, 4, 0), (8, 5, 0)]), ac_969], []), [((4, 6, 0), gi_1118, hq_801, [], [1])])
theorem hd_2006 : con_2006.1 = (yX8_at, cX8_at, 3, (some .long)) := rfl
noncomputable def cu_2006 : List CUT2 := []
theorem ch_2006 : staG tb_X8_at 1 bt_RX8 [] ct_1497 [] [] cu_2006 11 con_2006 = true := by decide +kernel
theorem vl_2006 (l : Launch) : Vld2 l vwCl gTbl con_2006 := conR_ok3 gT_all (hd_2006) rfl pn_RX8 tk_X8_at bo_RX8 xo_RX8 (cto_1497 l) ch_2006 cut_nil
/-- RookHusting$Slots at -/
noncomputable def con_2007 : Con2 := ((yX8_at, cX8_at, 3, (some .long)), (0, 0), ([(6, 0, 0), (0, 1, 0), (0, 39, 0)], [(0, 0), (0, 0), (0, 0), (0, 0), (0, 0), (0, 0), (0, 4)], [.inl (8, [(6, 1, 0), (8, 4, 0), (8, 5, 0)]), ac_970], []), [((4, 6, 0), gi_1116, hq_802, [], [1])])
theorem hd_2007 : con_2007.1 = (yX8_at, cX8_at, 3, (some .long)) := rfl
noncomputable def cu_2007 : List CUT2 := []
theorem ch_2007 : staG tb_X8_at 1 bt_RX8 [] ct_1497 [] [] cu_2007 11 con_2007 = true := by decide +kernel
theorem vl_2007 (l : Launch) : Vld2 l vwCl gTbl con_2007 := conR_ok3 gT_all (hd_2007) rfl pn_RX8 tk_X8_at bo_RX8 xo_RX8 (cto_1497 l) ch_2007 cut_nil
/-- RookHusting$Slots at -/
noncomputable def con_2008 : Con2 := ((yX8_at, cX8_at, 3, (some .long)), (0, 0), ([(6, 0, 0), (0, 1, 0), (0, 40, 0)], [(0, 0), (0, 0), (0, 0), (0, 0), (0, 0), (0, 0), (0, 16)], [.inl (8, [(6, 1, 0), (8, 4, 0), (8, 5, 0)]), ac_971], []), [((4, 6, 0), gi_1117, hq_803, [], [1])])
theorem hd_2008 : con_2008.1 = (yX8_at, cX8_at, 3, (some .long)) := rfl
noncomputable def cu_2008 : List CUT2 := []
theorem ch_2008 : staG tb_X8_at 1 bt_RX8 [] ct_1497 [] [] cu_2008 11 con_2008 = true := by decide +kernel
theorem vl_2008 (l : Launch) : Vld2 l vwCl gTbl con_2008 := conR_ok3 gT_all (hd_2008) rfl pn_RX8 tk_X8_at bo_RX8 xo_RX8 (cto_1497 l) ch_2008 cut_nil
/-- RookHusting$Slots at -/
noncomputable def con_2009 : Con2 := ((yX8_at, cX8_at, 3, (some .long)), (0, 0), ([(6, 0, 0), (0, 1, 0), (0, 41, 0)], [(0, 0), (0, 0), (0, 0), (0, 0), (0, 0), (0, 0), (0, 250)], [.inl (8, [(6, 1, 0), (8, 4, 0), (8, 5, 0)]), ac_972], []), [((4, 6, 0), gi_1118, hq_804, [], [1])])
theorem hd_2009 : con_2009.1 = (yX8_at, cX8_at, 3, (some .long)) := rfl
noncomputable def cu_2009 : List CUT2 := []
theorem ch_2009 : staG tb_X8_at 1 bt_RX8 [] ct_1497 [] [] cu_2009 11 con_2009 = true := by decide +kernel
theorem vl_2009 (l : Launch) : Vld2 l vwCl gTbl con_2009 := conR_ok3 gT_all (hd_2009) rfl pn_RX8 tk_X8_at bo_RX8 xo_RX8 (cto_1497 l) ch_2009 cut_nil
/-- RookHusting$Slots at -/
noncomputable def con_2010 : Con2 := ((yX8_at, cX8_at, 3, (some .long)), (0, 0), ([(6, 0, 0), (0, 1, 0), (0, 42, 0)], [(0, 0), (0, 0), (0, 0), (0, 0), (0, 0), (0, 0), (0, 4)], [.inl (8, [(6, 1, 0), (8, 4, 0), (8, 5, 0)]), ac_973], []), [((4, 6, 0), gi_1116, hq_805, [], [1])])
theorem hd_2010 : con_2010.1 = (yX8_at, cX8_at, 3, (some .long)) := rfl
noncomputable def cu_2010 : List CUT2 := []
theorem ch_2010 : staG tb_X8_at 1 bt_RX8 [] ct_1497 [] [] cu_2010 11 con_2010 = true := by decide +kernel
theorem vl_2010 (l : Launch) : Vld2 l vwCl gTbl con_2010 := conR_ok3 gT_all (hd_2010) rfl pn_RX8 tk_X8_at bo_RX8 xo_RX8 (cto_1497 l) ch_2010 cut_nil
/-- RookHusting$Slots at -/
noncomputable def con_2011 : Con2 := ((yX8_at, cX8_at, 3, (some .long)), (0, 0), ([(6, 0, 0), (0, 1, 0), (0, 43, 0)], [(0, 0), (0, 0), (0, 0), (0, 0), (0, 0), (0, 0), (0, 16)], [.inl (8, [(6, 1, 0), (8, 4, 0), (8, 5, 0)]), ac_974], []), [((4, 6, 0), gi_1117, hq_806, [], [1])])
theorem hd_2011 : con_2011.1 = (yX8_at, cX8_at, 3, (some .long)) := rfl
noncomputable def cu_2011 : List CUT2 := []
theorem ch_2011 : staG tb_X8_at 1 bt_RX8 [] ct_1497 [] [] cu_2011 11 con_2011 = true := by decide +kernel
theorem vl_2011 (l : Launch) : Vld2 l vwCl gTbl con_2011 := conR_ok3 gT_all (hd_2011) rfl pn_RX8 tk_X8_at bo_RX8 xo_RX8 (cto_1497 l) ch_2011 cut_nil
/-- RookHusting$Slots at -/
noncomputable def con_2012 : Con2 := ((yX8_at, cX8_at, 3, (some .long)), (0, 0), ([(6, 0, 0), (0, 1, 0), (0, 44, 0)], [(0, 0), (0, 0), (0, 0), (0, 0), (0, 0), (0, 0), (0, 250)], [.inl (8, [(6, 1, 0), (8, 4, 0), (8, 5, 0)]), ac_975], []), [((4, 6, 0), gi_1118, hq_807, [], [1])])
theorem hd_2012 : con_2012.1 = (yX8_at, cX8_at, 3, (some .long)) := rfl
noncomputable def cu_2012 : List CUT2 := []
theorem ch_2012 : staG tb_X8_at 1 bt_RX8 [] ct_1497 [] [] cu_2012 11 con_2012 = true := by decide +kernel
theorem vl_2012 (l : Launch) : Vld2 l vwCl gTbl con_2012 := conR_ok3 gT_all (hd_2012) rfl pn_RX8 tk_X8_at bo_RX8 xo_RX8 (cto_1497 l) ch_2012 cut_nil
/-- RookHusting$Slots at -/
noncomputable def con_2013 : Con2 := ((yX8_at, cX8_at, 3, (some .long)), (0, 0), ([(6, 0, 0), (0, 1, 0), (0, 45, 0)], [(0, 0), (0, 0), (0, 0), (0, 0), (0, 0), (0, 0), (0, 4)], [.inl (8, [(6, 1, 0), (8, 4, 0), (8, 5, 0)]), ac_976], []), [((4, 6, 0), gi_1116, hq_808, [], [1])])
theorem hd_2013 : con_2013.1 = (yX8_at, cX8_at, 3, (some .long)) := rfl
noncomputable def cu_2013 : List CUT2 := []
theorem ch_2013 : staG tb_X8_at 1 bt_RX8 [] ct_1497 [] [] cu_2013 11 con_2013 = true := by decide +kernel
theorem vl_2013 (l : Launch) : Vld2 l vwCl gTbl con_2013 := conR_ok3 gT_all (hd_2013) rfl pn_RX8 tk_X8_at bo_RX8 xo_RX8 (cto_1497 l) ch_2013 cut_nil
/-- RookHusting$Slots at -/
noncomputable def con_2014 : Con2 := ((yX8_at, cX8_at, 3, (some .long)), (0, 0), ([(6, 0, 0), (0, 1, 0), (0, 46, 0)], [(0, 0), (0, 0), (0, 0), (0, 0), (0, 0), (0, 0), (0, 16)], [.inl (8, [(6, 1, 0), (8, 4, 0), (8, 5, 0)]), ac_977], []), [((4, 6, 0), gi_1117, hq_809, [], [1])])
theorem hd_2014 : con_2014.1 = (yX8_at, cX8_at, 3, (some .long)) := rfl
noncomputable def cu_2014 : List CUT2 := []
theorem ch_2014 : staG tb_X8_at 1 bt_RX8 [] ct_1497 [] [] cu_2014 11 con_2014 = true := by decide +kernel
theorem vl_2014 (l : Launch) : Vld2 l vwCl gTbl con_2014 := conR_ok3 gT_all (hd_2014) rfl pn_RX8 tk_X8_at bo_RX8 xo_RX8 (cto_1497 l) ch_2014 cut_nil
/-- RookHusting$Slots at -/
noncomputable def con_2015 : Con2 := ((yX8_at, cX8_at, 3, (some .long)), (0, 0), ([(6, 0, 0), (0, 1, 0), (0, 47, 0)], [(0, 0), (0, 0), (0, 0), (0, 0), (0, 0), (0, 0), (0, 250)], [.inl (8, [(6, 1, 0), (8, 4, 0), (8, 5, 0)]), ac_978], []), [((4, 6, 0), gi_1118, hq_810, [], [1])])
theorem hd_2015 : con_2015.1 = (yX8_at, cX8_at, 3, (some .long)) := rfl
noncomputable def cu_2015 : List CUT2 := []
theorem ch_2015 : staG tb_X8_at 1 bt_RX8 [] ct_1497 [] [] cu_2015 11 con_2015 = true := by decide +kernel
theorem vl_2015 (l : Launch) : Vld2 l vwCl gTbl con_2015 := conR_ok3 gT_all (hd_2015) rfl pn_RX8 tk_X8_at bo_RX8 xo_RX8 (cto_1497 l) ch_2015 cut_nil
/-- RookHusting$Slots at -/
noncomputable def con_2016 : Con2 := ((yX8_at, cX8_at, 3, (some .long)), (0, 0), ([(6, 0, 0), (0, 1, 0), (0, 48, 0)], [(0, 0), (0, 0), (0, 0), (0, 0), (0, 0), (0, 0), (0, 4)], [.inl (8, [(6, 1, 0), (8, 4, 0), (8, 5, 0)]), ac_979], []), [((4, 6, 0), gi_1116, hq_811, [], [1])])
theorem hd_2016 : con_2016.1 = (yX8_at, cX8_at, 3, (some .long)) := rfl
noncomputable def cu_2016 : List CUT2 := []
theorem ch_2016 : staG tb_X8_at 1 bt_RX8 [] ct_1497 [] [] cu_2016 11 con_2016 = true := by decide +kernel
theorem vl_2016 (l : Launch) : Vld2 l vwCl gTbl con_2016 := conR_ok3 gT_all (hd_2016) rfl pn_RX8 tk_X8_at bo_RX8 xo_RX8 (cto_1497 l) ch_2016 cut_nil
/-- RookHusting$Slots at -/
noncomputable def con_2017 : Con2 := ((yX8_at, cX8_at, 3, (some .long)), (0, 0), ([(6, 0, 0), (0, 1, 0), (0, 49, 0)], [(0, 0), (0, 0), (0, 0), (0, 0), (0, 0), (0, 0), (0, 16)], [.inl (8, [(6, 1, 0), (8, 4, 0), (8, 5, 0)]), ac_980], []), [((4, 6, 0), gi_1117, hq_812, [], [1])])
theorem hd_2017 : con_2017.1 = (yX8_at, cX8_at, 3, (some .long)) := rfl
noncomputable def cu_2017 : List CUT2 := []
theorem ch_2017 : staG tb_X8_at 1 bt_RX8 [] ct_1497 [] [] cu_2017 11 con_2017 = true := by decide +kernel
theorem vl_2017 (l : Launch) : Vld2 l vwCl gTbl con_2017 := conR_ok3 gT_all (hd_2017) rfl pn_RX8 tk_X8_at bo_RX8 xo_RX8 (cto_1497 l) ch_2017 cut_nil
/-- RookHusting$Slots at -/
noncomputable def con_2018 : Con2 := ((yX8_at, cX8_at, 3, (some .long)), (0, 0), ([(6, 0, 0), (0, 1, 0), (0, 50, 0)], [(0, 0), (0, 0), (0, 0), (0, 0), (0, 0), (0, 0), (0, 250)], [.inl (8, [(6, 1, 0), (8, 4, 0), (8, 5, 0)]), ac_981], []), [((4, 6, 0), gi_1118, hq_813, [], [1])])
theorem hd_2018 : con_2018.1 = (yX8_at, cX8_at, 3, (some .long)) := rfl
noncomputable def cu_2018 : List CUT2 := []
theorem ch_2018 : staG tb_X8_at 1 bt_RX8 [] ct_1497 [] [] cu_2018 11 con_2018 = true := by decide +kernel
theorem vl_2018 (l : Launch) : Vld2 l vwCl gTbl con_2018 := conR_ok3 gT_all (hd_2018) rfl pn_RX8 tk_X8_at bo_RX8 xo_RX8 (cto_1497 l) ch_2018 cut_nil
/-- RookHusting$Slots at -/
noncomputable def con_2019 : Con2 := ((yX8_at, cX8_at, 3, (some .long)), (0, 0), ([(6, 0, 0), (0, 1, 0), (0, 51, 0)], [(0, 0), (0, 0), (0, 0), (0, 0), (0, 0), (0, 0), (0, 4)], [.inl (8, [(6, 1, 0), (8, 4, 0), (8, 5, 0)]), ac_982], []), [((4, 6, 0), gi_1116, hq_814, [], [1])])
theorem hd_2019 : con_2019.1 = (yX8_at, cX8_at, 3, (some .long)) := rfl
noncomputable def cu_2019 : List CUT2 := []
theorem ch_2019 : staG tb_X8_at 1 bt_RX8 [] ct_1497 [] [] cu_2019 11 con_2019 = true := by decide +kernel
theorem vl_2019 (l : Launch) : Vld2 l vwCl gTbl con_2019 := conR_ok3 gT_all (hd_2019) rfl pn_RX8 tk_X8_at bo_RX8 xo_RX8 (cto_1497 l) ch_2019 cut_nil
/-- RookHusting$Slots at -/
noncomputable def con_2020 : Con2 := ((yX8_at, cX8_at, 3, (some .long)), (0, 0), ([(6, 0, 0), (0, 1, 0), (0, 52, 0)], [(0, 0), (0, 0), (0, 0), (0, 0), (0, 0), (0, 0), (0, 16)], [.inl (8, [(6, 1, 0), (8, 4, 0), (8, 5, 0)]), ac_983], []), [((4, 6, 0), gi_1117, hq_815, [], [1])])
theorem hd_2020 : con_2020.1 = (yX8_at, cX8_at, 3, (some .long)) := rfl
noncomputable def cu_2020 : List CUT2 := []
theorem ch_2020 : staG tb_X8_at 1 bt_RX8 [] ct_1497 [] [] cu_2020 11 con_2020 = true := by decide +kernel
theorem vl_2020 (l : Launch) : Vld2 l vwCl gTbl con_2020 := conR_ok3 gT_all (hd_2020) rfl pn_RX8 tk_X8_at bo_RX8 xo_RX8 (cto_1497 l) ch_2020 cut_nil
/-- RookHusting$Slots at -/
noncomputable def con_2021 : Con2 := ((yX8_at, cX8_at, 3, (some .long)), (0, 0), ([(6, 0, 0), (0, 1, 0), (0, 53, 0)], [(0, 0), (0, 0), (0, 0), (0, 0), (0, 0), (0, 0), (0, 250)], [.inl (8, [(6, 1, 0), (8, 4, 0), (8, 5, 0)]), ac_984], []), [((4, 6, 0), gi_1118, hq_816, [], [1])])
theorem hd_2021 : con_2021.1 = (yX8_at, cX8_at, 3, (some .long)) := rfl
noncomputable def cu_2021 : List CUT2 := []
theorem ch_2021 : staG tb_X8_at 1 bt_RX8 [] ct_1497 [] [] cu_2021 11 con_2021 = true := by decide +kernel
theorem vl_2021 (l : Launch) : Vld2 l vwCl gTbl con_2021 := conR_ok3 gT_all (hd_2021) rfl pn_RX8 tk_X8_at bo_RX8 xo_RX8 (cto_1497 l) ch_2021 cut_nil
/-- RookHusting$Slots at -/
noncomputable def con_2022 : Con2 := ((yX8_at, cX8_at, 3, (some .long)), (0, 0), ([(6, 0, 0), (0, 1, 0), (0, 54, 0)], [(0, 0), (0, 0), (0, 0), (0, 0), (0, 0), (0, 0), (0, 4)], [.inl (8, [(6, 1, 0), (8, 4, 0), (8, 5, 0)]), ac_985], []), [((4, 6, 0), gi_1116, hq_817, [], [1])])
theorem hd_2022 : con_2022.1 = (yX8_at, cX8_at, 3, (some .long)) := rfl
noncomputable def cu_2022 : List CUT2 := []
theorem ch_2022 : staG tb_X8_at 1 bt_RX8 [] ct_1497 [] [] cu_2022 11 con_2022 = true := by decide +kernel
theorem vl_2022 (l : Launch) : Vld2 l vwCl gTbl con_2022 := conR_ok3 gT_all (hd_2022) rfl pn_RX8 tk_X8_at bo_RX8 xo_RX8 (cto_1497 l) ch_2022 cut_nil
/-- RookHusting$Slots at -/
noncomputable def con_2023 : Con2 := ((yX8_at, cX8_at, 3, (some .long)), (0, 0), ([(6, 0, 0), (0, 1, 0), (0, 55, 0)], [(0, 0), (0, 0), (0, 0), (0, 0), (0, 0), (0, 0), (0, 16)], [.inl (8, [(6, 1, 0), (8, 4, 0), (8, 5, 0)]), ac_986], []), [((4, 6, 0), gi_1117, hq_818, [], [1])])
theorem hd_2023 : con_2023.1 = (yX8_at, cX8_at, 3, (some .long)) := rfl
noncomputable def cu_2023 : List CUT2 := []
theorem ch_2023 : staG tb_X8_at 1 bt_RX8 [] ct_1497 [] [] cu_2023 11 con_2023 = true := by decide +kernel
theorem vl_2023 (l : Launch) : Vld2 l vwCl gTbl con_2023 := conR_ok3 gT_all (hd_2023) rfl pn_RX8 tk_X8_at bo_RX8 xo_RX8 (cto_1497 l) ch_2023 cut_nil
/-- RookHusting$Slots at -/
noncomputable def con_2024 : Con2 := ((yX8_at, cX8_at, 3, (some .long)), (0, 0), ([(6, 0, 0), (0, 1, 0), (0, 56, 0)], [(0, 0), (0, 0), (0, 0), (0, 0), (0, 0), (0, 0), (0, 250)], [.inl (8, [(6, 1, 0), (8, 4, 0), (8, 5, 0)]), ac_987], []), [((4, 6, 0), gi_1118, hq_819, [], [1])])
theorem hd_2024 : con_2024.1 = (yX8_at, cX8_at, 3, (some .long)) := rfl
noncomputable def cu_2024 : List CUT2 := []
theorem ch_2024 : staG tb_X8_at 1 bt_RX8 [] ct_1497 [] [] cu_2024 11 con_2024 = true := by decide +kernel
theorem vl_2024 (l : Launch) : Vld2 l vwCl gTbl con_2024 := conR_ok3 gT_all (hd_2024) rfl pn_RX8 tk_X8_at bo_RX8 xo_RX8 (cto_1497 l) ch_2024 cut_nil
/-- RookHusting$Slots at -/
noncomputable def con_2025 : Con2 := ((yX8_at, cX8_at, 3, (some .long)), (0, 0), ([(6, 0, 0), (0, 1, 0), (0, 57, 0)], [(0, 0), (0, 0), (0, 0), (0, 0), (0, 0), (0, 0), (0, 4)], [.inl (8, [(6, 1, 0), (8, 4, 0), (8, 5, 0)]), ac_988], []), [((4, 6, 0), gi_1116, hq_820, [], [1])])
theorem hd_2025 : con_2025.1 = (yX8_at, cX8_at, 3, (some .long)) := rfl
noncomputable def cu_2025 : List CUT2 := []
theorem ch_2025 : staG tb_X8_at 1 bt_RX8 [] ct_1497 [] [] cu_2025 11 con_2025 = true := by decide +kernel
theorem vl_2025 (l : Launch) : Vld2 l vwCl gTbl con_2025 := conR_ok3 gT_all (hd_2025) rfl pn_RX8 tk_X8_at bo_RX8 xo_RX8 (cto_1497 l) ch_2025 cut_nil
/-- RookHusting$Slots at -/
noncomputable def con_2026 : Con2 := ((yX8_at, cX8_at, 3, (some .long)), (0, 0), ([(6, 0, 0), (0, 1, 0), (0, 58, 0)], [(0, 0), (0, 0), (0, 0), (0, 0), (0, 0), (0, 0), (0, 16)], [.inl (8, [(6, 1, 0), (8, 4, 0), (8, 5, 0)]), ac_989], []), [((4, 6, 0), gi_1117, hq_821, [], [1])])
theorem hd_2026 : con_2026.1 = (yX8_at, cX8_at, 3, (some .long)) := rfl
noncomputable def cu_2026 : List CUT2 := []
theorem ch_2026 : staG tb_X8_at 1 bt_RX8 [] ct_1497 [] [] cu_2026 11 con_2026 = true := by decide +kernel
theorem vl_2026 (l : Launch) : Vld2 l vwCl gTbl con_2026 := conR_ok3 gT_all (hd_2026) rfl pn_RX8 tk_X8_at bo_RX8 xo_RX8 (cto_1497 l) ch_2026 cut_nil
/-- RookHusting$Slots at -/
noncomputable def con_2027 : Con2 := ((yX8_at, cX8_at, 3, (some .long)), (0, 0), ([(6, 0, 0), (0, 1, 0), (0, 59, 0)], [(0, 0), (0, 0), (0, 0), (0, 0), (0, 0), (0, 0), (0, 250)], [.inl (8, [(6, 1, 0), (8, 4, 0), (8, 5, 0)]), ac_990], []), [((4, 6, 0), gi_1118, hq_822, [], [1])])
theorem hd_2027 : con_2027.1 = (yX8_at, cX8_at, 3, (some .long)) := rfl
noncomputable def cu_2027 : List CUT2 := []
theorem ch_2027 : staG tb_X8_at 1 bt_RX8 [] ct_1497 [] [] cu_2027 11 con_2027 = true := by decide +kernel
theorem vl_2027 (l : Launch) : Vld2 l vwCl gTbl con_2027 := conR_ok3 gT_all (hd_2027) rfl pn_RX8 tk_X8_at bo_RX8 xo_RX8 (cto_1497 l) ch_2027 cut_nil
