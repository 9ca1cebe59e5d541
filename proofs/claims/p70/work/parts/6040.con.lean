/-! ===== contracts, 40 ===== -/
/-- RookHusting isAsSeen -/
noncomputable def gi_1648 : GI := jl_n [gp_699, jl_z 9]
noncomputable def gi_1649 : GI := jl_n [gp_699, jl_z 10]
noncomputable def con_2152 : Con2 := ((yX11_isAsSeen, cX11_isAsSeen, 4, (some .boolean)), (1, 22), ([(6, 0, 0), (0, 0, 0)], gi_1648, hc_209, []), [((0, 0, 0), gi_1649, hq_904, [], [1]), ((0, 1, 0), gi_1649, hq_904, [], [1])])
theorem hd_2152 : con_2152.1 = (yX11_isAsSeen, cX11_isAsSeen, 4, (some .boolean)) := rfl
noncomputable def ct_2152 : CTB2 := [(21, 473, 0, con_2097, [1, 3]), (21, 473, 0, con_2094, [1, 3]), (21, 473, 0, con_2091, [1, 3]), (21, 473, 0, con_2088, [1, 3]), (21, 473, 0, con_2085, [1, 3]), (21, 473, 0, con_2082, [1, 3]), (21, 473, 0, con_2079, [1, 3]), (21, 473, 0, con_2074, [1, 3]), (21, 473, 0, con_2071, [1, 3]), (21, 473, 0, con_2068, [1, 3]), (36, 473, 0, con_2098, [1, 3]), (36, 473, 0, con_2095, [1, 3]), (36, 473, 0, con_2092, [1, 3]), (36, 473, 0, con_2089, [1, 3]), (36, 473, 0, con_2086, [1, 3]), (36, 473, 0, con_2083, [1, 3]), (36, 473, 0, con_2080, [1, 3]), (36, 473, 0, con_2075, [1, 3]), (36, 473, 0, con_2072, [1, 3]), (36, 473, 0, con_2069, [1, 3]), (60, 473, 0, con_2099, [1, 3]), (60, 473, 0, con_2096, [1, 3]), (60, 473, 0, con_2093, [1, 3]), (60, 473, 0, con_2090, [1, 3]), (60, 473, 0, con_2087, [1, 3]), (60, 473, 0, con_2084, [1, 3]), (60, 473, 0, con_2081, [1, 3]), (60, 473, 0, con_2076, [1, 3]), (60, 473, 0, con_2073, [1, 3]), (60, 473, 0, con_2070, [1, 3])]
noncomputable def gi_1650 : GI := jl_n [gp_699, jl_z 12]
noncomputable def gi_1651 : GI := jl_n [gp_699, gp_618]
noncomputable def cu_2152 : List CUT2 := [((2, [lq 0 6 0, lq 1 0 0, lq 2 0 0], [], gi_1650, hq_904), [], ([], 30)), ((2, [lq 0 6 0, lq 1 0 0, lq 2 0 3, lq 3 1 97], [], gi_1651, hq_904), [], ([], 27)), ((2, [lq 0 6 0, lq 1 0 0, lq 2 0 6, lq 3 1 97], [], gi_1651, hq_904), [], ([], 24)), ((2, [lq 0 6 0, lq 1 0 0, lq 2 0 9, lq 3 1 97], [], gi_1651, hq_904), [], ([], 21)), ((2, [lq 0 6 0, lq 1 0 0, lq 2 0 12, lq 3 1 97], [], gi_1651, hq_904), [], ([], 18)), ((2, [lq 0 6 0, lq 1 0 0, lq 2 0 15, lq 3 1 97], [], gi_1651, hq_904), [], ([], 15)), ((2, [lq 0 6 0, lq 1 0 0, lq 2 0 18, lq 3 1 97], [], gi_1651, hq_904), [], ([], 12)), ((2, [lq 0 6 0, lq 1 0 0, lq 2 0 21, lq 3 1 97], [], gi_1651, hq_904), [], ([], 9)), ((2, [lq 0 6 0, lq 1 0 0, lq 2 0 24, lq 3 1 97], [], gi_1651, hq_904), [], ([], 6)), ((2, [lq 0 6 0, lq 1 0 0, lq 2 0 27, lq 3 1 97], [], gi_1651, hq_904), [], ([], 3)), ((2, [lq 0 6 0, lq 1 0 0, lq 2 0 30, lq 3 1 97], [], gi_1651, hq_904), [], ([], 0))]
theorem ch_2152 : staG tb_X11_isAsSeen 1 bt_RX11 [] ct_2152 [] [] cu_2152 44 con_2152 = true := by decide +kernel
theorem cc_2152 : cu_2152.all (cutG tb_X11_isAsSeen 1 bt_RX11 [] ct_2152 [] [] cu_2152 44 con_2152) = true := by decide +kernel
theorem cto_2152 (l : Launch) : CTOK2 l RX11 vwCl gTbl ct_2152 := ct2_cons (vl_2097 l) ck_RX11_473_2097 (ct2_cons (vl_2094 l) ck_RX11_473_2094 (ct2_cons (vl_2091 l) ck_RX11_473_2091 (ct2_cons (vl_2088 l) ck_RX11_473_2088 (ct2_cons (vl_2085 l) ck_RX11_473_2085 (ct2_cons (vl_2082 l) ck_RX11_473_2082 (ct2_cons (vl_2079 l) ck_RX11_473_2079 (ct2_cons (vl_2074 l) ck_RX11_473_2074 (ct2_cons (vl_2071 l) ck_RX11_473_2071 (ct2_cons (vl_2068 l) ck_RX11_473_2068 (ct2_cons (vl_2098 l) ck_RX11_473_2098 (ct2_cons (vl_2095 l) ck_RX11_473_2095 (ct2_cons (vl_2092 l) ck_RX11_473_2092 (ct2_cons (vl_2089 l) ck_RX11_473_2089 (ct2_cons (vl_2086 l) ck_RX11_473_2086 (ct2_cons (vl_2083 l) ck_RX11_473_2083 (ct2_cons (vl_2080 l) ck_RX11_473_2080 (ct2_cons (vl_2075 l) ck_RX11_473_2075 (ct2_cons (vl_2072 l) ck_RX11_473_2072 (ct2_cons (vl_2069 l) ck_RX11_473_2069 (ct2_cons (vl_2099 l) ck_RX11_473_2099 (ct2_cons (vl_2096 l) ck_RX11_473_2096 (ct2_cons (vl_2093 l) ck_RX11_473_2093 (ct2_cons (vl_2090 l) ck_RX11_473_2090 (ct2_cons (vl_2087 l) ck_RX11_473_2087 (ct2_cons (vl_2084 l) ck_RX11_473_2084 (ct2_cons (vl_2081 l) ck_RX11_473_2081 (ct2_cons (vl_2076 l) ck_RX11_473_2076 (ct2_cons (vl_2073 l) ck_RX11_473_2073 (ct2_cons (vl_2070 l) ck_RX11_473_2070 (ct2_nil))))))))))))))))))))))))))))))
theorem vl_2152 (l : Launch) : Vld2 l vwCl gTbl con_2152 := conR_ok3 gT_all (hd_2152) rfl pn_RX11 tk_X11_isAsSeen bo_RX11 xo_RX11 (cto_2152 l) ch_2152 (cut_all cc_2152)
/-- RookHusting guessAll -/
noncomputable def gi_1652 : GI := jl_n [gp_620, gp_590]
noncomputable def gi_1653 : GI := jl_n [gp_620, gp_590, gp_622]
noncomputable def con_2153 : Con2 := ((yX11_guessAll, cX11_guessAll, 4, none), (6, 151), ([(6, 0, 0), (0, 0, 0), (1, 2, 0)], gi_1652, hc_210, rq_6), [((9, 0, 0), gi_1653, hq_905, [], tg_1)])
theorem hd_2153 : con_2153.1 = (yX11_guessAll, cX11_guessAll, 4, none) := rfl
theorem ck_RX11_483_2152 : COK2 RX11 vwCl gTbl 483 0 con_2152 := ⟨wd_1230, wd_125, mh_X11_isAsSeen, .inr (.inr ⟨rfl, wd_1227, wd_1229, wd_43, ⟨_, rfl, pd_X11_isAsSeen⟩, 11, _, TX11, 16, rfl, rfl⟩)⟩
noncomputable def ct_2153 : CTB2 := [(1, 208, 0, con_929, [0, 1, 2, 3, 4, 5, 6, 7, 8, 9, 10, 11, 12, 13, 14, 15, 16, 17, 18, 19, 20, 21, 22, 23, 24, 25, 26]), (36, 332, 0, con_1456, [28, 2, 29, 4, 30, 5, 31, 6]), (45, 480, 0, con_869, [28, 29]), (73, 372, 0, con_928, [32, 3, 28, 16, 33, 18, 34, 30, 35, 29, 36, 22, 23, 37, 38, 39, 31]), (78, 483, 0, con_2152, [0, 40, 41, 42, 32, 33]), (105, 486, 0, con_1766, [27, 33, 43]), (105, 486, 0, con_1771, [27, 33, 43])]
noncomputable def gi_1654 : GI := jl_n [gp_620, gp_590, gp_623]
noncomputable def cu_2153 : List CUT2 := [((14, [lq 0 6 0, lq 1 0 0, lq 2 1 2, lq 3 1 204], [], gi_1654, hq_906), rq_6, ([(204, (-1))], 5))]
theorem ch_2153 : staG tb_X11_guessAll 1 bt_RX11 [] ct_2153 [] [] cu_2153 48 con_2153 = true := by decide +kernel
theorem cc_2153 : cu_2153.all (cutG tb_X11_guessAll 1 bt_RX11 [] ct_2153 [] [] cu_2153 48 con_2153) = true := by decide +kernel
theorem cto_2153 (l : Launch) : CTOK2 l RX11 vwCl gTbl ct_2153 := ct2_cons (vl_929 l) ck_RX11_208_929 (ct2_cons (vl_1456 l) ck_RX11_332_1456 (ct2_cons (vl_869 l) ck_RX11_480_869 (ct2_cons (vl_928 l) ck_RX11_372_928 (ct2_cons (vl_2152 l) ck_RX11_483_2152 (ct2_cons (vl_1766 l) ck_RX11_486_1766 (ct2_cons (vl_1771 l) ck_RX11_486_1771 (ct2_nil)))))))
theorem vl_2153 (l : Launch) : Vld2 l vwCl gTbl con_2153 := conR_ok3 gT_all (hd_2153) rfl pn_RX11 tk_X11_guessAll bo_RX11 xo_RX11 (cto_2153 l) ch_2153 (cut_all cc_2153)
/-- RookHusting isAsSeen -/
noncomputable def gi_1655 : GI := jl_n [gp_700, jl_z 9]
noncomputable def gi_1656 : GI := jl_n [gp_700, jl_z 10]
noncomputable def con_2154 : Con2 := ((yX11_isAsSeen, cX11_isAsSeen, 4, (some .boolean)), (1, 22), ([(6, 0, 0), (0, 0, 0)], gi_1655, hc_209, []), [((0, 0, 0), gi_1656, hq_904, [], [1]), ((0, 1, 0), gi_1656, hq_904, [], [1])])
theorem hd_2154 : con_2154.1 = (yX11_isAsSeen, cX11_isAsSeen, 4, (some .boolean)) := rfl
noncomputable def ct_2154 : CTB2 := [(21, 473, 0, con_2068, [1, 3]), (36, 473, 0, con_2069, [1, 3]), (60, 473, 0, con_2070, [1, 3])]
noncomputable def gi_1657 : GI := jl_n [gp_700, jl_z 12]
noncomputable def gi_1658 : GI := jl_n [gp_700, gp_618]
noncomputable def cu_2154 : List CUT2 := [((2, [lq 0 6 0, lq 1 0 0, lq 2 0 0], [], gi_1657, hq_904), [], ([], 3)), ((2, [lq 0 6 0, lq 1 0 0, lq 2 0 3, lq 3 1 97], [], gi_1658, hq_904), [], ([], 0))]
theorem ch_2154 : staG tb_X11_isAsSeen 1 bt_RX11 [] ct_2154 [] [] cu_2154 44 con_2154 = true := by decide +kernel
theorem cc_2154 : cu_2154.all (cutG tb_X11_isAsSeen 1 bt_RX11 [] ct_2154 [] [] cu_2154 44 con_2154) = true := by decide +kernel
theorem cto_2154 (l : Launch) : CTOK2 l RX11 vwCl gTbl ct_2154 := ct2_cons (vl_2068 l) ck_RX11_473_2068 (ct2_cons (vl_2069 l) ck_RX11_473_2069 (ct2_cons (vl_2070 l) ck_RX11_473_2070 (ct2_nil)))
theorem vl_2154 (l : Launch) : Vld2 l vwCl gTbl con_2154 := conR_ok3 gT_all (hd_2154) rfl pn_RX11 tk_X11_isAsSeen bo_RX11 xo_RX11 (cto_2154 l) ch_2154 (cut_all cc_2154)
/-- RookHusting guessAll -/
noncomputable def gi_1659 : GI := jl_n [gp_620, gp_588]
noncomputable def gi_1660 : GI := jl_n [gp_620, gp_588, gp_622]
noncomputable def con_2155 : Con2 := ((yX11_guessAll, cX11_guessAll, 4, none), (6, 151), ([(6, 0, 0), (0, 0, 0), (1, 2, 0)], gi_1659, hc_210, rq_6), [((9, 0, 0), gi_1660, hq_905, [], tg_1)])
theorem hd_2155 : con_2155.1 = (yX11_guessAll, cX11_guessAll, 4, none) := rfl
theorem ck_RX11_483_2154 : COK2 RX11 vwCl gTbl 483 0 con_2154 := ⟨wd_1230, wd_125, mh_X11_isAsSeen, .inr (.inr ⟨rfl, wd_1227, wd_1229, wd_43, ⟨_, rfl, pd_X11_isAsSeen⟩, 11, _, TX11, 16, rfl, rfl⟩)⟩
noncomputable def ct_2155 : CTB2 := [(1, 208, 0, con_929, [0, 1, 2, 3, 4, 5, 6, 7, 8, 9, 10, 11, 12, 13, 14, 15, 16, 17, 18, 19, 20, 21, 22, 23, 24, 25, 26]), (36, 332, 0, con_1456, [28, 2, 29, 4, 30, 5, 31, 6]), (45, 480, 0, con_869, [28, 29]), (73, 372, 0, con_928, [32, 3, 28, 16, 33, 18, 34, 30, 35, 29, 36, 22, 23, 37, 38, 39, 31]), (78, 483, 0, con_2154, [0, 40, 41, 42, 32, 33]), (105, 486, 0, con_1766, [27, 33, 43]), (105, 486, 0, con_1771, [27, 33, 43])]
noncomputable def gi_1661 : GI := jl_n [gp_620, gp_588, gp_623]
noncomputable def cu_2155 : List CUT2 := [((14, [lq 0 6 0, lq 1 0 0, lq 2 1 2, lq 3 1 204], [], gi_1661, hq_906), rq_6, ([(204, (-1))], 5))]
theorem ch_2155 : staG tb_X11_guessAll 1 bt_RX11 [] ct_2155 [] [] cu_2155 48 con_2155 = true := by decide +kernel
theorem cc_2155 : cu_2155.all (cutG tb_X11_guessAll 1 bt_RX11 [] ct_2155 [] [] cu_2155 48 con_2155) = true := by decide +kernel
theorem cto_2155 (l : Launch) : CTOK2 l RX11 vwCl gTbl ct_2155 := ct2_cons (vl_929 l) ck_RX11_208_929 (ct2_cons (vl_1456 l) ck_RX11_332_1456 (ct2_cons (vl_869 l) ck_RX11_480_869 (ct2_cons (vl_928 l) ck_RX11_372_928 (ct2_cons (vl_2154 l) ck_RX11_483_2154 (ct2_cons (vl_1766 l) ck_RX11_486_1766 (ct2_cons (vl_1771 l) ck_RX11_486_1771 (ct2_nil)))))))
theorem vl_2155 (l : Launch) : Vld2 l vwCl gTbl con_2155 := conR_ok3 gT_all (hd_2155) rfl pn_RX11 tk_X11_guessAll bo_RX11 xo_RX11 (cto_2155 l) ch_2155 (cut_all cc_2155)
/-- RookHusting isAsSeen -/
noncomputable def gi_1662 : GI := jl_n [gp_701, jl_z 9]
noncomputable def gi_1663 : GI := jl_n [gp_701, jl_z 10]
noncomputable def con_2156 : Con2 := ((yX11_isAsSeen, cX11_isAsSeen, 4, (some .boolean)), (1, 22), ([(6, 0, 0), (0, 0, 0)], gi_1662, hc_209, []), [((0, 0, 0), gi_1663, hq_904, [], [1]), ((0, 1, 0), gi_1663, hq_904, [], [1])])
theorem hd_2156 : con_2156.1 = (yX11_isAsSeen, cX11_isAsSeen, 4, (some .boolean)) := rfl
noncomputable def ct_2156 : CTB2 := [(21, 473, 0, con_2094, [1, 3]), (21, 473, 0, con_2091, [1, 3]), (21, 473, 0, con_2088, [1, 3]), (21, 473, 0, con_2085, [1, 3]), (21, 473, 0, con_2082, [1, 3]), (21, 473, 0, con_2079, [1, 3]), (21, 473, 0, con_2074, [1, 3]), (21, 473, 0, con_2071, [1, 3]), (21, 473, 0, con_2068, [1, 3]), (36, 473, 0, con_2095, [1, 3]), (36, 473, 0, con_2092, [1, 3]), (36, 473, 0, con_2089, [1, 3]), (36, 473, 0, con_2086, [1, 3]), (36, 473, 0, con_2083, [1, 3]), (36, 473, 0, con_2080, [1, 3]), (36, 473, 0, con_2075, [1, 3]), (36, 473, 0, con_2072, [1, 3]), (36, 473, 0, con_2069, [1, 3]), (60, 473, 0, con_2096, [1, 3]), (60, 473, 0, con_2093, [1, 3]), (60, 473, 0, con_2090, [1, 3]), (60, 473, 0, con_2087, [1, 3]), (60, 473, 0, con_2084, [1, 3]), (60, 473, 0, con_2081, [1, 3]), (60, 473, 0, con_2076, [1, 3]), (60, 473, 0, con_2073, [1, 3]), (60, 473, 0, con_2070, [1, 3])]
noncomputable def gi_1664 : GI := jl_n [gp_701, jl_z 12]
noncomputable def gi_1665 : GI := jl_n [gp_701, gp_618]
noncomputable def cu_2156 : List CUT2 := [((2, [lq 0 6 0, lq 1 0 0, lq 2 0 0], [], gi_1664, hq_904), [], ([], 27)), ((2, [lq 0 6 0, lq 1 0 0, lq 2 0 3, lq 3 1 97], [], gi_1665, hq_904), [], ([], 24)), ((2, [lq 0 6 0, lq 1 0 0, lq 2 0 6, lq 3 1 97], [], gi_1665, hq_904), [], ([], 21)), ((2, [lq 0 6 0, lq 1 0 0, lq 2 0 9, lq 3 1 97], [], gi_1665, hq_904), [], ([], 18)), ((2, [lq 0 6 0, lq 1 0 0, lq 2 0 12, lq 3 1 97], [], gi_1665, hq_904), [], ([], 15)), ((2, [lq 0 6 0, lq 1 0 0, lq 2 0 15, lq 3 1 97], [], gi_1665, hq_904), [], ([], 12)), ((2, [lq 0 6 0, lq 1 0 0, lq 2 0 18, lq 3 1 97], [], gi_1665, hq_904), [], ([], 9)), ((2, [lq 0 6 0, lq 1 0 0, lq 2 0 21, lq 3 1 97], [], gi_1665, hq_904), [], ([], 6)), ((2, [lq 0 6 0, lq 1 0 0, lq 2 0 24, lq 3 1 97], [], gi_1665, hq_904), [], ([], 3)), ((2, [lq 0 6 0, lq 1 0 0, lq 2 0 27, lq 3 1 97], [], gi_1665, hq_904), [], ([], 0))]
theorem ch_2156 : staG tb_X11_isAsSeen 1 bt_RX11 [] ct_2156 [] [] cu_2156 44 con_2156 = true := by decide +kernel
theorem cc_2156 : cu_2156.all (cutG tb_X11_isAsSeen 1 bt_RX11 [] ct_2156 [] [] cu_2156 44 con_2156) = true := by decide +kernel
theorem cto_2156 (l : Launch) : CTOK2 l RX11 vwCl gTbl ct_2156 := ct2_cons (vl_2094 l) ck_RX11_473_2094 (ct2_cons (vl_2091 l) ck_RX11_473_2091 (ct2_cons (vl_2088 l) ck_RX11_473_2088 (ct2_cons (vl_2085 l) ck_RX11_473_2085 (ct2_cons (vl_2082 l) ck_RX11_473_2082 (ct2_cons (vl_2079 l) ck_RX11_473_2079 (ct2_cons (vl_2074 l) ck_RX11_473_2074 (ct2_cons (vl_2071 l) ck_RX11_473_2071 (ct2_cons (vl_2068 l) ck_RX11_473_2068 (ct2_cons (vl_2095 l) ck_RX11_473_2095 (ct2_cons (vl_2092 l) ck_RX11_473_2092 (ct2_cons (vl_2089 l) ck_RX11_473_2089 (ct2_cons (vl_2086 l) ck_RX11_473_2086 (ct2_cons (vl_2083 l) ck_RX11_473_2083 (ct2_cons (vl_2080 l) ck_RX11_473_2080 (ct2_cons (vl_2075 l) ck_RX11_473_2075 (ct2_cons (vl_2072 l) ck_RX11_473_2072 (ct2_cons (vl_2069 l) ck_RX11_473_2069 (ct2_cons (vl_2096 l) ck_RX11_473_2096 (ct2_cons (vl_2093 l) ck_RX11_473_2093 (ct2_cons (vl_2090 l) ck_RX11_473_2090 (ct2_cons (vl_2087 l) ck_RX11_473_2087 (ct2_cons (vl_2084 l) ck_RX11_473_2084 (ct2_cons (vl_2081 l) ck_RX11_473_2081 (ct2_cons (vl_2076 l) ck_RX11_473_2076 (ct2_cons (vl_2073 l) ck_RX11_473_2073 (ct2_cons (vl_2070 l) ck_RX11_473_2070 (ct2_nil)))))))))))))))))))))))))))
theorem vl_2156 (l : Launch) : Vld2 l vwCl gTbl con_2156 := conR_ok3 gT_all (hd_2156) rfl pn_RX11 tk_X11_isAsSeen bo_RX11 xo_RX11 (cto_2156 l) ch_2156 (cut_all cc_2156)
/-- RookHusting guessAll -/
noncomputable def gi_1666 : GI := jl_n [gp_620, gp_586]
noncomputable def gi_1667 : GI := jl_n [gp_620, gp_586, gp_622]
noncomputable def con_2157 : Con2 := ((yX11_guessAll, cX11_guessAll, 4, none), (6, 151), ([(6, 0, 0), (0, 0, 0), (1, 2, 0)], gi_1666, hc_210, rq_6), [((9, 0, 0), gi_1667, hq_905, [], tg_1)])
theorem hd_2157 : con_2157.1 = (yX11_guessAll, cX11_guessAll, 4, none) := rfl
theorem ck_RX11_483_2156 : COK2 RX11 vwCl gTbl 483 0 con_2156 := ⟨wd_1230, wd_125, mh_X11_isAsSeen, .inr (.inr ⟨rfl, wd_1227, wd_1229, wd_43, ⟨_, rfl, pd_X11_isAsSeen⟩, 11, _, TX11, 16, rfl, rfl⟩)⟩
noncomputable def ct_2157 : CTB2 := [(1, 208, 0, con_929, [0, 1, 2, 3, 4, 5, 6, 7, 8, 9, 10, 11, 12, 13, 14, 15, 16, 17, 18, 19, 20, 21, 22, 23, 24, 25, 26]), (36, 332, 0, con_1456, [28, 2, 29, 4, 30, 5, 31, 6]), (45, 480, 0, con_869, [28, 29]), (73, 372, 0, con_928, [32, 3, 28, 16, 33, 18, 34, 30, 35, 29, 36, 22, 23, 37, 38, 39, 31]), (78, 483, 0, con_2156, [0, 40, 41, 42, 32, 33]), (105, 486, 0, con_1766, [27, 33, 43]), (105, 486, 0, con_1771, [27, 33, 43])]
noncomputable def gi_1668 : GI := jl_n [gp_620, gp_586, gp_623]
noncomputable def cu_2157 : List CUT2 := [((14, [lq 0 6 0, lq 1 0 0, lq 2 1 2, lq 3 1 204], [], gi_1668, hq_906), rq_6, ([(204, (-1))], 5))]
theorem ch_2157 : staG tb_X11_guessAll 1 bt_RX11 [] ct_2157 [] [] cu_2157 48 con_2157 = true := by decide +kernel
theorem cc_2157 : cu_2157.all (cutG tb_X11_guessAll 1 bt_RX11 [] ct_2157 [] [] cu_2157 48 con_2157) = true := by decide +kernel
theorem cto_2157 (l : Launch) : CTOK2 l RX11 vwCl gTbl ct_2157 := ct2_cons (vl_929 l) ck_RX11_208_929 (ct2_cons (vl_1456 l) ck_RX11_332_1456 (ct2_cons (vl_869 l) ck_RX11_480_869 (ct2_cons (vl_928 l) ck_RX11_372_928 (ct2_cons (vl_2156 l) ck_RX11_483_2156 (ct2_cons (vl_1766 l) ck_RX11_486_1766 (ct2_cons (vl_1771 l) ck_RX11_486_1771 (ct2_nil)))))))
theorem vl_2157 (l : Launch) : Vld2 l vwCl gTbl con_2157 := conR_ok3 gT_all (hd_2157) rfl pn_RX11 tk_X11_guessAll bo_RX11 xo_RX11 (cto_2157 l) ch_2157 (cut_all cc_2157)
/-- RookHusting isAsSeen -/
noncomputable def gi_1669 : GI := jl_n [gp_702, jl_z 9]
noncomputable def gi_1670 : GI := jl_n [gp_702, jl_z 10]
noncomputable def con_2158 : Con2 := ((yX11_isAsSeen, cX11_isAsSeen, 4, (some .boolean)), (1, 22), ([(6, 0, 0), (0, 0, 0)], gi_1669, hc_209, []), [((0, 0, 0), gi_1670, hq_904, [], [1]), ((0, 1, 0), gi_1670, hq_904, [], [1])])
theorem hd_2158 : con_2158.1 = (yX11_isAsSeen, cX11_isAsSeen, 4, (some .boolean)) := rfl
noncomputable def ct_2158 : CTB2 := [(21, 473, 0, con_2091, [1, 3]), (21, 473, 0, con_2088, [1, 3]), (21, 473, 0, con_2085, [1, 3]), (21, 473, 0, con_2082, [1, 3]), (21, 473, 0, con_2079, [1, 3]), (21, 473, 0, con_2074, [1, 3]), (21, 473, 0, con_2071, [1, 3]), (21, 473, 0, con_2068, [1, 3]), (36, 473, 0, con_2092, [1, 3]), (36, 473, 0, con_2089, [1, 3]), (36, 473, 0, con_2086, [1, 3]), (36, 473, 0, con_2083, [1, 3]), (36, 473, 0, con_2080, [1, 3]), (36, 473, 0, con_2075, [1, 3]), (36, 473, 0, con_2072, [1, 3]), (36, 473, 0, con_2069, [1, 3]), (60, 473, 0, con_2093, [1, 3]), (60, 473, 0, con_2090, [1, 3]), (60, 473, 0, con_2087, [1, 3]), (60, 473, 0, con_2084, [1, 3]), (60, 473, 0, con_2081, [1, 3]), (60, 473, 0, con_2076, [1, 3]), (60, 473, 0, con_2073, [1, 3]), (60, 473, 0, con_2070, [1, 3])]
noncomputable def gi_1671 : GI := jl_n [gp_702, jl_z 12]
noncomputable def gi_1672 : GI := jl_n [gp_702, gp_618]
noncomputable def cu_2158 : List CUT2 := [((2, [lq 0 6 0, lq 1 0 0, lq 2 0 0], [], gi_1671, hq_904), [], ([], 24)), ((2, [lq 0 6 0, lq 1 0 0, lq 2 0 3, lq 3 1 97], [], gi_1672, hq_904), [], ([], 21)), ((2, [lq 0 6 0, lq 1 0 0, lq 2 0 6, lq 3 1 97], [], gi_1672, hq_904), [], ([], 18)), ((2, [lq 0 6 0, lq 1 0 0, lq 2 0 9, lq 3 1 97], [], gi_1672, hq_904), [], ([], 15)), ((2, [lq 0 6 0, lq 1 0 0, lq 2 0 12, lq 3 1 97], [], gi_1672, hq_904), [], ([], 12)), ((2, [lq 0 6 0, lq 1 0 0, lq 2 0 15, lq 3 1 97], [], gi_1672, hq_904), [], ([], 9)), ((2, [lq 0 6 0, lq 1 0 0, lq 2 0 18, lq 3 1 97], [], gi_1672, hq_904), [], ([], 6)), ((2, [lq 0 6 0, lq 1 0 0, lq 2 0 21, lq 3 1 97], [], gi_1672, hq_904), [], ([], 3)), ((2, [lq 0 6 0, lq 1 0 0, lq 2 0 24, lq 3 1 97], [], gi_1672, hq_904), [], ([], 0))]
theorem ch_2158 : staG tb_X11_isAsSeen 1 bt_RX11 [] ct_2158 [] [] cu_2158 44 con_2158 = true := by decide +kernel
theorem cc_2158 : cu_2158.all (cutG tb_X11_isAsSeen 1 bt_RX11 [] ct_2158 [] [] cu_2158 44 con_2158) = true := by decide +kernel
theorem cto_2158 (l : Launch) : CTOK2 l RX11 vwCl gTbl ct_2158 := ct2_cons (vl_2091 l) ck_RX11_473_2091 (ct2_cons (vl_2088 l) ck_RX11_473_2088 (ct2_cons (vl_2085 l) ck_RX11_473_2085 (ct2_cons (vl_2082 l) ck_RX11_473_2082 (ct2_cons (vl_2079 l) ck_RX11_473_2079 (ct2_cons (vl_2074 l) ck_RX11_473_2074 (ct2_cons (vl_2071 l) ck_RX11_473_2071 (ct2_cons (vl_2068 l) ck_RX11_473_2068 (ct2_cons (vl_2092 l) ck_RX11_473_2092 (ct2_cons (vl_2089 l) ck_RX11_473_2089 (ct2_cons (vl_2086 l) ck_RX11_473_2086 (ct2_cons (vl_2083 l) ck_RX11_473_2083 (ct2_cons (vl_2080 l) ck_RX11_473_2080 (ct2_cons (vl_2075 l) ck_RX11_473_2075 (ct2_cons (vl_2072 l) ck_RX11_473_2072 (ct2_cons (vl_2069 l) ck_RX11_473_2069 (ct2_cons (vl_2093 l) ck_RX11_473_2093 (ct2_cons (vl_2090 l) ck_RX11_473_2090 (ct2_cons (vl_2087 l) ck_RX11_473_2087 (ct2_cons (vl_2084 l) ck_RX11_473_2084 (ct2_cons (vl_2081 l) ck_RX11_473_2081 (ct2_cons (vl_2076 l) ck_RX11_473_2076 (ct2_cons (vl_2073 l) ck_RX11_473_2073 (ct2_cons (vl_2070 l) ck_RX11_473_2070 (ct2_nil))))))))))))))))))))))))
theorem vl_2158 (l : Launch) : Vld2 l vwCl gTbl con_2158 := conR_ok3 gT_all (hd_2158) rfl pn_RX11 tk_X11_isAsSeen bo_RX11 xo_RX11 (cto_2158 l) ch_2158 (cut_all cc_2158)
/-- RookHusting guessAll -/
noncomputable def gi_1673 : GI := jl_n [gp_620, gp_584]
noncomputable def gi_1674 : GI := jl_n [gp_620, gp_584, gp_622]
noncomputable def con_2159 : Con2 := ((yX11_guessAll, cX11_guessAll, 4, none), (6, 151), ([(6, 0, 0), (0, 0, 0), (1, 2, 0)], gi_1673, hc_210, rq_6), [((9, 0, 0), gi_1674, hq_905, [], tg_1)])
theorem hd_2159 : con_2159.1 = (yX11_guessAll, cX11_guessAll, 4, none) := rfl
theorem ck_RX11_483_2158 : COK2 RX11 vwCl gTbl 483 0 con_2158 := ⟨wd_1230, wd_125, mh_X11_isAsSeen, .inr (.inr ⟨rfl, wd_1227, wd_1229, wd_43, ⟨_, rfl, pd_X11_isAsSeen⟩, 11, _, TX11, 16, rfl, rfl⟩)⟩
noncomputable def ct_2159 : CTB2 := [(1, 208, 0, con_929, [0, 1, 2, 3, 4, 5, 6, 7, 8, 9, 10, 11, 12, 13, 14, 15, 16, 17, 18, 19, 20, 21, 22, 23, 24, 25, 26]), (36, 332, 0, con_1456, [28, 2, 29, 4, 30, 5, 31, 6]), (45, 480, 0, con_869, [28, 29]), (73, 372, 0, con_928, [32, 3, 28, 16, 33, 18, 34, 30, 35, 29, 36, 22, 23, 37, 38, 39, 31]), (78, 483, 0, con_2158, [0, 40, 41, 42, 32, 33]), (105, 486, 0, con_1766, [27, 33, 43]), (105, 486, 0, con_1771, [27, 33, 43])]
noncomputable def gi_1675 : GI := jl_n [gp_620, gp_584, gp_623]
noncomputable def cu_2159 : List CUT2 := [((14, [lq 0 6 0, lq 1 0 0, lq 2 1 2, lq 3 1 204], [], gi_1675, hq_906), rq_6, ([(204, (-1))], 5))]
theorem ch_2159 : staG tb_X11_guessAll 1 bt_RX11 [] ct_2159 [] [] cu_2159 48 con_2159 = true := by decide +kernel
theorem cc_2159 : cu_2159.all (cutG tb_X11_guessAll 1 bt_RX11 [] ct_2159 [] [] cu_2159 48 con_2159) = true := by decide +kernel
theorem cto_2159 (l : Launch) : CTOK2 l RX11 vwCl gTbl ct_2159 := ct2_cons (vl_929 l) ck_RX11_208_929 (ct2_cons (vl_1456 l) ck_RX11_332_1456 (ct2_cons (vl_869 l) ck_RX11_480_869 (ct2_cons (vl_928 l) ck_RX11_372_928 (ct2_cons (vl_2158 l) ck_RX11_483_2158 (ct2_cons (vl_1766 l) ck_RX11_486_1766 (ct2_cons (vl_1771 l) ck_RX11_486_1771 (ct2_nil)))))))
theorem vl_2159 (l : Launch) : Vld2 l vwCl gTbl con_2159 := conR_ok3 gT_all (hd_2159) rfl pn_RX11 tk_X11_guessAll bo_RX11 xo_RX11 (cto_2159 l) ch_2159 (cut_all cc_2159)
/-- RookHusting isAsSeen -/
noncomputable def gi_1676 : GI := jl_n [gp_703, jl_z 9]
noncomputable def gi_1677 : GI := jl_n [gp_703, jl_z 10]
noncomputable def con_2160 : Con2 := ((yX11_isAsSeen, cX11_isAsSeen, 4, (some .boolean)), (1, 22), ([(6, 0, 0), (0, 0, 0)], gi_1676, hc_209, []), [((0, 0, 0), gi_1677, hq_904, [], [1]), ((0, 1, 0), gi_1677, hq_904, [], [1])])
theorem hd_2160 : con_2160.1 = (yX11_isAsSeen, cX11_isAsSeen, 4, (some .boolean)) := rfl
noncomputable def ct_2160 : CTB2 := [(21, 473, 0, con_2088, [1, 3]), (21, 473, 0, con_2085, [1, 3]), (21, 473, 0, con_2082, [1, 3]), (21, 473, 0, con_2079, [1, 3]), (21, 473, 0, con_2074, [1, 3]), (21, 473, 0, con_2071, [1, 3]), (21, 473, 0, con_2068, [1, 3]), (36, 473, 0, con_2089, [1, 3]), (36, 473, 0, con_2086, [1, 3]), (36, 473, 0, con_2083, [1, 3]), (36, 473, 0, con_2080, [1, 3]), (36, 473, 0, con_2075, [1, 3]), (36, 473, 0, con_2072, [1, 3]), (36, 473, 0, con_2069, [1, 3]), (60, 473, 0, con_2090, [1, 3]), (60, 473, 0, con_2087, [1, 3]), (60, 473, 0, con_2084, [1, 3]), (60, 473, 0, con_2081, [1, 3]), (60, 473, 0, con_2076, [1, 3]), (60, 473, 0, con_2073, [1, 3]), (60, 473, 0, con_2070, [1, 3])]
noncomputable def gi_1678 : GI := jl_n [gp_703, jl_z 12]
noncomputable def gi_1679 : GI := jl_n [gp_703, gp_618]
noncomputable def cu_2160 : List CUT2 := [((2, [lq 0 6 0, lq 1 0 0, lq 2 0 0], [], gi_1678, hq_904), [], ([], 21)), ((2, [lq 0 6 0, lq 1 0 0, lq 2 0 3, lq 3 1 97], [], gi_1679, hq_904), [], ([], 18)), ((2, [lq 0 6 0, lq 1 0 0, lq 2 0 6, lq 3 1 97], [], gi_1679, hq_904), [], ([], 15)), ((2, [lq 0 6 0, lq 1 0 0, lq 2 0 9, lq 3 1 97], [], gi_1679, hq_904), [], ([], 12)), ((2, [lq 0 6 0, lq 1 0 0, lq 2 0 12, lq 3 1 97], [], gi_1679, hq_904), [], ([], 9)), ((2, [lq 0 6 0, lq 1 0 0, lq 2 0 15, lq 3 1 97], [], gi_1679, hq_904), [], ([], 6)), ((2, [lq 0 6 0, lq 1 0 0, lq 2 0 18, lq 3 1 97], [], gi_1679, hq_904), [], ([], 3)), ((2, [lq 0 6 0, lq 1 0 0, lq 2 0 21, lq 3 1 97], [], gi_1679, hq_904), [], ([], 0))]
theorem ch_2160 : staG tb_X11_isAsSeen 1 bt_RX11 [] ct_2160 [] [] cu_2160 44 con_2160 = true := by decide +kernel
theorem cc_2160 : cu_2160.all (cutG tb_X11_isAsSeen 1 bt_RX11 [] ct_2160 [] [] cu_2160 44 con_2160) = true := by decide +kernel
theorem cto_2160 (l : Launch) : CTOK2 l RX11 vwCl gTbl ct_2160 := ct2_cons (vl_2088 l) ck_RX11_473_2088 (ct2_cons (vl_2085 l) ck_RX11_473_2085 (ct2_cons (vl_2082 l) ck_RX11_473_2082 (ct2_cons (vl_2079 l) ck_RX11_473_2079 (ct2_cons (vl_2074 l) ck_RX11_473_2074 (ct2_cons (vl_2071 l) ck_RX11_473_2071 (ct2_cons (vl_2068 l) ck_RX11_473_2068 (ct2_cons (vl_2089 l) ck_RX11_473_2089 (ct2_cons (vl_2086 l) ck_RX11_473_2086 (ct2_cons (vl_2083 l) ck_RX11_473_2083 (ct2_cons (vl_2080 l) ck_RX11_473_2080 (ct2_cons (vl_2075 l) ck_RX11_473_2075 (ct2_cons (vl_2072 l) ck_RX11_473_2072 (ct2_cons (vl_2069 l) ck_RX11_473_2069 (ct2_cons (vl_2090 l) ck_RX11_473_2090 (ct2_cons (vl_2087 l) ck_RX11_473_2087 (ct2_cons (vl_2084 l) ck_RX11_473_2084 (ct2_cons (vl_2081 l) ck_RX11_473_2081 (ct2_cons (vl_2076 l) ck_RX11_473_2076 (ct2_cons (vl_2073 l) ck_RX11_473_2073 (ct2_cons (vl_2070 l) ck_RX11_473_2070 (ct2_nil)))))))))))))))))))))
theorem vl_2160 (l : Launch) : Vld2 l vwCl gTbl con_2160 := conR_ok3 gT_all (hd_2160) rfl pn_RX11 tk_X11_isAsSeen bo_RX11 xo_RX11 (cto_2160 l) ch_2160 (cut_all cc_2160)
/-- RookHusting guessAll -/
noncomputable def gi_1680 : GI := jl_n [gp_620, gp_581]
noncomputable def gi_1681 : GI := jl_n [gp_620, gp_581, gp_622]
noncomputable def con_2161 : Con2 := ((yX11_guessAll, cX11_guessAll, 4, none), (6, 151), ([(6, 0, 0), (0, 0, 0), (1, 2, 0)], gi_1680, hc_210, rq_6), [((9, 0, 0), gi_1681, hq_905, [], tg_1)])
theorem hd_2161 : con_2161.1 = (yX11_guessAll, cX11_guessAll, 4, none) := rfl
theorem ck_RX11_483_2160 : COK2 RX11 vwCl gTbl 483 0 con_2160 := ⟨wd_1230, wd_125, mh_X11_isAsSeen, .inr (.inr ⟨rfl, wd_1227, wd_1229, wd_43, ⟨_, rfl, pd_X11_isAsSeen⟩, 11, _, TX11, 16, rfl, rfl⟩)⟩
noncomputable def ct_2161 : CTB2 := [(1, 208, 0, con_929, [0, 1, 2, 3, 4, 5, 6, 7, 8, 9, 10, 11, 12, 13, 14, 15, 16, 17, 18, 19, 20, 21, 22, 23, 24, 25, 26]), (36, 332, 0, con_1456, [28, 2, 29, 4, 30, 5, 31, 6]), (45, 480, 0, con_869, [28, 29]), (73, 372, 0, con_928, [32, 3, 28, 16, 33, 18, 34, 30, 35, 29, 36, 22, 23, 37, 38, 39, 31]), (78, 483, 0, con_2160, [0, 40, 41, 42, 32, 33]), (105, 486, 0, con_1766, [27, 33, 43]), (105, 486, 0, con_1771, [27, 33, 43])]
noncomputable def gi_1682 : GI := jl_n [gp_620, gp_581, gp_623]
noncomputable def cu_2161 : List CUT2 := [((14, [lq 0 6 0, lq 1 0 0, lq 2 1 2, lq 3 1 204], [], gi_1682, hq_906), rq_6, ([(204, (-1))], 5))]
theorem ch_2161 : staG tb_X11_guessAll 1 bt_RX11 [] ct_2161 [] [] cu_2161 48 con_2161 = true := by decide +kernel
theorem cc_2161 : cu_2161.all (cutG tb_X11_guessAll 1 bt_RX11 [] ct_2161 [] [] cu_2161 48 con_2161) = true := by decide +kernel
theorem cto_2161 (l : Launch) : CTOK2 l RX11 vwCl gTbl ct_2161 := ct2_cons (vl_929 l) ck_RX11_208_929 (ct2_cons (vl_1456 l) ck_RX11_332_1456 (ct2_cons (vl_869 l) ck_RX11_480_869 (ct2_cons (vl_928 l) ck_RX11_372_928 (ct2_cons (vl_2160 l) ck_RX11_483_2160 (ct2_cons (vl_1766 l) ck_RX11_486_1766 (ct2_cons (vl_1771 l) ck_RX11_486_1771 (ct2_nil)))))))
theorem vl_2161 (l : Launch) : Vld2 l vwCl gTbl con_2161 := conR_ok3 gT_all (hd_2161) rfl pn_RX11 tk_X11_guessAll bo_RX11 xo_RX11 (cto_2161 l) ch_2161 (cut_all cc_2161)
/-- RookHusting isAsSeen -/
noncomputable def gi_1683 : GI := jl_n [gp_704, jl_z 9]
noncomputable def gi_1684 : GI := jl_n [gp_704, jl_z 10]
noncomputable def con_2162 : Con2 := ((yX11_isAsSeen, cX11_isAsSeen, 4, (some .boolean)), (1, 22), ([(6, 0, 0), (0, 0, 0)], gi_1683, hc_209, []), [((0, 0, 0), gi_1684, hq_904, [], [1]), ((0, 1, 0), gi_1684, hq_904, [], [1])])
theorem hd_2162 : con_2162.1 = (yX11_isAsSeen, cX11_isAsSeen, 4, (some .boolean)) := rfl
noncomputable def ct_2162 : CTB2 := [(21, 473, 0, con_2085, [1, 3]), (21, 473, 0, con_2082, [1, 3]), (21, 473, 0, con_2079, [1, 3]), (21, 473, 0, con_2074, [1, 3]), (21, 473, 0, con_2071, [1, 3]), (21, 473, 0, con_2068, [1, 3]), (36, 473, 0, con_2086, [1, 3]), (36, 473, 0, con_2083, [1, 3]), (36, 473, 0, con_2080, [1, 3]), (36, 473, 0, con_2075, [1, 3]), (36, 473, 0, con_2072, [1, 3]), (36, 473, 0, con_2069, [1, 3]), (60, 473, 0, con_2087, [1, 3]), (60, 473, 0, con_2084, [1, 3]), (60, 473, 0, con_2081, [1, 3]), (60, 473, 0, con_2076, [1, 3]), (60, 473, 0, con_2073, [1, 3]), (60, 473, 0, con_2070, [1, 3])]
noncomputable def gi_1685 : GI := jl_n [gp_704, jl_z 12]
noncomputable def gi_1686 : GI := jl_n [gp_704, gp_618]
noncomputable def cu_2162 : List CUT2 := [((2, [lq 0 6 0, lq 1 0 0, lq 2 0 0], [], gi_1685, hq_904), [], ([], 18)), ((2, [lq 0 6 0, lq 1 0 0, lq 2 0 3, lq 3 1 97], [], gi_1686, hq_904), [], ([], 15)), ((2, [lq 0 6 0, lq 1 0 0, lq 2 0 6, lq 3 1 97], [], gi_1686, hq_904), [], ([], 12)), ((2, [lq 0 6 0, lq 1 0 0, lq 2 0 9, lq 3 1 97], [], gi_1686, hq_904), [], ([], 9)), ((2, [lq 0 6 0, lq 1 0 0, lq 2 0 12, lq 3 1 97], [], gi_1686, hq_904), [], ([], 6)), ((2, [lq 0 6 0, lq 1 0 0, lq 2 0 15, lq 3 1 97], [], gi_1686, hq_904), [], ([], 3)), ((2, [lq 0 6 0, lq 1 0 0, lq 2 0 18, lq 3 1 97], [], gi_1686, hq_904), [], ([], 0))]
theorem ch_2162 : staG tb_X11_isAsSeen 1 bt_RX11 [] ct_2162 [] [] cu_2162 44 con_2162 = true := by decide +kernel
theorem cc_2162 : cu_2162.all (cutG tb_X11_isAsSeen 1 bt_RX11 [] ct_2162 [] [] cu_2162 44 con_2162) = true := by decide +kernel
theorem cto_2162 (l : Launch) : CTOK2 l RX11 vwCl gTbl ct_2162 := ct2_cons (vl_2085 l) ck_RX11_473_2085 (ct2_cons (vl_2082 l) ck_RX11_473_2082 (ct2_cons (vl_2079 l) ck_RX11_473_2079 (ct2_cons (vl_2074 l) ck_RX11_473_2074 (ct2_cons (vl_2071 l) ck_RX11_473_2071 (ct2_cons (vl_2068 l) ck_RX11_473_2068 (ct2_cons (vl_2086 l) ck_RX11_473_2086 (ct2_cons (vl_2083 l) ck_RX11_473_2083 (ct2_cons (vl_2080 l) ck_RX11_473_2080 (ct2_cons (vl_2075 l) ck_RX11_473_2075 (ct2_cons (vl_2072 l) ck_RX11_473_2072 (ct2_cons (vl_2069 l) ck_RX11_473_2069 (ct2_cons (vl_2087 l) ck_RX11_473_2087 (ct2_cons (vl_2084 l) ck_RX11_473_2084 (ct2_cons (vl_2081 l) ck_RX11_473_2081 (ct2_cons (vl_2076 l) ck_RX11_473_2076 (ct2_cons (vl_2073 l) ck_RX11_473_2073 (ct2_cons (vl_2070 l) ck_RX11_473_2070 (ct2_nil))))))))))))))))))
theorem vl_2162 (l : Launch) : Vld2 l vwCl gTbl con_2162 := conR_ok3 gT_all (hd_2162) rfl pn_RX11 tk_X11_isAsSeen bo_RX11 xo_RX11 (cto_2162 l) ch_2162 (cut_all cc_2162)
/-- RookHusting guessAll -/
noncomputable def gi_1687 : GI := jl_n [gp_620, gp_579]
noncomputable def gi_1688 : GI := jl_n [gp_620, gp_579, gp_622]
noncomputable def con_2163 : Con2 := ((yX11_guessAll, cX11_guessAll, 4, none), (6, 151), ([(6, 0, 0), (0, 0, 0), (1, 2, 0)], gi_1687, hc_210, rq_6), [((9, 0, 0), gi_1688, hq_905, [], tg_1)])
theorem hd_2163 : con_2163.1 = (yX11_guessAll, cX11_guessAll, 4, none) := rfl
theorem ck_RX11_483_2162 : COK2 RX11 vwCl gTbl 483 0 con_2162 := ⟨wd_1230, wd_125, mh_X11_isAsSeen, .inr (.inr ⟨rfl, wd_1227, wd_1229, wd_43, ⟨_, rfl, pd_X11_isAsSeen⟩, 11, _, TX11, 16, rfl, rfl⟩)⟩
noncomputable def ct_2163 : CTB2 := [(1, 208, 0, con_929, [0, 1, 2, 3, 4, 5, 6, 7, 8, 9, 10, 11, 12, 13, 14, 15, 16, 17, 18, 19, 20, 21, 22, 23, 24, 25, 26]), (36, 332, 0, con_1456, [28, 2, 29, 4, 30, 5, 31, 6]), (45, 480, 0, con_869, [28, 29]), (73, 372, 0, con_928, [32, 3, 28, 16, 33, 18, 34, 30, 35, 29, 36, 22, 23, 37, 38, 39, 31]), (78, 483, 0, con_2162, [0, 40, 41, 42, 32, 33]), (105, 486, 0, con_1766, [27, 33, 43]), (105, 486, 0, con_1771, [27, 33, 43])]
noncomputable def gi_1689 : GI := jl_n [gp_620, gp_579, gp_623]
noncomputable def cu_2163 : List CUT2 := [((14, [lq 0 6 0, lq 1 0 0, lq 2 1 2, lq 3 1 204], [], gi_1689, hq_906), rq_6, ([(204, (-1))], 5))]
theorem ch_2163 : staG tb_X11_guessAll 1 bt_RX11 [] ct_2163 [] [] cu_2163 48 con_2163 = true := by decide +kernel
theorem cc_2163 : cu_2163.all (cutG tb_X11_guessAll 1 bt_RX11 [] ct_2163 [] [] cu_2163 48 con_2163) = true := by decide +kernel
theorem cto_2163 (l : Launch) : CTOK2 l RX11 vwCl gTbl ct_2163 := ct2_cons (vl_929 l) ck_RX11_208_929 (ct2_cons (vl_1456 l) ck_RX11_332_1456 (ct2_cons (vl_869 l) ck_RX11_480_869 (ct2_cons (vl_928 l) ck_RX11_372_928 (ct2_cons (vl_2162 l) ck_RX11_483_2162 (ct2_cons (vl_1766 l) ck_RX11_486_1766 (ct2_cons (vl_1771 l) ck_RX11_486_1771 (ct2_nil)))))))
theorem vl_2163 (l : Launch) : Vld2 l vwCl gTbl con_2163 := conR_ok3 gT_all (hd_2163) rfl pn_RX11 tk_X11_guessAll bo_RX11 xo_RX11 (cto_2163 l) ch_2163 (cut_all cc_2163)
/-- RookHusting isAsSeen -/
noncomputable def gi_1690 : GI := jl_n [gp_705, jl_z 9]
noncomputable def gi_1691 : GI := jl_n [gp_705, jl_z 10]
noncomputable def con_2164 : Con2 := ((yX11_isAsSeen, cX11_isAsSeen, 4, (some .boolean)), (1, 22), ([(6, 0, 0), (0, 0, 0)], gi_1690, hc_209, []), [((0, 0, 0), gi_1691, hq_904, [], [1]), ((0, 1, 0), gi_1691, hq_904, [], [1])])
theorem hd_2164 : con_2164.1 = (yX11_isAsSeen, cX11_isAsSeen, 4, (some .boolean)) := rfl
noncomputable def ct_2164 : CTB2 := [(21, 473, 0, con_2082, [1, 3]), (21, 473, 0, con_2079, [1, 3]), (21, 473, 0, con_2074, [1, 3]), (21, 473, 0, con_2071, [1, 3]), (21, 473, 0, con_2068, [1, 3]), (36, 473, 0, con_2083, [1, 3]), (36, 473, 0, con_2080, [1, 3]), (36, 473, 0, con_2075, [1, 3]), (36, 473, 0, con_2072, [1, 3]), (36, 473, 0, con_2069, [1, 3]), (60, 473, 0, con_2084, [1, 3]), (60, 473, 0, con_2081, [1, 3]), (60, 473, 0, con_2076, [1, 3]), (60, 473, 0, con_2073, [1, 3]), (60, 473, 0, con_2070, [1, 3])]
noncomputable def gi_1692 : GI := jl_n [gp_705, jl_z 12]
noncomputable def gi_1693 : GI := jl_n [gp_705, gp_618]
noncomputable def cu_2164 : List CUT2 := [((2, [lq 0 6 0, lq 1 0 0, lq 2 0 0], [], gi_1692, hq_904), [], ([], 15)), ((2, [lq 0 6 0, lq 1 0 0, lq 2 0 3, lq 3 1 97], [], gi_1693, hq_904), [], ([], 12)), ((2, [lq 0 6 0, lq 1 0 0, lq 2 0 6, lq 3 1 97], [], gi_1693, hq_904), [], ([], 9)), ((2, [lq 0 6 0, lq 1 0 0, lq 2 0 9, lq 3 1 97], [], gi_1693, hq_904), [], ([], 6)), ((2, [lq 0 6 0, lq 1 0 0, lq 2 0 12, lq 3 1 97], [], gi_1693, hq_904), [], ([], 3)), ((2, [lq 0 6 0, lq 1 0 0, lq 2 0 15, lq 3 1 97], [], gi_1693, hq_904), [], ([], 0))]
theorem ch_2164 : staG tb_X11_isAsSeen 1 bt_RX11 [] ct_2164 [] [] cu_2164 44 con_2164 = true := by decide +kernel
theorem cc_2164 : cu_2164.all (cutG tb_X11_isAsSeen 1 bt_RX11 [] ct_2164 [] [] cu_2164 44 con_2164) = true := by decide +kernel
theorem cto_2164 (l : Launch) : CTOK2 l RX11 vwCl gTbl ct_2164 := ct2_cons (vl_2082 l) ck_RX11_473_2082 (ct2_cons (vl_2079 l) ck_RX11_473_2079 (ct2_cons (vl_2074 l) ck_RX11_473_2074 (ct2_cons (vl_2071 l) ck_RX11_473_2071 (ct2_cons (vl_2068 l) ck_RX11_473_2068 (ct2_cons (vl_2083 l) ck_RX11_473_2083 (ct2_cons (vl_2080 l) ck_RX11_473_2080 (ct2_cons (vl_2075 l) ck_RX11_473_2075 (ct2_cons (vl_2072 l) ck_RX11_473_2072 (ct2_cons (vl_2069 l) ck_RX11_473_2069 (ct2_cons (vl_2084 l) ck_RX11_473_2084 (ct2_cons (vl_2081 l) ck_RX11_473_2081 (ct2_cons (vl_2076 l) ck_RX11_473_2076 (ct2_cons (vl_2073 l) ck_RX11_473_2073 (ct2_cons (vl_2070 l) ck_RX11_473_2070 (ct2_nil)))))))))))))))
theorem vl_2164 (l : Launch) : Vld2 l vwCl gTbl con_2164 := conR_ok3 gT_all (hd_2164) rfl pn_RX11 tk_X11_isAsSeen bo_RX11 xo_RX11 (cto_2164 l) ch_2164 (cut_all cc_2164)
/-- RookHusting guessAll -/
noncomputable def gi_1694 : GI := jl_n [gp_620, gp_577]
noncomputable def gi_1695 : GI := jl_n [gp_620, gp_577, gp_622]
noncomputable def con_2165 : Con2 := ((yX11_guessAll, cX11_guessAll, 4, none), (6, 151), ([(6, 0, 0), (0, 0, 0), (1, 2, 0)], gi_1694, hc_210, rq_6), [((9, 0, 0), gi_1695, hq_905, [], tg_1)])
theorem hd_2165 : con_2165.1 = (yX11_guessAll, cX11_guessAll, 4, none) := rfl
theorem ck_RX11_483_2164 : COK2 RX11 vwCl gTbl 483 0 con_2164 := ⟨wd_1230, wd_125, mh_X11_isAsSeen, .inr (.inr ⟨rfl, wd_1227, wd_1229, wd_43, ⟨_, rfl, pd_X11_isAsSeen⟩, 11, _, TX11, 16, rfl, rfl⟩)⟩
noncomputable def ct_2165 : CTB2 := [(1, 208, 0, con_929, [0, 1, 2, 3, 4, 5, 6, 7, 8, 9, 10, 11, 12, 13, 14, 15, 16, 17, 18, 19, 20, 21, 22, 23, 24, 25, 26]), (36, 332, 0, con_1456, [28, 2, 29, 4, 30, 5, 31, 6]), (45, 480, 0, con_869, [28, 29]), (73, 372, 0, con_928, [32, 3, 28, 16, 33, 18, 34, 30, 35, 29, 36, 22, 23, 37, 38, 39, 31]), (78, 483, 0, con_2164, [0, 40, 41, 42, 32, 33]), (105, 486, 0, con_1766, [27, 33, 43]), (105, 486, 0, con_1771, [27, 33, 43])]
noncomputable def gi_1696 : GI := jl_n [gp_620, gp_577, gp_623]
noncomputable def cu_2165 : List CUT2 := [((14, [lq 0 6 0, lq 1 0 0, lq 2 1 2, lq 3 1 204], [], gi_1696, hq_906), rq_6, ([(204, (-1))], 5))]
theorem ch_2165 : staG tb_X11_guessAll 1 bt_RX11 [] ct_2165 [] [] cu_2165 48 con_2165 = true := by decide +kernel
theorem cc_2165 : cu_2165.all (cutG tb_X11_guessAll 1 bt_RX11 [] ct_2165 [] [] cu_2165 48 con_2165) = true := by decide +kernel
theorem cto_2165 (l : Launch) : CTOK2 l RX11 vwCl gTbl ct_2165 := ct2_cons (vl_929 l) ck_RX11_208_929 (ct2_cons (vl_1456 l) ck_RX11_332_1456 (ct2_cons (vl_869 l) ck_RX11_480_869 (ct2_cons (vl_928 l) ck_RX11_372_928 (ct2_cons (vl_2164 l) ck_RX11_483_2164 (ct2_cons (vl_1766 l) ck_RX11_486_1766 (ct2_cons (vl_1771 l) ck_RX11_486_1771 (ct2_nil)))))))
theorem vl_2165 (l : Launch) : Vld2 l vwCl gTbl con_2165 := conR_ok3 gT_all (hd_2165) rfl pn_RX11 tk_X11_guessAll bo_RX11 xo_RX11 (cto_2165 l) ch_2165 (cut_all cc_2165)
/-- RookHusting isAsSeen -/
noncomputable def gi_1697 : GI := jl_n [gp_706, jl_z 9]
noncomputable def gi_1698 : GI := jl_n [gp_706, jl_z 10]
noncomputable def con_2166 : Con2 := ((yX11_isAsSeen, cX11_isAsSeen, 4, (some .boolean)), (1, 22), ([(6, 0, 0), (0, 0, 0)], gi_1697, hc_209, []), [((0, 0, 0), gi_1698, hq_904, [], [1]), ((0, 1, 0), gi_1698, hq_904, [], [1])])
theorem hd_2166 : con_2166.1 = (yX11_isAsSeen, cX11_isAsSeen, 4, (some .boolean)) := rfl
noncomputable def ct_2166 : CTB2 := [(21, 473, 0, con_2079, [1, 3]), (21, 473, 0, con_2074, [1, 3]), (21, 473, 0, con_2071, [1, 3]), (21, 473, 0, con_2068, [1, 3]), (36, 473, 0, con_2080, [1, 3]), (36, 473, 0, con_2075, [1, 3]), (36, 473, 0, con_2072, [1, 3]), (36, 473, 0, con_2069, [1, 3]), (60, 473, 0, con_2081, [1, 3]), (60, 473, 0, con_2076, [1, 3]), (60, 473, 0, con_2073, [1, 3]), (60, 473, 0, con_2070, [1, 3])]
noncomputable def gi_1699 : GI := jl_n [gp_706, jl_z 12]
noncomputable def gi_1700 : GI := jl_n [gp_706, gp_618]
noncomputable def cu_2166 : List CUT2 := [((2, [lq 0 6 0, lq 1 0 0, lq 2 0 0], [], gi_1699, hq_904), [], ([], 12)), ((2, [lq 0 6 0, lq 1 0 0, lq 2 0 3, lq 3 1 97], [], gi_1700, hq_904), [], ([], 9)), ((2, [lq 0 6 0, lq 1 0 0, lq 2 0 6, lq 3 1 97], [], gi_1700, hq_904), [], ([], 6)), ((2, [lq 0 6 0, lq 1 0 0, lq 2 0 9, lq 3 1 97], [], gi_1700, hq_904), [], ([], 3)), ((2, [lq 0 6 0, lq 1 0 0, lq 2 0 12, lq 3 1 97], [], gi_1700, hq_904), [], ([], 0))]
theorem ch_2166 : staG tb_X11_isAsSeen 1 bt_RX11 [] ct_2166 [] [] cu_2166 44 con_2166 = true := by decide +kernel
theorem cc_2166 : cu_2166.all (cutG tb_X11_isAsSeen 1 bt_RX11 [] ct_2166 [] [] cu_2166 44 con_2166) = true := by decide +kernel
theorem cto_2166 (l : Launch) : CTOK2 l RX11 vwCl gTbl ct_2166 := ct2_cons (vl_2079 l) ck_RX11_473_2079 (ct2_cons (vl_2074 l) ck_RX11_473_2074 (ct2_cons (vl_2071 l) ck_RX11_473_2071 (ct2_cons (vl_2068 l) ck_RX11_473_2068 (ct2_cons (vl_2080 l) ck_RX11_473_2080 (ct2_cons (vl_2075 l) ck_RX11_473_2075 (ct2_cons (vl_2072 l) ck_RX11_473_2072 (ct2_cons (vl_2069 l) ck_RX11_473_2069 (ct2_cons (vl_2081 l) ck_RX11_473_2081 (ct2_cons (vl_2076 l) ck_RX11_473_2076 (ct2_cons (vl_2073 l) ck_RX11_473_2073 (ct2_cons (vl_2070 l) ck_RX11_473_2070 (ct2_nil))))))))))))
theorem vl_2166 (l : Launch) : Vld2 l vwCl gTbl con_2166 := conR_ok3 gT_all (hd_2166) rfl pn_RX11 tk_X11_isAsSeen bo_RX11 xo_RX11 (cto_2166 l) ch_2166 (cut_all cc_2166)
/-- RookHusting guessAll -/
noncomputable def gi_1701 : GI := jl_n [gp_620, gp_575]
noncomputable def gi_1702 : GI := jl_n [gp_620, gp_575, gp_622]
noncomputable def con_2167 : Con2 := ((yX11_guessAll, cX11_guessAll, 4, none), (6, 151), ([(6, 0, 0), (0, 0, 0), (1, 2, 0)], gi_1701, hc_210, rq_6), [((9, 0, 0), gi_1702, hq_905, [], tg_1)])
theorem hd_2167 : con_2167.1 = (yX11_guessAll, cX11_guessAll, 4, none) := rfl
theorem ck_RX11_483_2166 : COK2 RX11 vwCl gTbl 483 0 con_2166 := ⟨wd_1230, wd_125, mh_X11_isAsSeen, .inr (.inr ⟨rfl, wd_1227, wd_1229, wd_43, ⟨_, rfl, pd_X11_isAsSeen⟩, 11, _, TX11, 16, rfl, rfl⟩)⟩
noncomputable def ct_2167 : CTB2 := [(1, 208, 0, con_929, [0, 1, 2, 3, 4, 5, 6, 7, 8, 9, 10, 11, 12, 13, 14, 15, 16, 17, 18, 19, 20, 21, 22, 23, 24, 25, 26]), (36, 332, 0, con_1456, [28, 2, 29, 4, 30, 5, 31, 6]), (45, 480, 0, con_869, [28, 29]), (73, 372, 0, con_928, [32, 3, 28, 16, 33, 18, 34, 30, 35, 29, 36, 22, 23, 37, 38, 39, 31]), (78, 483, 0, con_2166, [0, 40, 41, 42, 32, 33]), (105, 486, 0, con_1766, [27, 33, 43]), (105, 486, 0, con_1771, [27, 33, 43])]
noncomputable def gi_1703 : GI := jl_n [gp_620, gp_575, gp_623]
noncomputable def cu_2167 : List CUT2 := [((14, [lq 0 6 0, lq 1 0 0, lq 2 1 2, lq 3 1 204], [], gi_1703, hq_906), rq_6, ([(204, (-1))], 5))]
theorem ch_2167 : staG tb_X11_guessAll 1 bt_RX11 [] ct_2167 [] [] cu_2167 48 con_2167 = true := by decide +kernel
theorem cc_2167 : cu_2167.all (cutG tb_X11_guessAll 1 bt_RX11 [] ct_2167 [] [] cu_2167 48 con_2167) = true := by decide +kernel
theorem cto_2167 (l : Launch) : CTOK2 l RX11 vwCl gTbl ct_2167 := ct2_cons (vl_929 l) ck_RX11_208_929 (ct2_cons (vl_1456 l) ck_RX11_332_1456 (ct2_cons (vl_869 l) ck_RX11_480_869 (ct2_cons (vl_928 l) ck_RX11_372_928 (ct2_cons (vl_2166 l) ck_RX11_483_2166 (ct2_cons (vl_1766 l) ck_RX11_486_1766 (ct2_cons (vl_1771 l) ck_RX11_486_1771 (ct2_nil)))))))
theorem vl_2167 (l : Launch) : Vld2 l vwCl gTbl con_2167 := conR_ok3 gT_all (hd_2167) rfl pn_RX11 tk_X11_guessAll bo_RX11 xo_RX11 (cto_2167 l) ch_2167 (cut_all cc_2167)
/-- RookHusting isAsSeen -/
noncomputable def gi_1704 : GI := jl_n [jl_z 22, gp_572, jl_z 9]
noncomputable def ac_1083 : AC := .inr (1, jl_n [jl_x (1, (0, 0, 0)), js_1 25 3])
noncomputable def hc_211 : List AC := [ac_1053, .inl (8, [(6, 3, 0), (8, 19, 0), (6, 2, 0)]), ac_1083, ac_1081, ac_1056, am_0]
noncomputable def gi_1705 : GI := jl_n [jl_z 22, gp_572, jl_z 10]
noncomputable def hq_907 : HP := [(false, ac_1053), (false, .inl (8, [(6, 3, 0), (8, 19, 0), (6, 2, 0)])), (false, ac_1083), (false, ac_1081), (false, ac_1056), (false, am_0)]
noncomputable def con_2168 : Con2 := ((yX11_isAsSeen, cX11_isAsSeen, 4, (some .boolean)), (0, 0), ([(6, 0, 0), (0, 0, 0)], gi_1704, hc_211, []), [((0, 1, 0), gi_1705, hq_907, [], [1])])
theorem hd_2168 : con_2168.1 = (yX11_isAsSeen, cX11_isAsSeen, 4, (some .boolean)) := rfl
noncomputable def gi_1706 : GI := jl_n [jl_z 22, gp_572, jl_z 12]
noncomputable def cu_2168 : List CUT2 := [((2, [lq 0 6 0, lq 1 0 0, lq 2 0 0], [], gi_1706, hq_907), [], ([], 0))]
theorem ch_2168 : staG tb_X11_isAsSeen 1 bt_RX11 [] ct_3 [] [] cu_2168 11 con_2168 = true := by decide +kernel
theorem cc_2168 : cu_2168.all (cutG tb_X11_isAsSeen 1 bt_RX11 [] ct_3 [] [] cu_2168 11 con_2168) = true := by decide +kernel
theorem vl_2168 (l : Launch) : Vld2 l vwCl gTbl con_2168 := conR_ok3 gT_all (hd_2168) rfl pn_RX11 tk_X11_isAsSeen bo_RX11 xo_RX11 (cto_3 l) ch_2168 (cut_all cc_2168)
/-- RookHusting guessAll -/
noncomputable def gi_1707 : GI := jl_n [gp_368, gp_619, jl_z 4, gp_572]
noncomputable def ac_1084 : AC := .inr (1, jl_n [jl_x (1, (0, 0, 0)), js_1 141 3])
noncomputable def hc_212 : List AC := [ac_1057, .inl (9, [(6, 3, 0), (6, 11, 0)]), .inl (7, [(6, 4, 0), (6, 5, 0), (6, 6, 0), (1, 24, 0)]), ac_1058, am_7, am_1, am_1, am_1, .inl (1, [(6, 3, 0), (8, 43, 0)]), am_4, am_6, .inl (0, [(1, 44, 0), (6, 12, 0), (6, 13, 0), (6, 14, 0)]), ac_642, am_11, ac_643, ac_1059, am_2, am_0, am_10, am_0, am_1, am_0, am_2, am_9, am_0, am_0, am_12, ac_1060, .inl (7, [(6, 29, 0), (6, 30, 0), (6, 31, 0), (1, 124, 0)]), am_7, am_1, am_1, ac_1061, am_0, am_0, am_1, am_0, am_0, am_0, am_12, .inl (8, [(6, 42, 0), (8, 135, 0), (6, 41, 0)]), ac_1084, ac_1082, am_16]
noncomputable def gi_1708 : GI := jl_n [gp_368, gp_619, jl_z 4, gp_572, gp_622]
noncomputable def hq_908 : HP := [(true, ac_1064), (false, .inl (9, [(6, 3, 0), (6, 11, 0)])), (true, .inl (7, [(6, 4, 0), (6, 5, 0), (6, 6, 0), (1, 220, 0)])), (false, ac_1058), (true, am_7), (true, am_1), (true, am_1), (false, am_1), (false, .inl (1, [(6, 3, 0), (8, 43, 0)])), (false, am_4), (false, am_6), (false, .inl (0, [(1, 44, 0), (6, 12, 0), (6, 13, 0), (6, 14, 0)])), (false, ac_642), (false, am_11), (false, ac_643), (true, ac_1065), (false, am_2), (true, am_0), (false, am_10), (true, am_0), (true, am_1), (true, am_0), (false, am_2), (false, am_9), (true, am_0), (true, am_0), (true, am_12), (true, ac_1066), (true, .inl (7, [(6, 29, 0), (6, 30, 0), (6, 31, 0), (1, 237, 0)])), (true, am_7), (true, am_1), (true, am_1), (true, ac_1067), (true, am_0), (true, am_0), (true, am_1), (true, am_0), (true, am_0), (true, am_0), (true, am_12), (false, .inl (8, [(6, 42, 0), (8, 135, 0), (6, 41, 0)])), (false, ac_1084), (false, ac_1082), (true, am_16)]
noncomputable def con_2169 : Con2 := ((yX11_guessAll, cX11_guessAll, 4, none), (6, 151), ([(6, 0, 0), (0, 0, 0), (1, 2, 0)], gi_1707, hc_212, rq_6), [((9, 0, 0), gi_1708, hq_908, [], tg_1)])
theorem hd_2169 : con_2169.1 = (yX11_guessAll, cX11_guessAll, 4, none) := rfl
theorem ck_RX11_483_2168 : COK2 RX11 vwCl gTbl 483 0 con_2168 := ⟨wd_1230, wd_125, mh_X11_isAsSeen, .inr (.inr ⟨rfl, wd_1227, wd_1229, wd_43, ⟨_, rfl, pd_X11_isAsSeen⟩, 11, _, TX11, 16, rfl, rfl⟩)⟩
noncomputable def ct_2169 : CTB2 := [(1, 208, 0, con_929, [0, 1, 2, 3, 4, 5, 6, 7, 8, 9, 10, 11, 12, 13, 14, 15, 16, 17, 18, 19, 20, 21, 22, 23, 24, 25, 26]), (36, 332, 0, con_1456, [28, 2, 29, 4, 30, 5, 31, 6]), (45, 480, 0, con_869, [28, 29]), (73, 372, 0, con_928, [32, 3, 28, 16, 33, 18, 34, 30, 35, 29, 36, 22, 23, 37, 38, 39, 31]), (78, 483, 0, con_2168, [0, 40, 41, 42, 32, 33]), (105, 486, 0, con_1766, [27, 33, 43]), (105, 486, 0, con_1771, [27, 33, 43])]
noncomputable def gi_1709 : GI := jl_n [gp_368, gp_619, jl_z 4, gp_572, gp_623]
noncomputable def hq_909 : HP := [(true, ac_1064), (false, .inl (9, [(6, 3, 0), (6, 11, 0)])), (true, .inl (7, [(6, 4, 0), (6, 5, 0), (6, 6, 0), (1, 224, 0)])), (false, ac_1058), (true, am_7), (true, am_1), (true, am_1), (false, am_1), (false, .inl (1, [(6, 3, 0), (8, 43, 0)])), (false, am_4), (false, am_6), (false, .inl (0, [(1, 44, 0), (6, 12, 0), (6, 13, 0), (6, 14, 0)])), (false, ac_642), (false, am_11), (false, ac_643), (true, ac_1068), (false, am_2), (true, am_0), (false, am_10), (true, am_0), (true, am_1), (true, am_0), (false, am_2), (false, am_9), (true, am_0), (true, am_0), (true, am_12), (true, ac_1069), (true, .inl (7, [(6, 29, 0), (6, 30, 0), (6, 31, 0), (1, 241, 0)])), (true, am_7), (true, am_1), (true, am_1), (true, ac_1070), (true, am_0), (true, am_0), (true, am_1), (true, am_0), (true, am_0), (true, am_0), (true, am_12), (false, .inl (8, [(6, 42, 0), (8, 135, 0), (6, 41, 0)])), (false, ac_1084), (false, ac_1082), (true, am_16)]
noncomputable def cu_2169 : List CUT2 := [((14, [lq 0 6 0, lq 1 0 0, lq 2 1 2, lq 3 1 204], [], gi_1709, hq_909), rq_6, ([(204, (-1))], 5))]
theorem ch_2169 : staG tb_X11_guessAll 1 bt_RX11 [] ct_2169 [] [] cu_2169 48 con_2169 = true := by decide +kernel
theorem cc_2169 : cu_2169.all (cutG tb_X11_guessAll 1 bt_RX11 [] ct_2169 [] [] cu_2169 48 con_2169) = true := by decide +kernel
theorem cto_2169 (l : Launch) : CTOK2 l RX11 vwCl gTbl ct_2169 := ct2_cons (vl_929 l) ck_RX11_208_929 (ct2_cons (vl_1456 l) ck_RX11_332_1456 (ct2_cons (vl_869 l) ck_RX11_480_869 (ct2_cons (vl_928 l) ck_RX11_372_928 (ct2_cons (vl_2168 l) ck_RX11_483_2168 (ct2_cons (vl_1766 l) ck_RX11_486_1766 (ct2_cons (vl_1771 l) ck_RX11_486_1771 (ct2_nil)))))))
theorem vl_2169 (l : Launch) : Vld2 l vwCl gTbl con_2169 := conR_ok3 gT_all (hd_2169) rfl pn_RX11 tk_X11_guessAll bo_RX11 xo_RX11 (cto_2169 l) ch_2169 (cut_all cc_2169)
