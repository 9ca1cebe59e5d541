/-! ===== contracts, 37 ===== -/
/-- RookHusting isAsSeen -/
noncomputable def gi_1500 : GI := jl_n [gp_679, jl_z 9]
noncomputable def gi_1501 : GI := jl_n [gp_679, jl_z 10]
noncomputable def con_2050 : Con2 := ((yX11_isAsSeen, cX11_isAsSeen, 4, (some .boolean)), (1, 22), ([(6, 0, 0), (0, 1, 0)], gi_1500, hc_205, []), [((0, 0, 0), gi_1501, hq_898, [], [1]), ((0, 1, 0), gi_1501, hq_898, [], [1])])
theorem hd_2050 : con_2050.1 = (yX11_isAsSeen, cX11_isAsSeen, 4, (some .boolean)) := rfl
noncomputable def ct_2050 : CTB2 := [(21, 473, 0, con_1995, [1, 3]), (21, 473, 0, con_1992, [1, 3]), (21, 473, 0, con_1989, [1, 3]), (21, 473, 0, con_1986, [1, 3]), (21, 473, 0, con_1983, [1, 3]), (21, 473, 0, con_1980, [1, 3]), (21, 473, 0, con_1977, [1, 3]), (21, 473, 0, con_1972, [1, 3]), (21, 473, 0, con_1969, [1, 3]), (21, 473, 0, con_1966, [1, 3]), (36, 473, 0, con_1996, [1, 3]), (36, 473, 0, con_1993, [1, 3]), (36, 473, 0, con_1990, [1, 3]), (36, 473, 0, con_1987, [1, 3]), (36, 473, 0, con_1984, [1, 3]), (36, 473, 0, con_1981, [1, 3]), (36, 473, 0, con_1978, [1, 3]), (36, 473, 0, con_1973, [1, 3]), (36, 473, 0, con_1970, [1, 3]), (36, 473, 0, con_1967, [1, 3]), (60, 473, 0, con_1997, [1, 3]), (60, 473, 0, con_1994, [1, 3]), (60, 473, 0, con_1991, [1, 3]), (60, 473, 0, con_1988, [1, 3]), (60, 473, 0, con_1985, [1, 3]), (60, 473, 0, con_1982, [1, 3]), (60, 473, 0, con_1979, [1, 3]), (60, 473, 0, con_1974, [1, 3]), (60, 473, 0, con_1971, [1, 3]), (60, 473, 0, con_1968, [1, 3])]
noncomputable def gi_1502 : GI := jl_n [gp_679, jl_z 12]
noncomputable def gi_1503 : GI := jl_n [gp_679, gp_618]
noncomputable def cu_2050 : List CUT2 := [((2, [lq 0 6 0, lq 1 0 1, lq 2 0 0], [], gi_1502, hq_898), [], ([], 30)), ((2, [lq 0 6 0, lq 1 0 1, lq 2 0 3, lq 3 1 97], [], gi_1503, hq_898), [], ([], 27)), ((2, [lq 0 6 0, lq 1 0 1, lq 2 0 6, lq 3 1 97], [], gi_1503, hq_898), [], ([], 24)), ((2, [lq 0 6 0, lq 1 0 1, lq 2 0 9, lq 3 1 97], [], gi_1503, hq_898), [], ([], 21)), ((2, [lq 0 6 0, lq 1 0 1, lq 2 0 12, lq 3 1 97], [], gi_1503, hq_898), [], ([], 18)), ((2, [lq 0 6 0, lq 1 0 1, lq 2 0 15, lq 3 1 97], [], gi_1503, hq_898), [], ([], 15)), ((2, [lq 0 6 0, lq 1 0 1, lq 2 0 18, lq 3 1 97], [], gi_1503, hq_898), [], ([], 12)), ((2, [lq 0 6 0, lq 1 0 1, lq 2 0 21, lq 3 1 97], [], gi_1503, hq_898), [], ([], 9)), ((2, [lq 0 6 0, lq 1 0 1, lq 2 0 24, lq 3 1 97], [], gi_1503, hq_898), [], ([], 6)), ((2, [lq 0 6 0, lq 1 0 1, lq 2 0 27, lq 3 1 97], [], gi_1503, hq_898), [], ([], 3)), ((2, [lq 0 6 0, lq 1 0 1, lq 2 0 30, lq 3 1 97], [], gi_1503, hq_898), [], ([], 0))]
theorem ch_2050 : staG tb_X11_isAsSeen 1 bt_RX11 [] ct_2050 [] [] cu_2050 44 con_2050 = true := by decide +kernel
theorem cc_2050 : cu_2050.all (cutG tb_X11_isAsSeen 1 bt_RX11 [] ct_2050 [] [] cu_2050 44 con_2050) = true := by decide +kernel
theorem cto_2050 (l : Launch) : CTOK2 l RX11 vwCl gTbl ct_2050 := ct2_cons (vl_1995 l) ck_RX11_473_1995 (ct2_cons (vl_1992 l) ck_RX11_473_1992 (ct2_cons (vl_1989 l) ck_RX11_473_1989 (ct2_cons (vl_1986 l) ck_RX11_473_1986 (ct2_cons (vl_1983 l) ck_RX11_473_1983 (ct2_cons (vl_1980 l) ck_RX11_473_1980 (ct2_cons (vl_1977 l) ck_RX11_473_1977 (ct2_cons (vl_1972 l) ck_RX11_473_1972 (ct2_cons (vl_1969 l) ck_RX11_473_1969 (ct2_cons (vl_1966 l) ck_RX11_473_1966 (ct2_cons (vl_1996 l) ck_RX11_473_1996 (ct2_cons (vl_1993 l) ck_RX11_473_1993 (ct2_cons (vl_1990 l) ck_RX11_473_1990 (ct2_cons (vl_1987 l) ck_RX11_473_1987 (ct2_cons (vl_1984 l) ck_RX11_473_1984 (ct2_cons (vl_1981 l) ck_RX11_473_1981 (ct2_cons (vl_1978 l) ck_RX11_473_1978 (ct2_cons (vl_1973 l) ck_RX11_473_1973 (ct2_cons (vl_1970 l) ck_RX11_473_1970 (ct2_cons (vl_1967 l) ck_RX11_473_1967 (ct2_cons (vl_1997 l) ck_RX11_473_1997 (ct2_cons (vl_1994 l) ck_RX11_473_1994 (ct2_cons (vl_1991 l) ck_RX11_473_1991 (ct2_cons (vl_1988 l) ck_RX11_473_1988 (ct2_cons (vl_1985 l) ck_RX11_473_1985 (ct2_cons (vl_1982 l) ck_RX11_473_1982 (ct2_cons (vl_1979 l) ck_RX11_473_1979 (ct2_cons (vl_1974 l) ck_RX11_473_1974 (ct2_cons (vl_1971 l) ck_RX11_473_1971 (ct2_cons (vl_1968 l) ck_RX11_473_1968 (ct2_nil))))))))))))))))))))))))))))))
theorem vl_2050 (l : Launch) : Vld2 l vwCl gTbl con_2050 := conR_ok3 gT_all (hd_2050) rfl pn_RX11 tk_X11_isAsSeen bo_RX11 xo_RX11 (cto_2050 l) ch_2050 (cut_all cc_2050)
/-- RookHusting guessAll -/
noncomputable def gi_1504 : GI := jl_n [gp_667, gp_548]
noncomputable def gi_1505 : GI := jl_n [gp_667, gp_548, gp_622]
noncomputable def con_2051 : Con2 := ((yX11_guessAll, cX11_guessAll, 4, none), (6, 151), ([(6, 0, 0), (0, 1, 0), (1, 2, 0)], gi_1504, hc_206, rq_6), [((9, 0, 0), gi_1505, hq_899, [], tg_1)])
theorem hd_2051 : con_2051.1 = (yX11_guessAll, cX11_guessAll, 4, none) := rfl
theorem ck_RX11_483_2050 : COK2 RX11 vwCl gTbl 483 0 con_2050 := ⟨wd_1230, wd_125, mh_X11_isAsSeen, .inr (.inr ⟨rfl, wd_1227, wd_1229, wd_43, ⟨_, rfl, pd_X11_isAsSeen⟩, 11, _, TX11, 16, rfl, rfl⟩)⟩
noncomputable def ct_2051 : CTB2 := [(1, 208, 0, con_929, [0, 1, 2, 3, 4, 5, 6, 7, 8, 9, 10, 11, 12, 13, 14, 15, 16, 17, 18, 19, 20, 21, 22, 23, 24, 25, 26]), (36, 332, 0, con_1456, [28, 2, 29, 4, 30, 5, 31, 6]), (45, 480, 0, con_869, [28, 29]), (73, 372, 0, con_928, [32, 3, 28, 16, 33, 18, 34, 30, 35, 29, 36, 22, 23, 37, 38, 39, 31]), (78, 483, 0, con_2050, [0, 40, 41, 42, 32, 33]), (105, 486, 0, con_1766, [27, 33, 43]), (105, 486, 0, con_1771, [27, 33, 43])]
noncomputable def gi_1506 : GI := jl_n [gp_667, gp_548, gp_623]
noncomputable def cu_2051 : List CUT2 := [((14, [lq 0 6 0, lq 1 0 1, lq 2 1 2, lq 3 1 204], [], gi_1506, hq_900), rq_6, ([(204, (-1))], 5))]
theorem ch_2051 : staG tb_X11_guessAll 1 bt_RX11 [] ct_2051 [] [] cu_2051 48 con_2051 = true := by decide +kernel
theorem cc_2051 : cu_2051.all (cutG tb_X11_guessAll 1 bt_RX11 [] ct_2051 [] [] cu_2051 48 con_2051) = true := by decide +kernel
theorem cto_2051 (l : Launch) : CTOK2 l RX11 vwCl gTbl ct_2051 := ct2_cons (vl_929 l) ck_RX11_208_929 (ct2_cons (vl_1456 l) ck_RX11_332_1456 (ct2_cons (vl_869 l) ck_RX11_480_869 (ct2_cons (vl_928 l) ck_RX11_372_928 (ct2_cons (vl_2050 l) ck_RX11_483_2050 (ct2_cons (vl_1766 l) ck_RX11_486_1766 (ct2_cons (vl_1771 l) ck_RX11_486_1771 (ct2_nil)))))))
theorem vl_2051 (l : Launch) : Vld2 l vwCl gTbl con_2051 := conR_ok3 gT_all (hd_2051) rfl pn_RX11 tk_X11_guessAll bo_RX11 xo_RX11 (cto_2051 l) ch_2051 (cut_all cc_2051)
/-- RookHusting isAsSeen -/
noncomputable def gi_1507 : GI := jl_n [gp_680, jl_z 9]
noncomputable def gi_1508 : GI := jl_n [gp_680, jl_z 10]
noncomputable def con_2052 : Con2 := ((yX11_isAsSeen, cX11_isAsSeen, 4, (some .boolean)), (1, 22), ([(6, 0, 0), (0, 1, 0)], gi_1507, hc_205, []), [((0, 0, 0), gi_1508, hq_898, [], [1]), ((0, 1, 0), gi_1508, hq_898, [], [1])])
theorem hd_2052 : con_2052.1 = (yX11_isAsSeen, cX11_isAsSeen, 4, (some .boolean)) := rfl
noncomputable def ct_2052 : CTB2 := [(21, 473, 0, con_1966, [1, 3]), (36, 473, 0, con_1967, [1, 3]), (60, 473, 0, con_1968, [1, 3])]
noncomputable def gi_1509 : GI := jl_n [gp_680, jl_z 12]
noncomputable def gi_1510 : GI := jl_n [gp_680, gp_618]
noncomputable def cu_2052 : List CUT2 := [((2, [lq 0 6 0, lq 1 0 1, lq 2 0 0], [], gi_1509, hq_898), [], ([], 3)), ((2, [lq 0 6 0, lq 1 0 1, lq 2 0 3, lq 3 1 97], [], gi_1510, hq_898), [], ([], 0))]
theorem ch_2052 : staG tb_X11_isAsSeen 1 bt_RX11 [] ct_2052 [] [] cu_2052 44 con_2052 = true := by decide +kernel
theorem cc_2052 : cu_2052.all (cutG tb_X11_isAsSeen 1 bt_RX11 [] ct_2052 [] [] cu_2052 44 con_2052) = true := by decide +kernel
theorem cto_2052 (l : Launch) : CTOK2 l RX11 vwCl gTbl ct_2052 := ct2_cons (vl_1966 l) ck_RX11_473_1966 (ct2_cons (vl_1967 l) ck_RX11_473_1967 (ct2_cons (vl_1968 l) ck_RX11_473_1968 (ct2_nil)))
theorem vl_2052 (l : Launch) : Vld2 l vwCl gTbl con_2052 := conR_ok3 gT_all (hd_2052) rfl pn_RX11 tk_X11_isAsSeen bo_RX11 xo_RX11 (cto_2052 l) ch_2052 (cut_all cc_2052)
/-- RookHusting guessAll -/
noncomputable def gi_1511 : GI := jl_n [gp_667, gp_546]
noncomputable def gi_1512 : GI := jl_n [gp_667, gp_546, gp_622]
noncomputable def con_2053 : Con2 := ((yX11_guessAll, cX11_guessAll, 4, none), (6, 151), ([(6, 0, 0), (0, 1, 0), (1, 2, 0)], gi_1511, hc_206, rq_6), [((9, 0, 0), gi_1512, hq_899, [], tg_1)])
theorem hd_2053 : con_2053.1 = (yX11_guessAll, cX11_guessAll, 4, none) := rfl
theorem ck_RX11_483_2052 : COK2 RX11 vwCl gTbl 483 0 con_2052 := ⟨wd_1230, wd_125, mh_X11_isAsSeen, .inr (.inr ⟨rfl, wd_1227, wd_1229, wd_43, ⟨_, rfl, pd_X11_isAsSeen⟩, 11, _, TX11, 16, rfl, rfl⟩)⟩
noncomputable def ct_2053 : CTB2 := [(1, 208, 0, con_929, [0, 1, 2, 3, 4, 5, 6, 7, 8, 9, 10, 11, 12, 13, 14, 15, 16, 17, 18, 19, 20, 21, 22, 23, 24, 25, 26]), (36, 332, 0, con_1456, [28, 2, 29, 4, 30, 5, 31, 6]), (45, 480, 0, con_869, [28, 29]), (73, 372, 0, con_928, [32, 3, 28, 16, 33, 18, 34, 30, 35, 29, 36, 22, 23, 37, 38, 39, 31]), (78, 483, 0, con_2052, [0, 40, 41, 42, 32, 33]), (105, 486, 0, con_1766, [27, 33, 43]), (105, 486, 0, con_1771, [27, 33, 43])]
noncomputable def gi_1513 : GI := jl_n [gp_667, gp_546, gp_623]
noncomputable def cu_2053 : List CUT2 := [((14, [lq 0 6 0, lq 1 0 1, lq 2 1 2, lq 3 1 204], [], gi_1513, hq_900), rq_6, ([(204, (-1))], 5))]
theorem ch_2053 : staG tb_X11_guessAll 1 bt_RX11 [] ct_2053 [] [] cu_2053 48 con_2053 = true := by decide +kernel
theorem cc_2053 : cu_2053.all (cutG tb_X11_guessAll 1 bt_RX11 [] ct_2053 [] [] cu_2053 48 con_2053) = true := by decide +kernel
theorem cto_2053 (l : Launch) : CTOK2 l RX11 vwCl gTbl ct_2053 := ct2_cons (vl_929 l) ck_RX11_208_929 (ct2_cons (vl_1456 l) ck_RX11_332_1456 (ct2_cons (vl_869 l) ck_RX11_480_869 (ct2_cons (vl_928 l) ck_RX11_372_928 (ct2_cons (vl_2052 l) ck_RX11_483_2052 (ct2_cons (vl_1766 l) ck_RX11_486_1766 (ct2_cons (vl_1771 l) ck_RX11_486_1771 (ct2_nil)))))))
theorem vl_2053 (l : Launch) : Vld2 l vwCl gTbl con_2053 := conR_ok3 gT_all (hd_2053) rfl pn_RX11 tk_X11_guessAll bo_RX11 xo_RX11 (cto_2053 l) ch_2053 (cut_all cc_2053)
/-- RookHusting isAsSeen -/
noncomputable def gi_1514 : GI := jl_n [gp_681, jl_z 9]
noncomputable def gi_1515 : GI := jl_n [gp_681, jl_z 10]
noncomputable def con_2054 : Con2 := ((yX11_isAsSeen, cX11_isAsSeen, 4, (some .boolean)), (1, 22), ([(6, 0, 0), (0, 1, 0)], gi_1514, hc_205, []), [((0, 0, 0), gi_1515, hq_898, [], [1]), ((0, 1, 0), gi_1515, hq_898, [], [1])])
theorem hd_2054 : con_2054.1 = (yX11_isAsSeen, cX11_isAsSeen, 4, (some .boolean)) := rfl
noncomputable def ct_2054 : CTB2 := [(21, 473, 0, con_1992, [1, 3]), (21, 473, 0, con_1989, [1, 3]), (21, 473, 0, con_1986, [1, 3]), (21, 473, 0, con_1983, [1, 3]), (21, 473, 0, con_1980, [1, 3]), (21, 473, 0, con_1977, [1, 3]), (21, 473, 0, con_1972, [1, 3]), (21, 473, 0, con_1969, [1, 3]), (21, 473, 0, con_1966, [1, 3]), (36, 473, 0, con_1993, [1, 3]), (36, 473, 0, con_1990, [1, 3]), (36, 473, 0, con_1987, [1, 3]), (36, 473, 0, con_1984, [1, 3]), (36, 473, 0, con_1981, [1, 3]), (36, 473, 0, con_1978, [1, 3]), (36, 473, 0, con_1973, [1, 3]), (36, 473, 0, con_1970, [1, 3]), (36, 473, 0, con_1967, [1, 3]), (60, 473, 0, con_1994, [1, 3]), (60, 473, 0, con_1991, [1, 3]), (60, 473, 0, con_1988, [1, 3]), (60, 473, 0, con_1985, [1, 3]), (60, 473, 0, con_1982, [1, 3]), (60, 473, 0, con_1979, [1, 3]), (60, 473, 0, con_1974, [1, 3]), (60, 473, 0, con_1971, [1, 3]), (60, 473, 0, con_1968, [1, 3])]
noncomputable def gi_1516 : GI := jl_n [gp_681, jl_z 12]
noncomputable def gi_1517 : GI := jl_n [gp_681, gp_618]
noncomputable def cu_2054 : List CUT2 := [((2, [lq 0 6 0, lq 1 0 1, lq 2 0 0], [], gi_1516, hq_898), [], ([], 27)), ((2, [lq 0 6 0, lq 1 0 1, lq 2 0 3, lq 3 1 97], [], gi_1517, hq_898), [], ([], 24)), ((2, [lq 0 6 0, lq 1 0 1, lq 2 0 6, lq 3 1 97], [], gi_1517, hq_898), [], ([], 21)), ((2, [lq 0 6 0, lq 1 0 1, lq 2 0 9, lq 3 1 97], [], gi_1517, hq_898), [], ([], 18)), ((2, [lq 0 6 0, lq 1 0 1, lq 2 0 12, lq 3 1 97], [], gi_1517, hq_898), [], ([], 15)), ((2, [lq 0 6 0, lq 1 0 1, lq 2 0 15, lq 3 1 97], [], gi_1517, hq_898), [], ([], 12)), ((2, [lq 0 6 0, lq 1 0 1, lq 2 0 18, lq 3 1 97], [], gi_1517, hq_898), [], ([], 9)), ((2, [lq 0 6 0, lq 1 0 1, lq 2 0 21, lq 3 1 97], [], gi_1517, hq_898), [], ([], 6)), ((2, [lq 0 6 0, lq 1 0 1, lq 2 0 24, lq 3 1 97], [], gi_1517, hq_898), [], ([], 3)), ((2, [lq 0 6 0, lq 1 0 1, lq 2 0 27, lq 3 1 97], [], gi_1517, hq_898), [], ([], 0))]
theorem ch_2054 : staG tb_X11_isAsSeen 1 bt_RX11 [] ct_2054 [] [] cu_2054 44 con_2054 = true := by decide +kernel
theorem cc_2054 : cu_2054.all (cutG tb_X11_isAsSeen 1 bt_RX11 [] ct_2054 [] [] cu_2054 44 con_2054) = true := by decide +kernel
theorem cto_2054 (l : Launch) : CTOK2 l RX11 vwCl gTbl ct_2054 := ct2_cons (vl_1992 l) ck_RX11_473_1992 (ct2_cons (vl_1989 l) ck_RX11_473_1989 (ct2_cons (vl_1986 l) ck_RX11_473_1986 (ct2_cons (vl_1983 l) ck_RX11_473_1983 (ct2_cons (vl_1980 l) ck_RX11_473_1980 (ct2_cons (vl_1977 l) ck_RX11_473_1977 (ct2_cons (vl_1972 l) ck_RX11_473_1972 (ct2_cons (vl_1969 l) ck_RX11_473_1969 (ct2_cons (vl_1966 l) ck_RX11_473_1966 (ct2_cons (vl_1993 l) ck_RX11_473_1993 (ct2_cons (vl_1990 l) ck_RX11_473_1990 (ct2_cons (vl_1987 l) ck_RX11_473_1987 (ct2_cons (vl_1984 l) ck_RX11_473_1984 (ct2_cons (vl_1981 l) ck_RX11_473_1981 (ct2_cons (vl_1978 l) ck_RX11_473_1978 (ct2_cons (vl_1973 l) ck_RX11_473_1973 (ct2_cons (vl_1970 l) ck_RX11_473_1970 (ct2_cons (vl_1967 l) ck_RX11_473_1967 (ct2_cons (vl_1994 l) ck_RX11_473_1994 (ct2_cons (vl_1991 l) ck_RX11_473_1991 (ct2_cons (vl_1988 l) ck_RX11_473_1988 (ct2_cons (vl_1985 l) ck_RX11_473_1985 (ct2_cons (vl_1982 l) ck_RX11_473_1982 (ct2_cons (vl_1979 l) ck_RX11_473_1979 (ct2_cons (vl_1974 l) ck_RX11_473_1974 (ct2_cons (vl_1971 l) ck_RX11_473_1971 (ct2_cons (vl_1968 l) ck_RX11_473_1968 (ct2_nil)))))))))))))))))))))))))))
theorem vl_2054 (l : Launch) : Vld2 l vwCl gTbl con_2054 := conR_ok3 gT_all (hd_2054) rfl pn_RX11 tk_X11_isAsSeen bo_RX11 xo_RX11 (cto_2054 l) ch_2054 (cut_all cc_2054)
/-- RookHusting guessAll -/
noncomputable def gi_1518 : GI := jl_n [gp_667, gp_544]
noncomputable def gi_1519 : GI := jl_n [gp_667, gp_544, gp_622]
noncomputable def con_2055 : Con2 := ((yX11_guessAll, cX11_guessAll, 4, none), (6, 151), ([(6, 0, 0), (0, 1, 0), (1, 2, 0)], gi_1518, hc_206, rq_6), [((9, 0, 0), gi_1519, hq_899, [], tg_1)])
theorem hd_2055 : con_2055.1 = (yX11_guessAll, cX11_guessAll, 4, none) := rfl
theorem ck_RX11_483_2054 : COK2 RX11 vwCl gTbl 483 0 con_2054 := ⟨wd_1230, wd_125, mh_X11_isAsSeen, .inr (.inr ⟨rfl, wd_1227, wd_1229, wd_43, ⟨_, rfl, pd_X11_isAsSeen⟩, 11, _, TX11, 16, rfl, rfl⟩)⟩
noncomputable def ct_2055 : CTB2 := [(1, 208, 0, con_929, [0, 1, 2, 3, 4, 5, 6, 7, 8, 9, 10, 11, 12, 13, 14, 15, 16, 17, 18, 19, 20, 21, 22, 23, 24, 25, 26]), (36, 332, 0, con_1456, [28, 2, 29, 4, 30, 5, 31, 6]), (45, 480, 0, con_869, [28, 29]), (73, 372, 0, con_928, [32, 3, 28, 16, 33, 18, 34, 30, 35, 29, 36, 22, 23, 37, 38, 39, 31]), (78, 483, 0, con_2054, [0, 40, 41, 42, 32, 33]), (105, 486, 0, con_1766, [27, 33, 43]), (105, 486, 0, con_1771, [27, 33, 43])]
noncomputable def gi_1520 : GI := jl_n [gp_667, gp_544, gp_623]
noncomputable def cu_2055 : List CUT2 := [((14, [lq 0 6 0, lq 1 0 1, lq 2 1 2, lq 3 1 204], [], gi_1520, hq_900), rq_6, ([(204, (-1))], 5))]
theorem ch_2055 : staG tb_X11_guessAll 1 bt_RX11 [] ct_2055 [] [] cu_2055 48 con_2055 = true := by decide +kernel
theorem cc_2055 : cu_2055.all (cutG tb_X11_guessAll 1 bt_RX11 [] ct_2055 [] [] cu_2055 48 con_2055) = true := by decide +kernel
theorem cto_2055 (l : Launch) : CTOK2 l RX11 vwCl gTbl ct_2055 := ct2_cons (vl_929 l) ck_RX11_208_929 (ct2_cons (vl_1456 l) ck_RX11_332_1456 (ct2_cons (vl_869 l) ck_RX11_480_869 (ct2_cons (vl_928 l) ck_RX11_372_928 (ct2_cons (vl_2054 l) ck_RX11_483_2054 (ct2_cons (vl_1766 l) ck_RX11_486_1766 (ct2_cons (vl_1771 l) ck_RX11_486_1771 (ct2_nil)))))))
theorem vl_2055 (l : Launch) : Vld2 l vwCl gTbl con_2055 := conR_ok3 gT_all (hd_2055) rfl pn_RX11 tk_X11_guessAll bo_RX11 xo_RX11 (cto_2055 l) ch_2055 (cut_all cc_2055)
/-- RookHusting isAsSeen -/
noncomputable def gi_1521 : GI := jl_n [gp_682, jl_z 9]
noncomputable def gi_1522 : GI := jl_n [gp_682, jl_z 10]
noncomputable def con_2056 : Con2 := ((yX11_isAsSeen, cX11_isAsSeen, 4, (some .boolean)), (1, 22), ([(6, 0, 0), (0, 1, 0)], gi_1521, hc_205, []), [((0, 0, 0), gi_1522, hq_898, [], [1]), ((0, 1, 0), gi_1522, hq_898, [], [1])])
theorem hd_2056 : con_2056.1 = (yX11_isAsSeen, cX11_isAsSeen, 4, (some .boolean)) := rfl
noncomputable def ct_2056 : CTB2 := [(21, 473, 0, con_1989, [1, 3]), (21, 473, 0, con_1986, [1, 3]), (21, 473, 0, con_1983, [1, 3]), (21, 473, 0, con_1980, [1, 3]), (21, 473, 0, con_1977, [1, 3]), (21, 473, 0, con_1972, [1, 3]), (21, 473, 0, con_1969, [1, 3]), (21, 473, 0, con_1966, [1, 3]), (36, 473, 0, con_1990, [1, 3]), (36, 473, 0, con_1987, [1, 3]), (36, 473, 0, con_1984, [1, 3]), (36, 473, 0, con_1981, [1, 3]), (36, 473, 0, con_1978, [1, 3]), (36, 473, 0, con_1973, [1, 3]), (36, 473, 0, con_1970, [1, 3]), (36, 473, 0, con_1967, [1, 3]), (60, 473, 0, con_1991, [1, 3]), (60, 473, 0, con_1988, [1, 3]), (60, 473, 0, con_1985, [1, 3]), (60, 473, 0, con_1982, [1, 3]), (60, 473, 0, con_1979, [1, 3]), (60, 473, 0, con_1974, [1, 3]), (60, 473, 0, con_1971, [1, 3]), (60, 473, 0, con_1968, [1, 3])]
noncomputable def gi_1523 : GI := jl_n [gp_682, jl_z 12]
noncomputable def gi_1524 : GI := jl_n [gp_682, gp_618]
noncomputable def cu_2056 : List CUT2 := [((2, [lq 0 6 0, lq 1 0 1, lq 2 0 0], [], gi_1523, hq_898), [], ([], 24)), ((2, [lq 0 6 0, lq 1 0 1, lq 2 0 3, lq 3 1 97], [], gi_1524, hq_898), [], ([], 21)), ((2, [lq 0 6 0, lq 1 0 1, lq 2 0 6, lq 3 1 97], [], gi_1524, hq_898), [], ([], 18)), ((2, [lq 0 6 0, lq 1 0 1, lq 2 0 9, lq 3 1 97], [], gi_1524, hq_898), [], ([], 15)), ((2, [lq 0 6 0, lq 1 0 1, lq 2 0 12, lq 3 1 97], [], gi_1524, hq_898), [], ([], 12)), ((2, [lq 0 6 0, lq 1 0 1, lq 2 0 15, lq 3 1 97], [], gi_1524, hq_898), [], ([], 9)), ((2, [lq 0 6 0, lq 1 0 1, lq 2 0 18, lq 3 1 97], [], gi_1524, hq_898), [], ([], 6)), ((2, [lq 0 6 0, lq 1 0 1, lq 2 0 21, lq 3 1 97], [], gi_1524, hq_898), [], ([], 3)), ((2, [lq 0 6 0, lq 1 0 1, lq 2 0 24, lq 3 1 97], [], gi_1524, hq_898), [], ([], 0))]
theorem ch_2056 : staG tb_X11_isAsSeen 1 bt_RX11 [] ct_2056 [] [] cu_2056 44 con_2056 = true := by decide +kernel
theorem cc_2056 : cu_2056.all (cutG tb_X11_isAsSeen 1 bt_RX11 [] ct_2056 [] [] cu_2056 44 con_2056) = true := by decide +kernel
theorem cto_2056 (l : Launch) : CTOK2 l RX11 vwCl gTbl ct_2056 := ct2_cons (vl_1989 l) ck_RX11_473_1989 (ct2_cons (vl_1986 l) ck_RX11_473_1986 (ct2_cons (vl_1983 l) ck_RX11_473_1983 (ct2_cons (vl_1980 l) ck_RX11_473_1980 (ct2_cons (vl_1977 l) ck_RX11_473_1977 (ct2_cons (vl_1972 l) ck_RX11_473_1972 (ct2_cons (vl_1969 l) ck_RX11_473_1969 (ct2_cons (vl_1966 l) ck_RX11_473_1966 (ct2_cons (vl_1990 l) ck_RX11_473_1990 (ct2_cons (vl_1987 l) ck_RX11_473_1987 (ct2_cons (vl_1984 l) ck_RX11_473_1984 (ct2_cons (vl_1981 l) ck_RX11_473_1981 (ct2_cons (vl_1978 l) ck_RX11_473_1978 (ct2_cons (vl_1973 l) ck_RX11_473_1973 (ct2_cons (vl_1970 l) ck_RX11_473_1970 (ct2_cons (vl_1967 l) ck_RX11_473_1967 (ct2_cons (vl_1991 l) ck_RX11_473_1991 (ct2_cons (vl_1988 l) ck_RX11_473_1988 (ct2_cons (vl_1985 l) ck_RX11_473_1985 (ct2_cons (vl_1982 l) ck_RX11_473_1982 (ct2_cons (vl_1979 l) ck_RX11_473_1979 (ct2_cons (vl_1974 l) ck_RX11_473_1974 (ct2_cons (vl_1971 l) ck_RX11_473_1971 (ct2_cons (vl_1968 l) ck_RX11_473_1968 (ct2_nil))))))))))))))))))))))))
theorem vl_2056 (l : Launch) : Vld2 l vwCl gTbl con_2056 := conR_ok3 gT_all (hd_2056) rfl pn_RX11 tk_X11_isAsSeen bo_RX11 xo_RX11 (cto_2056 l) ch_2056 (cut_all cc_2056)
/-- RookHusting guessAll -/
noncomputable def gi_1525 : GI := jl_n [gp_667, gp_542]
noncomputable def gi_1526 : GI := jl_n [gp_667, gp_542, gp_622]
noncomputable def con_2057 : Con2 := ((yX11_guessAll, cX11_guessAll, 4, none), (6, 151), ([(6, 0, 0), (0, 1, 0), (1, 2, 0)], gi_1525, hc_206, rq_6), [((9, 0, 0), gi_1526, hq_899, [], tg_1)])
theorem hd_2057 : con_2057.1 = (yX11_guessAll, cX11_guessAll, 4, none) := rfl
theorem ck_RX11_483_2056 : COK2 RX11 vwCl gTbl 483 0 con_2056 := ⟨wd_1230, wd_125, mh_X11_isAsSeen, .inr (.inr ⟨rfl, wd_1227, wd_1229, wd_43, ⟨_, rfl, pd_X11_isAsSeen⟩, 11, _, TX11, 16, rfl, rfl⟩)⟩
noncomputable def ct_2057 : CTB2 := [(1, 208, 0, con_929, [0, 1, 2, 3, 4, 5, 6, 7, 8, 9, 10, 11, 12, 13, 14, 15, 16, 17, 18, 19, 20, 21, 22, 23, 24, 25, 26]), (36, 332, 0, con_1456, [28, 2, 29, 4, 30, 5, 31, 6]), (45, 480, 0, con_869, [28, 29]), (73, 372, 0, con_928, [32, 3, 28, 16, 33, 18, 34, 30, 35, 29, 36, 22, 23, 37, 38, 39, 31]), (78, 483, 0, con_2056, [0, 40, 41, 42, 32, 33]), (105, 486, 0, con_1766, [27, 33, 43]), (105, 486, 0, con_1771, [27, 33, 43])]
noncomputable def gi_1527 : GI := jl_n [gp_667, gp_542, gp_623]
noncomputable def cu_2057 : List CUT2 := [((14, [lq 0 6 0, lq 1 0 1, lq 2 1 2, lq 3 1 204], [], gi_1527, hq_900), rq_6, ([(204, (-1))], 5))]
theorem ch_2057 : staG tb_X11_guessAll 1 bt_RX11 [] ct_2057 [] [] cu_2057 48 con_2057 = true := by decide +kernel
theorem cc_2057 : cu_2057.all (cutG tb_X11_guessAll 1 bt_RX11 [] ct_2057 [] [] cu_2057 48 con_2057) = true := by decide +kernel
theorem cto_2057 (l : Launch) : CTOK2 l RX11 vwCl gTbl ct_2057 := ct2_cons (vl_929 l) ck_RX11_208_929 (ct2_cons (vl_1456 l) ck_RX11_332_1456 (ct2_cons (vl_869 l) ck_RX11_480_869 (ct2_cons (vl_928 l) ck_RX11_372_928 (ct2_cons (vl_2056 l) ck_RX11_483_2056 (ct2_cons (vl_1766 l) ck_RX11_486_1766 (ct2_cons (vl_1771 l) ck_RX11_486_1771 (ct2_nil)))))))
theorem vl_2057 (l : Launch) : Vld2 l vwCl gTbl con_2057 := conR_ok3 gT_all (hd_2057) rfl pn_RX11 tk_X11_guessAll bo_RX11 xo_RX11 (cto_2057 l) ch_2057 (cut_all cc_2057)
/-- RookHusting isAsSeen -/
noncomputable def gi_1528 : GI := jl_n [gp_683, jl_z 9]
noncomputable def gi_1529 : GI := jl_n [gp_683, jl_z 10]
noncomputable def con_2058 : Con2 := ((yX11_isAsSeen, cX11_isAsSeen, 4, (some .boolean)), (1, 22), ([(6, 0, 0), (0, 1, 0)], gi_1528, hc_205, []), [((0, 0, 0), gi_1529, hq_898, [], [1]), ((0, 1, 0), gi_1529, hq_898, [], [1])])
theorem hd_2058 : con_2058.1 = (yX11_isAsSeen, cX11_isAsSeen, 4, (some .boolean)) := rfl
noncomputable def ct_2058 : CTB2 := [(21, 473, 0, con_1986, [1, 3]), (21, 473, 0, con_1983, [1, 3]), (21, 473, 0, con_1980, [1, 3]), (21, 473, 0, con_1977, [1, 3]), (21, 473, 0, con_1972, [1, 3]), (21, 473, 0, con_1969, [1, 3]), (21, 473, 0, con_1966, [1, 3]), (36, 473, 0, con_1987, [1, 3]), (36, 473, 0, con_1984, [1, 3]), (36, 473, 0, con_1981, [1, 3]), (36, 473, 0, con_1978, [1, 3]), (36, 473, 0, con_1973, [1, 3]), (36, 473, 0, con_1970, [1, 3]), (36, 473, 0, con_1967, [1, 3]), (60, 473, 0, con_1988, [1, 3]), (60, 473, 0, con_1985, [1, 3]), (60, 473, 0, con_1982, [1, 3]), (60, 473, 0, con_1979, [1, 3]), (60, 473, 0, con_1974, [1, 3]), (60, 473, 0, con_1971, [1, 3]), (60, 473, 0, con_1968, [1, 3])]
noncomputable def gi_1530 : GI := jl_n [gp_683, jl_z 12]
noncomputable def gi_1531 : GI := jl_n [gp_683, gp_618]
noncomputable def cu_2058 : List CUT2 := [((2, [lq 0 6 0, lq 1 0 1, lq 2 0 0], [], gi_1530, hq_898), [], ([], 21)), ((2, [lq 0 6 0, lq 1 0 1, lq 2 0 3, lq 3 1 97], [], gi_1531, hq_898), [], ([], 18)), ((2, [lq 0 6 0, lq 1 0 1, lq 2 0 6, lq 3 1 97], [], gi_1531, hq_898), [], ([], 15)), ((2, [lq 0 6 0, lq 1 0 1, lq 2 0 9, lq 3 1 97], [], gi_1531, hq_898), [], ([], 12)), ((2, [lq 0 6 0, lq 1 0 1, lq 2 0 12, lq 3 1 97], [], gi_1531, hq_898), [], ([], 9)), ((2, [lq 0 6 0, lq 1 0 1, lq 2 0 15, lq 3 1 97], [], gi_1531, hq_898), [], ([], 6)), ((2, [lq 0 6 0, lq 1 0 1, lq 2 0 18, lq 3 1 97], [], gi_1531, hq_898), [], ([], 3)), ((2, [lq 0 6 0, lq 1 0 1, lq 2 0 21, lq 3 1 97], [], gi_1531, hq_898), [], ([], 0))]
theorem ch_2058 : staG tb_X11_isAsSeen 1 bt_RX11 [] ct_2058 [] [] cu_2058 44 con_2058 = true := by decide +kernel
theorem cc_2058 : cu_2058.all (cutG tb_X11_isAsSeen 1 bt_RX11 [] ct_2058 [] [] cu_2058 44 con_2058) = true := by decide +kernel
theorem cto_2058 (l : Launch) : CTOK2 l RX11 vwCl gTbl ct_2058 := ct2_cons (vl_1986 l) ck_RX11_473_1986 (ct2_cons (vl_1983 l) ck_RX11_473_1983 (ct2_cons (vl_1980 l) ck_RX11_473_1980 (ct2_cons (vl_1977 l) ck_RX11_473_1977 (ct2_cons (vl_1972 l) ck_RX11_473_1972 (ct2_cons (vl_1969 l) ck_RX11_473_1969 (ct2_cons (vl_1966 l) ck_RX11_473_1966 (ct2_cons (vl_1987 l) ck_RX11_473_1987 (ct2_cons (vl_1984 l) ck_RX11_473_1984 (ct2_cons (vl_1981 l) ck_RX11_473_1981 (ct2_cons (vl_1978 l) ck_RX11_473_1978 (ct2_cons (vl_1973 l) ck_RX11_473_1973 (ct2_cons (vl_1970 l) ck_RX11_473_1970 (ct2_cons (vl_1967 l) ck_RX11_473_1967 (ct2_cons (vl_1988 l) ck_RX11_473_1988 (ct2_cons (vl_1985 l) ck_RX11_473_1985 (ct2_cons (vl_1982 l) ck_RX11_473_1982 (ct2_cons (vl_1979 l) ck_RX11_473_1979 (ct2_cons (vl_1974 l) ck_RX11_473_1974 (ct2_cons (vl_1971 l) ck_RX11_473_1971 (ct2_cons (vl_1968 l) ck_RX11_473_1968 (ct2_nil)))))))))))))))))))))
theorem vl_2058 (l : Launch) : Vld2 l vwCl gTbl con_2058 := conR_ok3 gT_all (hd_2058) rfl pn_RX11 tk_X11_isAsSeen bo_RX11 xo_RX11 (cto_2058 l) ch_2058 (cut_all cc_2058)
/-- RookHusting guessAll -/
noncomputable def gi_1532 : GI := jl_n [gp_667, gp_539]
noncomputable def gi_1533 : GI := jl_n [gp_667, gp_539, gp_622]
noncomputable def con_2059 : Con2 := ((yX11_guessAll, cX11_guessAll, 4, none), (6, 151), ([(6, 0, 0), (0, 1, 0), (1, 2, 0)], gi_1532, hc_206, rq_6), [((9, 0, 0), gi_1533, hq_899, [], tg_1)])
theorem hd_2059 : con_2059.1 = (yX11_guessAll, cX11_guessAll, 4, none) := rfl
theorem ck_RX11_483_2058 : COK2 RX11 vwCl gTbl 483 0 con_2058 := ⟨wd_1230, wd_125, mh_X11_isAsSeen, .inr (.inr ⟨rfl, wd_1227, wd_1229, wd_43, ⟨_, rfl, pd_X11_isAsSeen⟩, 11, _, TX11, 16, rfl, rfl⟩)⟩
noncomputable def ct_2059 : CTB2 := [(1, 208, 0, con_929, [0, 1, 2, 3, 4, 5, 6, 7, 8, 9, 10, 11, 12, 13, 14, 15, 16, 17, 18, 19, 20, 21, 22, 23, 24, 25, 26]), (36, 332, 0, con_1456, [28, 2, 29, 4, 30, 5, 31, 6]), (45, 480, 0, con_869, [28, 29]), (73, 372, 0, con_928, [32, 3, 28, 16, 33, 18, 34, 30, 35, 29, 36, 22, 23, 37, 38, 39, 31]), (78, 483, 0, con_2058, [0, 40, 41, 42, 32, 33]), (105, 486, 0, con_1766, [27, 33, 43]), (105, 486, 0, con_1771, [27, 33, 43])]
noncomputable def gi_1534 : GI := jl_n [gp_667, gp_539, gp_623]
noncomputable def cu_2059 : List CUT2 := [((14, [lq 0 6 0, lq 1 0 1, lq 2 1 2, lq 3 1 204], [], gi_1534, hq_900), rq_6, ([(204, (-1))], 5))]
theorem ch_2059 : staG tb_X11_guessAll 1 bt_RX11 [] ct_2059 [] [] cu_2059 48 con_2059 = true := by decide +kernel
theorem cc_2059 : cu_2059.all (cutG tb_X11_guessAll 1 bt_RX11 [] ct_2059 [] [] cu_2059 48 con_2059) = true := by decide +kernel
theorem cto_2059 (l : Launch) : CTOK2 l RX11 vwCl gTbl ct_2059 := ct2_cons (vl_929 l) ck_RX11_208_929 (ct2_cons (vl_1456 l) ck_RX11_332_1456 (ct2_cons (vl_869 l) ck_RX11_480_869 (ct2_cons (vl_928 l) ck_RX11_372_928 (ct2_cons (vl_2058 l) ck_RX11_483_2058 (ct2_cons (vl_1766 l) ck_RX11_486_1766 (ct2_cons (vl_1771 l) ck_RX11_486_1771 (ct2_nil)))))))
theorem vl_2059 (l : Launch) : Vld2 l vwCl gTbl con_2059 := conR_ok3 gT_all (hd_2059) rfl pn_RX11 tk_X11_guessAll bo_RX11 xo_RX11 (cto_2059 l) ch_2059 (cut_all cc_2059)
/-- RookHusting isAsSeen -/
noncomputable def gi_1535 : GI := jl_n [gp_684, jl_z 9]
noncomputable def gi_1536 : GI := jl_n [gp_684, jl_z 10]
noncomputable def con_2060 : Con2 := ((yX11_isAsSeen, cX11_isAsSeen, 4, (some .boolean)), (1, 22), ([(6, 0, 0), (0, 1, 0)], gi_1535, hc_205, []), [((0, 0, 0), gi_1536, hq_898, [], [1]), ((0, 1, 0), gi_1536, hq_898, [], [1])])
theorem hd_2060 : con_2060.1 = (yX11_isAsSeen, cX11_isAsSeen, 4, (some .boolean)) := rfl
noncomputable def ct_2060 : CTB2 := [(21, 473, 0, con_1983, [1, 3]), (21, 473, 0, con_1980, [1, 3]), (21, 473, 0, con_1977, [1, 3]), (21, 473, 0, con_1972, [1, 3]), (21, 473, 0, con_1969, [1, 3]), (21, 473, 0, con_1966, [1, 3]), (36, 473, 0, con_1984, [1, 3]), (36, 473, 0, con_1981, [1, 3]), (36, 473, 0, con_1978, [1, 3]), (36, 473, 0, con_1973, [1, 3]), (36, 473, 0, con_1970, [1, 3]), (36, 473, 0, con_1967, [1, 3]), (60, 473, 0, con_1985, [1, 3]), (60, 473, 0, con_1982, [1, 3]), (60, 473, 0, con_1979, [1, 3]), (60, 473, 0, con_1974, [1, 3]), (60, 473, 0, con_1971, [1, 3]), (60, 473, 0, con_1968, [1, 3])]
noncomputable def gi_1537 : GI := jl_n [gp_684, jl_z 12]
noncomputable def gi_1538 : GI := jl_n [gp_684, gp_618]
noncomputable def cu_2060 : List CUT2 := [((2, [lq 0 6 0, lq 1 0 1, lq 2 0 0], [], gi_1537, hq_898), [], ([], 18)), ((2, [lq 0 6 0, lq 1 0 1, lq 2 0 3, lq 3 1 97], [], gi_1538, hq_898), [], ([], 15)), ((2, [lq 0 6 0, lq 1 0 1, lq 2 0 6, lq 3 1 97], [], gi_1538, hq_898), [], ([], 12)), ((2, [lq 0 6 0, lq 1 0 1, lq 2 0 9, lq 3 1 97], [], gi_1538, hq_898), [], ([], 9)), ((2, [lq 0 6 0, lq 1 0 1, lq 2 0 12, lq 3 1 97], [], gi_1538, hq_898), [], ([], 6)), ((2, [lq 0 6 0, lq 1 0 1, lq 2 0 15, lq 3 1 97], [], gi_1538, hq_898), [], ([], 3)), ((2, [lq 0 6 0, lq 1 0 1, lq 2 0 18, lq 3 1 97], [], gi_1538, hq_898), [], ([], 0))]
theorem ch_2060 : staG tb_X11_isAsSeen 1 bt_RX11 [] ct_2060 [] [] cu_2060 44 con_2060 = true := by decide +kernel
theorem cc_2060 : cu_2060.all (cutG tb_X11_isAsSeen 1 bt_RX11 [] ct_2060 [] [] cu_2060 44 con_2060) = true := by decide +kernel
theorem cto_2060 (l : Launch) : CTOK2 l RX11 vwCl gTbl ct_2060 := ct2_cons (vl_1983 l) ck_RX11_473_1983 (ct2_cons (vl_1980 l) ck_RX11_473_1980 (ct2_cons (vl_1977 l) ck_RX11_473_1977 (ct2_cons (vl_1972 l) ck_RX11_473_1972 (ct2_cons (vl_1969 l) ck_RX11_473_1969 (ct2_cons (vl_1966 l) ck_RX11_473_1966 (ct2_cons (vl_1984 l) ck_RX11_473_1984 (ct2_cons (vl_1981 l) ck_RX11_473_1981 (ct2_cons (vl_1978 l) ck_RX11_473_1978 (ct2_cons (vl_1973 l) ck_RX11_473_1973 (ct2_cons (vl_1970 l) ck_RX11_473_1970 (ct2_cons (vl_1967 l) ck_RX11_473_1967 (ct2_cons (vl_1985 l) ck_RX11_473_1985 (ct2_cons (vl_1982 l) ck_RX11_473_1982 (ct2_cons (vl_1979 l) ck_RX11_473_1979 (ct2_cons (vl_1974 l) ck_RX11_473_1974 (ct2_cons (vl_1971 l) ck_RX11_473_1971 (ct2_cons (vl_1968 l) ck_RX11_473_1968 (ct2_nil))))))))))))))))))
theorem vl_2060 (l : Launch) : Vld2 l vwCl gTbl con_2060 := conR_ok3 gT_all (hd_2060) rfl pn_RX11 tk_X11_isAsSeen bo_RX11 xo_RX11 (cto_2060 l) ch_2060 (cut_all cc_2060)
/-- RookHusting guessAll -/
noncomputable def gi_1539 : GI := jl_n [gp_667, gp_537]
noncomputable def gi_1540 : GI := jl_n [gp_667, gp_537, gp_622]
noncomputable def con_2061 : Con2 := ((yX11_guessAll, cX11_guessAll, 4, none), (6, 151), ([(6, 0, 0), (0, 1, 0), (1, 2, 0)], gi_1539, hc_206, rq_6), [((9, 0, 0), gi_1540, hq_899, [], tg_1)])
theorem hd_2061 : con_2061.1 = (yX11_guessAll, cX11_guessAll, 4, none) := rfl
theorem ck_RX11_483_2060 : COK2 RX11 vwCl gTbl 483 0 con_2060 := ⟨wd_1230, wd_125, mh_X11_isAsSeen, .inr (.inr ⟨rfl, wd_1227, wd_1229, wd_43, ⟨_, rfl, pd_X11_isAsSeen⟩, 11, _, TX11, 16, rfl, rfl⟩)⟩
noncomputable def ct_2061 : CTB2 := [(1, 208, 0, con_929, [0, 1, 2, 3, 4, 5, 6, 7, 8, 9, 10, 11, 12, 13, 14, 15, 16, 17, 18, 19, 20, 21, 22, 23, 24, 25, 26]), (36, 332, 0, con_1456, [28, 2, 29, 4, 30, 5, 31, 6]), (45, 480, 0, con_869, [28, 29]), (73, 372, 0, con_928, [32, 3, 28, 16, 33, 18, 34, 30, 35, 29, 36, 22, 23, 37, 38, 39, 31]), (78, 483, 0, con_2060, [0, 40, 41, 42, 32, 33]), (105, 486, 0, con_1766, [27, 33, 43]), (105, 486, 0, con_1771, [27, 33, 43])]
noncomputable def gi_1541 : GI := jl_n [gp_667, gp_537, gp_623]
noncomputable def cu_2061 : List CUT2 := [((14, [lq 0 6 0, lq 1 0 1, lq 2 1 2, lq 3 1 204], [], gi_1541, hq_900), rq_6, ([(204, (-1))], 5))]
theorem ch_2061 : staG tb_X11_guessAll 1 bt_RX11 [] ct_2061 [] [] cu_2061 48 con_2061 = true := by decide +kernel
theorem cc_2061 : cu_2061.all (cutG tb_X11_guessAll 1 bt_RX11 [] ct_2061 [] [] cu_2061 48 con_2061) = true := by decide +kernel
theorem cto_2061 (l : Launch) : CTOK2 l RX11 vwCl gTbl ct_2061 := ct2_cons (vl_929 l) ck_RX11_208_929 (ct2_cons (vl_1456 l) ck_RX11_332_1456 (ct2_cons (vl_869 l) ck_RX11_480_869 (ct2_cons (vl_928 l) ck_RX11_372_928 (ct2_cons (vl_2060 l) ck_RX11_483_2060 (ct2_cons (vl_1766 l) ck_RX11_486_1766 (ct2_cons (vl_1771 l) ck_RX11_486_1771 (ct2_nil)))))))
theorem vl_2061 (l : Launch) : Vld2 l vwCl gTbl con_2061 := conR_ok3 gT_all (hd_2061) rfl pn_RX11 tk_X11_guessAll bo_RX11 xo_RX11 (cto_2061 l) ch_2061 (cut_all cc_2061)
/-- RookHusting isAsSeen -/
noncomputable def gi_1542 : GI := jl_n [gp_685, jl_z 9]
noncomputable def gi_1543 : GI := jl_n [gp_685, jl_z 10]
noncomputable def con_2062 : Con2 := ((yX11_isAsSeen, cX11_isAsSeen, 4, (some .boolean)), (1, 22), ([(6, 0, 0), (0, 1, 0)], gi_1542, hc_205, []), [((0, 0, 0), gi_1543, hq_898, [], [1]), ((0, 1, 0), gi_1543, hq_898, [], [1])])
theorem hd_2062 : con_2062.1 = (yX11_isAsSeen, cX11_isAsSeen, 4, (some .boolean)) := rfl
noncomputable def ct_2062 : CTB2 := [(21, 473, 0, con_1980, [1, 3]), (21, 473, 0, con_1977, [1, 3]), (21, 473, 0, con_1972, [1, 3]), (21, 473, 0, con_1969, [1, 3]), (21, 473, 0, con_1966, [1, 3]), (36, 473, 0, con_1981, [1, 3]), (36, 473, 0, con_1978, [1, 3]), (36, 473, 0, con_1973, [1, 3]), (36, 473, 0, con_1970, [1, 3]), (36, 473, 0, con_1967, [1, 3]), (60, 473, 0, con_1982, [1, 3]), (60, 473, 0, con_1979, [1, 3]), (60, 473, 0, con_1974, [1, 3]), (60, 473, 0, con_1971, [1, 3]), (60, 473, 0, con_1968, [1, 3])]
noncomputable def gi_1544 : GI := jl_n [gp_685, jl_z 12]
noncomputable def gi_1545 : GI := jl_n [gp_685, gp_618]
noncomputable def cu_2062 : List CUT2 := [((2, [lq 0 6 0, lq 1 0 1, lq 2 0 0], [], gi_1544, hq_898), [], ([], 15)), ((2, [lq 0 6 0, lq 1 0 1, lq 2 0 3, lq 3 1 97], [], gi_1545, hq_898), [], ([], 12)), ((2, [lq 0 6 0, lq 1 0 1, lq 2 0 6, lq 3 1 97], [], gi_1545, hq_898), [], ([], 9)), ((2, [lq 0 6 0, lq 1 0 1, lq 2 0 9, lq 3 1 97], [], gi_1545, hq_898), [], ([], 6)), ((2, [lq 0 6 0, lq 1 0 1, lq 2 0 12, lq 3 1 97], [], gi_1545, hq_898), [], ([], 3)), ((2, [lq 0 6 0, lq 1 0 1, lq 2 0 15, lq 3 1 97], [], gi_1545, hq_898), [], ([], 0))]
theorem ch_2062 : staG tb_X11_isAsSeen 1 bt_RX11 [] ct_2062 [] [] cu_2062 44 con_2062 = true := by decide +kernel
theorem cc_2062 : cu_2062.all (cutG tb_X11_isAsSeen 1 bt_RX11 [] ct_2062 [] [] cu_2062 44 con_2062) = true := by decide +kernel
theorem cto_2062 (l : Launch) : CTOK2 l RX11 vwCl gTbl ct_2062 := ct2_cons (vl_1980 l) ck_RX11_473_1980 (ct2_cons (vl_1977 l) ck_RX11_473_1977 (ct2_cons (vl_1972 l) ck_RX11_473_1972 (ct2_cons (vl_1969 l) ck_RX11_473_1969 (ct2_cons (vl_1966 l) ck_RX11_473_1966 (ct2_cons (vl_1981 l) ck_RX11_473_1981 (ct2_cons (vl_1978 l) ck_RX11_473_1978 (ct2_cons (vl_1973 l) ck_RX11_473_1973 (ct2_cons (vl_1970 l) ck_RX11_473_1970 (ct2_cons (vl_1967 l) ck_RX11_473_1967 (ct2_cons (vl_1982 l) ck_RX11_473_1982 (ct2_cons (vl_1979 l) ck_RX11_473_1979 (ct2_cons (vl_1974 l) ck_RX11_473_1974 (ct2_cons (vl_1971 l) ck_RX11_473_1971 (ct2_cons (vl_1968 l) ck_RX11_473_1968 (ct2_nil)))))))))))))))
theorem vl_2062 (l : Launch) : Vld2 l vwCl gTbl con_2062 := conR_ok3 gT_all (hd_2062) rfl pn_RX11 tk_X11_isAsSeen bo_RX11 xo_RX11 (cto_2062 l) ch_2062 (cut_all cc_2062)
/-- RookHusting guessAll -/
noncomputable def gi_1546 : GI := jl_n [gp_667, gp_535]
noncomputable def gi_1547 : GI := jl_n [gp_667, gp_535, gp_622]
noncomputable def con_2063 : Con2 := ((yX11_guessAll, cX11_guessAll, 4, none), (6, 151), ([(6, 0, 0), (0, 1, 0), (1, 2, 0)], gi_1546, hc_206, rq_6), [((9, 0, 0), gi_1547, hq_899, [], tg_1)])
theorem hd_2063 : con_2063.1 = (yX11_guessAll, cX11_guessAll, 4, none) := rfl
theorem ck_RX11_483_2062 : COK2 RX11 vwCl gTbl 483 0 con_2062 := ⟨wd_1230, wd_125, mh_X11_isAsSeen, .inr (.inr ⟨rfl, wd_1227, wd_1229, wd_43, ⟨_, rfl, pd_X11_isAsSeen⟩, 11, _, TX11, 16, rfl, rfl⟩)⟩
noncomputable def ct_2063 : CTB2 := [(1, 208, 0, con_929, [0, 1, 2, 3, 4, 5, 6, 7, 8, 9, 10, 11, 12, 13, 14, 15, 16, 17, 18, 19, 20, 21, 22, 23, 24, 25, 26]), (36, 332, 0, con_1456, [28, 2, 29, 4, 30, 5, 31, 6]), (45, 480, 0, con_869, [28, 29]), (73, 372, 0, con_928, [32, 3, 28, 16, 33, 18, 34, 30, 35, 29, 36, 22, 23, 37, 38, 39, 31]), (78, 483, 0, con_2062, [0, 40, 41, 42, 32, 33]), (105, 486, 0, con_1766, [27, 33, 43]), (105, 486, 0, con_1771, [27, 33, 43])]
noncomputable def gi_1548 : GI := jl_n [gp_667, gp_535, gp_623]
noncomputable def cu_2063 : List CUT2 := [((14, [lq 0 6 0, lq 1 0 1, lq 2 1 2, lq 3 1 204], [], gi_1548, hq_900), rq_6, ([(204, (-1))], 5))]
theorem ch_2063 : staG tb_X11_guessAll 1 bt_RX11 [] ct_2063 [] [] cu_2063 48 con_2063 = true := by decide +kernel
theorem cc_2063 : cu_2063.all (cutG tb_X11_guessAll 1 bt_RX11 [] ct_2063 [] [] cu_2063 48 con_2063) = true := by decide +kernel
theorem cto_2063 (l : Launch) : CTOK2 l RX11 vwCl gTbl ct_2063 := ct2_cons (vl_929 l) ck_RX11_208_929 (ct2_cons (vl_1456 l) ck_RX11_332_1456 (ct2_cons (vl_869 l) ck_RX11_480_869 (ct2_cons (vl_928 l) ck_RX11_372_928 (ct2_cons (vl_2062 l) ck_RX11_483_2062 (ct2_cons (vl_1766 l) ck_RX11_486_1766 (ct2_cons (vl_1771 l) ck_RX11_486_1771 (ct2_nil)))))))
theorem vl_2063 (l : Launch) : Vld2 l vwCl gTbl con_2063 := conR_ok3 gT_all (hd_2063) rfl pn_RX11 tk_X11_guessAll bo_RX11 xo_RX11 (cto_2063 l) ch_2063 (cut_all cc_2063)
/-- RookHusting isAsSeen -/
noncomputable def gi_1549 : GI := jl_n [gp_686, jl_z 9]
noncomputable def gi_1550 : GI := jl_n [gp_686, jl_z 10]
noncomputable def con_2064 : Con2 := ((yX11_isAsSeen, cX11_isAsSeen, 4, (some .boolean)), (1, 22), ([(6, 0, 0), (0, 1, 0)], gi_1549, hc_205, []), [((0, 0, 0), gi_1550, hq_898, [], [1]), ((0, 1, 0), gi_1550, hq_898, [], [1])])
theorem hd_2064 : con_2064.1 = (yX11_isAsSeen, cX11_isAsSeen, 4, (some .boolean)) := rfl
noncomputable def ct_2064 : CTB2 := [(21, 473, 0, con_1977, [1, 3]), (21, 473, 0, con_1972, [1, 3]), (21, 473, 0, con_1969, [1, 3]), (21, 473, 0, con_1966, [1, 3]), (36, 473, 0, con_1978, [1, 3]), (36, 473, 0, con_1973, [1, 3]), (36, 473, 0, con_1970, [1, 3]), (36, 473, 0, con_1967, [1, 3]), (60, 473, 0, con_1979, [1, 3]), (60, 473, 0, con_1974, [1, 3]), (60, 473, 0, con_1971, [1, 3]), (60, 473, 0, con_1968, [1, 3])]
noncomputable def gi_1551 : GI := jl_n [gp_686, jl_z 12]
noncomputable def gi_1552 : GI := jl_n [gp_686, gp_618]
noncomputable def cu_2064 : List CUT2 := [((2, [lq 0 6 0, lq 1 0 1, lq 2 0 0], [], gi_1551, hq_898), [], ([], 12)), ((2, [lq 0 6 0, lq 1 0 1, lq 2 0 3, lq 3 1 97], [], gi_1552, hq_898), [], ([], 9)), ((2, [lq 0 6 0, lq 1 0 1, lq 2 0 6, lq 3 1 97], [], gi_1552, hq_898), [], ([], 6)), ((2, [lq 0 6 0, lq 1 0 1, lq 2 0 9, lq 3 1 97], [], gi_1552, hq_898), [], ([], 3)), ((2, [lq 0 6 0, lq 1 0 1, lq 2 0 12, lq 3 1 97], [], gi_1552, hq_898), [], ([], 0))]
theorem ch_2064 : staG tb_X11_isAsSeen 1 bt_RX11 [] ct_2064 [] [] cu_2064 44 con_2064 = true := by decide +kernel
theorem cc_2064 : cu_2064.all (cutG tb_X11_isAsSeen 1 bt_RX11 [] ct_2064 [] [] cu_2064 44 con_2064) = true := by decide +kernel
theorem cto_2064 (l : Launch) : CTOK2 l RX11 vwCl gTbl ct_2064 := ct2_cons (vl_1977 l) ck_RX11_473_1977 (ct2_cons (vl_1972 l) ck_RX11_473_1972 (ct2_cons (vl_1969 l) ck_RX11_473_1969 (ct2_cons (vl_1966 l) ck_RX11_473_1966 (ct2_cons (vl_1978 l) ck_RX11_473_1978 (ct2_cons (vl_1973 l) ck_RX11_473_1973 (ct2_cons (vl_1970 l) ck_RX11_473_1970 (ct2_cons (vl_1967 l) ck_RX11_473_1967 (ct2_cons (vl_1979 l) ck_RX11_473_1979 (ct2_cons (vl_1974 l) ck_RX11_473_1974 (ct2_cons (vl_1971 l) ck_RX11_473_1971 (ct2_cons (vl_1968 l) ck_RX11_473_1968 (ct2_nil))))))))))))
theorem vl_2064 (l : Launch) : Vld2 l vwCl gTbl con_2064 := conR_ok3 gT_all (hd_2064) rfl pn_RX11 tk_X11_isAsSeen bo_RX11 xo_RX11 (cto_2064 l) ch_2064 (cut_all cc_2064)
/-- RookHusting guessAll -/
noncomputable def gi_1553 : GI := jl_n [gp_667, gp_533]
noncomputable def gi_1554 : GI := jl_n [gp_667, gp_533, gp_622]
noncomputable def con_2065 : Con2 := ((yX11_guessAll, cX11_guessAll, 4, none), (6, 151), ([(6, 0, 0), (0, 1, 0), (1, 2, 0)], gi_1553, hc_206, rq_6), [((9, 0, 0), gi_1554, hq_899, [], tg_1)])
theorem hd_2065 : con_2065.1 = (yX11_guessAll, cX11_guessAll, 4, none) := rfl
theorem ck_RX11_483_2064 : COK2 RX11 vwCl gTbl 483 0 con_2064 := ⟨wd_1230, wd_125, mh_X11_isAsSeen, .inr (.inr ⟨rfl, wd_1227, wd_1229, wd_43, ⟨_, rfl, pd_X11_isAsSeen⟩, 11, _, TX11, 16, rfl, rfl⟩)⟩
noncomputable def ct_2065 : CTB2 := [(1, 208, 0, con_929, [0, 1, 2, 3, 4, 5, 6, 7, 8, 9, 10, 11, 12, 13, 14, 15, 16, 17, 18, 19, 20, 21, 22, 23, 24, 25, 26]), (36, 332, 0, con_1456, [28, 2, 29, 4, 30, 5, 31, 6]), (45, 480, 0, con_869, [28, 29]), (73, 372, 0, con_928, [32, 3, 28, 16, 33, 18, 34, 30, 35, 29, 36, 22, 23, 37, 38, 39, 31]), (78, 483, 0, con_2064, [0, 40, 41, 42, 32, 33]), (105, 486, 0, con_1766, [27, 33, 43]), (105, 486, 0, con_1771, [27, 33, 43])]
noncomputable def gi_1555 : GI := jl_n [gp_667, gp_533, gp_623]
noncomputable def cu_2065 : List CUT2 := [((14, [lq 0 6 0, lq 1 0 1, lq 2 1 2, lq 3 1 204], [], gi_1555, hq_900), rq_6, ([(204, (-1))], 5))]
theorem ch_2065 : staG tb_X11_guessAll 1 bt_RX11 [] ct_2065 [] [] cu_2065 48 con_2065 = true := by decide +kernel
theorem cc_2065 : cu_2065.all (cutG tb_X11_guessAll 1 bt_RX11 [] ct_2065 [] [] cu_2065 48 con_2065) = true := by decide +kernel
theorem cto_2065 (l : Launch) : CTOK2 l RX11 vwCl gTbl ct_2065 := ct2_cons (vl_929 l) ck_RX11_208_929 (ct2_cons (vl_1456 l) ck_RX11_332_1456 (ct2_cons (vl_869 l) ck_RX11_480_869 (ct2_cons (vl_928 l) ck_RX11_372_928 (ct2_cons (vl_2064 l) ck_RX11_483_2064 (ct2_cons (vl_1766 l) ck_RX11_486_1766 (ct2_cons (vl_1771 l) ck_RX11_486_1771 (ct2_nil)))))))
theorem vl_2065 (l : Launch) : Vld2 l vwCl gTbl con_2065 := conR_ok3 gT_all (hd_2065) rfl pn_RX11 tk_X11_guessAll bo_RX11 xo_RX11 (cto_2065 l) ch_2065 (cut_all cc_2065)
/-- RookHusting isAsSeen -/
noncomputable def gi_1556 : GI := jl_n [gp_665, gp_531, jl_z 9]
noncomputable def ac_1079 : AC := .inr (1, jl_n [js_1 22 1, jl_x (1, (0, 0, 0)), js_1 25 2])
noncomputable def hc_207 : List AC := [ac_1053, .inl (8, [(6, 3, 0), (8, 19, 0), (6, 2, 0)]), ac_1079, ac_1077, ac_1056, am_0]
noncomputable def gi_1557 : GI := jl_n [gp_665, gp_531, jl_z 10]
noncomputable def hq_901 : HP := [(false, ac_1053), (false, .inl (8, [(6, 3, 0), (8, 19, 0), (6, 2, 0)])), (false, ac_1079), (false, ac_1077), (false, ac_1056), (false, am_0)]
noncomputable def con_2066 : Con2 := ((yX11_isAsSeen, cX11_isAsSeen, 4, (some .boolean)), (0, 0), ([(6, 0, 0), (0, 1, 0)], gi_1556, hc_207, []), [((0, 1, 0), gi_1557, hq_901, [], [1])])
theorem hd_2066 : con_2066.1 = (yX11_isAsSeen, cX11_isAsSeen, 4, (some .boolean)) := rfl
noncomputable def gi_1558 : GI := jl_n [gp_665, gp_531, jl_z 12]
noncomputable def cu_2066 : List CUT2 := [((2, [lq 0 6 0, lq 1 0 1, lq 2 0 0], [], gi_1558, hq_901), [], ([], 0))]
theorem ch_2066 : staG tb_X11_isAsSeen 1 bt_RX11 [] ct_3 [] [] cu_2066 11 con_2066 = true := by decide +kernel
theorem cc_2066 : cu_2066.all (cutG tb_X11_isAsSeen 1 bt_RX11 [] ct_3 [] [] cu_2066 11 con_2066) = true := by decide +kernel
theorem vl_2066 (l : Launch) : Vld2 l vwCl gTbl con_2066 := conR_ok3 gT_all (hd_2066) rfl pn_RX11 tk_X11_isAsSeen bo_RX11 xo_RX11 (cto_3 l) ch_2066 (cut_all cc_2066)
/-- RookHusting guessAll -/
noncomputable def gi_1559 : GI := jl_n [gp_667, gp_531]
noncomputable def ac_1080 : AC := .inr (1, jl_n [js_1 138 1, jl_x (1, (0, 0, 0)), js_1 141 2])
noncomputable def hc_208 : List AC := [ac_1057, .inl (9, [(6, 3, 0), (6, 11, 0)]), .inl (7, [(6, 4, 0), (6, 5, 0), (6, 6, 0), (1, 24, 0)]), ac_1058, am_7, am_1, am_1, am_1, .inl (1, [(6, 3, 0), (8, 43, 0)]), am_4, am_6, .inl (0, [(1, 44, 0), (6, 12, 0), (6, 13, 0), (6, 14, 0)]), ac_642, am_11, ac_643, ac_1059, am_2, am_0, am_10, am_0, am_1, am_0, am_2, am_9, am_0, am_0, am_12, ac_1060, .inl (7, [(6, 29, 0), (6, 30, 0), (6, 31, 0), (1, 124, 0)]), am_7, am_1, am_1, ac_1061, am_0, am_0, am_1, am_0, am_0, am_0, am_12, .inl (8, [(6, 42, 0), (8, 135, 0), (6, 41, 0)]), ac_1080, ac_1078, am_16]
noncomputable def gi_1560 : GI := jl_n [gp_667, gp_531, gp_622]
noncomputable def hq_902 : HP := [(true, ac_1064), (false, .inl (9, [(6, 3, 0), (6, 11, 0)])), (true, .inl (7, [(6, 4, 0), (6, 5, 0), (6, 6, 0), (1, 220, 0)])), (false, ac_1058), (true, am_7), (true, am_1), (true, am_1), (false, am_1), (false, .inl (1, [(6, 3, 0), (8, 43, 0)])), (false, am_4), (false, am_6), (false, .inl (0, [(1, 44, 0), (6, 12, 0), (6, 13, 0), (6, 14, 0)])), (false, ac_642), (false, am_11), (false, ac_643), (true, ac_1065), (false, am_2), (true, am_0), (false, am_10), (true, am_0), (true, am_1), (true, am_0), (false, am_2), (false, am_9), (true, am_0), (true, am_0), (true, am_12), (true, ac_1066), (true, .inl (7, [(6, 29, 0), (6, 30, 0), (6, 31, 0), (1, 237, 0)])), (true, am_7), (true, am_1), (true, am_1), (true, ac_1067), (true, am_0), (true, am_0), (true, am_1), (true, am_0), (true, am_0), (true, am_0), (true, am_12), (false, .inl (8, [(6, 42, 0), (8, 135, 0), (6, 41, 0)])), (false, ac_1080), (false, ac_1078), (true, am_16)]
noncomputable def con_2067 : Con2 := ((yX11_guessAll, cX11_guessAll, 4, none), (6, 151), ([(6, 0, 0), (0, 1, 0), (1, 2, 0)], gi_1559, hc_208, rq_6), [((9, 0, 0), gi_1560, hq_902, [], tg_1)])
theorem hd_2067 : con_2067.1 = (yX11_guessAll, cX11_guessAll, 4, none) := rfl
theorem ck_RX11_483_2066 : COK2 RX11 vwCl gTbl 483 0 con_2066 := ⟨wd_1230, wd_125, mh_X11_isAsSeen, .inr (.inr ⟨rfl, wd_1227, wd_1229, wd_43, ⟨_, rfl, pd_X11_isAsSeen⟩, 11, _, TX11, 16, rfl, rfl⟩)⟩
noncomputable def ct_2067 : CTB2 := [(1, 208, 0, con_929, [0, 1, 2, 3, 4, 5, 6, 7, 8, 9, 10, 11, 12, 13, 14, 15, 16, 17, 18, 19, 20, 21, 22, 23, 24, 25, 26]), (36, 332, 0, con_1456, [28, 2, 29, 4, 30, 5, 31, 6]), (45, 480, 0, con_869, [28, 29]), (73, 372, 0, con_928, [32, 3, 28, 16, 33, 18, 34, 30, 35, 29, 36, 22, 23, 37, 38, 39, 31]), (78, 483, 0, con_2066, [0, 40, 41, 42, 32, 33]), (105, 486, 0, con_1766, [27, 33, 43]), (105, 486, 0, con_1771, [27, 33, 43])]
noncomputable def gi_1561 : GI := jl_n [gp_667, gp_531, gp_623]
noncomputable def hq_903 : HP := [(true, ac_1064), (false, .inl (9, [(6, 3, 0), (6, 11, 0)])), (true, .inl (7, [(6, 4, 0), (6, 5, 0), (6, 6, 0), (1, 224, 0)])), (false, ac_1058), (true, am_7), (true, am_1), (true, am_1), (false, am_1), (false, .inl (1, [(6, 3, 0), (8, 43, 0)])), (false, am_4), (false, am_6), (false, .inl (0, [(1, 44, 0), (6, 12, 0), (6, 13, 0), (6, 14, 0)])), (false, ac_642), (false, am_11), (false, ac_643), (true, ac_1068), (false, am_2), (true, am_0), (false, am_10), (true, am_0), (true, am_1), (true, am_0), (false, am_2), (false, am_9), (true, am_0), (true, am_0), (true, am_12), (true, ac_1069), (true, .inl (7, [(6, 29, 0), (6, 30, 0), (6, 31, 0), (1, 241, 0)])), (true, am_7), (true, am_1), (true, am_1), (true, ac_1070), (true, am_0), (true, am_0), (true, am_1), (true, am_0), (true, am_0), (true, am_0), (true, am_12), (false, .inl (8, [(6, 42, 0), (8, 135, 0), (6, 41, 0)])), (false, ac_1080), (false, ac_1078), (true, am_16)]
noncomputable def cu_2067 : List CUT2 := [((14, [lq 0 6 0, lq 1 0 1, lq 2 1 2, lq 3 1 204], [], gi_1561, hq_903), rq_6, ([(204, (-1))], 5))]
theorem ch_2067 : staG tb_X11_guessAll 1 bt_RX11 [] ct_2067 [] [] cu_2067 48 con_2067 = true := by decide +kernel
theorem cc_2067 : cu_2067.all (cutG tb_X11_guessAll 1 bt_RX11 [] ct_2067 [] [] cu_2067 48 con_2067) = true := by decide +kernel
theorem cto_2067 (l : Launch) : CTOK2 l RX11 vwCl gTbl ct_2067 := ct2_cons (vl_929 l) ck_RX11_208_929 (ct2_cons (vl_1456 l) ck_RX11_332_1456 (ct2_cons (vl_869 l) ck_RX11_480_869 (ct2_cons (vl_928 l) ck_RX11_372_928 (ct2_cons (vl_2066 l) ck_RX11_483_2066 (ct2_cons (vl_1766 l) ck_RX11_486_1766 (ct2_cons (vl_1771 l) ck_RX11_486_1771 (ct2_nil)))))))
theorem vl_2067 (l : Launch) : Vld2 l vwCl gTbl con_2067 := conR_ok3 gT_all (hd_2067) rfl pn_RX11 tk_X11_guessAll bo_RX11 xo_RX11 (cto_2067 l) ch_2067 (cut_all cc_2067)
/-- RookHusting$Slots at -/
noncomputable def con_2068 : Con2 := ((yX8_at, cX8_at, 3, (some .long)), (0, 0), ([(6, 0, 0), (0, 0, 0), (0, 0, 0)], [(0, 0), (0, 0), (0, 0), (0, 0), (0, 0), (0, 0), (0, 4)], [.inl (8, [(6, 1, 0), (8, 4, 0), (8, 5, 0)]), ac_992], []), [((4, 6, 0), gi_1116, hq_824, [], [1])])
theorem hd_2068 : con_2068.1 = (yX8_at, cX8_at, 3, (some .long)) := rfl
noncomputable def cu_2068 : List CUT2 := []
theorem ch_2068 : staG tb_X8_at 1 bt_RX8 [] ct_1497 [] [] cu_2068 11 con_2068 = true := by decide +kernel
theorem vl_2068 (l : Launch) : Vld2 l vwCl gTbl con_2068 := conR_ok3 gT_all (hd_2068) rfl pn_RX8 tk_X8_at bo_RX8 xo_RX8 (cto_1497 l) ch_2068 cut_nil
/-- RookHusting$Slots at -/
noncomputable def gi_1562 : GI := jl_n [jl_z 7, jl_i 0 16]
noncomputable def gi_1563 : GI := jl_n [jl_z 7, gp_359]
noncomputable def con_2069 : Con2 := ((yX8_at, cX8_at, 3, (some .long)), (0, 0), ([(6, 0, 0), (0, 0, 0), (0, 1, 0)], gi_1562, [.inl (8, [(6, 1, 0), (8, 4, 0), (8, 5, 0)]), ac_993], []), [((4, 7, 0), gi_1563, hq_825, [], [1])])
theorem hd_2069 : con_2069.1 = (yX8_at, cX8_at, 3, (some .long)) := rfl
noncomputable def cu_2069 : List CUT2 := []
theorem ch_2069 : staG tb_X8_at 1 bt_RX8 [] ct_1497 [] [] cu_2069 11 con_2069 = true := by decide +kernel
theorem vl_2069 (l : Launch) : Vld2 l vwCl gTbl con_2069 := conR_ok3 gT_all (hd_2069) rfl pn_RX8 tk_X8_at bo_RX8 xo_RX8 (cto_1497 l) ch_2069 cut_nil
/-- RookHusting$Slots at -/
noncomputable def con_2070 : Con2 := ((yX8_at, cX8_at, 3, (some .long)), (0, 0), ([(6, 0, 0), (0, 0, 0), (0, 2, 0)], [(0, 0), (0, 0), (0, 0), (0, 0), (0, 0), (0, 0), (0, 250)], [.inl (8, [(6, 1, 0), (8, 4, 0), (8, 5, 0)]), ac_994], []), [((4, 6, 0), gi_1118, hq_826, [], [1])])
theorem hd_2070 : con_2070.1 = (yX8_at, cX8_at, 3, (some .long)) := rfl
noncomputable def cu_2070 : List CUT2 := []
theorem ch_2070 : staG tb_X8_at 1 bt_RX8 [] ct_1497 [] [] cu_2070 11 con_2070 = true := by decide +kernel
theorem vl_2070 (l : Launch) : Vld2 l vwCl gTbl con_2070 := conR_ok3 gT_all (hd_2070) rfl pn_RX8 tk_X8_at bo_RX8 xo_RX8 (cto_1497 l) ch_2070 cut_nil
/-- RookHusting$Slots at -/
noncomputable def con_2071 : Con2 := ((yX8_at, cX8_at, 3, (some .long)), (0, 0), ([(6, 0, 0), (0, 0, 0), (0, 3, 0)], [(0, 0), (0, 0), (0, 0), (0, 0), (0, 0), (0, 0), (0, 4)], [.inl (8, [(6, 1, 0), (8, 4, 0), (8, 5, 0)]), ac_995], []), [((4, 6, 0), gi_1116, hq_827, [], [1])])
theorem hd_2071 : con_2071.1 = (yX8_at, cX8_at, 3, (some .long)) := rfl
noncomputable def cu_2071 : List CUT2 := []
theorem ch_2071 : staG tb_X8_at 1 bt_RX8 [] ct_1497 [] [] cu_2071 11 con_2071 = true := by decide +kernel
theorem vl_2071 (l : Launch) : Vld2 l vwCl gTbl con_2071 := conR_ok3 gT_all (hd_2071) rfl pn_RX8 tk_X8_at bo_RX8 xo_RX8 (cto_1497 l) ch_2071 cut_nil
/-- RookHusting$Slots at -/
noncomputable def con_2072 : Con2 := ((yX8_at, cX8_at, 3, (some .long)), (0, 0), ([(6, 0, 0), (0, 0, 0), (0, 4, 0)], [(0, 0), (0, 0), (0, 0), (0, 0), (0, 0), (0, 0), (0, 16)], [.inl (8, [(6, 1, 0), (8, 4, 0), (8, 5, 0)]), ac_996], []), [((4, 6, 0), gi_1117, hq_828, [], [1])])
theorem hd_2072 : con_2072.1 = (yX8_at, cX8_at, 3, (some .long)) := rfl
noncomputable def cu_2072 : List CUT2 := []
theorem ch_2072 : staG tb_X8_at 1 bt_RX8 [] ct_1497 [] [] cu_2072 11 con_2072 = true := by decide +kernel
theorem vl_2072 (l : Launch) : Vld2 l vwCl gTbl con_2072 := conR_ok3 gT_all (hd_2072) rfl pn_RX8 tk_X8_at bo_RX8 xo_RX8 (cto_1497 l) ch_2072 cut_nil
/-- RookHusting$Slots at -/
noncomputable def con_2073 : Con2 := ((yX8_at, cX8_at, 3, (some .long)), (0, 0), ([(6, 0, 0), (0, 0, 0), (0, 5, 0)], [(0, 0), (0, 0), (0, 0), (0, 0), (0, 0), (0, 0), (0, 250)], [.inl (8, [(6, 1, 0), (8, 4, 0), (8, 5, 0)]), ac_997], []), [((4, 6, 0), gi_1118, hq_829, [], [1])])
theorem hd_2073 : con_2073.1 = (yX8_at, cX8_at, 3, (some .long)) := rfl
noncomputable def cu_2073 : List CUT2 := []
theorem ch_2073 : staG tb_X8_at 1 bt_RX8 [] ct_1497 [] [] cu_2073 11 con_2073 = true := by decide +kernel
theorem vl_2073 (l : Launch) : Vld2 l vwCl gTbl con_2073 := conR_ok3 gT_all (hd_2073) rfl pn_RX8 tk_X8_at bo_RX8 xo_RX8 (cto_1497 l) ch_2073 cut_nil
/-- RookHusting$Slots at -/
noncomputable def con_2074 : Con2 := ((yX8_at, cX8_at, 3, (some .long)), (0, 0), ([(6, 0, 0), (0, 0, 0), (0, 6, 0)], [(0, 0), (0, 0), (0, 0), (0, 0), (0, 0), (0, 0), (0, 4)], [.inl (8, [(6, 1, 0), (8, 4, 0), (8, 5, 0)]), ac_998], []), [((4, 6, 0), gi_1116, hq_830, [], [1])])
theorem hd_2074 : con_2074.1 = (yX8_at, cX8_at, 3, (some .long)) := rfl
noncomputable def cu_2074 : List CUT2 := []
theorem ch_2074 : staG tb_X8_at 1 bt_RX8 [] ct_1497 [] [] cu_2074 11 con_2074 = true := by decide +kernel
theorem vl_2074 (l : Launch) : Vld2 l vwCl gTbl con_2074 := conR_ok3 gT_all (hd_2074) rfl pn_RX8 tk_X8_at bo_RX8 xo_RX8 (cto_1497 l) ch_2074 cut_nil
/-- RookHusting$Slots at -/
noncomputable def con_2075 : Con2 := ((yX8_at, cX8_at, 3, (some .long)), (0, 0), ([(6, 0, 0), (0, 0, 0), (0, 7, 0)], [(0, 0), (0, 0), (0, 0), (0, 0), (0, 0), (0, 0), (0, 16)], [.inl (8, [(6, 1, 0), (8, 4, 0), (8, 5, 0)]), ac_999], []), [((4, 6, 0), gi_1117, hq_831, [], [1])])
theorem hd_2075 : con_2075.1 = (yX8_at, cX8_at, 3, (some .long)) := rfl
noncomputable def cu_2075 : List CUT2 := []
theorem ch_2075 : staG tb_X8_at 1 bt_RX8 [] ct_1497 [] [] cu_2075 11 con_2075 = true := by decide +kernel
theorem vl_2075 (l : Launch) : Vld2 l vwCl gTbl con_2075 := conR_ok3 gT_all (hd_2075) rfl pn_RX8 tk_X8_at bo_RX8 xo_RX8 (cto_1497 l) ch_2075 cut_nil
/-- RookHusting$Slots at -/
noncomputable def con_2076 : Con2 := ((yX8_at, cX8_at, 3, (some .long)), (0, 0), ([(6, 0, 0), (0, 0, 0), (0, 8, 0)], [(0, 0), (0, 0), (0, 0), (0, 0), (0, 0), (0, 0), (0, 250)], [.inl (8, [(6, 1, 0), (8, 4, 0), (8, 5, 0)]), ac_1000], []), [((4, 6, 0), gi_1118, hq_832, [], [1])])
theorem hd_2076 : con_2076.1 = (yX8_at, cX8_at, 3, (some .long)) := rfl
noncomputable def cu_2076 : List CUT2 := []
theorem ch_2076 : staG tb_X8_at 1 bt_RX8 [] ct_1497 [] [] cu_2076 11 con_2076 = true := by decide +kernel
theorem vl_2076 (l : Launch) : Vld2 l vwCl gTbl con_2076 := conR_ok3 gT_all (hd_2076) rfl pn_RX8 tk_X8_at bo_RX8 xo_RX8 (cto_1497 l) ch_2076 cut_nil
/-- RookHusting isAsSeen -/
noncomputable def gi_1564 : GI := jl_n [gp_687, jl_z 9]
noncomputable def ac_1081 : AC := .inr (2, jl_n [js_4 85 60, js_5 180 9223372036854775807 9223372036854775807])
noncomputable def hc_209 : List AC := [ac_1053, .inl (8, [(6, 3, 0), (8, 19, 0), (6, 2, 0)]), ac_1054, ac_1081, ac_1056, am_0]
noncomputable def gi_1565 : GI := jl_n [gp_687, jl_z 10]
noncomputable def hq_904 : HP := [(false, ac_1053), (false, .inl (8, [(6, 3, 0), (8, 19, 0), (6, 2, 0)])), (false, ac_1054), (false, ac_1081), (false, ac_1056), (false, am_0)]
noncomputable def con_2077 : Con2 := ((yX11_isAsSeen, cX11_isAsSeen, 4, (some .boolean)), (1, 22), ([(6, 0, 0), (0, 0, 0)], gi_1564, hc_209, []), [((0, 0, 0), gi_1565, hq_904, [], [1]), ((0, 1, 0), gi_1565, hq_904, [], [1])])
theorem hd_2077 : con_2077.1 = (yX11_isAsSeen, cX11_isAsSeen, 4, (some .boolean)) := rfl
theorem ck_RX11_473_2070 : COK2 RX11 vwCl gTbl 473 0 con_2070 := ⟨wd_1218, wd_131, mh_X8_at, .inr (.inr ⟨rfl, wd_1215, wd_1216, wd_1217, ⟨_, rfl, pd_X8_at⟩, 8, _, TX8, 3, rfl, rfl⟩)⟩
theorem ck_RX11_473_2073 : COK2 RX11 vwCl gTbl 473 0 con_2073 := ⟨wd_1218, wd_131, mh_X8_at, .inr (.inr ⟨rfl, wd_1215, wd_1216, wd_1217, ⟨_, rfl, pd_X8_at⟩, 8, _, TX8, 3, rfl, rfl⟩)⟩
theorem ck_RX11_473_2076 : COK2 RX11 vwCl gTbl 473 0 con_2076 := ⟨wd_1218, wd_131, mh_X8_at, .inr (.inr ⟨rfl, wd_1215, wd_1216, wd_1217, ⟨_, rfl, pd_X8_at⟩, 8, _, TX8, 3, rfl, rfl⟩)⟩
theorem ck_RX11_473_2069 : COK2 RX11 vwCl gTbl 473 0 con_2069 := ⟨wd_1218, wd_131, mh_X8_at, .inr (.inr ⟨rfl, wd_1215, wd_1216, wd_1217, ⟨_, rfl, pd_X8_at⟩, 8, _, TX8, 3, rfl, rfl⟩)⟩
theorem ck_RX11_473_2072 : COK2 RX11 vwCl gTbl 473 0 con_2072 := ⟨wd_1218, wd_131, mh_X8_at, .inr (.inr ⟨rfl, wd_1215, wd_1216, wd_1217, ⟨_, rfl, pd_X8_at⟩, 8, _, TX8, 3, rfl, rfl⟩)⟩
theorem ck_RX11_473_2075 : COK2 RX11 vwCl gTbl 473 0 con_2075 := ⟨wd_1218, wd_131, mh_X8_at, .inr (.inr ⟨rfl, wd_1215, wd_1216, wd_1217, ⟨_, rfl, pd_X8_at⟩, 8, _, TX8, 3, rfl, rfl⟩)⟩
theorem ck_RX11_473_2068 : COK2 RX11 vwCl gTbl 473 0 con_2068 := ⟨wd_1218, wd_131, mh_X8_at, .inr (.inr ⟨rfl, wd_1215, wd_1216, wd_1217, ⟨_, rfl, pd_X8_at⟩, 8, _, TX8, 3, rfl, rfl⟩)⟩
theorem ck_RX11_473_2071 : COK2 RX11 vwCl gTbl 473 0 con_2071 := ⟨wd_1218, wd_131, mh_X8_at, .inr (.inr ⟨rfl, wd_1215, wd_1216, wd_1217, ⟨_, rfl, pd_X8_at⟩, 8, _, TX8, 3, rfl, rfl⟩)⟩
theorem ck_RX11_473_2074 : COK2 RX11 vwCl gTbl 473 0 con_2074 := ⟨wd_1218, wd_131, mh_X8_at, .inr (.inr ⟨rfl, wd_1215, wd_1216, wd_1217, ⟨_, rfl, pd_X8_at⟩, 8, _, TX8, 3, rfl, rfl⟩)⟩
noncomputable def ct_2077 : CTB2 := [(21, 473, 0, con_2074, [1, 3]), (21, 473, 0, con_2071, [1, 3]), (21, 473, 0, con_2068, [1, 3]), (36, 473, 0, con_2075, [1, 3]), (36, 473, 0, con_2072, [1, 3]), (36, 473, 0, con_2069, [1, 3]), (60, 473, 0, con_2076, [1, 3]), (60, 473, 0, con_2073, [1, 3]), (60, 473, 0, con_2070, [1, 3])]
noncomputable def gi_1566 : GI := jl_n [gp_687, jl_z 12]
noncomputable def gi_1567 : GI := jl_n [gp_687, gp_618]
noncomputable def cu_2077 : List CUT2 := [((2, [lq 0 6 0, lq 1 0 0, lq 2 0 0], [], gi_1566, hq_904), [], ([], 9)), ((2, [lq 0 6 0, lq 1 0 0, lq 2 0 3, lq 3 1 97], [], gi_1567, hq_904), [], ([], 6)), ((2, [lq 0 6 0, lq 1 0 0, lq 2 0 6, lq 3 1 97], [], gi_1567, hq_904), [], ([], 3)), ((2, [lq 0 6 0, lq 1 0 0, lq 2 0 9, lq 3 1 97], [], gi_1567, hq_904), [], ([], 0))]
theorem ch_2077 : staG tb_X11_isAsSeen 1 bt_RX11 [] ct_2077 [] [] cu_2077 44 con_2077 = true := by decide +kernel
theorem cc_2077 : cu_2077.all (cutG tb_X11_isAsSeen 1 bt_RX11 [] ct_2077 [] [] cu_2077 44 con_2077) = true := by decide +kernel
theorem cto_2077 (l : Launch) : CTOK2 l RX11 vwCl gTbl ct_2077 := ct2_cons (vl_2074 l) ck_RX11_473_2074 (ct2_cons (vl_2071 l) ck_RX11_473_2071 (ct2_cons (vl_2068 l) ck_RX11_473_2068 (ct2_cons (vl_2075 l) ck_RX11_473_2075 (ct2_cons (vl_2072 l) ck_RX11_473_2072 (ct2_cons (vl_2069 l) ck_RX11_473_2069 (ct2_cons (vl_2076 l) ck_RX11_473_2076 (ct2_cons (vl_2073 l) ck_RX11_473_2073 (ct2_cons (vl_2070 l) ck_RX11_473_2070 (ct2_nil)))))))))
theorem vl_2077 (l : Launch) : Vld2 l vwCl gTbl con_2077 := conR_ok3 gT_all (hd_2077) rfl pn_RX11 tk_X11_isAsSeen bo_RX11 xo_RX11 (cto_2077 l) ch_2077 (cut_all cc_2077)
/-- RookHusting guessAll -/
noncomputable def gi_1568 : GI := jl_n [gp_620, gp_613]
noncomputable def ac_1082 : AC := .inr (2, jl_n [js_4 201 60, js_5 180 9223372036854775807 9223372036854775807])
noncomputable def hc_210 : List AC := [ac_1057, .inl (9, [(6, 3, 0), (6, 11, 0)]), .inl (7, [(6, 4, 0), (6, 5, 0), (6, 6, 0), (1, 24, 0)]), ac_1058, am_7, am_1, am_1, am_1, .inl (1, [(6, 3, 0), (8, 43, 0)]), am_4, am_6, .inl (0, [(1, 44, 0), (6, 12, 0), (6, 13, 0), (6, 14, 0)]), ac_642, am_11, ac_643, ac_1059, am_2, am_0, am_10, am_0, am_1, am_0, am_2, am_9, am_0, am_0, am_12, ac_1060, .inl (7, [(6, 29, 0), (6, 30, 0), (6, 31, 0), (1, 124, 0)]), am_7, am_1, am_1, ac_1061, am_0, am_0, am_1, am_0, am_0, am_0, am_12, .inl (8, [(6, 42, 0), (8, 135, 0), (6, 41, 0)]), ac_1062, ac_1082, am_16]
noncomputable def gi_1569 : GI := jl_n [gp_620, gp_613, gp_622]
noncomputable def hq_905 : HP := [(true, ac_1064), (false, .inl (9, [(6, 3, 0), (6, 11, 0)])), (true, .inl (7, [(6, 4, 0), (6, 5, 0), (6, 6, 0), (1, 220, 0)])), (false, ac_1058), (true, am_7), (true, am_1), (true, am_1), (false, am_1), (false, .inl (1, [(6, 3, 0), (8, 43, 0)])), (false, am_4), (false, am_6), (false, .inl (0, [(1, 44, 0), (6, 12, 0), (6, 13, 0), (6, 14, 0)])), (false, ac_642), (false, am_11), (false, ac_643), (true, ac_1065), (false, am_2), (true, am_0), (false, am_10), (true, am_0), (true, am_1), (true, am_0), (false, am_2), (false, am_9), (true, am_0), (true, am_0), (true, am_12), (true, ac_1066), (true, .inl (7, [(6, 29, 0), (6, 30, 0), (6, 31, 0), (1, 237, 0)])), (true, am_7), (true, am_1), (true, am_1), (true, ac_1067), (true, am_0), (true, am_0), (true, am_1), (true, am_0), (true, am_0), (true, am_0), (true, am_12), (false, .inl (8, [(6, 42, 0), (8, 135, 0), (6, 41, 0)])), (false, ac_1062), (false, ac_1082), (true, am_16)]
noncomputable def con_2078 : Con2 := ((yX11_guessAll, cX11_guessAll, 4, none), (6, 151), ([(6, 0, 0), (0, 0, 0), (1, 2, 0)], gi_1568, hc_210, rq_6), [((9, 0, 0), gi_1569, hq_905, [], tg_1)])
theorem hd_2078 : con_2078.1 = (yX11_guessAll, cX11_guessAll, 4, none) := rfl
theorem ck_RX11_483_2077 : COK2 RX11 vwCl gTbl 483 0 con_2077 := ⟨wd_1230, wd_125, mh_X11_isAsSeen, .inr (.inr ⟨rfl, wd_1227, wd_1229, wd_43, ⟨_, rfl, pd_X11_isAsSeen⟩, 11, _, TX11, 16, rfl, rfl⟩)⟩
noncomputable def ct_2078 : CTB2 := [(1, 208, 0, con_929, [0, 1, 2, 3, 4, 5, 6, 7, 8, 9, 10, 11, 12, 13, 14, 15, 16, 17, 18, 19, 20, 21, 22, 23, 24, 25, 26]), (36, 332, 0, con_1456, [28, 2, 29, 4, 30, 5, 31, 6]), (45, 480, 0, con_869, [28, 29]), (73, 372, 0, con_928, [32, 3, 28, 16, 33, 18, 34, 30, 35, 29, 36, 22, 23, 37, 38, 39, 31]), (78, 483, 0, con_2077, [0, 40, 41, 42, 32, 33]), (105, 486, 0, con_1766, [27, 33, 43]), (105, 486, 0, con_1771, [27, 33, 43])]
noncomputable def gi_1570 : GI := jl_n [gp_620, gp_613, gp_623]
noncomputable def hq_906 : HP := [(true, ac_1064), (false, .inl (9, [(6, 3, 0), (6, 11, 0)])), (true, .inl (7, [(6, 4, 0), (6, 5, 0), (6, 6, 0), (1, 224, 0)])), (false, ac_1058), (true, am_7), (true, am_1), (true, am_1), (false, am_1), (false, .inl (1, [(6, 3, 0), (8, 43, 0)])), (false, am_4), (false, am_6), (false, .inl (0, [(1, 44, 0), (6, 12, 0), (6, 13, 0), (6, 14, 0)])), (false, ac_642), (false, am_11), (false, ac_643), (true, ac_1068), (false, am_2), (true, am_0), (false, am_10), (true, am_0), (true, am_1), (true, am_0), (false, am_2), (false, am_9), (true, am_0), (true, am_0), (true, am_12), (true, ac_1069), (true, .inl (7, [(6, 29, 0), (6, 30, 0), (6, 31, 0), (1, 241, 0)])), (true, am_7), (true, am_1), (true, am_1), (true, ac_1070), (true, am_0), (true, am_0), (true, am_1), (true, am_0), (true, am_0), (true, am_0), (true, am_12), (false, .inl (8, [(6, 42, 0), (8, 135, 0), (6, 41, 0)])), (false, ac_1062), (false, ac_1082), (true, am_16)]
noncomputable def cu_2078 : List CUT2 := [((14, [lq 0 6 0, lq 1 0 0, lq 2 1 2, lq 3 1 204], [], gi_1570, hq_906), rq_6, ([(204, (-1))], 5))]
theorem ch_2078 : staG tb_X11_guessAll 1 bt_RX11 [] ct_2078 [] [] cu_2078 48 con_2078 = true := by decide +kernel
theorem cc_2078 : cu_2078.all (cutG tb_X11_guessAll 1 bt_RX11 [] ct_2078 [] [] cu_2078 48 con_2078) = true := by decide +kernel
theorem cto_2078 (l : Launch) : CTOK2 l RX11 vwCl gTbl ct_2078 := ct2_cons (vl_929 l) ck_RX11_208_929 (ct2_cons (vl_1456 l) ck_RX11_332_1456 (ct2_cons (vl_869 l) ck_RX11_480_869 (ct2_cons (vl_928 l) ck_RX11_372_928 (ct2_cons (vl_2077 l) ck_RX11_483_2077 (ct2_cons (vl_1766 l) ck_RX11_486_1766 (ct2_cons (vl_1771 l) ck_RX11_486_1771 (ct2_nil)))))))
theorem vl_2078 (l : Launch) : Vld2 l vwCl gTbl con_2078 := conR_ok3 gT_all (hd_2078) rfl pn_RX11 tk_X11_guessAll bo_RX11 xo_RX11 (cto_2078 l) ch_2078 (cut_all cc_2078)
/-- RookHusting$Slots at -/
noncomputable def con_2079 : Con2 := ((yX8_at, cX8_at, 3, (some .long)), (0, 0), ([(6, 0, 0), (0, 0, 0), (0, 9, 0)], [(0, 0), (0, 0), (0, 0), (0, 0), (0, 0), (0, 0), (0, 4)], [.inl (8, [(6, 1, 0), (8, 4, 0), (8, 5, 0)]), ac_1001], []), [((4, 6, 0), gi_1116, hq_833, [], [1])])
theorem hd_2079 : con_2079.1 = (yX8_at, cX8_at, 3, (some .long)) := rfl
noncomputable def cu_2079 : List CUT2 := []
theorem ch_2079 : staG tb_X8_at 1 bt_RX8 [] ct_1497 [] [] cu_2079 11 con_2079 = true := by decide +kernel
theorem vl_2079 (l : Launch) : Vld2 l vwCl gTbl con_2079 := conR_ok3 gT_all (hd_2079) rfl pn_RX8 tk_X8_at bo_RX8 xo_RX8 (cto_1497 l) ch_2079 cut_nil
/-- RookHusting$Slots at -/
noncomputable def con_2080 : Con2 := ((yX8_at, cX8_at, 3, (some .long)), (0, 0), ([(6, 0, 0), (0, 0, 0), (0, 10, 0)], [(0, 0), (0, 0), (0, 0), (0, 0), (0, 0), (0, 0), (0, 16)], [.inl (8, [(6, 1, 0), (8, 4, 0), (8, 5, 0)]), ac_1002], []), [((4, 6, 0), gi_1117, hq_834, [], [1])])
theorem hd_2080 : con_2080.1 = (yX8_at, cX8_at, 3, (some .long)) := rfl
noncomputable def cu_2080 : List CUT2 := []
theorem ch_2080 : staG tb_X8_at 1 bt_RX8 [] ct_1497 [] [] cu_2080 11 con_2080 = true := by decide +kernel
theorem vl_2080 (l : Launch) : Vld2 l vwCl gTbl con_2080 := conR_ok3 gT_all (hd_2080) rfl pn_RX8 tk_X8_at bo_RX8 xo_RX8 (cto_1497 l) ch_2080 cut_nil
/-- RookHusting$Slots at -/
noncomputable def con_2081 : Con2 := ((yX8_at, cX8_at, 3, (some .long)), (0, 0), ([(6, 0, 0), (0, 0, 0), (0, 11, 0)], [(0, 0), (0, 0), (0, 0), (0, 0), (0, 0), (0, 0), (0, 250)], [.inl (8, [(6, 1, 0), (8, 4, 0), (8, 5, 0)]), ac_1003], []), [((4, 6, 0), gi_1118, hq_835, [], [1])])
theorem hd_2081 : con_2081.1 = (yX8_at, cX8_at, 3, (some .long)) := rfl
noncomputable def cu_2081 : List CUT2 := []
theorem ch_2081 : staG tb_X8_at 1 bt_RX8 [] ct_1497 [] [] cu_2081 11 con_2081 = true := by decide +kernel
theorem vl_2081 (l : Launch) : Vld2 l vwCl gTbl con_2081 := conR_ok3 gT_all (hd_2081) rfl pn_RX8 tk_X8_at bo_RX8 xo_RX8 (cto_1497 l) ch_2081 cut_nil
/-- RookHusting$Slots at -/
noncomputable def con_2082 : Con2 := ((yX8_at, cX8_at, 3, (some .long)), (0, 0), ([(6, 0, 0), (0, 0, 0), (0, 12, 0)], [(0, 0), (0, 0), (0, 0), (0, 0), (0, 0), (0, 0), (0, 4)], [.inl (8, [(6, 1, 0), (8, 4, 0), (8, 5, 0)]), ac_1004], []), [((4, 6, 0), gi_1116, hq_836, [], [1])])
theorem hd_2082 : con_2082.1 = (yX8_at, cX8_at, 3, (some .long)) := rfl
noncomputable def cu_2082 : List CUT2 := []
theorem ch_2082 : staG tb_X8_at 1 bt_RX8 [] ct_1497 [] [] cu_2082 11 con_2082 = true := by decide +kernel
theorem vl_2082 (l : Launch) : Vld2 l vwCl gTbl con_2082 := conR_ok3 gT_all (hd_2082) rfl pn_RX8 tk_X8_at bo_RX8 xo_RX8 (cto_1497 l) ch_2082 cut_nil
/-- RookHusting$Slots at -/
noncomputable def con_2083 : Con2 := ((yX8_at, cX8_at, 3, (some .long)), (0, 0), ([(6, 0, 0), (0, 0, 0), (0, 13, 0)], [(0, 0), (0, 0), (0, 0), (0, 0), (0, 0), (0, 0), (0, 16)], [.inl (8, [(6, 1, 0), (8, 4, 0), (8, 5, 0)]), ac_1005], []), [((4, 6, 0), gi_1117, hq_837, [], [1])])
theorem hd_2083 : con_2083.1 = (yX8_at, cX8_at, 3, (some .long)) := rfl
noncomputable def cu_2083 : List CUT2 := []
theorem ch_2083 : staG tb_X8_at 1 bt_RX8 [] ct_1497 [] [] cu_2083 11 con_2083 = true := by decide +kernel
theorem vl_2083 (l : Launch) : Vld2 l vwCl gTbl con_2083 := conR_ok3 gT_all (hd_2083) rfl pn_RX8 tk_X8_at bo_RX8 xo_RX8 (cto_1497 l) ch_2083 cut_nil
/-- RookHusting$Slots at -/
noncomputable def con_2084 : Con2 := ((yX8_at, cX8_at, 3, (some .long)), (0, 0), ([(6, 0, 0), (0, 0, 0), (0, 14, 0)], [(0, 0), (0, 0), (0, 0), (0, 0), (0, 0), (0, 0), (0, 250)], [.inl (8, [(6, 1, 0), (8, 4, 0), (8, 5, 0)]), ac_1006], []), [((4, 6, 0), gi_1118, hq_838, [], [1])])
theorem hd_2084 : con_2084.1 = (yX8_at, cX8_at, 3, (some .long)) := rfl
noncomputable def cu_2084 : List CUT2 := []
theorem ch_2084 : staG tb_X8_at 1 bt_RX8 [] ct_1497 [] [] cu_2084 11 con_2084 = true := by decide +kernel
theorem vl_2084 (l : Launch) : Vld2 l vwCl gTbl con_2084 := conR_ok3 gT_all (hd_2084) rfl pn_RX8 tk_X8_at bo_RX8 xo_RX8 (cto_1497 l) ch_2084 cut_nil
/-- RookHusting$Slots at -/
noncomputable def con_2085 : Con2 := ((yX8_at, cX8_at, 3, (some .long)), (0, 0), ([(6, 0, 0), (0, 0, 0), (0, 15, 0)], [(0, 0), (0, 0), (0, 0), (0, 0), (0, 0), (0, 0), (0, 4)], [.inl (8, [(6, 1, 0), (8, 4, 0), (8, 5, 0)]), ac_1007], []), [((4, 6, 0), gi_1116, hq_839, [], [1])])
theorem hd_2085 : con_2085.1 = (yX8_at, cX8_at, 3, (some .long)) := rfl
noncomputable def cu_2085 : List CUT2 := []
theorem ch_2085 : staG tb_X8_at 1 bt_RX8 [] ct_1497 [] [] cu_2085 11 con_2085 = true := by decide +kernel
theorem vl_2085 (l : Launch) : Vld2 l vwCl gTbl con_2085 := conR_ok3 gT_all (hd_2085) rfl pn_RX8 tk_X8_at bo_RX8 xo_RX8 (cto_1497 l) ch_2085 cut_nil
/-- RookHusting$Slots at -/
noncomputable def con_2086 : Con2 := ((yX8_at, cX8_at, 3, (some .long)), (0, 0), ([(6, 0, 0), (0, 0, 0), (0, 16, 0)], [(0, 0), (0, 0), (0, 0), (0, 0), (0, 0), (0, 0), (0, 16)], [.inl (8, [(6, 1, 0), (8, 4, 0), (8, 5, 0)]), ac_1008], []), [((4, 6, 0), gi_1117, hq_840, [], [1])])
theorem hd_2086 : con_2086.1 = (yX8_at, cX8_at, 3, (some .long)) := rfl
noncomputable def cu_2086 : List CUT2 := []
theorem ch_2086 : staG tb_X8_at 1 bt_RX8 [] ct_1497 [] [] cu_2086 11 con_2086 = true := by decide +kernel
theorem vl_2086 (l : Launch) : Vld2 l vwCl gTbl con_2086 := conR_ok3 gT_all (hd_2086) rfl pn_RX8 tk_X8_at bo_RX8 xo_RX8 (cto_1497 l) ch_2086 cut_nil
/-- RookHusting$Slots at -/
noncomputable def con_2087 : Con2 := ((yX8_at, cX8_at, 3, (some .long)), (0, 0), ([(6, 0, 0), (0, 0, 0), (0, 17, 0)], [(0, 0), (0, 0), (0, 0), (0, 0), (0, 0), (0, 0), (0, 250)], [.inl (8, [(6, 1, 0), (8, 4, 0), (8, 5, 0)]), ac_1009], []), [((4, 6, 0), gi_1118, hq_841, [], [1])])
theorem hd_2087 : con_2087.1 = (yX8_at, cX8_at, 3, (some .long)) := rfl
noncomputable def cu_2087 : List CUT2 := []
theorem ch_2087 : staG tb_X8_at 1 bt_RX8 [] ct_1497 [] [] cu_2087 11 con_2087 = true := by decide +kernel
theorem vl_2087 (l : Launch) : Vld2 l vwCl gTbl con_2087 := conR_ok3 gT_all (hd_2087) rfl pn_RX8 tk_X8_at bo_RX8 xo_RX8 (cto_1497 l) ch_2087 cut_nil
/-- RookHusting$Slots at -/
noncomputable def con_2088 : Con2 := ((yX8_at, cX8_at, 3, (some .long)), (0, 0), ([(6, 0, 0), (0, 0, 0), (0, 18, 0)], [(0, 0), (0, 0), (0, 0), (0, 0), (0, 0), (0, 0), (0, 4)], [.inl (8, [(6, 1, 0), (8, 4, 0), (8, 5, 0)]), ac_1010], []), [((4, 6, 0), gi_1116, hq_842, [], [1])])
theorem hd_2088 : con_2088.1 = (yX8_at, cX8_at, 3, (some .long)) := rfl
noncomputable def cu_2088 : List CUT2 := []
theorem ch_2088 : staG tb_X8_at 1 bt_RX8 [] ct_1497 [] [] cu_2088 11 con_2088 = true := by decide +kernel
theorem vl_2088 (l : Launch) : Vld2 l vwCl gTbl con_2088 := conR_ok3 gT_all (hd_2088) rfl pn_RX8 tk_X8_at bo_RX8 xo_RX8 (cto_1497 l) ch_2088 cut_nil
/-- RookHusting$Slots at -/
noncomputable def con_2089 : Con2 := ((yX8_at, cX8_at, 3, (some .long)), (0, 0), ([(6, 0, 0), (0, 0, 0), (0, 19, 0)], [(0, 0), (0, 0), (0, 0), (0, 0), (0, 0), (0, 0), (0, 16)], [.inl (8, [(6, 1, 0), (8, 4, 0), (8, 5, 0)]), ac_1011], []), [((4, 6, 0), gi_1117, hq_843, [], [1])])
theorem hd_2089 : con_2089.1 = (yX8_at, cX8_at, 3, (some .long)) := rfl
noncomputable def cu_2089 : List CUT2 := []
theorem ch_2089 : staG tb_X8_at 1 bt_RX8 [] ct_1497 [] [] cu_2089 11 con_2089 = true := by decide +kernel
theorem vl_2089 (l : Launch) : Vld2 l vwCl gTbl con_2089 := conR_ok3 gT_all (hd_2089) rfl pn_RX8 tk_X8_at bo_RX8 xo_RX8 (cto_1497 l) ch_2089 cut_nil
/-- RookHusting$Slots at -/
noncomputable def con_2090 : Con2 := ((yX8_at, cX8_at, 3, (some .long)), (0, 0), ([(6, 0, 0), (0, 0, 0), (0, 20, 0)], [(0, 0), (0, 0), (0, 0), (0, 0), (0, 0), (0, 0), (0, 250)], [.inl (8, [(6, 1, 0), (8, 4, 0), (8, 5, 0)]), ac_1012], []), [((4, 6, 0), gi_1118, hq_844, [], [1])])
theorem hd_2090 : con_2090.1 = (yX8_at, cX8_at, 3, (some .long)) := rfl
noncomputable def cu_2090 : List CUT2 := []
theorem ch_2090 : staG tb_X8_at 1 bt_RX8 [] ct_1497 [] [] cu_2090 11 con_2090 = true := by decide +kernel
theorem vl_2090 (l : Launch) : Vld2 l vwCl gTbl con_2090 := conR_ok3 gT_all (hd_2090) rfl pn_RX8 tk_X8_at bo_RX8 xo_RX8 (cto_1497 l) ch_2090 cut_nil
/-- RookHusting$Slots at -/
noncomputable def con_2091 : Con2 := ((yX8_at, cX8_at, 3, (some .long)), (0, 0), ([(6, 0, 0), (0, 0, 0), (0, 21, 0)], [(0, 0), (0, 0), (0, 0), (0, 0), (0, 0), (0, 0), (0, 4)], [.inl (8, [(6, 1, 0), (8, 4, 0), (8, 5, 0)]), ac_1013], []), [((4, 6, 0), gi_1116, hq_845, [], [1])])
theorem hd_2091 : con_2091.1 = (yX8_at, cX8_at, 3, (some .long)) := rfl
noncomputable def cu_2091 : List CUT2 := []
theorem ch_2091 : staG tb_X8_at 1 bt_RX8 [] ct_1497 [] [] cu_2091 11 con_2091 = true := by decide +kernel
theorem vl_2091 (l : Launch) : Vld2 l vwCl gTbl con_2091 := conR_ok3 gT_all (hd_2091) rfl pn_RX8 tk_X8_at bo_RX8 xo_RX8 (cto_1497 l) ch_2091 cut_nil
/-- RookHusting$Slots at -/
noncomputable def con_2092 : Con2 := ((yX8_at, cX8_at, 3, (some .long)), (0, 0), ([(6, 0, 0), (0, 0, 0), (0, 22, 0)], [(0, 0), (0, 0), (0, 0), (0, 0), (0, 0), (0, 0), (0, 16)], [.inl (8, [(6, 1, 0), (8, 4, 0), (8, 5, 0)]), ac_1014], []), [((4, 6, 0), gi_1117, hq_846, [], [1])])
theorem hd_2092 : con_2092.1 = (yX8_at, cX8_at, 3, (some .long)) := rfl
noncomputable def cu_2092 : List CUT2 := []
theorem ch_2092 : staG tb_X8_at 1 bt_RX8 [] ct_1497 [] [] cu_2092 11 con_2092 = true := by decide +kernel
theorem vl_2092 (l : Launch) : Vld2 l vwCl gTbl con_2092 := conR_ok3 gT_all (hd_2092) rfl pn_RX8 tk_X8_at bo_RX8 xo_RX8 (cto_1497 l) ch_2092 cut_nil
/-- RookHusting$Slots at -/
noncomputable def con_2093 : Con2 := ((yX8_at, cX8_at, 3, (some .long)), (0, 0), ([(6, 0, 0), (0, 0, 0), (0, 23, 0)], [(0, 0), (0, 0), (0, 0), (0, 0), (0, 0), (0, 0), (0, 250)], [.inl (8, [(6, 1, 0), (8, 4, 0), (8, 5, 0)]), ac_1015], []), [((4, 6, 0), gi_1118, hq_847, [], [1])])
theorem hd_2093 : con_2093.1 = (yX8_at, cX8_at, 3, (some .long)) := rfl
noncomputable def cu_2093 : List CUT2 := []
theorem ch_2093 : staG tb_X8_at 1 bt_RX8 [] ct_1497 [] [] cu_2093 11 con_2093 = true := by decide +kernel
theorem vl_2093 (l : Launch) : Vld2 l vwCl gTbl con_2093 := conR_ok3 gT_all (hd_2093) rfl pn_RX8 tk_X8_at bo_RX8 xo_RX8 (cto_1497 l) ch_2093 cut_nil
/-- RookHusting$Slots at -/
noncomputable def con_2094 : Con2 := ((yX8_at, cX8_at, 3, (some .long)), (0, 0), ([(6, 0, 0), (0, 0, 0), (0, 24, 0)], [(0, 0), (0, 0), (0, 0), (0, 0), (0, 0), (0, 0), (0, 4)], [.inl (8, [(6, 1, 0), (8, 4, 0), (8, 5, 0)]), ac_1016], []), [((4, 6, 0), gi_1116, hq_848, [], [1])])
theorem hd_2094 : con_2094.1 = (yX8_at, cX8_at, 3, (some .long)) := rfl
noncomputable def cu_2094 : List CUT2 := []
theorem ch_2094 : staG tb_X8_at 1 bt_RX8 [] ct_1497 [] [] cu_2094 11 con_2094 = true := by decide +kernel
theorem vl_2094 (l : Launch) : Vld2 l vwCl gTbl con_2094 := conR_ok3 gT_all (hd_2094) rfl pn_RX8 tk_X8_at bo_RX8 xo_RX8 (cto_1497 l) ch_2094 cut_nil
/-- RookHusting$Slots at -/
noncomputable def con_2095 : Con2 := ((yX8_at, cX8_at, 3, (some .long)), (0, 0), ([(6, 0, 0), (0, 0, 0), (0, 25, 0)], [(0, 0), (0, 0), (0, 0), (0, 0), (0, 0), (0, 0), (0, 16)], [.inl (8, [(6, 1, 0), (8, 4, 0), (8, 5, 0)]), ac_1017], []), [((4, 6, 0), gi_1117, hq_849, [], [1])])
theorem hd_2095 : con_2095.1 = (yX8_at, cX8_at, 3, (some .long)) := rfl
noncomputable def cu_2095 : List CUT2 := []
theorem ch_2095 : staG tb_X8_at 1 bt_RX8 [] ct_1497 [] [] cu_2095 11 con_2095 = true := by decide +kernel
theorem vl_2095 (l : Launch) : Vld2 l vwCl gTbl con_2095 := conR_ok3 gT_all (hd_2095) rfl pn_RX8 tk_X8_at bo_RX8 xo_RX8 (cto_1497 l) ch_2095 cut_nil
/-- RookHusting$Slots at -/
noncomputable def con_2096 : Con2 := ((yX8_at, cX8_at, 3, (some .long)), (0, 0), ([(6, 0, 0), (0, 0, 0), (0, 26, 0)], [(0, 0), (0, 0), (0, 0), (0, 0), (0, 0), (0, 0), (0, 250)], [.inl (8, [(6, 1, 0), (8, 4, 0), (8, 5, 0)]), ac_1018], []), [((4, 6, 0), gi_1118, hq_850, [], [1])])
theorem hd_2096 : con_2096.1 = (yX8_at, cX8_at, 3, (some .long)) := rfl
noncomputable def cu_2096 : List CUT2 := []
theorem ch_2096 : staG tb_X8_at 1 bt_RX8 [] ct_1497 [] [] cu_2096 11 con_2096 = true := by decide +kernel
theorem vl_2096 (l : Launch) : Vld2 l vwCl gTbl con_2096 := conR_ok3 gT_all (hd_2096) rfl pn_RX8 tk_X8_at bo_RX8 xo_RX8 (cto_1497 l) ch_2096 cut_nil
/-- RookHusting$Slots at -/
noncomputable def con_2097 : Con2 := ((yX8_at, cX8_at, 3, (some .long)), (0, 0), ([(6, 0, 0), (0, 0, 0), (0, 27, 0)], [(0, 0), (0, 0), (0, 0), (0, 0), (0, 0), (0, 0), (0, 4)], [.inl (8, [(6, 1, 0), (8, 4, 0), (8, 5, 0)]), ac_1019], []), [((4, 6, 0), gi_1116, hq_851, [], [1])])
theorem hd_2097 : con_2097.1 = (yX8_at, cX8_at, 3, (some .long)) := rfl
noncomputable def cu_2097 : List CUT2 := []
theorem ch_2097 : staG tb_X8_at 1 bt_RX8 [] ct_1497 [] [] cu_2097 11 con_2097 = true := by decide +kernel
theorem vl_2097 (l : Launch) : Vld2 l vwCl gTbl con_2097 := conR_ok3 gT_all (hd_2097) rfl pn_RX8 tk_X8_at bo_RX8 xo_RX8 (cto_1497 l) ch_2097 cut_nil
/-- RookHusting$Slots at -/
noncomputable def con_2098 : Con2 := ((yX8_at, cX8_at, 3, (some .long)), (0, 0), ([(6, 0, 0), (0, 0, 0), (0, 28, 0)], [(0, 0), (0, 0), (0, 0), (0, 0), (0, 0), (0, 0), (0, 16)], [.inl (8, [(6, 1, 0), (8, 4, 0), (8, 5, 0)]), ac_1020], []), [((4, 6, 0), gi_1117, hq_852, [], [1])])
theorem hd_2098 : con_2098.1 = (yX8_at, cX8_at, 3, (some .long)) := rfl
noncomputable def cu_2098 : List CUT2 := []
theorem ch_2098 : staG tb_X8_at 1 bt_RX8 [] ct_1497 [] [] cu_2098 11 con_2098 = true := by decide +kernel
theorem vl_2098 (l : Launch) : Vld2 l vwCl gTbl con_2098 := conR_ok3 gT_all (hd_2098) rfl pn_RX8 tk_X8_at bo_RX8 xo_RX8 (cto_1497 l) ch_2098 cut_nil
/-- RookHusting$Slots at -/
noncomputable def con_2099 : Con2 := ((yX8_at, cX8_at, 3, (some .long)), (0, 0), ([(6, 0, 0), (0, 0, 0), (0, 29, 0)], [(0, 0), (0, 0), (0, 0), (0, 0), (0, 0), (0, 0), (0, 250)], [.inl (8, [(6, 1, 0), (8, 4, 0), (8, 5, 0)]), ac_1021], []), [((4, 6, 0), gi_1118, hq_853, [], [1])])
theorem hd_2099 : con_2099.1 = (yX8_at, cX8_at, 3, (some .long)) := rfl
noncomputable def cu_2099 : List CUT2 := []
theorem ch_2099 : staG tb_X8_at 1 bt_RX8 [] ct_1497 [] [] cu_2099 11 con_2099 = true := by decide +kernel
theorem vl_2099 (l : Launch) : Vld2 l vwCl gTbl con_2099 := conR_ok3 gT_all (hd_2099) rfl pn_RX8 tk_X8_at bo_RX8 xo_RX8 (cto_1497 l) ch_2099 cut_nil
/-- RookHusting$Slots at -/
noncomputable def con_2100 : Con2 := ((yX8_at, cX8_at, 3, (some .long)), (0, 0), ([(6, 0, 0), (0, 0, 0), (0, 30, 0)], [(0, 0), (0, 0), (0, 0), (0, 0), (0, 0), (0, 0), (0, 4)], [.inl (8, [(6, 1, 0), (8, 4, 0), (8, 5, 0)]), ac_1022], []), [((4, 6, 0), gi_1116, hq_854, [], [1])])
theorem hd_2100 : con_2100.1 = (yX8_at, cX8_at, 3, (some .long)) := rfl
noncomputable def cu_2100 : List CUT2 := []
theorem ch_2100 : staG tb_X8_at 1 bt_RX8 [] ct_1497 [] [] cu_2100 11 con_2100 = true := by decide +kernel
theorem vl_2100 (l : Launch) : Vld2 l vwCl gTbl con_2100 := conR_ok3 gT_all (hd_2100) rfl pn_RX8 tk_X8_at bo_RX8 xo_RX8 (cto_1497 l) ch_2100 cut_nil
/-- RookHusting$Slots at -/
noncomputable def con_2101 : Con2 := ((yX8_at, cX8_at, 3, (some .long)), (0, 0), ([(6, 0, 0), (0, 0, 0), (0, 31, 0)], [(0, 0), (0, 0), (0, 0), (0, 0), (0, 0), (0, 0), (0, 16)], [.inl (8, [(6, 1, 0), (8, 4, 0), (8, 5, 0)]), ac_1023], []), [((4, 6, 0), gi_1117, hq_855, [], [1])])
theorem hd_2101 : con_2101.1 = (yX8_at, cX8_at, 3, (some .long)) := rfl
noncomputable def cu_2101 : List CUT2 := []
theorem ch_2101 : staG tb_X8_at 1 bt_RX8 [] ct_1497 [] [] cu_2101 11 con_2101 = true := by decide +kernel
theorem vl_2101 (l : Launch) : Vld2 l vwCl gTbl con_2101 := conR_ok3 gT_all (hd_2101) rfl pn_RX8 tk_X8_at bo_RX8 xo_RX8 (cto_1497 l) ch_2101 cut_nil
/-- RookHusting$Slots at -/
noncomputable def con_2102 : Con2 := ((yX8_at, cX8_at, 3, (some .long)), (0, 0), ([(6, 0, 0), (0, 0, 0), (0, 32, 0)], [(0, 0), (0, 0), (0, 0), (0, 0), (0, 0), (0, 0), (0, 250)], [.inl (8, [(6, 1, 0), (8, 4, 0), (8, 5, 0)]), ac_1024], []), [((4, 6, 0), gi_1118, hq_856, [], [1])])
theorem hd_2102 : con_2102.1 = (yX8_at, cX8_at, 3, (some .long)) := rfl
noncomputable def cu_2102 : List CUT2 := []
theorem ch_2102 : staG tb_X8_at 1 bt_RX8 [] ct_1497 [] [] cu_2102 11 con_2102 = true := by decide +kernel
theorem vl_2102 (l : Launch) : Vld2 l vwCl gTbl con_2102 := conR_ok3 gT_all (hd_2102) rfl pn_RX8 tk_X8_at bo_RX8 xo_RX8 (cto_1497 l) ch_2102 cut_nil
/-- RookHusting$Slots at -/
noncomputable def con_2103 : Con2 := ((yX8_at, cX8_at, 3, (some .long)), (0, 0), ([(6, 0, 0), (0, 0, 0), (0, 33, 0)], [(0, 0), (0, 0), (0, 0), (0, 0), (0, 0), (0, 0), (0, 4)], [.inl (8, [(6, 1, 0), (8, 4, 0), (8, 5, 0)]), ac_1025], []), [((4, 6, 0), gi_1116, hq_857, [], [1])])
theorem hd_2103 : con_2103.1 = (yX8_at, cX8_at, 3, (some .long)) := rfl
noncomputable def cu_2103 : List CUT2 := []
theorem ch_2103 : staG tb_X8_at 1 bt_RX8 [] ct_1497 [] [] cu_2103 11 con_2103 = true := by decide +kernel
theorem vl_2103 (l : Launch) : Vld2 l vwCl gTbl con_2103 := conR_ok3 gT_all (hd_2103) rfl pn_RX8 tk_X8_at bo_RX8 xo_RX8 (cto_1497 l) ch_2103 cut_nil
/-- RookHusting$Slots at -/
noncomputable def con_2104 : Con2 := ((yX8_at, cX8_at, 3, (some .long)), (0, 0), ([(6, 0, 0), (0, 0, 0), (0, 34, 0)], [(0, 0), (0, 0), (0, 0), (0, 0), (0, 0), (0, 0), (0, 16)], [.inl (8, [(6, 1, 0), (8, 4, 0), (8, 5, 0)]), ac_1026], []), [((4, 6, 0), gi_1117, hq_858, [], [1])])
theorem hd_2104 : con_2104.1 = (yX8_at, cX8_at, 3, (some .long)) := rfl
noncomputable def cu_2104 : List CUT2 := []
theorem ch_2104 : staG tb_X8_at 1 bt_RX8 [] ct_1497 [] [] cu_2104 11 con_2104 = true := by decide +kernel
theorem vl_2104 (l : Launch) : Vld2 l vwCl gTbl con_2104 := conR_ok3 gT_all (hd_2104) rfl pn_RX8 tk_X8_at bo_RX8 xo_RX8 (cto_1497 l) ch_2104 cut_nil
/-- RookHusting$Slots at -/
noncomputable def con_2105 : Con2 := ((yX8_at, cX8_at, 3, (some .long)), (0, 0), ([(6, 0, 0), (0, 0, 0), (0, 35, 0)], [(0, 0), (0, 0), (0, 0), (0, 0), (0, 0), (0, 0), (0, 250)], [.inl (8, [(6, 1, 0), (8, 4, 0), (8, 5, 0)]), ac_1027], []), [((4, 6, 0), gi_1118, hq_859, [], [1])])
theorem hd_2105 : con_2105.1 = (yX8_at, cX8_at, 3, (some .long)) := rfl
noncomputable def cu_2105 : List CUT2 := []
theorem ch_2105 : staG tb_X8_at 1 bt_RX8 [] ct_1497 [] [] cu_2105 11 con_2105 = true := by decide +kernel
theorem vl_2105 (l : Launch) : Vld2 l vwCl gTbl con_2105 := conR_ok3 gT_all (hd_2105) rfl pn_RX8 tk_X8_at bo_RX8 xo_RX8 (cto_1497 l) ch_2105 cut_nil
/-- RookHusting$Slots at -/
noncomputable def con_2106 : Con2 := ((yX8_at, cX8_at, 3, (some .long)), (0, 0), ([(6, 0, 0), (0, 0, 0), (0, 36, 0)], [(0, 0), (0, 0), (0, 0), (0, 0), (0, 0), (0, 0), (0, 4)], [.inl (8, [(6, 1, 0), (8, 4, 0), (8, 5, 0)]), ac_1028], []), [((4, 6, 0), gi_1116, hq_860, [], [1])])
theorem hd_2106 : con_2106.1 = (yX8_at, cX8_at, 3, (some .long)) := rfl
noncomputable def cu_2106 : List CUT2 := []
theorem ch_2106 : staG tb_X8_at 1 bt_RX8 [] ct_1497 [] [] cu_2106 11 con_2106 = true := by decide +kernel
theorem vl_2106 (l : Launch) : Vld2 l vwCl gTbl con_2106 := conR_ok3 gT_all (hd_2106) rfl pn_RX8 tk_X8_at bo_RX8 xo_RX8 (cto_1497 l) ch_2106 cut_nil
/-- RookHusting$Slots at -/
noncomputable def con_2107 : Con2 := ((yX8_at, cX8_at, 3, (some .long)), (0, 0), ([(6, 0, 0), (0, 0, 0), (0, 37, 0)], [(0, 0), (0, 0), (0, 0), (0, 0), (0, 0), (0, 0), (0, 16)], [.inl (8, [(6, 1, 0), (8, 4, 0), (8, 5, 0)]), ac_1029], []), [((4, 6, 0), gi_1117, hq_861, [], [1])])
theorem hd_2107 : con_2107.1 = (yX8_at, cX8_at, 3, (some .long)) := rfl
noncomputable def cu_2107 : List CUT2 := []
theorem ch_2107 : staG tb_X8_at 1 bt_RX8 [] ct_1497 [] [] cu_2107 11 con_2107 = true := by decide +kernel
theorem vl_2107 (l : Launch) : Vld2 l vwCl gTbl con_2107 := conR_ok3 gT_all (hd_2107) rfl pn_RX8 tk_X8_at bo_RX8 xo_RX8 (cto_1497 l) ch_2107 cut_nil
/-- RookHusting$Slots at -/
noncomputable def con_2108 : Con2 := ((yX8_at, cX8_at, 3, (some .long)), (0, 0), ([(6, 0, 0), (0, 0, 0), (0, 38, 0)], [(0, 0), (0, 0), (0, 0), (0, 0), (0, 0), (0, 0), (0, 250)], [.inl (8, [(6, 1, 0), (8, 4, 0), (8, 5, 0)]), ac_1030], []), [((4, 6, 0), gi_1118, hq_862, [], [1])])
theorem hd_2108 : con_2108.1 = (yX8_at, cX8_at, 3, (some .long)) := rfl
noncomputable def cu_2108 : List CUT2 := []
theorem ch_2108 : staG tb_X8_at 1 bt_RX8 [] ct_1497 [] [] cu_2108 11 con_2108 = true := by decide +kernel
theorem vl_2108 (l : Launch) : Vld2 l vwCl gTbl con_2108 := conR_ok3 gT_all (hd_2108) rfl pn_RX8 tk_X8_at bo_RX8 xo_RX8 (cto_1497 l) ch_2108 cut_nil
/-- RookHusting$Slots at -/
noncomputable def con_2109 : Con2 := ((yX8_at, cX8_at, 3, (some .long)), (0, 0), ([(6, 0, 0), (0, 0, 0), (0, 39, 0)], [(0, 0), (0, 0), (0, 0), (0, 0), (0, 0), (0, 0), (0, 4)], [.inl (8, [(6, 1, 0), (8, 4, 0), (8, 5, 0)]), ac_1031], []), [((4, 6, 0), gi_1116, hq_863, [], [1])])
theorem hd_2109 : con_2109.1 = (yX8_at, cX8_at, 3, (some .long)) := rfl
noncomputable def cu_2109 : List CUT2 := []
theorem ch_2109 : staG tb_X8_at 1 bt_RX8 [] ct_1497 [] [] cu_2109 11 con_2109 = true := by decide +kernel
theorem vl_2109 (l : Launch) : Vld2 l vwCl gTbl con_2109 := conR_ok3 gT_all (hd_2109) rfl pn_RX8 tk_X8_at bo_RX8 xo_RX8 (cto_1497 l) ch_2109 cut_nil
/-- RookHusting$Slots at -/
noncomputable def con_2110 : Con2 := ((yX8_at, cX8_at, 3, (some .long)), (0, 0), ([(6, 0, 0), (0, 0, 0), (0, 40, 0)], [(0, 0), (0, 0), (0, 0), (0, 0), (0, 0), (0, 0), (0, 16)], [.inl (8, [(6, 1, 0), (8, 4, 0), (8, 5, 0)]), ac_1032], []), [((4, 6, 0), gi_1117, hq_864, [], [1])])
theorem hd_2110 : con_2110.1 = (yX8_at, cX8_at, 3, (some .long)) := rfl
noncomputable def cu_2110 : List CUT2 := []
theorem ch_2110 : staG tb_X8_at 1 bt_RX8 [] ct_1497 [] [] cu_2110 11 con_2110 = true := by decide +kernel
theorem vl_2110 (l : Launch) : Vld2 l vwCl gTbl con_2110 := conR_ok3 gT_all (hd_2110) rfl pn_RX8 tk_X8_at bo_RX8 xo_RX8 (cto_1497 l) ch_2110 cut_nil
/-- RookHusting$Slots at -/
noncomputable def con_2111 : Con2 := ((yX8_at, cX8_at, 3, (some .long)), (0, 0), ([(6, 0, 0), (0, 0, 0), (0, 41, 0)], [(0, 0), (0, 0), (0, 0), (0, 0), (0, 0), (0, 0), (0, 250)], [.inl (8, [(6, 1, 0), (8, 4, 0), (8, 5, 0)]), ac_1033], []), [((4, 6, 0), gi_1118, hq_865, [], [1])])
theorem hd_2111 : con_2111.1 = (yX8_at, cX8_at, 3, (some .long)) := rfl
noncomputable def cu_2111 : List CUT2 := []
theorem ch_2111 : staG tb_X8_at 1 bt_RX8 [] ct_1497 [] [] cu_2111 11 con_2111 = true := by decide +kernel
theorem vl_2111 (l : Launch) : Vld2 l vwCl gTbl con_2111 := conR_ok3 gT_all (hd_2111) rfl pn_RX8 tk_X8_at bo_RX8 xo_RX8 (cto_1497 l) ch_2111 cut_nil
/-- RookHusting$Slots at -/
noncomputable def con_2112 : Con2 := ((yX8_at, cX8_at, 3, (some .long)), (0, 0), ([(6, 0, 0), (0, 0, 0), (0, 42, 0)], [(0, 0), (0, 0), (0, 0), (0, 0), (0, 0), (0, 0), (0, 4)], [.inl (8, [(6, 1, 0), (8, 4, 0), (8, 5, 0)]), ac_1034], []), [((4, 6, 0), gi_1116, hq_866, [], [1])])
theorem hd_2112 : con_2112.1 = (yX8_at, cX8_at, 3, (some .long)) := rfl
noncomputable def cu_2112 : List CUT2 := []
theorem ch_2112 : staG tb_X8_at 1 bt_RX8 [] ct_1497 [] [] cu_2112 11 con_2112 = true := by decide +kernel
theorem vl_2112 (l : Launch) : Vld2 l vwCl gTbl con_2112 := conR_ok3 gT_all (hd_2112) rfl pn_RX8 tk_X8_at bo_RX8 xo_RX8 (cto_1497 l) ch_2112 cut_nil
/-- RookHusting$Slots at -/
noncomputable def con_2113 : Con2 := ((yX8_at, cX8_at, 3, (some .long)), (0, 0), ([(6, 0, 0), (0, 0, 0), (0, 43, 0)], [(0, 0), (0, 0), (0, 0), (0, 0), (0, 0), (0, 0), (0, 16)], [.inl (8, [(6, 1, 0), (8, 4, 0), (8, 5, 0)]), ac_1035], []), [((4, 6, 0), gi_1117, hq_867, [], [1])])
theorem hd_2113 : con_2113.1 = (yX8_at, cX8_at, 3, (some .long)) := rfl
noncomputable def cu_2113 : List CUT2 := []
theorem ch_2113 : staG tb_X8_at 1 bt_RX8 [] ct_1497 [] [] cu_2113 11 con_2113 = true := by decide +kernel
theorem vl_2113 (l : Launch) : Vld2 l vwCl gTbl con_2113 := conR_ok3 gT_all (hd_2113) rfl pn_RX8 tk_X8_at bo_RX8 xo_RX8 (cto_1497 l) ch_2113 cut_nil
/-- RookHusting$Slots at -/
noncomputable def con_2114 : Con2 := ((yX8_at, cX8_at, 3, (some .long)), (0, 0), ([(6, 0, 0), (0, 0, 0), (0, 44, 0)], [(0, 0), (0, 0), (0, 0), (0, 0), (0, 0), (0, 0), (0, 250)], [.inl (8, [(6, 1, 0), (8, 4, 0), (8, 5, 0)]), ac_1036], []), [((4, 6, 0), gi_1118, hq_868, [], [1])])
theorem hd_2114 : con_2114.1 = (yX8_at, cX8_at, 3, (some .long)) := rfl
noncomputable def cu_2114 : List CUT2 := []
theorem ch_2114 : staG tb_X8_at 1 bt_RX8 [] ct_1497 [] [] cu_2114 11 con_2114 = true := by decide +kernel
theorem vl_2114 (l : Launch) : Vld2 l vwCl gTbl con_2114 := conR_ok3 gT_all (hd_2114) rfl pn_RX8 tk_X8_at bo_RX8 xo_RX8 (cto_1497 l) ch_2114 cut_nil
/-- RookHusting$Slots at -/
noncomputable def con_2115 : Con2 := ((yX8_at, cX8_at, 3, (some .long)), (0, 0), ([(6, 0, 0), (0, 0, 0), (0, 45, 0)], [(0, 0), (0, 0), (0, 0), (0, 0), (0, 0), (0, 0), (0, 4)], [.inl (8, [(6, 1, 0), (8, 4, 0), (8, 5, 0)]), ac_1037], []), [((4, 6, 0), gi_1116, hq_869, [], [1])])
theorem hd_2115 : con_2115.1 = (yX8_at, cX8_at, 3, (some .long)) := rfl
noncomputable def cu_2115 : List CUT2 := []
theorem ch_2115 : staG tb_X8_at 1 bt_RX8 [] ct_1497 [] [] cu_2115 11 con_2115 = true := by decide +kernel
theorem vl_2115 (l : Launch) : Vld2 l vwCl gTbl con_2115 := conR_ok3 gT_all (hd_2115) rfl pn_RX8 tk_X8_at bo_RX8 xo_RX8 (cto_1497 l) ch_2115 cut_nil
/-- RookHusting$Slots at -/
noncomputable def con_2116 : Con2 := ((yX8_at, cX8_at, 3, (some .long)), (0, 0), ([(6, 0, 0), (0, 0, 0), (0, 46, 0)], [(0, 0), (0, 0), (0, 0), (0, 0), (0, 0), (0, 0), (0, 16)], [.inl (8, [(6, 1, 0), (8, 4, 0), (8, 5, 0)]), ac_1038], []), [((4, 6, 0), gi_1117, hq_870, [], [1])])
theorem hd_2116 : con_2116.1 = (yX8_at, cX8_at, 3, (some .long)) := rfl
noncomputable def cu_2116 : List CUT2 := []
theorem ch_2116 : staG tb_X8_at 1 bt_RX8 [] ct_1497 [] [] cu_2116 11 con_2116 = true := by decide +kernel
theorem vl_2116 (l : Launch) : Vld2 l vwCl gTbl con_2116 := conR_ok3 gT_all (hd_2116) rfl pn_RX8 tk_X8_at bo_RX8 xo_RX8 (cto_1497 l) ch_2116 cut_nil
/-- RookHusting$Slots at -/
noncomputable def con_2117 : Con2 := ((yX8_at, cX8_at, 3, (some .long)), (0, 0), ([(6, 0, 0), (0, 0, 0), (0, 47, 0)], [(0, 0), (0, 0), (0, 0), (0, 0), (0, 0), (0, 0), (0, 250)], [.inl (8, [(6, 1, 0), (8, 4, 0), (8, 5, 0)]), ac_1039], []), [((4, 6, 0), gi_1118, hq_871, [], [1])])
theorem hd_2117 : con_2117.1 = (yX8_at, cX8_at, 3, (some .long)) := rfl
noncomputable def cu_2117 : List CUT2 := []
theorem ch_2117 : staG tb_X8_at 1 bt_RX8 [] ct_1497 [] [] cu_2117 11 con_2117 = true := by decide +kernel
theorem vl_2117 (l : Launch) : Vld2 l vwCl gTbl con_2117 := conR_ok3 gT_all (hd_2117) rfl pn_RX8 tk_X8_at bo_RX8 xo_RX8 (cto_1497 l) ch_2117 cut_nil
/-- RookHusting$Slots at -/
noncomputable def con_2118 : Con2 := ((yX8_at, cX8_at, 3, (some .long)), (0, 0), ([(6, 0, 0), (0, 0, 0), (0, 48, 0)], [(0, 0), (0, 0), (0, 0), (0, 0), (0, 0), (0, 0), (0, 4)], [.inl (8, [(6, 1, 0), (8, 4, 0), (8, 5, 0)]), ac_1040], []), [((4, 6, 0), gi_1116, hq_872, [], [1])])
theorem hd_2118 : con_2118.1 = (yX8_at, cX8_at, 3, (some .long)) := rfl
noncomputable def cu_2118 : List CUT2 := []
theorem ch_2118 : staG tb_X8_at 1 bt_RX8 [] ct_1497 [] [] cu_2118 11 con_2118 = true := by decide +kernel
theorem vl_2118 (l : Launch) : Vld2 l vwCl gTbl con_2118 := conR_ok3 gT_all (hd_2118) rfl pn_RX8 tk_X8_at bo_RX8 xo_RX8 (cto_1497 l) ch_2118 cut_nil
/-- RookHusting$Slots at -/
noncomputable def con_2119 : Con2 := ((yX8_at, cX8_at, 3, (some .long)), (0, 0), ([(6, 0, 0), (0, 0, 0), (0, 49, 0)], [(0, 0), (0, 0), (0, 0), (0, 0), (0, 0), (0, 0), (0, 16)], [.inl (8, [(6, 1, 0), (8, 4, 0), (8, 5, 0)]), ac_1041], []), [((4, 6, 0), gi_1117, hq_873, [], [1])])
theorem hd_2119 : con_2119.1 = (yX8_at, cX8_at, 3, (some .long)) := rfl
noncomputable def cu_2119 : List CUT2 := []
theorem ch_2119 : staG tb_X8_at 1 bt_RX8 [] ct_1497 [] [] cu_2119 11 con_2119 = true := by decide +kernel
theorem vl_2119 (l : Launch) : Vld2 l vwCl gTbl con_2119 := conR_ok3 gT_all (hd_2119) rfl pn_RX8 tk_X8_at bo_RX8 xo_RX8 (cto_1497 l) ch_2119 cut_nil
/-- RookHusting$Slots at -/
noncomputable def con_2120 : Con2 := ((yX8_at, cX8_at, 3, (some .long)), (0, 0), ([(6, 0, 0), (0, 0, 0), (0, 50, 0)], [(0, 0), (0, 0), (0, 0), (0, 0), (0, 0), (0, 0), (0, 250)], [.inl (8, [(6, 1, 0), (8, 4, 0), (8, 5, 0)]), ac_1042], []), [((4, 6, 0), gi_1118, hq_874, [], [1])])
theorem hd_2120 : con_2120.1 = (yX8_at, cX8_at, 3, (some .long)) := rfl
noncomputable def cu_2120 : List CUT2 := []
theorem ch_2120 : staG tb_X8_at 1 bt_RX8 [] ct_1497 [] [] cu_2120 11 con_2120 = true := by decide +kernel
theorem vl_2120 (l : Launch) : Vld2 l vwCl gTbl con_2120 := conR_ok3 gT_all (hd_2120) rfl pn_RX8 tk_X8_at bo_RX8 xo_RX8 (cto_1497 l) ch_2120 cut_nil
/-- RookHusting$Slots at -/
noncomputable def con_2121 : Con2 := ((yX8_at, cX8_at, 3, (some .long)), (0, 0), ([(6, 0, 0), (0, 0, 0), (0, 51, 0)], [(0, 0), (0, 0), (0, 0), (0, 0), (0, 0), (0, 0), (0, 4)], [.inl (8, [(6, 1, 0), (8, 4, 0), (8, 5, 0)]), ac_1043], []), [((4, 6, 0), gi_1116, hq_875, [], [1])])
theorem hd_2121 : con_2121.1 = (yX8_at, cX8_at, 3, (some .long)) := rfl
noncomputable def cu_2121 : List CUT2 := []
theorem ch_2121 : staG tb_X8_at 1 bt_RX8 [] ct_1497 [] [] cu_2121 11 con_2121 = true := by decide +kernel
theorem vl_2121 (l : Launch) : Vld2 l vwCl gTbl con_2121 := conR_ok3 gT_all (hd_2121) rfl pn_RX8 tk_X8_at bo_RX8 xo_RX8 (cto_1497 l) ch_2121 cut_nil
/-- RookHusting$Slots at -/
noncomputable def con_2122 : Con2 := ((yX8_at, cX8_at, 3, (some .long)), (0, 0), ([(6, 0, 0), (0, 0, 0), (0, 52, 0)], [(0, 0), (0, 0), (0, 0), (0, 0), (0, 0), (0, 0), (0, 16)], [.inl (8, [(6, 1, 0), (8, 4, 0), (8, 5, 0)]), ac_1044], []), [((4, 6, 0), gi_1117, hq_876, [], [1])])
theorem hd_2122 : con_2122.1 = (yX8_at, cX8_at, 3, (some .long)) := rfl
noncomputable def cu_2122 : List CUT2 := []
theorem ch_2122 : staG tb_X8_at 1 bt_RX8 [] ct_1497 [] [] cu_2122 11 con_2122 = true := by decide +kernel
theorem vl_2122 (l : Launch) : Vld2 l vwCl gTbl con_2122 := conR_ok3 gT_all (hd_2122) rfl pn_RX8 tk_X8_at bo_RX8 xo_RX8 (cto_1497 l) ch_2122 cut_nil
/-- RookHusting$Slots at -/
noncomputable def con_2123 : Con2 := ((yX8_at, cX8_at, 3, (some .long)), (0, 0), ([(6, 0, 0), (0, 0, 0), (0, 53, 0)], [(0, 0), (0, 0), (0, 0), (0, 0), (0, 0), (0, 0), (0, 250)], [.inl (8, [(6, 1, 0), (8, 4, 0), (8, 5, 0)]), ac_1045], []), [((4, 6, 0), gi_1118, hq_877, [], [1])])
theorem hd_2123 : con_2123.1 = (yX8_at, cX8_at, 3, (some .long)) := rfl
noncomputable def cu_2123 : List CUT2 := []
theorem ch_2123 : staG tb_X8_at 1 bt_RX8 [] ct_1497 [] [] cu_2123 11 con_2123 = true := by decide +kernel
theorem vl_2123 (l : Launch) : Vld2 l vwCl gTbl con_2123 := conR_ok3 gT_all (hd_2123) rfl pn_RX8 tk_X8_at bo_RX8 xo_RX8 (cto_1497 l) ch_2123 cut_nil
/-- RookHusting$Slots at -/
noncomputable def con_2124 : Con2 := ((yX8_at, cX8_at, 3, (some .long)), (0, 0), ([(6, 0, 0), (0, 0, 0), (0, 54, 0)], [(0, 0), (0, 0), (0, 0), (0, 0), (0, 0), (0, 0), (0, 4)], [.inl (8, [(6, 1, 0), (8, 4, 0), (8, 5, 0)]), ac_1046], []), [((4, 6, 0), gi_1116, hq_878, [], [1])])
theorem hd_2124 : con_2124.1 = (yX8_at, cX8_at, 3, (some .long)) := rfl
noncomputable def cu_2124 : List CUT2 := []
theorem ch_2124 : staG tb_X8_at 1 bt_RX8 [] ct_1497 [] [] cu_2124 11 con_2124 = true := by decide +kernel
theorem vl_2124 (l : Launch) : Vld2 l vwCl gTbl con_2124 := conR_ok3 gT_all (hd_2124) rfl pn_RX8 tk_X8_at bo_RX8 xo_RX8 (cto_1497 l) ch_2124 cut_nil
/-- RookHusting$Slots at -/
noncomputable def con_2125 : Con2 := ((yX8_at, cX8_at, 3, (some .long)), (0, 0), ([(6, 0, 0), (0, 0, 0), (0, 55, 0)], [(0, 0), (0, 0), (0, 0), (0, 0), (0, 0), (0, 0), (0, 16)], [.inl (8, [(6, 1, 0), (8, 4, 0), (8, 5, 0)]), ac_1047], []), [((4, 6, 0), gi_1117, hq_879, [], [1])])
theorem hd_2125 : con_2125.1 = (yX8_at, cX8_at, 3, (some .long)) := rfl
noncomputable def cu_2125 : List CUT2 := []
theorem ch_2125 : staG tb_X8_at 1 bt_RX8 [] ct_1497 [] [] cu_2125 11 con_2125 = true := by decide +kernel
theorem vl_2125 (l : Launch) : Vld2 l vwCl gTbl con_2125 := conR_ok3 gT_all (hd_2125) rfl pn_RX8 tk_X8_at bo_RX8 xo_RX8 (cto_1497 l) ch_2125 cut_nil
/-- RookHusting$Slots at -/
noncomputable def con_2126 : Con2 := ((yX8_at, cX8_at, 3, (some .long)), (0, 0), ([(6, 0, 0), (0, 0, 0), (0, 56, 0)], [(0, 0), (0, 0), (0, 0), (0, 0), (0, 0), (0, 0), (0, 250)], [.inl (8, [(6, 1, 0), (8, 4, 0), (8, 5, 0)]), ac_1048], []), [((4, 6, 0), gi_1118, hq_880, [], [1])])
theorem hd_2126 : con_2126.1 = (yX8_at, cX8_at, 3, (some .long)) := rfl
noncomputable def cu_2126 : List CUT2 := []
theorem ch_2126 : staG tb_X8_at 1 bt_RX8 [] ct_1497 [] [] cu_2126 11 con_2126 = true := by decide +kernel
theorem vl_2126 (l : Launch) : Vld2 l vwCl gTbl con_2126 := conR_ok3 gT_all (hd_2126) rfl pn_RX8 tk_X8_at bo_RX8 xo_RX8 (cto_1497 l) ch_2126 cut_nil
/-- RookHusting$Slots at -/
noncomputable def con_2127 : Con2 := ((yX8_at, cX8_at, 3, (some .long)), (0, 0), ([(6, 0, 0), (0, 0, 0), (0, 57, 0)], [(0, 0), (0, 0), (0, 0), (0, 0), (0, 0), (0, 0), (0, 4)], [.inl (8, [(6, 1, 0), (8, 4, 0), (8, 5, 0)]), ac_1049], []), [((4, 6, 0), gi_1116, hq_881, [], [1])])
theorem hd_2127 : con_2127.1 = (yX8_at, cX8_at, 3, (some .long)) := rfl
noncomputable def cu_2127 : List CUT2 := []
theorem ch_2127 : staG tb_X8_at 1 bt_RX8 [] ct_1497 [] [] cu_2127 11 con_2127 = true := by decide +kernel
theorem vl_2127 (l : Launch) : Vld2 l vwCl gTbl con_2127 := conR_ok3 gT_all (hd_2127) rfl pn_RX8 tk_X8_at bo_RX8 xo_RX8 (cto_1497 l) ch_2127 cut_nil
/-- RookHusting$Slots at -/
noncomputable def con_2128 : Con2 := ((yX8_at, cX8_at, 3, (some .long)), (0, 0), ([(6, 0, 0), (0, 0, 0), (0, 58, 0)], [(0, 0), (0, 0), (0, 0), (0, 0), (0, 0), (0, 0), (0, 16)], [.inl (8, [(6, 1, 0), (8, 4, 0), (8, 5, 0)]), ac_1050], []), [((4, 6, 0), gi_1117, hq_882, [], [1])])
theorem hd_2128 : con_2128.1 = (yX8_at, cX8_at, 3, (some .long)) := rfl
noncomputable def cu_2128 : List CUT2 := []
theorem ch_2128 : staG tb_X8_at 1 bt_RX8 [] ct_1497 [] [] cu_2128 11 con_2128 = true := by decide +kernel
theorem vl_2128 (l : Launch) : Vld2 l vwCl gTbl con_2128 := conR_ok3 gT_all (hd_2128) rfl pn_RX8 tk_X8_at bo_RX8 xo_RX8 (cto_1497 l) ch_2128 cut_nil
/-- RookHusting$Slots at -/
noncomputable def con_2129 : Con2 := ((yX8_at, cX8_at, 3, (some .long)), (0, 0), ([(6, 0, 0), (0, 0, 0), (0, 59, 0)], [(0, 0), (0, 0), (0, 0), (0, 0), (0, 0), (0, 0), (0, 250)], [.inl (8, [(6, 1, 0), (8, 4, 0), (8, 5, 0)]), ac_1051], []), [((4, 6, 0), gi_1118, hq_883, [], [1])])
theorem hd_2129 : con_2129.1 = (yX8_at, cX8_at, 3, (some .long)) := rfl
noncomputable def cu_2129 : List CUT2 := []
theorem ch_2129 : staG tb_X8_at 1 bt_RX8 [] ct_1497 [] [] cu_2129 11 con_2129 = true := by decide +kernel
theorem vl_2129 (l : Launch) : Vld2 l vwCl gTbl con_2129 := conR_ok3 gT_all (hd_2129) rfl pn_RX8 tk_X8_at bo_RX8 xo_RX8 (cto_1497 l) ch_2129 cut_nil
