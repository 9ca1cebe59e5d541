/-! ===== contracts, 3 ===== -/
/-- RookHustingModel advance -/
noncomputable def gi_148 : GI := jl_n [jl_z 8, gp_78, jl_z 33]
noncomputable def ac_106 : AC := .inl (12, jl_n [vp_15, jl_8 8 2, jl_1 13 5, jl_8 46 33])
noncomputable def gi_149 : GI := jl_n [jl_z 8, gp_78, jl_z 41, gp_81]
noncomputable def ac_107 : AC := .inl (12, jl_n [vp_17, jl_1 58 4, jl_8 46 33])
noncomputable def hq_117 : HP := [(true, ac_107), (false, am_2)]
noncomputable def con_313 : Con2 := ((yX12_advance, cX12_advance, 2, none), (1, 25), ([(6, 0, 0)], gi_148, [ac_106, am_2], []), [((9, 0, 0), gi_149, hq_117, [], tg_10)])
theorem hd_313 : con_313.1 = (yX12_advance, cX12_advance, 2, none) := rfl
theorem ck_RX12_122_310 : COK2 RX12 vwCl gTbl 122 0 con_310 := ⟨wd_1572, wd_137, mh_X12_see, .inr (.inr ⟨rfl, wd_1569, wd_1571, wd_52, ⟨_, rfl, pd_X12_see⟩, 12, _, TX12, 45, rfl, rfl⟩)⟩
theorem ck_RX12_91_312 : COK2 RX12 vwCl gTbl 91 1 con_312 := ⟨wd_1544, wd_137, mh_X12_in, .inl ⟨rfl, wd_1542, wd_1543, pd_X12_in⟩⟩
theorem ck_RX12_91_311 : COK2 RX12 vwCl gTbl 91 1 con_311 := ⟨wd_1544, wd_137, mh_X12_in, .inl ⟨rfl, wd_1542, wd_1543, pd_X12_in⟩⟩
noncomputable def ct_313 : CTB2 := [(5, 122, 0, con_310, [0, 1]), (18, 122, 0, con_310, [0, 1]), (52, 122, 0, con_310, [0, 1]), (77, 91, 1, con_311, []), (88, 122, 0, con_310, [0, 1]), (98, 91, 1, con_311, []), (133, 91, 1, con_312, []), (149, 122, 0, con_310, [0, 1]), (159, 91, 1, con_312, []), (180, 122, 0, con_310, [0, 1])]
noncomputable def gi_150 : GI := jl_n [jl_z 8, jl_i 1 700, jl_i 0 699, jl_i 0 700, gp_82, jl_z 34, jl_i 97 122, jl_z 8, jl_i 0 700, jl_i 0 699, jl_z 35]
noncomputable def ac_108 : AC := .inl (12, jl_n [vp_17, jl_1 58 2, jl_1 13 2, jl_8 46 33])
noncomputable def hq_118 : HP := [(true, ac_108), (false, am_2)]
noncomputable def gi_151 : GI := jl_n [jl_z 8, jl_i 1 700, jl_i 0 699, jl_i 0 700, gp_82, jl_z 34, jl_i 48 57, jl_z 8, jl_i 0 700, jl_i 0 699, jl_z 1, jl_m 2147483647 99999, jl_z 33]
noncomputable def ac_109 : AC := .inl (12, jl_n [vp_17, jl_1 58 2, jl_1 12 1, jl_1 60 1, jl_8 46 33])
noncomputable def hq_119 : HP := [(true, ac_109), (false, am_2)]
noncomputable def gi_152 : GI := jl_n [jl_z 8, jl_i 1 700, jl_i 0 699, jl_i 0 700, gp_82, jl_z 42, jl_i 1 700, jl_z 36]
noncomputable def ac_110 : AC := .inl (12, jl_n [vp_17, jl_1 56 1, jl_1 13 3, jl_8 46 33])
noncomputable def hq_120 : HP := [(true, ac_110), (false, am_2)]
noncomputable def cu_313 : List CUT2 := [((83, [lq 0 6 0, lq 1 1 47], [], gi_150, hq_118), [], ([(56, (-1))], 1401)), ((144, [lq 0 6 0, lq 1 1 47], [], gi_151, hq_119), [], ([(56, (-1))], 700)), ((0, [lq 0 6 0], [], gi_152, hq_120), [], ([(55, (-1))], 2102))]
theorem ch_313 : staG tb_X12_advance 1 bt_RX12 [] ct_313 [] [] cu_313 52 con_313 = true := by decide +kernel
theorem cc_313 : cu_313.all (cutG tb_X12_advance 1 bt_RX12 [] ct_313 [] [] cu_313 52 con_313) = true := by decide +kernel
theorem cto_313 (l : Launch) : CTOK2 l RX12 vwCl gTbl ct_313 := ct2_cons (vl_310 l) ck_RX12_122_310 (ct2_cons (vl_310 l) ck_RX12_122_310 (ct2_cons (vl_310 l) ck_RX12_122_310 (ct2_cons (vl_311 l) ck_RX12_91_311 (ct2_cons (vl_310 l) ck_RX12_122_310 (ct2_cons (vl_311 l) ck_RX12_91_311 (ct2_cons (vl_312 l) ck_RX12_91_312 (ct2_cons (vl_310 l) ck_RX12_122_310 (ct2_cons (vl_312 l) ck_RX12_91_312 (ct2_cons (vl_310 l) ck_RX12_122_310 (ct2_nil))))))))))
theorem vl_313 (l : Launch) : Vld2 l vwCl gTbl con_313 := conR_ok3 gT_all (hd_313) rfl pn_RX12 tk_X12_advance bo_RX12 xo_RX12 (cto_313 l) ch_313 (cut_all cc_313)
/-- RookHustingModel good -/
noncomputable def gi_153 : GI := jl_n [jl_z 46]
noncomputable def ac_111 : AC := .inl (12, jl_n [jl_8 13 12, jl_c 0, jl_8 46 32])
noncomputable def gi_154 : GI := jl_n [jl_z 47]
noncomputable def con_314 : Con2 := ((yX12_good, cX12_good, 1, (some .boolean)), (0, 0), ([(6, 0, 0)], gi_153, [ac_111], []), [((0, 1, 0), gi_154, [(false, ac_111)], [], [1])])
theorem hd_314 : con_314.1 = (yX12_good, cX12_good, 1, (some .boolean)) := rfl
noncomputable def cu_314 : List CUT2 := []
theorem ch_314 : staG tb_X12_good 1 bt_RX12 [] ct_2 [] [] cu_314 8 con_314 = true := by decide +kernel
theorem vl_314 (l : Launch) : Vld2 l vwCl gTbl con_314 := conR_ok3 gT_all (hd_314) rfl pn_RX12 tk_X12_good bo_RX12 xo_RX12 (cto_2 l) ch_314 cut_nil
/-- RookHustingModel is -/
noncomputable def gi_155 : GI := jl_n [jl_z 10, gp_83]
noncomputable def ac_112 : AC := .inl (12, jl_n [vp_13, jl_8 10 3, jl_1 13 3, jl_8 14 1, jl_c 0, jl_8 47 32])
noncomputable def gi_156 : GI := jl_n [gp_84, jl_z 35]
noncomputable def hq_121 : HP := [(false, ac_112), (false, am_2)]
noncomputable def gi_157 : GI := jl_n [gp_85, jl_z 35]
noncomputable def con_315 : Con2 := ((yX12_is, cX12_is, 4, (some .boolean)), (8, 200), ([(6, 0, 0), (13, 6, 0)], gi_155, [ac_112, am_2], []), [((0, 0, 0), gi_156, hq_121, [], [1]), ((0, 1, 0), gi_157, hq_121, [], [1])])
theorem hd_315 : con_315.1 = (yX12_is, cX12_is, 4, (some .boolean)) := rfl
theorem ck_RX12_153_314 : COK2 RX12 vwCl gTbl 153 0 con_314 := ⟨wd_1582, wd_137, mh_X12_good, .inr (.inr ⟨rfl, wd_1579, wd_1581, wd_53, ⟨_, rfl, pd_X12_good⟩, 12, _, TX12, 45, rfl, rfl⟩)⟩
noncomputable def ct_315 : CTB2 := [(1, 153, 0, con_314, [0])]
noncomputable def gi_158 : GI := jl_n [gp_86, jl_i 0 7]
noncomputable def gi_159 : GI := jl_n [gp_87, jl_i 0 7]
noncomputable def cu_315 : List CUT2 := [((39, [lq 0 6 0, lq 1 13 6, lq 2 0 1, lq 3 1 50], [], gi_158, hq_121), [([(10, 1), (11, (-1))], (-7))], ([(50, (-1))], 7)), ((39, [lq 0 6 0, lq 1 13 6, lq 2 0 0, lq 3 1 50], [], gi_159, hq_121), [], ([(50, (-1))], 7))]
theorem ch_315 : staG tb_X12_is 1 bt_RX12 [] ct_315 [(55, [(0, (2, 0, 9), 0, 693)])] [23, 28] cu_315 25 con_315 = true := by decide +kernel
theorem cc_315 : cu_315.all (cutG tb_X12_is 1 bt_RX12 [] ct_315 [(55, [(0, (2, 0, 9), 0, 693)])] [23, 28] cu_315 25 con_315) = true := by decide +kernel
theorem cto_315 (l : Launch) : CTOK2 l RX12 vwCl gTbl ct_315 := ct2_cons (vl_314 l) ck_RX12_153_314 (ct2_nil)
theorem vl_315 (l : Launch) : Vld2 l vwCl gTbl con_315 := conR_ok3 gT_all (hd_315) rfl pn_RX12 tk_X12_is bo_RX12 xo_RX12 (cto_315 l) ch_315 (cut_all cc_315)
/-- RookHustingModel takes -/
noncomputable def gi_160 : GI := jl_n [jl_z 9, gp_78, jl_z 33]
noncomputable def ac_113 : AC := .inl (12, jl_n [vp_18, jl_c 0, jl_8 47 32])
noncomputable def gi_161 : GI := jl_n [jl_z 9, gp_78, jl_z 34]
noncomputable def hq_122 : HP := [(false, ac_113), (false, am_2)]
noncomputable def gi_162 : GI := jl_n [jl_z 9, gp_88, jl_t, jl_z 42, gp_81]
noncomputable def ac_114 : AC := .inl (12, jl_n [vp_14, jl_1 10 1, jl_1 60 4, jl_c 0, jl_8 47 32])
noncomputable def hq_123 : HP := [(true, ac_114), (false, am_2)]
noncomputable def con_316 : Con2 := ((yX12_takes, cX12_takes, 3, (some .boolean)), (9, 223), ([(6, 0, 0), (13, 6, 0)], gi_160, [ac_113, am_2], []), [((0, 0, 0), gi_161, hq_122, [], [1]), ((0, 1, 0), gi_162, hq_123, [], tg_1)])
theorem hd_316 : con_316.1 = (yX12_takes, cX12_takes, 3, (some .boolean)) := rfl
theorem ck_RX12_169_313 : COK2 RX12 vwCl gTbl 169 0 con_313 := ⟨wd_1568, wd_137, mh_X12_advance, .inr (.inr ⟨rfl, wd_1565, wd_1567, wd_51, ⟨_, rfl, pd_X12_advance⟩, 12, _, TX12, 45, rfl, rfl⟩)⟩
theorem ck_RX12_165_315 : COK2 RX12 vwCl gTbl 165 0 con_315 := ⟨wd_1603, wd_137, mh_X12_is, .inr (.inr ⟨rfl, wd_1600, wd_1602, wd_58, ⟨_, rfl, pd_X12_is⟩, 12, _, TX12, 45, rfl, rfl⟩)⟩
noncomputable def ct_316 : CTB2 := [(2, 165, 0, con_315, [0, 1]), (11, 169, 0, con_313, [0, 1])]
noncomputable def cu_316 : List CUT2 := []
theorem ch_316 : staG tb_X12_takes 1 bt_RX12 [] ct_316 [] [] cu_316 12 con_316 = true := by decide +kernel
theorem cto_316 (l : Launch) : CTOK2 l RX12 vwCl gTbl ct_316 := ct2_cons (vl_315 l) ck_RX12_165_315 (ct2_cons (vl_313 l) ck_RX12_169_313 (ct2_nil))
theorem vl_316 (l : Launch) : Vld2 l vwCl gTbl con_316 := conR_ok3 gT_all (hd_316) rfl pn_RX12 tk_X12_takes bo_RX12 xo_RX12 (cto_316 l) ch_316 cut_nil
/-- RookHustingModel errs -/
noncomputable def gi_163 : GI := jl_n [jl_z 11, jl_i 0 700, jl_z 3, gp_89]
noncomputable def ac_115 : AC := .inl (12, jl_n [vp_20, jl_c 0, vp_21])
noncomputable def gi_164 : GI := jl_n [jl_z 11, jl_i 0 700, jl_z 3, jl_m 0 700, jl_z 76]
noncomputable def ac_116 : AC := .inl (12, jl_n [vp_20, jl_c 1, vp_22])
noncomputable def con_317 : Con2 := ((yX12_errs, cX12_errs, 2, none), (1, 20), ([(6, 0, 0), (0, 1, 0)], gi_163, [ac_115], []), [((9, 0, 0), gi_164, [(true, ac_116)], [], tg_10)])
theorem hd_317 : con_317.1 = (yX12_errs, cX12_errs, 2, none) := rfl
noncomputable def cu_317 : List CUT2 := []
theorem ch_317 : staG tb_X12_errs 1 bt_RX12 [] ct_315 [] [] cu_317 13 con_317 = true := by decide +kernel
theorem vl_317 (l : Launch) : Vld2 l vwCl gTbl con_317 := conR_ok3 gT_all (hd_317) rfl pn_RX12 tk_X12_errs bo_RX12 xo_RX12 (cto_315 l) ch_317 cut_nil
/-- RookHustingModel expects -/
noncomputable def gi_165 : GI := jl_n [jl_z 9, gp_92]
noncomputable def ac_117 : AC := .inl (12, jl_n [vp_18, jl_c 0, vp_21])
noncomputable def gi_166 : GI := jl_n [jl_z 9, gp_93, jl_z 76]
noncomputable def ac_118 : AC := .inl (12, jl_n [vp_18, jl_c 1, vp_22])
noncomputable def hq_124 : HP := [(true, ac_118), (false, am_2)]
noncomputable def gi_167 : GI := jl_n [jl_z 9, gp_88, gp_90, jl_z 39, gp_81]
noncomputable def ac_119 : AC := .inl (12, jl_n [vp_14, jl_1 10 1, jl_1 59 4, jl_c 0, vp_21])
noncomputable def hq_125 : HP := [(true, ac_119), (false, am_2)]
noncomputable def con_318 : Con2 := ((yX12_expects, cX12_expects, 2, none), (10, 245), ([(6, 0, 0), (13, 6, 0)], gi_165, [ac_117, am_2], []), [((9, 0, 0), gi_166, hq_124, [], tg_10), ((9, 0, 0), gi_167, hq_125, [], tg_10)])
theorem hd_318 : con_318.1 = (yX12_expects, cX12_expects, 2, none) := rfl
theorem ck_RX12_175_317 : COK2 RX12 vwCl gTbl 175 0 con_317 := ⟨wd_1609, wd_137, mh_X12_errs, .inr (.inr ⟨rfl, wd_1606, wd_1608, wd_59, ⟨_, rfl, pd_X12_errs⟩, 12, _, TX12, 45, rfl, rfl⟩)⟩
theorem ck_RX12_172_316 : COK2 RX12 vwCl gTbl 172 0 con_316 := ⟨wd_1599, wd_137, mh_X12_takes, .inr (.inr ⟨rfl, wd_1596, wd_1598, wd_57, ⟨_, rfl, pd_X12_takes⟩, 12, _, TX12, 45, rfl, rfl⟩)⟩
noncomputable def ct_318 : CTB2 := [(2, 172, 0, con_316, [0, 1]), (10, 175, 0, con_317, [0])]
noncomputable def cu_318 : List CUT2 := []
theorem ch_318 : staG tb_X12_expects 1 bt_RX12 [] ct_318 [] [] cu_318 10 con_318 = true := by decide +kernel
theorem cto_318 (l : Launch) : CTOK2 l RX12 vwCl gTbl ct_318 := ct2_cons (vl_316 l) ck_RX12_172_316 (ct2_cons (vl_317 l) ck_RX12_175_317 (ct2_nil))
theorem vl_318 (l : Launch) : Vld2 l vwCl gTbl con_318 := conR_ok3 gT_all (hd_318) rfl pn_RX12 tk_X12_expects bo_RX12 xo_RX12 (cto_318 l) ch_318 cut_nil
/-- RookHustingModel is -/
noncomputable def con_319 : Con2 := ((yX12_is, cX12_is, 4, (some .boolean)), (8, 200), ([(6, 0, 0), (13, 1, 0)], gi_155, [ac_112, am_2], []), [((0, 0, 0), gi_156, hq_121, [], [1]), ((0, 1, 0), gi_157, hq_121, [], [1])])
theorem hd_319 : con_319.1 = (yX12_is, cX12_is, 4, (some .boolean)) := rfl
noncomputable def gi_168 : GI := jl_n [gp_86, jl_i 0 4]
noncomputable def gi_169 : GI := jl_n [gp_87, jl_i 0 4]
noncomputable def cu_319 : List CUT2 := [((39, [lq 0 6 0, lq 1 13 1, lq 2 0 1, lq 3 1 50], [], gi_168, hq_121), [([(10, 1), (11, (-1))], (-4))], ([(50, (-1))], 4)), ((39, [lq 0 6 0, lq 1 13 1, lq 2 0 0, lq 3 1 50], [], gi_169, hq_121), [], ([(50, (-1))], 4))]
theorem ch_319 : staG tb_X12_is 1 bt_RX12 [] ct_315 [(55, [(0, (2, 0, 9), 0, 696)])] [23, 28] cu_319 25 con_319 = true := by decide +kernel
theorem cc_319 : cu_319.all (cutG tb_X12_is 1 bt_RX12 [] ct_315 [(55, [(0, (2, 0, 9), 0, 696)])] [23, 28] cu_319 25 con_319) = true := by decide +kernel
theorem vl_319 (l : Launch) : Vld2 l vwCl gTbl con_319 := conR_ok3 gT_all (hd_319) rfl pn_RX12 tk_X12_is bo_RX12 xo_RX12 (cto_315 l) ch_319 (cut_all cc_319)
/-- RookHustingModel takes -/
noncomputable def con_320 : Con2 := ((yX12_takes, cX12_takes, 3, (some .boolean)), (9, 223), ([(6, 0, 0), (13, 1, 0)], gi_160, [ac_113, am_2], []), [((0, 0, 0), gi_161, hq_122, [], [1]), ((0, 1, 0), gi_162, hq_123, [], tg_1)])
theorem hd_320 : con_320.1 = (yX12_takes, cX12_takes, 3, (some .boolean)) := rfl
theorem ck_RX12_165_319 : COK2 RX12 vwCl gTbl 165 0 con_319 := ⟨wd_1603, wd_137, mh_X12_is, .inr (.inr ⟨rfl, wd_1600, wd_1602, wd_58, ⟨_, rfl, pd_X12_is⟩, 12, _, TX12, 45, rfl, rfl⟩)⟩
noncomputable def ct_320 : CTB2 := [(2, 165, 0, con_319, [0, 1]), (11, 169, 0, con_313, [0, 1])]
noncomputable def cu_320 : List CUT2 := []
theorem ch_320 : staG tb_X12_takes 1 bt_RX12 [] ct_320 [] [] cu_320 12 con_320 = true := by decide +kernel
theorem cto_320 (l : Launch) : CTOK2 l RX12 vwCl gTbl ct_320 := ct2_cons (vl_319 l) ck_RX12_165_319 (ct2_cons (vl_313 l) ck_RX12_169_313 (ct2_nil))
theorem vl_320 (l : Launch) : Vld2 l vwCl gTbl con_320 := conR_ok3 gT_all (hd_320) rfl pn_RX12 tk_X12_takes bo_RX12 xo_RX12 (cto_320 l) ch_320 cut_nil
/-- RookHustingModel expects -/
noncomputable def con_321 : Con2 := ((yX12_expects, cX12_expects, 2, none), (10, 245), ([(6, 0, 0), (13, 1, 0)], gi_165, [ac_117, am_2], []), [((9, 0, 0), gi_166, hq_124, [], tg_10), ((9, 0, 0), gi_167, hq_125, [], tg_10)])
theorem hd_321 : con_321.1 = (yX12_expects, cX12_expects, 2, none) := rfl
theorem ck_RX12_172_320 : COK2 RX12 vwCl gTbl 172 0 con_320 := ⟨wd_1599, wd_137, mh_X12_takes, .inr (.inr ⟨rfl, wd_1596, wd_1598, wd_57, ⟨_, rfl, pd_X12_takes⟩, 12, _, TX12, 45, rfl, rfl⟩)⟩
noncomputable def ct_321 : CTB2 := [(2, 172, 0, con_320, [0, 1]), (10, 175, 0, con_317, [0])]
noncomputable def cu_321 : List CUT2 := []
theorem ch_321 : staG tb_X12_expects 1 bt_RX12 [] ct_321 [] [] cu_321 10 con_321 = true := by decide +kernel
theorem cto_321 (l : Launch) : CTOK2 l RX12 vwCl gTbl ct_321 := ct2_cons (vl_320 l) ck_RX12_172_320 (ct2_cons (vl_317 l) ck_RX12_175_317 (ct2_nil))
theorem vl_321 (l : Launch) : Vld2 l vwCl gTbl con_321 := conR_ok3 gT_all (hd_321) rfl pn_RX12 tk_X12_expects bo_RX12 xo_RX12 (cto_321 l) ch_321 cut_nil
/-- RookHustingModel good -/
noncomputable def ac_120 : AC := .inl (12, jl_n [jl_8 13 12, jl_c 1, jl_8 46 32])
noncomputable def con_322 : Con2 := ((yX12_good, cX12_good, 1, (some .boolean)), (0, 0), ([(6, 0, 0)], gi_153, [ac_120], []), [((0, 0, 0), gi_154, [(false, ac_120)], [], [1])])
theorem hd_322 : con_322.1 = (yX12_good, cX12_good, 1, (some .boolean)) := rfl
noncomputable def cu_322 : List CUT2 := []
theorem ch_322 : staG tb_X12_good 1 bt_RX12 [] ct_2 [] [] cu_322 7 con_322 = true := by decide +kernel
theorem vl_322 (l : Launch) : Vld2 l vwCl gTbl con_322 := conR_ok3 gT_all (hd_322) rfl pn_RX12 tk_X12_good bo_RX12 xo_RX12 (cto_2 l) ch_322 cut_nil
/-- RookHustingModel in -/
noncomputable def con_323 : Con2 := ((yX12_in, cX12_in, 6, (some .boolean)), (0, 0), ([(4, 0, 0), (3, 1, 0), (3, 16, 0)], gi_146, [], []), [((0, 0, 0), gi_147, [], [], [1]), ((0, 1, 0), [(1, 16), (0, 0), (0, 0), (0, 0)], [], [], [1])])
theorem hd_323 : con_323.1 = (yX12_in, cX12_in, 6, (some .boolean)) := rfl
noncomputable def cu_323 : List CUT2 := []
theorem ch_323 : staG tb_X12_in 1 bt_RX12 [] ct_2 [] [] cu_323 11 con_323 = true := by decide +kernel
theorem vl_323 (l : Launch) : Vld2 l vwCl gTbl con_323 := conR_ok3 gT_all (hd_323) rfl pn_RX12 tk_X12_in bo_RX12 xo_RX12 (cto_2 l) ch_323 cut_nil
/-- RookHustingModel errs -/
noncomputable def ac_121 : AC := .inl (12, jl_n [vp_20, jl_c 2, vp_22])
noncomputable def con_324 : Con2 := ((yX12_errs, cX12_errs, 2, none), (1, 20), ([(6, 0, 0), (0, 2, 0)], gi_163, [ac_115], []), [((9, 0, 0), gi_164, [(true, ac_121)], [], tg_10)])
theorem hd_324 : con_324.1 = (yX12_errs, cX12_errs, 2, none) := rfl
noncomputable def cu_324 : List CUT2 := []
theorem ch_324 : staG tb_X12_errs 1 bt_RX12 [] ct_315 [] [] cu_324 13 con_324 = true := by decide +kernel
theorem vl_324 (l : Launch) : Vld2 l vwCl gTbl con_324 := conR_ok3 gT_all (hd_324) rfl pn_RX12 tk_X12_errs bo_RX12 xo_RX12 (cto_315 l) ch_324 cut_nil
/-- RookHustingModel good -/
noncomputable def ac_122 : AC := .inl (12, jl_n [jl_8 13 12, jl_c 2, jl_8 46 32])
noncomputable def con_325 : Con2 := ((yX12_good, cX12_good, 1, (some .boolean)), (0, 0), ([(6, 0, 0)], gi_153, [ac_122], []), [((0, 0, 0), gi_154, [(false, ac_122)], [], [1])])
theorem hd_325 : con_325.1 = (yX12_good, cX12_good, 1, (some .boolean)) := rfl
noncomputable def cu_325 : List CUT2 := []
theorem ch_325 : staG tb_X12_good 1 bt_RX12 [] ct_2 [] [] cu_325 7 con_325 = true := by decide +kernel
theorem vl_325 (l : Launch) : Vld2 l vwCl gTbl con_325 := conR_ok3 gT_all (hd_325) rfl pn_RX12 tk_X12_good bo_RX12 xo_RX12 (cto_2 l) ch_325 cut_nil
/-- RookHustingModel number -/
noncomputable def gi_170 : GI := jl_n [jl_z 10, gp_92]
noncomputable def ac_123 : AC := .inl (12, jl_n [vp_24, jl_1 15 5, jl_c 0, vp_25])
noncomputable def gi_171 : GI := jl_n [jl_z 10, gp_93, jl_z 42, gp_94, gp_95]
noncomputable def ac_124 : AC := .inl (12, jl_n [vp_24, jl_1 13 3, jl_1 60 1, jl_1 15 1, jl_1 62 1, jl_1 13 1, jl_8 48 31])
noncomputable def hq_126 : HP := [(true, ac_124), (false, am_2)]
noncomputable def gi_172 : GI := jl_n [gp_97, jl_i 1 16, gp_99]
noncomputable def ac_125 : AC := .inl (12, jl_n [vp_24, jl_1 11 1, jl_1 61 4, jl_c 0, vp_25])
noncomputable def hq_127 : HP := [(true, ac_125), (false, am_2)]
noncomputable def con_326 : Con2 := ((yX12_number, cX12_number, 4, (some .int)), (2, 46), ([(6, 0, 0), (0, 1, 0), (0, 16, 0)], gi_170, [ac_123, am_2], []), [((0, 0, 0), gi_171, hq_126, [], tg_1), ((1, 14, 0), gi_172, hq_127, [], tg_1)])
theorem hd_326 : con_326.1 = (yX12_number, cX12_number, 4, (some .int)) := rfl
theorem ck_RX12_153_325 : COK2 RX12 vwCl gTbl 153 0 con_325 := ⟨wd_1582, wd_137, mh_X12_good, .inr (.inr ⟨rfl, wd_1579, wd_1581, wd_53, ⟨_, rfl, pd_X12_good⟩, 12, _, TX12, 45, rfl, rfl⟩)⟩
theorem ck_RX12_153_322 : COK2 RX12 vwCl gTbl 153 0 con_322 := ⟨wd_1582, wd_137, mh_X12_good, .inr (.inr ⟨rfl, wd_1579, wd_1581, wd_53, ⟨_, rfl, pd_X12_good⟩, 12, _, TX12, 45, rfl, rfl⟩)⟩
theorem ck_RX12_175_324 : COK2 RX12 vwCl gTbl 175 0 con_324 := ⟨wd_1609, wd_137, mh_X12_errs, .inr (.inr ⟨rfl, wd_1606, wd_1608, wd_59, ⟨_, rfl, pd_X12_errs⟩, 12, _, TX12, 45, rfl, rfl⟩)⟩
theorem ck_RX12_91_323 : COK2 RX12 vwCl gTbl 91 1 con_323 := ⟨wd_1544, wd_137, mh_X12_in, .inl ⟨rfl, wd_1542, wd_1543, pd_X12_in⟩⟩
noncomputable def ct_326 : CTB2 := [(1, 153, 0, con_314, [0]), (17, 175, 0, con_317, [0]), (21, 153, 0, con_322, [0]), (21, 153, 0, con_314, [0]), (36, 91, 1, con_323, []), (44, 175, 0, con_324, [0]), (48, 153, 0, con_322, [0]), (48, 153, 0, con_314, [0]), (48, 153, 0, con_325, [0]), (62, 169, 0, con_313, [0, 1])]
noncomputable def cu_326 : List CUT2 := []
theorem ch_326 : staG tb_X12_number 1 bt_RX12 [] ct_326 [] [] cu_326 31 con_326 = true := by decide +kernel
theorem cto_326 (l : Launch) : CTOK2 l RX12 vwCl gTbl ct_326 := ct2_cons (vl_314 l) ck_RX12_153_314 (ct2_cons (vl_317 l) ck_RX12_175_317 (ct2_cons (vl_322 l) ck_RX12_153_322 (ct2_cons (vl_314 l) ck_RX12_153_314 (ct2_cons (vl_323 l) ck_RX12_91_323 (ct2_cons (vl_324 l) ck_RX12_175_324 (ct2_cons (vl_322 l) ck_RX12_153_322 (ct2_cons (vl_314 l) ck_RX12_153_314 (ct2_cons (vl_325 l) ck_RX12_153_325 (ct2_cons (vl_313 l) ck_RX12_169_313 (ct2_nil))))))))))
theorem vl_326 (l : Launch) : Vld2 l vwCl gTbl con_326 := conR_ok3 gT_all (hd_326) rfl pn_RX12 tk_X12_number bo_RX12 xo_RX12 (cto_326 l) ch_326 cut_nil
/-- RookHustingModel number -/
noncomputable def ac_126 : AC := .inl (12, jl_n [vp_24, jl_1 15 5, jl_c 1, vp_25])
noncomputable def gi_173 : GI := jl_n [jl_z 10, gp_100]
noncomputable def hq_128 : HP := [(false, ac_126), (false, am_2)]
noncomputable def con_327 : Con2 := ((yX12_number, cX12_number, 4, (some .int)), (1, 20), ([(6, 0, 0), (0, 1, 0), (0, 16, 0)], gi_170, [ac_126, am_2], []), [((0, 0, 0), gi_173, hq_128, [], [1])])
theorem hd_327 : con_327.1 = (yX12_number, cX12_number, 4, (some .int)) := rfl
noncomputable def ct_327 : CTB2 := [(1, 153, 0, con_322, [0]), (21, 153, 0, con_322, [0]), (48, 153, 0, con_322, [0])]
noncomputable def cu_327 : List CUT2 := []
theorem ch_327 : staG tb_X12_number 1 bt_RX12 [] ct_327 [] [] cu_327 13 con_327 = true := by decide +kernel
theorem cto_327 (l : Launch) : CTOK2 l RX12 vwCl gTbl ct_327 := ct2_cons (vl_322 l) ck_RX12_153_322 (ct2_cons (vl_322 l) ck_RX12_153_322 (ct2_cons (vl_322 l) ck_RX12_153_322 (ct2_nil)))
theorem vl_327 (l : Launch) : Vld2 l vwCl gTbl con_327 := conR_ok3 gT_all (hd_327) rfl pn_RX12 tk_X12_number bo_RX12 xo_RX12 (cto_327 l) ch_327 cut_nil
/-- RookHustingModel told -/
noncomputable def gi_174 : GI := jl_n [jl_z 11, gp_92]
noncomputable def ac_127 : AC := .inl (12, jl_n [vp_27, jl_1 16 5, jl_c 0, jl_1 18 1, jl_8 49 31])
noncomputable def gi_175 : GI := jl_n [jl_z 11, gp_93, jl_z 40, gp_102, jl_z 31]
noncomputable def ac_128 : AC := .inl (12, jl_n [vp_27, jl_1 12 1, jl_1 64 6, jl_8 49 31])
noncomputable def hq_129 : HP := [(true, ac_128), (false, am_2)]
noncomputable def gi_176 : GI := jl_n [gp_104, jl_i 1 16, gp_105]
noncomputable def ac_129 : AC := .inl (12, jl_n [vp_27, jl_1 12 1, jl_1 62 4, jl_c 0, jl_1 18 1, jl_8 49 31])
noncomputable def hq_130 : HP := [(true, ac_129), (false, am_2)]
noncomputable def con_328 : Con2 := ((yX12_told, cX12_told, 4, (some .int)), (11, 266), ([(6, 0, 0), (13, 1, 0), (0, 1, 0), (0, 16, 0)], gi_174, [ac_127, am_2], []), [((0, 0, 0), gi_175, hq_129, [], tg_1), ((1, 49, 0), gi_176, hq_130, [], tg_1)])
theorem hd_328 : con_328.1 = (yX12_told, cX12_told, 4, (some .int)) := rfl
theorem ck_RX12_183_327 : COK2 RX12 vwCl gTbl 183 0 con_327 := ⟨wd_1618, wd_137, mh_X12_number, .inr (.inr ⟨rfl, wd_1615, wd_1617, wd_61, ⟨_, rfl, pd_X12_number⟩, 12, _, TX12, 45, rfl, rfl⟩)⟩
theorem ck_RX12_183_326 : COK2 RX12 vwCl gTbl 183 0 con_326 := ⟨wd_1618, wd_137, mh_X12_number, .inr (.inr ⟨rfl, wd_1615, wd_1617, wd_61, ⟨_, rfl, pd_X12_number⟩, 12, _, TX12, 45, rfl, rfl⟩)⟩
theorem ck_RX12_179_321 : COK2 RX12 vwCl gTbl 179 0 con_321 := ⟨wd_1595, wd_137, mh_X12_expects, .inr (.inr ⟨rfl, wd_1592, wd_1594, wd_56, ⟨_, rfl, pd_X12_expects⟩, 12, _, TX12, 45, rfl, rfl⟩)⟩
noncomputable def ct_328 : CTB2 := [(2, 179, 0, con_321, [0, 1]), (8, 183, 0, con_326, [0, 1]), (8, 183, 0, con_327, [0, 1])]
noncomputable def cu_328 : List CUT2 := []
theorem ch_328 : staG tb_X12_told 1 bt_RX12 [] ct_328 [] [] cu_328 10 con_328 = true := by decide +kernel
theorem cto_328 (l : Launch) : CTOK2 l RX12 vwCl gTbl ct_328 := ct2_cons (vl_321 l) ck_RX12_179_321 (ct2_cons (vl_326 l) ck_RX12_183_326 (ct2_cons (vl_327 l) ck_RX12_183_327 (ct2_nil)))
theorem vl_328 (l : Launch) : Vld2 l vwCl gTbl con_328 := conR_ok3 gT_all (hd_328) rfl pn_RX12 tk_X12_told bo_RX12 xo_RX12 (cto_328 l) ch_328 cut_nil
/-- RookHustingModel is -/
noncomputable def con_329 : Con2 := ((yX12_is, cX12_is, 4, (some .boolean)), (8, 200), ([(6, 0, 0), (13, 7, 0)], gi_155, [ac_112, am_2], []), [((0, 0, 0), gi_156, hq_121, [], [1]), ((0, 1, 0), gi_157, hq_121, [], [1])])
theorem hd_329 : con_329.1 = (yX12_is, cX12_is, 4, (some .boolean)) := rfl
noncomputable def gi_177 : GI := jl_n [gp_86, jl_i 0 3]
noncomputable def gi_178 : GI := jl_n [gp_87, jl_i 0 3]
noncomputable def cu_329 : List CUT2 := [((39, [lq 0 6 0, lq 1 13 7, lq 2 0 1, lq 3 1 50], [], gi_177, hq_121), [([(10, 1), (11, (-1))], (-3))], ([(50, (-1))], 3)), ((39, [lq 0 6 0, lq 1 13 7, lq 2 0 0, lq 3 1 50], [], gi_178, hq_121), [], ([(50, (-1))], 3))]
theorem ch_329 : staG tb_X12_is 1 bt_RX12 [] ct_315 [(55, [(0, (2, 0, 9), 0, 697)])] [23, 28] cu_329 25 con_329 = true := by decide +kernel
theorem cc_329 : cu_329.all (cutG tb_X12_is 1 bt_RX12 [] ct_315 [(55, [(0, (2, 0, 9), 0, 697)])] [23, 28] cu_329 25 con_329) = true := by decide +kernel
theorem vl_329 (l : Launch) : Vld2 l vwCl gTbl con_329 := conR_ok3 gT_all (hd_329) rfl pn_RX12 tk_X12_is bo_RX12 xo_RX12 (cto_315 l) ch_329 (cut_all cc_329)
/-- RookHustingModel takes -/
noncomputable def con_330 : Con2 := ((yX12_takes, cX12_takes, 3, (some .boolean)), (9, 223), ([(6, 0, 0), (13, 7, 0)], gi_160, [ac_113, am_2], []), [((0, 0, 0), gi_161, hq_122, [], [1]), ((0, 1, 0), gi_162, hq_123, [], tg_1)])
theorem hd_330 : con_330.1 = (yX12_takes, cX12_takes, 3, (some .boolean)) := rfl
theorem ck_RX12_165_329 : COK2 RX12 vwCl gTbl 165 0 con_329 := ⟨wd_1603, wd_137, mh_X12_is, .inr (.inr ⟨rfl, wd_1600, wd_1602, wd_58, ⟨_, rfl, pd_X12_is⟩, 12, _, TX12, 45, rfl, rfl⟩)⟩
noncomputable def ct_330 : CTB2 := [(2, 165, 0, con_329, [0, 1]), (11, 169, 0, con_313, [0, 1])]
noncomputable def cu_330 : List CUT2 := []
theorem ch_330 : staG tb_X12_takes 1 bt_RX12 [] ct_330 [] [] cu_330 12 con_330 = true := by decide +kernel
theorem cto_330 (l : Launch) : CTOK2 l RX12 vwCl gTbl ct_330 := ct2_cons (vl_329 l) ck_RX12_165_329 (ct2_cons (vl_313 l) ck_RX12_169_313 (ct2_nil))
theorem vl_330 (l : Launch) : Vld2 l vwCl gTbl con_330 := conR_ok3 gT_all (hd_330) rfl pn_RX12 tk_X12_takes bo_RX12 xo_RX12 (cto_330 l) ch_330 cut_nil
/-- RookHustingModel expects -/
noncomputable def con_331 : Con2 := ((yX12_expects, cX12_expects, 2, none), (10, 245), ([(6, 0, 0), (13, 7, 0)], gi_165, [ac_117, am_2], []), [((9, 0, 0), gi_166, hq_124, [], tg_10), ((9, 0, 0), gi_167, hq_125, [], tg_10)])
theorem hd_331 : con_331.1 = (yX12_expects, cX12_expects, 2, none) := rfl
theorem ck_RX12_172_330 : COK2 RX12 vwCl gTbl 172 0 con_330 := ⟨wd_1599, wd_137, mh_X12_takes, .inr (.inr ⟨rfl, wd_1596, wd_1598, wd_57, ⟨_, rfl, pd_X12_takes⟩, 12, _, TX12, 45, rfl, rfl⟩)⟩
noncomputable def ct_331 : CTB2 := [(2, 172, 0, con_330, [0, 1]), (10, 175, 0, con_317, [0])]
noncomputable def cu_331 : List CUT2 := []
theorem ch_331 : staG tb_X12_expects 1 bt_RX12 [] ct_331 [] [] cu_331 10 con_331 = true := by decide +kernel
theorem cto_331 (l : Launch) : CTOK2 l RX12 vwCl gTbl ct_331 := ct2_cons (vl_330 l) ck_RX12_172_330 (ct2_cons (vl_317 l) ck_RX12_175_317 (ct2_nil))
theorem vl_331 (l : Launch) : Vld2 l vwCl gTbl con_331 := conR_ok3 gT_all (hd_331) rfl pn_RX12 tk_X12_expects bo_RX12 xo_RX12 (cto_331 l) ch_331 cut_nil
/-- RookHustingModel in -/
noncomputable def con_332 : Con2 := ((yX12_in, cX12_in, 6, (some .boolean)), (0, 0), ([(4, 0, 0), (3, 0, 0), (3, 3, 0)], gi_146, [], []), [((0, 0, 0), [(4, 9223372036854775807), (0, 0), (0, 0), (0, 0)], [], [], [1]), ((0, 0, 0), [((-9223372036854775808), (-1)), (0, 0), (0, 0), (0, 0)], [], [], [1]), ((0, 1, 0), [(0, 3), (0, 0), (0, 0), (0, 0)], [], [], [1])])
theorem hd_332 : con_332.1 = (yX12_in, cX12_in, 6, (some .boolean)) := rfl
noncomputable def cu_332 : List CUT2 := []
theorem ch_332 : staG tb_X12_in 1 bt_RX12 [] ct_2 [] [] cu_332 11 con_332 = true := by decide +kernel
theorem vl_332 (l : Launch) : Vld2 l vwCl gTbl con_332 := conR_ok3 gT_all (hd_332) rfl pn_RX12 tk_X12_in bo_RX12 xo_RX12 (cto_2 l) ch_332 cut_nil
/-- RookHustingModel number -/
noncomputable def gi_179 : GI := jl_n [gp_97, gp_106, gp_98]
noncomputable def con_333 : Con2 := ((yX12_number, cX12_number, 4, (some .int)), (2, 46), ([(6, 0, 0), (0, 0, 0), (0, 3, 0)], gi_170, [ac_123, am_2], []), [((0, 0, 0), gi_171, hq_126, [], tg_1), ((1, 14, 0), gi_179, hq_127, [], tg_1)])
theorem hd_333 : con_333.1 = (yX12_number, cX12_number, 4, (some .int)) := rfl
theorem ck_RX12_91_332 : COK2 RX12 vwCl gTbl 91 1 con_332 := ⟨wd_1544, wd_137, mh_X12_in, .inl ⟨rfl, wd_1542, wd_1543, pd_X12_in⟩⟩
noncomputable def ct_333 : CTB2 := [(1, 153, 0, con_314, [0]), (17, 175, 0, con_317, [0]), (21, 153, 0, con_322, [0]), (21, 153, 0, con_314, [0]), (36, 91, 1, con_332, []), (44, 175, 0, con_324, [0]), (48, 153, 0, con_322, [0]), (48, 153, 0, con_314, [0]), (48, 153, 0, con_325, [0]), (62, 169, 0, con_313, [0, 1])]
noncomputable def cu_333 : List CUT2 := []
theorem ch_333 : staG tb_X12_number 1 bt_RX12 [] ct_333 [] [] cu_333 31 con_333 = true := by decide +kernel
theorem cto_333 (l : Launch) : CTOK2 l RX12 vwCl gTbl ct_333 := ct2_cons (vl_314 l) ck_RX12_153_314 (ct2_cons (vl_317 l) ck_RX12_175_317 (ct2_cons (vl_322 l) ck_RX12_153_322 (ct2_cons (vl_314 l) ck_RX12_153_314 (ct2_cons (vl_332 l) ck_RX12_91_332 (ct2_cons (vl_324 l) ck_RX12_175_324 (ct2_cons (vl_322 l) ck_RX12_153_322 (ct2_cons (vl_314 l) ck_RX12_153_314 (ct2_cons (vl_325 l) ck_RX12_153_325 (ct2_cons (vl_313 l) ck_RX12_169_313 (ct2_nil))))))))))
theorem vl_333 (l : Launch) : Vld2 l vwCl gTbl con_333 := conR_ok3 gT_all (hd_333) rfl pn_RX12 tk_X12_number bo_RX12 xo_RX12 (cto_333 l) ch_333 cut_nil
/-- RookHustingModel number -/
noncomputable def con_334 : Con2 := ((yX12_number, cX12_number, 4, (some .int)), (1, 20), ([(6, 0, 0), (0, 0, 0), (0, 3, 0)], gi_170, [ac_126, am_2], []), [((0, 0, 0), gi_173, hq_128, [], [1])])
theorem hd_334 : con_334.1 = (yX12_number, cX12_number, 4, (some .int)) := rfl
noncomputable def cu_334 : List CUT2 := []
theorem ch_334 : staG tb_X12_number 1 bt_RX12 [] ct_327 [] [] cu_334 13 con_334 = true := by decide +kernel
theorem vl_334 (l : Launch) : Vld2 l vwCl gTbl con_334 := conR_ok3 gT_all (hd_334) rfl pn_RX12 tk_X12_number bo_RX12 xo_RX12 (cto_327 l) ch_334 cut_nil
/-- RookHustingModel told -/
noncomputable def gi_180 : GI := jl_n [gp_104, jl_i 0 3, gp_105]
noncomputable def con_335 : Con2 := ((yX12_told, cX12_told, 4, (some .int)), (11, 266), ([(6, 0, 0), (13, 7, 0), (0, 0, 0), (0, 3, 0)], gi_174, [ac_127, am_2], []), [((0, 0, 0), gi_175, hq_129, [], tg_1), ((1, 49, 0), gi_180, hq_130, [], tg_1)])
theorem hd_335 : con_335.1 = (yX12_told, cX12_told, 4, (some .int)) := rfl
theorem ck_RX12_183_334 : COK2 RX12 vwCl gTbl 183 0 con_334 := ⟨wd_1618, wd_137, mh_X12_number, .inr (.inr ⟨rfl, wd_1615, wd_1617, wd_61, ⟨_, rfl, pd_X12_number⟩, 12, _, TX12, 45, rfl, rfl⟩)⟩
theorem ck_RX12_183_333 : COK2 RX12 vwCl gTbl 183 0 con_333 := ⟨wd_1618, wd_137, mh_X12_number, .inr (.inr ⟨rfl, wd_1615, wd_1617, wd_61, ⟨_, rfl, pd_X12_number⟩, 12, _, TX12, 45, rfl, rfl⟩)⟩
theorem ck_RX12_179_331 : COK2 RX12 vwCl gTbl 179 0 con_331 := ⟨wd_1595, wd_137, mh_X12_expects, .inr (.inr ⟨rfl, wd_1592, wd_1594, wd_56, ⟨_, rfl, pd_X12_expects⟩, 12, _, TX12, 45, rfl, rfl⟩)⟩
noncomputable def ct_335 : CTB2 := [(2, 179, 0, con_331, [0, 1]), (8, 183, 0, con_333, [0, 1]), (8, 183, 0, con_334, [0, 1])]
noncomputable def cu_335 : List CUT2 := []
theorem ch_335 : staG tb_X12_told 1 bt_RX12 [] ct_335 [] [] cu_335 10 con_335 = true := by decide +kernel
theorem cto_335 (l : Launch) : CTOK2 l RX12 vwCl gTbl ct_335 := ct2_cons (vl_331 l) ck_RX12_179_331 (ct2_cons (vl_333 l) ck_RX12_183_333 (ct2_cons (vl_334 l) ck_RX12_183_334 (ct2_nil)))
theorem vl_335 (l : Launch) : Vld2 l vwCl gTbl con_335 := conR_ok3 gT_all (hd_335) rfl pn_RX12 tk_X12_told bo_RX12 xo_RX12 (cto_335 l) ch_335 cut_nil
/-- RookHustingModel is -/
noncomputable def con_336 : Con2 := ((yX12_is, cX12_is, 4, (some .boolean)), (8, 200), ([(6, 0, 0), (13, 9, 0)], gi_155, [ac_112, am_2], []), [((0, 0, 0), gi_156, hq_121, [], [1]), ((0, 1, 0), gi_157, hq_121, [], [1])])
theorem hd_336 : con_336.1 = (yX12_is, cX12_is, 4, (some .boolean)) := rfl
noncomputable def cu_336 : List CUT2 := [((39, [lq 0 6 0, lq 1 13 9, lq 2 0 1, lq 3 1 50], [], gi_168, hq_121), [([(10, 1), (11, (-1))], (-4))], ([(50, (-1))], 4)), ((39, [lq 0 6 0, lq 1 13 9, lq 2 0 0, lq 3 1 50], [], gi_169, hq_121), [], ([(50, (-1))], 4))]
theorem ch_336 : staG tb_X12_is 1 bt_RX12 [] ct_315 [(55, [(0, (2, 0, 9), 0, 696)])] [23, 28] cu_336 25 con_336 = true := by decide +kernel
theorem cc_336 : cu_336.all (cutG tb_X12_is 1 bt_RX12 [] ct_315 [(55, [(0, (2, 0, 9), 0, 696)])] [23, 28] cu_336 25 con_336) = true := by decide +kernel
theorem vl_336 (l : Launch) : Vld2 l vwCl gTbl con_336 := conR_ok3 gT_all (hd_336) rfl pn_RX12 tk_X12_is bo_RX12 xo_RX12 (cto_315 l) ch_336 (cut_all cc_336)
/-- RookHustingModel takes -/
noncomputable def con_337 : Con2 := ((yX12_takes, cX12_takes, 3, (some .boolean)), (9, 223), ([(6, 0, 0), (13, 9, 0)], gi_160, [ac_113, am_2], []), [((0, 0, 0), gi_161, hq_122, [], [1]), ((0, 1, 0), gi_162, hq_123, [], tg_1)])
theorem hd_337 : con_337.1 = (yX12_takes, cX12_takes, 3, (some .boolean)) := rfl
theorem ck_RX12_165_336 : COK2 RX12 vwCl gTbl 165 0 con_336 := ⟨wd_1603, wd_137, mh_X12_is, .inr (.inr ⟨rfl, wd_1600, wd_1602, wd_58, ⟨_, rfl, pd_X12_is⟩, 12, _, TX12, 45, rfl, rfl⟩)⟩
noncomputable def ct_337 : CTB2 := [(2, 165, 0, con_336, [0, 1]), (11, 169, 0, con_313, [0, 1])]
noncomputable def cu_337 : List CUT2 := []
theorem ch_337 : staG tb_X12_takes 1 bt_RX12 [] ct_337 [] [] cu_337 12 con_337 = true := by decide +kernel
theorem cto_337 (l : Launch) : CTOK2 l RX12 vwCl gTbl ct_337 := ct2_cons (vl_336 l) ck_RX12_165_336 (ct2_cons (vl_313 l) ck_RX12_169_313 (ct2_nil))
theorem vl_337 (l : Launch) : Vld2 l vwCl gTbl con_337 := conR_ok3 gT_all (hd_337) rfl pn_RX12 tk_X12_takes bo_RX12 xo_RX12 (cto_337 l) ch_337 cut_nil
/-- RookHustingModel expects -/
noncomputable def con_338 : Con2 := ((yX12_expects, cX12_expects, 2, none), (10, 245), ([(6, 0, 0), (13, 9, 0)], gi_165, [ac_117, am_2], []), [((9, 0, 0), gi_166, hq_124, [], tg_10), ((9, 0, 0), gi_167, hq_125, [], tg_10)])
theorem hd_338 : con_338.1 = (yX12_expects, cX12_expects, 2, none) := rfl
theorem ck_RX12_172_337 : COK2 RX12 vwCl gTbl 172 0 con_337 := ⟨wd_1599, wd_137, mh_X12_takes, .inr (.inr ⟨rfl, wd_1596, wd_1598, wd_57, ⟨_, rfl, pd_X12_takes⟩, 12, _, TX12, 45, rfl, rfl⟩)⟩
noncomputable def ct_338 : CTB2 := [(2, 172, 0, con_337, [0, 1]), (10, 175, 0, con_317, [0])]
noncomputable def cu_338 : List CUT2 := []
theorem ch_338 : staG tb_X12_expects 1 bt_RX12 [] ct_338 [] [] cu_338 10 con_338 = true := by decide +kernel
theorem cto_338 (l : Launch) : CTOK2 l RX12 vwCl gTbl ct_338 := ct2_cons (vl_337 l) ck_RX12_172_337 (ct2_cons (vl_317 l) ck_RX12_175_317 (ct2_nil))
theorem vl_338 (l : Launch) : Vld2 l vwCl gTbl con_338 := conR_ok3 gT_all (hd_338) rfl pn_RX12 tk_X12_expects bo_RX12 xo_RX12 (cto_338 l) ch_338 cut_nil
/-- RookHustingModel in -/
noncomputable def con_339 : Con2 := ((yX12_in, cX12_in, 6, (some .boolean)), (0, 0), ([(4, 0, 0), (3, 0, 0), (3, 10, 0)], gi_146, [], []), [((0, 0, 0), gi_147, [], [], [1]), ((0, 1, 0), [(0, 10), (0, 0), (0, 0), (0, 0)], [], [], [1])])
theorem hd_339 : con_339.1 = (yX12_in, cX12_in, 6, (some .boolean)) := rfl
noncomputable def cu_339 : List CUT2 := []
theorem ch_339 : staG tb_X12_in 1 bt_RX12 [] ct_2 [] [] cu_339 11 con_339 = true := by decide +kernel
theorem vl_339 (l : Launch) : Vld2 l vwCl gTbl con_339 := conR_ok3 gT_all (hd_339) rfl pn_RX12 tk_X12_in bo_RX12 xo_RX12 (cto_2 l) ch_339 cut_nil
/-- RookHustingModel number -/
noncomputable def gi_181 : GI := jl_n [gp_97, jl_i 0 10, gp_99]
noncomputable def con_340 : Con2 := ((yX12_number, cX12_number, 4, (some .int)), (2, 46), ([(6, 0, 0), (0, 0, 0), (0, 10, 0)], gi_170, [ac_123, am_2], []), [((0, 0, 0), gi_171, hq_126, [], tg_1), ((1, 14, 0), gi_181, hq_127, [], tg_1)])
theorem hd_340 : con_340.1 = (yX12_number, cX12_number, 4, (some .int)) := rfl
theorem ck_RX12_91_339 : COK2 RX12 vwCl gTbl 91 1 con_339 := ⟨wd_1544, wd_137, mh_X12_in, .inl ⟨rfl, wd_1542, wd_1543, pd_X12_in⟩⟩
noncomputable def ct_340 : CTB2 := [(1, 153, 0, con_314, [0]), (17, 175, 0, con_317, [0]), (21, 153, 0, con_322, [0]), (21, 153, 0, con_314, [0]), (36, 91, 1, con_339, []), (44, 175, 0, con_324, [0]), (48, 153, 0, con_322, [0]), (48, 153, 0, con_314, [0]), (48, 153, 0, con_325, [0]), (62, 169, 0, con_313, [0, 1])]
noncomputable def cu_340 : List CUT2 := []
theorem ch_340 : staG tb_X12_number 1 bt_RX12 [] ct_340 [] [] cu_340 31 con_340 = true := by decide +kernel
theorem cto_340 (l : Launch) : CTOK2 l RX12 vwCl gTbl ct_340 := ct2_cons (vl_314 l) ck_RX12_153_314 (ct2_cons (vl_317 l) ck_RX12_175_317 (ct2_cons (vl_322 l) ck_RX12_153_322 (ct2_cons (vl_314 l) ck_RX12_153_314 (ct2_cons (vl_339 l) ck_RX12_91_339 (ct2_cons (vl_324 l) ck_RX12_175_324 (ct2_cons (vl_322 l) ck_RX12_153_322 (ct2_cons (vl_314 l) ck_RX12_153_314 (ct2_cons (vl_325 l) ck_RX12_153_325 (ct2_cons (vl_313 l) ck_RX12_169_313 (ct2_nil))))))))))
theorem vl_340 (l : Launch) : Vld2 l vwCl gTbl con_340 := conR_ok3 gT_all (hd_340) rfl pn_RX12 tk_X12_number bo_RX12 xo_RX12 (cto_340 l) ch_340 cut_nil
/-- RookHustingModel number -/
noncomputable def con_341 : Con2 := ((yX12_number, cX12_number, 4, (some .int)), (1, 20), ([(6, 0, 0), (0, 0, 0), (0, 10, 0)], gi_170, [ac_126, am_2], []), [((0, 0, 0), gi_173, hq_128, [], [1])])
theorem hd_341 : con_341.1 = (yX12_number, cX12_number, 4, (some .int)) := rfl
noncomputable def cu_341 : List CUT2 := []
theorem ch_341 : staG tb_X12_number 1 bt_RX12 [] ct_327 [] [] cu_341 13 con_341 = true := by decide +kernel
theorem vl_341 (l : Launch) : Vld2 l vwCl gTbl con_341 := conR_ok3 gT_all (hd_341) rfl pn_RX12 tk_X12_number bo_RX12 xo_RX12 (cto_327 l) ch_341 cut_nil
/-- RookHustingModel told -/
noncomputable def gi_182 : GI := jl_n [gp_104, jl_i 0 10, gp_105]
noncomputable def con_342 : Con2 := ((yX12_told, cX12_told, 4, (some .int)), (11, 266), ([(6, 0, 0), (13, 9, 0), (0, 0, 0), (0, 10, 0)], gi_174, [ac_127, am_2], []), [((0, 0, 0), gi_175, hq_129, [], tg_1), ((1, 49, 0), gi_182, hq_130, [], tg_1)])
theorem hd_342 : con_342.1 = (yX12_told, cX12_told, 4, (some .int)) := rfl
theorem ck_RX12_183_341 : COK2 RX12 vwCl gTbl 183 0 con_341 := ⟨wd_1618, wd_137, mh_X12_number, .inr (.inr ⟨rfl, wd_1615, wd_1617, wd_61, ⟨_, rfl, pd_X12_number⟩, 12, _, TX12, 45, rfl, rfl⟩)⟩
theorem ck_RX12_183_340 : COK2 RX12 vwCl gTbl 183 0 con_340 := ⟨wd_1618, wd_137, mh_X12_number, .inr (.inr ⟨rfl, wd_1615, wd_1617, wd_61, ⟨_, rfl, pd_X12_number⟩, 12, _, TX12, 45, rfl, rfl⟩)⟩
theorem ck_RX12_179_338 : COK2 RX12 vwCl gTbl 179 0 con_338 := ⟨wd_1595, wd_137, mh_X12_expects, .inr (.inr ⟨rfl, wd_1592, wd_1594, wd_56, ⟨_, rfl, pd_X12_expects⟩, 12, _, TX12, 45, rfl, rfl⟩)⟩
noncomputable def ct_342 : CTB2 := [(2, 179, 0, con_338, [0, 1]), (8, 183, 0, con_340, [0, 1]), (8, 183, 0, con_341, [0, 1])]
noncomputable def cu_342 : List CUT2 := []
theorem ch_342 : staG tb_X12_told 1 bt_RX12 [] ct_342 [] [] cu_342 10 con_342 = true := by decide +kernel
theorem cto_342 (l : Launch) : CTOK2 l RX12 vwCl gTbl ct_342 := ct2_cons (vl_338 l) ck_RX12_179_338 (ct2_cons (vl_340 l) ck_RX12_183_340 (ct2_cons (vl_341 l) ck_RX12_183_341 (ct2_nil)))
theorem vl_342 (l : Launch) : Vld2 l vwCl gTbl con_342 := conR_ok3 gT_all (hd_342) rfl pn_RX12 tk_X12_told bo_RX12 xo_RX12 (cto_342 l) ch_342 cut_nil
/-- RookHustingModel good -/
noncomputable def gi_183 : GI := jl_n [jl_z 13, gp_95]
noncomputable def ac_130 : AC := .inl (12, jl_n [jl_8 13 12, jl_1 14 1, jl_8 46 32])
noncomputable def gi_184 : GI := jl_n [jl_z 13, jl_i 1 2, jl_z 33]
noncomputable def con_343 : Con2 := ((yX12_good, cX12_good, 1, (some .boolean)), (0, 0), ([(6, 0, 0)], gi_183, [ac_130], []), [((0, 0, 0), gi_184, [(false, ac_130)], [], [1])])
theorem hd_343 : con_343.1 = (yX12_good, cX12_good, 1, (some .boolean)) := rfl
noncomputable def cu_343 : List CUT2 := []
theorem ch_343 : staG tb_X12_good 1 bt_RX12 [] ct_2 [] [] cu_343 7 con_343 = true := by decide +kernel
theorem vl_343 (l : Launch) : Vld2 l vwCl gTbl con_343 := conR_ok3 gT_all (hd_343) rfl pn_RX12 tk_X12_good bo_RX12 xo_RX12 (cto_2 l) ch_343 cut_nil
/-- RookHustingModel is -/
noncomputable def gi_185 : GI := jl_n [gp_84, jl_z 1, gp_95]
noncomputable def ac_131 : AC := .inl (12, jl_n [vp_13, jl_8 10 3, jl_1 13 3, jl_8 14 1, jl_1 15 1, jl_8 47 32])
noncomputable def gi_186 : GI := jl_n [gp_84, jl_z 1, jl_i 1 2, jl_z 33]
noncomputable def hq_131 : HP := [(false, ac_131), (false, am_2)]
noncomputable def con_344 : Con2 := ((yX12_is, cX12_is, 4, (some .boolean)), (8, 200), ([(6, 0, 0), (13, 9, 0)], gi_185, [ac_131, am_2], []), [((0, 0, 0), gi_186, hq_131, [], [1])])
theorem hd_344 : con_344.1 = (yX12_is, cX12_is, 4, (some .boolean)) := rfl
theorem ck_RX12_153_343 : COK2 RX12 vwCl gTbl 153 0 con_343 := ⟨wd_1582, wd_137, mh_X12_good, .inr (.inr ⟨rfl, wd_1579, wd_1581, wd_53, ⟨_, rfl, pd_X12_good⟩, 12, _, TX12, 45, rfl, rfl⟩)⟩
noncomputable def ct_344 : CTB2 := [(1, 153, 0, con_343, [0])]
noncomputable def gi_187 : GI := jl_n [gp_84, jl_z 1, jl_i 1 2, jl_z 36]
noncomputable def cu_344 : List CUT2 := [((39, [lq 0 6 0, lq 1 13 9, lq 2 0 0, lq 3 0 0], [], gi_187, hq_131), [], ([], 0))]
theorem ch_344 : staG tb_X12_is 1 bt_RX12 [] ct_344 [(55, [(0, (2, 0, 9), 0, 696)])] [23, 28] cu_344 10 con_344 = true := by decide +kernel
theorem cc_344 : cu_344.all (cutG tb_X12_is 1 bt_RX12 [] ct_344 [(55, [(0, (2, 0, 9), 0, 696)])] [23, 28] cu_344 10 con_344) = true := by decide +kernel
theorem cto_344 (l : Launch) : CTOK2 l RX12 vwCl gTbl ct_344 := ct2_cons (vl_343 l) ck_RX12_153_343 (ct2_nil)
theorem vl_344 (l : Launch) : Vld2 l vwCl gTbl con_344 := conR_ok3 gT_all (hd_344) rfl pn_RX12 tk_X12_is bo_RX12 xo_RX12 (cto_344 l) ch_344 (cut_all cc_344)
/-- RookHustingModel takes -/
noncomputable def gi_188 : GI := jl_n [jl_z 9, gp_107, jl_z 32]
noncomputable def ac_132 : AC := .inl (12, jl_n [vp_14, jl_1 15 6, jl_8 47 32])
noncomputable def gi_189 : GI := jl_n [jl_z 9, gp_107, jl_z 33]
noncomputable def hq_132 : HP := [(false, ac_132), (false, am_2)]
noncomputable def con_345 : Con2 := ((yX12_takes, cX12_takes, 3, (some .boolean)), (9, 223), ([(6, 0, 0), (13, 9, 0)], gi_188, [ac_132, am_2], []), [((0, 0, 0), gi_189, hq_132, [], [1])])
theorem hd_345 : con_345.1 = (yX12_takes, cX12_takes, 3, (some .boolean)) := rfl
theorem ck_RX12_165_344 : COK2 RX12 vwCl gTbl 165 0 con_344 := ⟨wd_1603, wd_137, mh_X12_is, .inr (.inr ⟨rfl, wd_1600, wd_1602, wd_58, ⟨_, rfl, pd_X12_is⟩, 12, _, TX12, 45, rfl, rfl⟩)⟩
noncomputable def ct_345 : CTB2 := [(2, 165, 0, con_344, [0, 1])]
noncomputable def cu_345 : List CUT2 := []
theorem ch_345 : staG tb_X12_takes 1 bt_RX12 [] ct_345 [] [] cu_345 10 con_345 = true := by decide +kernel
theorem cto_345 (l : Launch) : CTOK2 l RX12 vwCl gTbl ct_345 := ct2_cons (vl_344 l) ck_RX12_165_344 (ct2_nil)
theorem vl_345 (l : Launch) : Vld2 l vwCl gTbl con_345 := conR_ok3 gT_all (hd_345) rfl pn_RX12 tk_X12_takes bo_RX12 xo_RX12 (cto_345 l) ch_345 cut_nil
/-- RookHustingModel errs -/
noncomputable def gi_190 : GI := jl_n [jl_z 11, jl_i 0 700, jl_z 2, jl_i 1 2, gp_89]
noncomputable def ac_133 : AC := .inl (12, jl_n [vp_20, jl_1 16 2, jl_8 47 31])
noncomputable def con_346 : Con2 := ((yX12_errs, cX12_errs, 2, none), (1, 20), ([(6, 0, 0), (0, 1, 0)], gi_190, [ac_133], []), [((9, 0, 0), gi_190, [(false, ac_133)], [], [])])
theorem hd_346 : con_346.1 = (yX12_errs, cX12_errs, 2, none) := rfl
noncomputable def cu_346 : List CUT2 := []
theorem ch_346 : staG tb_X12_errs 1 bt_RX12 [] ct_344 [] [] cu_346 6 con_346 = true := by decide +kernel
theorem vl_346 (l : Launch) : Vld2 l vwCl gTbl con_346 := conR_ok3 gT_all (hd_346) rfl pn_RX12 tk_X12_errs bo_RX12 xo_RX12 (cto_344 l) ch_346 cut_nil
/-- RookHustingModel expects -/
noncomputable def gi_191 : GI := jl_n [jl_z 9, gp_108]
noncomputable def ac_134 : AC := .inl (12, jl_n [vp_14, jl_1 16 7, jl_8 47 31])
noncomputable def hq_133 : HP := [(false, ac_134), (false, am_2)]
noncomputable def con_347 : Con2 := ((yX12_expects, cX12_expects, 2, none), (10, 245), ([(6, 0, 0), (13, 9, 0)], gi_191, [ac_134, am_2], []), [((9, 0, 0), gi_191, hq_133, [], [])])
theorem hd_347 : con_347.1 = (yX12_expects, cX12_expects, 2, none) := rfl
theorem ck_RX12_175_346 : COK2 RX12 vwCl gTbl 175 0 con_346 := ⟨wd_1609, wd_137, mh_X12_errs, .inr (.inr ⟨rfl, wd_1606, wd_1608, wd_59, ⟨_, rfl, pd_X12_errs⟩, 12, _, TX12, 45, rfl, rfl⟩)⟩
theorem ck_RX12_172_345 : COK2 RX12 vwCl gTbl 172 0 con_345 := ⟨wd_1599, wd_137, mh_X12_takes, .inr (.inr ⟨rfl, wd_1596, wd_1598, wd_57, ⟨_, rfl, pd_X12_takes⟩, 12, _, TX12, 45, rfl, rfl⟩)⟩
noncomputable def ct_347 : CTB2 := [(2, 172, 0, con_345, [0, 1]), (10, 175, 0, con_346, [0])]
noncomputable def cu_347 : List CUT2 := []
theorem ch_347 : staG tb_X12_expects 1 bt_RX12 [] ct_347 [] [] cu_347 10 con_347 = true := by decide +kernel
theorem cto_347 (l : Launch) : CTOK2 l RX12 vwCl gTbl ct_347 := ct2_cons (vl_345 l) ck_RX12_172_345 (ct2_cons (vl_346 l) ck_RX12_175_346 (ct2_nil))
theorem vl_347 (l : Launch) : Vld2 l vwCl gTbl con_347 := conR_ok3 gT_all (hd_347) rfl pn_RX12 tk_X12_expects bo_RX12 xo_RX12 (cto_347 l) ch_347 cut_nil
/-- RookHustingModel number -/
noncomputable def gi_192 : GI := jl_n [jl_z 10, gp_108]
noncomputable def ac_135 : AC := .inl (12, jl_n [vp_24, jl_1 17 7, jl_8 48 31])
noncomputable def gi_193 : GI := jl_n [jl_z 10, gp_107, jl_m 0 700, jl_z 32]
noncomputable def hq_134 : HP := [(false, ac_135), (false, am_2)]
noncomputable def con_348 : Con2 := ((yX12_number, cX12_number, 4, (some .int)), (1, 20), ([(6, 0, 0), (0, 0, 0), (0, 10, 0)], gi_192, [ac_135, am_2], []), [((0, 0, 0), gi_193, hq_134, [], [1])])
theorem hd_348 : con_348.1 = (yX12_number, cX12_number, 4, (some .int)) := rfl
noncomputable def ct_348 : CTB2 := [(1, 153, 0, con_343, [0]), (21, 153, 0, con_343, [0]), (48, 153, 0, con_343, [0])]
noncomputable def cu_348 : List CUT2 := []
theorem ch_348 : staG tb_X12_number 1 bt_RX12 [] ct_348 [] [] cu_348 13 con_348 = true := by decide +kernel
theorem cto_348 (l : Launch) : CTOK2 l RX12 vwCl gTbl ct_348 := ct2_cons (vl_343 l) ck_RX12_153_343 (ct2_cons (vl_343 l) ck_RX12_153_343 (ct2_cons (vl_343 l) ck_RX12_153_343 (ct2_nil)))
theorem vl_348 (l : Launch) : Vld2 l vwCl gTbl con_348 := conR_ok3 gT_all (hd_348) rfl pn_RX12 tk_X12_number bo_RX12 xo_RX12 (cto_348 l) ch_348 cut_nil
/-- RookHustingModel told -/
noncomputable def gi_194 : GI := jl_n [jl_z 11, gp_108]
noncomputable def ac_136 : AC := .inl (12, jl_n [vp_27, jl_1 18 7, jl_8 49 31])
noncomputable def gi_195 : GI := jl_n [jl_z 11, gp_107, jl_m 0 700, jl_z 32]
noncomputable def hq_135 : HP := [(false, ac_136), (false, am_2)]
noncomputable def con_349 : Con2 := ((yX12_told, cX12_told, 4, (some .int)), (11, 266), ([(6, 0, 0), (13, 9, 0), (0, 0, 0), (0, 10, 0)], gi_194, [ac_136, am_2], []), [((0, 0, 0), gi_195, hq_135, [], [1])])
theorem hd_349 : con_349.1 = (yX12_told, cX12_told, 4, (some .int)) := rfl
theorem ck_RX12_183_348 : COK2 RX12 vwCl gTbl 183 0 con_348 := ⟨wd_1618, wd_137, mh_X12_number, .inr (.inr ⟨rfl, wd_1615, wd_1617, wd_61, ⟨_, rfl, pd_X12_number⟩, 12, _, TX12, 45, rfl, rfl⟩)⟩
theorem ck_RX12_179_347 : COK2 RX12 vwCl gTbl 179 0 con_347 := ⟨wd_1595, wd_137, mh_X12_expects, .inr (.inr ⟨rfl, wd_1592, wd_1594, wd_56, ⟨_, rfl, pd_X12_expects⟩, 12, _, TX12, 45, rfl, rfl⟩)⟩
noncomputable def ct_349 : CTB2 := [(2, 179, 0, con_347, [0, 1]), (8, 183, 0, con_348, [0, 1])]
noncomputable def cu_349 : List CUT2 := []
theorem ch_349 : staG tb_X12_told 1 bt_RX12 [] ct_349 [] [] cu_349 10 con_349 = true := by decide +kernel
theorem cto_349 (l : Launch) : CTOK2 l RX12 vwCl gTbl ct_349 := ct2_cons (vl_347 l) ck_RX12_179_347 (ct2_cons (vl_348 l) ck_RX12_183_348 (ct2_nil))
theorem vl_349 (l : Launch) : Vld2 l vwCl gTbl con_349 := conR_ok3 gT_all (hd_349) rfl pn_RX12 tk_X12_told bo_RX12 xo_RX12 (cto_349 l) ch_349 cut_nil
/-- RookHustingModel is -/
noncomputable def con_350 : Con2 := ((yX12_is, cX12_is, 4, (some .boolean)), (8, 200), ([(6, 0, 0), (13, 7, 0)], gi_185, [ac_131, am_2], []), [((0, 0, 0), gi_186, hq_131, [], [1])])
theorem hd_350 : con_350.1 = (yX12_is, cX12_is, 4, (some .boolean)) := rfl
noncomputable def cu_350 : List CUT2 := [((39, [lq 0 6 0, lq 1 13 7, lq 2 0 0, lq 3 0 0], [], gi_187, hq_131), [], ([], 0))]
theorem ch_350 : staG tb_X12_is 1 bt_RX12 [] ct_344 [(55, [(0, (2, 0, 9), 0, 697)])] [23, 28] cu_350 10 con_350 = true := by decide +kernel
theorem cc_350 : cu_350.all (cutG tb_X12_is 1 bt_RX12 [] ct_344 [(55, [(0, (2, 0, 9), 0, 697)])] [23, 28] cu_350 10 con_350) = true := by decide +kernel
theorem vl_350 (l : Launch) : Vld2 l vwCl gTbl con_350 := conR_ok3 gT_all (hd_350) rfl pn_RX12 tk_X12_is bo_RX12 xo_RX12 (cto_344 l) ch_350 (cut_all cc_350)
/-- RookHustingModel takes -/
noncomputable def con_351 : Con2 := ((yX12_takes, cX12_takes, 3, (some .boolean)), (9, 223), ([(6, 0, 0), (13, 7, 0)], gi_188, [ac_132, am_2], []), [((0, 0, 0), gi_189, hq_132, [], [1])])
theorem hd_351 : con_351.1 = (yX12_takes, cX12_takes, 3, (some .boolean)) := rfl
theorem ck_RX12_165_350 : COK2 RX12 vwCl gTbl 165 0 con_350 := ⟨wd_1603, wd_137, mh_X12_is, .inr (.inr ⟨rfl, wd_1600, wd_1602, wd_58, ⟨_, rfl, pd_X12_is⟩, 12, _, TX12, 45, rfl, rfl⟩)⟩
noncomputable def ct_351 : CTB2 := [(2, 165, 0, con_350, [0, 1])]
noncomputable def cu_351 : List CUT2 := []
theorem ch_351 : staG tb_X12_takes 1 bt_RX12 [] ct_351 [] [] cu_351 10 con_351 = true := by decide +kernel
theorem cto_351 (l : Launch) : CTOK2 l RX12 vwCl gTbl ct_351 := ct2_cons (vl_350 l) ck_RX12_165_350 (ct2_nil)
theorem vl_351 (l : Launch) : Vld2 l vwCl gTbl con_351 := conR_ok3 gT_all (hd_351) rfl pn_RX12 tk_X12_takes bo_RX12 xo_RX12 (cto_351 l) ch_351 cut_nil
/-- RookHustingModel expects -/
noncomputable def con_352 : Con2 := ((yX12_expects, cX12_expects, 2, none), (10, 245), ([(6, 0, 0), (13, 7, 0)], gi_191, [ac_134, am_2], []), [((9, 0, 0), gi_191, hq_133, [], [])])
theorem hd_352 : con_352.1 = (yX12_expects, cX12_expects, 2, none) := rfl
theorem ck_RX12_172_351 : COK2 RX12 vwCl gTbl 172 0 con_351 := ⟨wd_1599, wd_137, mh_X12_takes, .inr (.inr ⟨rfl, wd_1596, wd_1598, wd_57, ⟨_, rfl, pd_X12_takes⟩, 12, _, TX12, 45, rfl, rfl⟩)⟩
noncomputable def ct_352 : CTB2 := [(2, 172, 0, con_351, [0, 1]), (10, 175, 0, con_346, [0])]
noncomputable def cu_352 : List CUT2 := []
theorem ch_352 : staG tb_X12_expects 1 bt_RX12 [] ct_352 [] [] cu_352 10 con_352 = true := by decide +kernel
theorem cto_352 (l : Launch) : CTOK2 l RX12 vwCl gTbl ct_352 := ct2_cons (vl_351 l) ck_RX12_172_351 (ct2_cons (vl_346 l) ck_RX12_175_346 (ct2_nil))
theorem vl_352 (l : Launch) : Vld2 l vwCl gTbl con_352 := conR_ok3 gT_all (hd_352) rfl pn_RX12 tk_X12_expects bo_RX12 xo_RX12 (cto_352 l) ch_352 cut_nil
/-- RookHustingModel number -/
noncomputable def con_353 : Con2 := ((yX12_number, cX12_number, 4, (some .int)), (1, 20), ([(6, 0, 0), (0, 0, 0), (0, 3, 0)], gi_192, [ac_135, am_2], []), [((0, 0, 0), gi_193, hq_134, [], [1])])
theorem hd_353 : con_353.1 = (yX12_number, cX12_number, 4, (some .int)) := rfl
noncomputable def cu_353 : List CUT2 := []
theorem ch_353 : staG tb_X12_number 1 bt_RX12 [] ct_348 [] [] cu_353 13 con_353 = true := by decide +kernel
theorem vl_353 (l : Launch) : Vld2 l vwCl gTbl con_353 := conR_ok3 gT_all (hd_353) rfl pn_RX12 tk_X12_number bo_RX12 xo_RX12 (cto_348 l) ch_353 cut_nil
/-- RookHustingModel told -/
noncomputable def con_354 : Con2 := ((yX12_told, cX12_told, 4, (some .int)), (11, 266), ([(6, 0, 0), (13, 7, 0), (0, 0, 0), (0, 3, 0)], gi_194, [ac_136, am_2], []), [((0, 0, 0), gi_195, hq_135, [], [1])])
theorem hd_354 : con_354.1 = (yX12_told, cX12_told, 4, (some .int)) := rfl
theorem ck_RX12_183_353 : COK2 RX12 vwCl gTbl 183 0 con_353 := ⟨wd_1618, wd_137, mh_X12_number, .inr (.inr ⟨rfl, wd_1615, wd_1617, wd_61, ⟨_, rfl, pd_X12_number⟩, 12, _, TX12, 45, rfl, rfl⟩)⟩
theorem ck_RX12_179_352 : COK2 RX12 vwCl gTbl 179 0 con_352 := ⟨wd_1595, wd_137, mh_X12_expects, .inr (.inr ⟨rfl, wd_1592, wd_1594, wd_56, ⟨_, rfl, pd_X12_expects⟩, 12, _, TX12, 45, rfl, rfl⟩)⟩
noncomputable def ct_354 : CTB2 := [(2, 179, 0, con_352, [0, 1]), (8, 183, 0, con_353, [0, 1])]
noncomputable def cu_354 : List CUT2 := []
theorem ch_354 : staG tb_X12_told 1 bt_RX12 [] ct_354 [] [] cu_354 10 con_354 = true := by decide +kernel
theorem cto_354 (l : Launch) : CTOK2 l RX12 vwCl gTbl ct_354 := ct2_cons (vl_352 l) ck_RX12_179_352 (ct2_cons (vl_353 l) ck_RX12_183_353 (ct2_nil))
theorem vl_354 (l : Launch) : Vld2 l vwCl gTbl con_354 := conR_ok3 gT_all (hd_354) rfl pn_RX12 tk_X12_told bo_RX12 xo_RX12 (cto_354 l) ch_354 cut_nil
/-- RookHustingModel is -/
noncomputable def ac_137 : AC := .inl (12, jl_n [vp_13, jl_8 10 3, jl_1 13 3, jl_8 14 1, jl_c 1, jl_8 47 32])
noncomputable def hq_136 : HP := [(false, ac_137), (false, am_2)]
noncomputable def con_355 : Con2 := ((yX12_is, cX12_is, 4, (some .boolean)), (8, 200), ([(6, 0, 0), (13, 1, 0)], gi_155, [ac_137, am_2], []), [((0, 0, 0), gi_156, hq_136, [], [1])])
theorem hd_355 : con_355.1 = (yX12_is, cX12_is, 4, (some .boolean)) := rfl
noncomputable def ct_355 : CTB2 := [(1, 153, 0, con_322, [0])]
noncomputable def gi_196 : GI := jl_n [gp_84, jl_z 38]
noncomputable def cu_355 : List CUT2 := [((39, [lq 0 6 0, lq 1 13 1, lq 2 0 0, lq 3 0 0], [], gi_196, hq_136), [], ([], 0))]
theorem ch_355 : staG tb_X12_is 1 bt_RX12 [] ct_355 [(55, [(0, (2, 0, 9), 0, 696)])] [23, 28] cu_355 10 con_355 = true := by decide +kernel
theorem cc_355 : cu_355.all (cutG tb_X12_is 1 bt_RX12 [] ct_355 [(55, [(0, (2, 0, 9), 0, 696)])] [23, 28] cu_355 10 con_355) = true := by decide +kernel
theorem cto_355 (l : Launch) : CTOK2 l RX12 vwCl gTbl ct_355 := ct2_cons (vl_322 l) ck_RX12_153_322 (ct2_nil)
theorem vl_355 (l : Launch) : Vld2 l vwCl gTbl con_355 := conR_ok3 gT_all (hd_355) rfl pn_RX12 tk_X12_is bo_RX12 xo_RX12 (cto_355 l) ch_355 (cut_all cc_355)
/-- RookHustingModel takes -/
noncomputable def ac_138 : AC := .inl (12, jl_n [vp_18, jl_c 1, jl_8 47 32])
noncomputable def hq_137 : HP := [(false, ac_138), (false, am_2)]
noncomputable def con_356 : Con2 := ((yX12_takes, cX12_takes, 3, (some .boolean)), (9, 223), ([(6, 0, 0), (13, 1, 0)], gi_160, [ac_138, am_2], []), [((0, 0, 0), gi_161, hq_137, [], [1])])
theorem hd_356 : con_356.1 = (yX12_takes, cX12_takes, 3, (some .boolean)) := rfl
theorem ck_RX12_165_355 : COK2 RX12 vwCl gTbl 165 0 con_355 := ⟨wd_1603, wd_137, mh_X12_is, .inr (.inr ⟨rfl, wd_1600, wd_1602, wd_58, ⟨_, rfl, pd_X12_is⟩, 12, _, TX12, 45, rfl, rfl⟩)⟩
noncomputable def ct_356 : CTB2 := [(2, 165, 0, con_355, [0, 1])]
noncomputable def cu_356 : List CUT2 := []
theorem ch_356 : staG tb_X12_takes 1 bt_RX12 [] ct_356 [] [] cu_356 10 con_356 = true := by decide +kernel
theorem cto_356 (l : Launch) : CTOK2 l RX12 vwCl gTbl ct_356 := ct2_cons (vl_355 l) ck_RX12_165_355 (ct2_nil)
theorem vl_356 (l : Launch) : Vld2 l vwCl gTbl con_356 := conR_ok3 gT_all (hd_356) rfl pn_RX12 tk_X12_takes bo_RX12 xo_RX12 (cto_356 l) ch_356 cut_nil
/-- RookHustingModel errs -/
noncomputable def ac_139 : AC := .inl (12, jl_n [vp_20, jl_c 1, vp_21])
noncomputable def con_357 : Con2 := ((yX12_errs, cX12_errs, 2, none), (1, 20), ([(6, 0, 0), (0, 1, 0)], gi_163, [ac_139], []), [((9, 0, 0), gi_163, [(false, ac_139)], [], [])])
theorem hd_357 : con_357.1 = (yX12_errs, cX12_errs, 2, none) := rfl
noncomputable def cu_357 : List CUT2 := []
theorem ch_357 : staG tb_X12_errs 1 bt_RX12 [] ct_355 [] [] cu_357 6 con_357 = true := by decide +kernel
theorem vl_357 (l : Launch) : Vld2 l vwCl gTbl con_357 := conR_ok3 gT_all (hd_357) rfl pn_RX12 tk_X12_errs bo_RX12 xo_RX12 (cto_355 l) ch_357 cut_nil
/-- RookHustingModel expects -/
noncomputable def ac_140 : AC := .inl (12, jl_n [vp_18, jl_c 1, vp_21])
noncomputable def hq_138 : HP := [(false, ac_140), (false, am_2)]
noncomputable def con_358 : Con2 := ((yX12_expects, cX12_expects, 2, none), (10, 245), ([(6, 0, 0), (13, 1, 0)], gi_165, [ac_140, am_2], []), [((9, 0, 0), gi_165, hq_138, [], [])])
theorem hd_358 : con_358.1 = (yX12_expects, cX12_expects, 2, none) := rfl
theorem ck_RX12_175_357 : COK2 RX12 vwCl gTbl 175 0 con_357 := ⟨wd_1609, wd_137, mh_X12_errs, .inr (.inr ⟨rfl, wd_1606, wd_1608, wd_59, ⟨_, rfl, pd_X12_errs⟩, 12, _, TX12, 45, rfl, rfl⟩)⟩
theorem ck_RX12_172_356 : COK2 RX12 vwCl gTbl 172 0 con_356 := ⟨wd_1599, wd_137, mh_X12_takes, .inr (.inr ⟨rfl, wd_1596, wd_1598, wd_57, ⟨_, rfl, pd_X12_takes⟩, 12, _, TX12, 45, rfl, rfl⟩)⟩
noncomputable def ct_358 : CTB2 := [(2, 172, 0, con_356, [0, 1]), (10, 175, 0, con_357, [0])]
noncomputable def cu_358 : List CUT2 := []
theorem ch_358 : staG tb_X12_expects 1 bt_RX12 [] ct_358 [] [] cu_358 10 con_358 = true := by decide +kernel
theorem cto_358 (l : Launch) : CTOK2 l RX12 vwCl gTbl ct_358 := ct2_cons (vl_356 l) ck_RX12_172_356 (ct2_cons (vl_357 l) ck_RX12_175_357 (ct2_nil))
theorem vl_358 (l : Launch) : Vld2 l vwCl gTbl con_358 := conR_ok3 gT_all (hd_358) rfl pn_RX12 tk_X12_expects bo_RX12 xo_RX12 (cto_358 l) ch_358 cut_nil
/-- RookHustingModel told -/
noncomputable def ac_141 : AC := .inl (12, jl_n [vp_27, jl_1 16 5, jl_c 1, jl_1 18 1, jl_8 49 31])
noncomputable def gi_197 : GI := jl_n [jl_z 11, gp_100]
noncomputable def hq_139 : HP := [(false, ac_141), (false, am_2)]
noncomputable def con_359 : Con2 := ((yX12_told, cX12_told, 4, (some .int)), (11, 266), ([(6, 0, 0), (13, 1, 0), (0, 1, 0), (0, 16, 0)], gi_174, [ac_141, am_2], []), [((0, 0, 0), gi_197, hq_139, [], [1])])
theorem hd_359 : con_359.1 = (yX12_told, cX12_told, 4, (some .int)) := rfl
theorem ck_RX12_179_358 : COK2 RX12 vwCl gTbl 179 0 con_358 := ⟨wd_1595, wd_137, mh_X12_expects, .inr (.inr ⟨rfl, wd_1592, wd_1594, wd_56, ⟨_, rfl, pd_X12_expects⟩, 12, _, TX12, 45, rfl, rfl⟩)⟩
noncomputable def ct_359 : CTB2 := [(2, 179, 0, con_358, [0, 1]), (8, 183, 0, con_327, [0, 1])]
noncomputable def cu_359 : List CUT2 := []
theorem ch_359 : staG tb_X12_told 1 bt_RX12 [] ct_359 [] [] cu_359 10 con_359 = true := by decide +kernel
theorem cto_359 (l : Launch) : CTOK2 l RX12 vwCl gTbl ct_359 := ct2_cons (vl_358 l) ck_RX12_179_358 (ct2_cons (vl_327 l) ck_RX12_183_327 (ct2_nil))
theorem vl_359 (l : Launch) : Vld2 l vwCl gTbl con_359 := conR_ok3 gT_all (hd_359) rfl pn_RX12 tk_X12_told bo_RX12 xo_RX12 (cto_359 l) ch_359 cut_nil
/-- RookHustingModel readFirst -/
noncomputable def gi_198 : GI := jl_n [gp_109, gp_113, gp_114]
noncomputable def ac_142 : AC := .inl (12, jl_n [vp_15, jl_8 8 2, jl_1 13 5, vp_28, vp_29])
noncomputable def ac_143 : AC := .inr (1, jl_n [js_1 52 6, sp_0, jl_x (1, (0, 0, 0)), sp_11])
noncomputable def gi_199 : GI := jl_n [gp_109, gp_113, jl_i 0 30, jl_z 23, gp_102, jl_z 31, gp_115]
noncomputable def ac_144 : AC := .inl (12, jl_n [vp_17, jl_1 83 6, vp_29])
noncomputable def ac_145 : AC := .inr (1, jl_n [js_1 116 2, jl_x (1, (0, 0, 0)), js_1 52 3, sp_0, jl_x (1, (0, 0, 0)), sp_11])
noncomputable def hq_140 : HP := [(true, ac_144), (false, am_2), (true, ac_145)]
noncomputable def gi_200 : GI := jl_n [gp_116, gp_113, jl_i 0 30, jl_z 23, gp_81, gp_118, jl_z 20]
noncomputable def ac_146 : AC := .inl (12, jl_n [vp_17, jl_1 81 4, vp_28, vp_29])
noncomputable def ac_147 : AC := .inr (1, jl_n [js_1 117 3, js_1 52 3, sp_0, jl_x (1, (0, 0, 0)), sp_11])
noncomputable def hq_141 : HP := [(true, ac_146), (false, am_2), (true, ac_147)]
noncomputable def con_360 : Con2 := ((yX12_readFirst, cX12_readFirst, 1, none), (12, 289), ([(6, 0, 0)], gi_198, [ac_142, am_2, ac_143], []), [((9, 0, 0), gi_199, hq_140, [], tg_11), ((9, 0, 0), gi_200, hq_141, [], tg_11)])
theorem hd_360 : con_360.1 = (yX12_readFirst, cX12_readFirst, 1, none) := rfl
theorem ck_RX12_189_349 : COK2 RX12 vwCl gTbl 189 0 con_349 := ⟨wd_1614, wd_137, mh_X12_told, .inr (.inr ⟨rfl, wd_1611, wd_1613, wd_60, ⟨_, rfl, pd_X12_told⟩, 12, _, TX12, 45, rfl, rfl⟩)⟩
theorem ck_RX12_189_342 : COK2 RX12 vwCl gTbl 189 0 con_342 := ⟨wd_1614, wd_137, mh_X12_told, .inr (.inr ⟨rfl, wd_1611, wd_1613, wd_60, ⟨_, rfl, pd_X12_told⟩, 12, _, TX12, 45, rfl, rfl⟩)⟩
theorem ck_RX12_189_354 : COK2 RX12 vwCl gTbl 189 0 con_354 := ⟨wd_1614, wd_137, mh_X12_told, .inr (.inr ⟨rfl, wd_1611, wd_1613, wd_60, ⟨_, rfl, pd_X12_told⟩, 12, _, TX12, 45, rfl, rfl⟩)⟩
theorem ck_RX12_189_335 : COK2 RX12 vwCl gTbl 189 0 con_335 := ⟨wd_1614, wd_137, mh_X12_told, .inr (.inr ⟨rfl, wd_1611, wd_1613, wd_60, ⟨_, rfl, pd_X12_told⟩, 12, _, TX12, 45, rfl, rfl⟩)⟩
theorem ck_RX12_189_359 : COK2 RX12 vwCl gTbl 189 0 con_359 := ⟨wd_1614, wd_137, mh_X12_told, .inr (.inr ⟨rfl, wd_1611, wd_1613, wd_60, ⟨_, rfl, pd_X12_told⟩, 12, _, TX12, 45, rfl, rfl⟩)⟩
theorem ck_RX12_189_328 : COK2 RX12 vwCl gTbl 189 0 con_328 := ⟨wd_1614, wd_137, mh_X12_told, .inr (.inr ⟨rfl, wd_1611, wd_1613, wd_60, ⟨_, rfl, pd_X12_told⟩, 12, _, TX12, 45, rfl, rfl⟩)⟩
theorem ck_RX12_179_318 : COK2 RX12 vwCl gTbl 179 0 con_318 := ⟨wd_1595, wd_137, mh_X12_expects, .inr (.inr ⟨rfl, wd_1592, wd_1594, wd_56, ⟨_, rfl, pd_X12_expects⟩, 12, _, TX12, 45, rfl, rfl⟩)⟩
noncomputable def ct_360 : CTB2 := [(3, 179, 0, con_318, [0, 1]), (17, 189, 0, con_328, [0, 1]), (17, 189, 0, con_359, [0, 1]), (31, 189, 0, con_335, [0, 1]), (31, 189, 0, con_354, [0, 1]), (46, 189, 0, con_342, [0, 1]), (46, 189, 0, con_349, [0, 1])]
noncomputable def cu_360 : List CUT2 := []
theorem ch_360 : staG tb_X12_readFirst 1 bt_RX12 [] ct_360 [] [] cu_360 33 con_360 = true := by decide +kernel
theorem cto_360 (l : Launch) : CTOK2 l RX12 vwCl gTbl ct_360 := ct2_cons (vl_318 l) ck_RX12_179_318 (ct2_cons (vl_328 l) ck_RX12_189_328 (ct2_cons (vl_359 l) ck_RX12_189_359 (ct2_cons (vl_335 l) ck_RX12_189_335 (ct2_cons (vl_354 l) ck_RX12_189_354 (ct2_cons (vl_342 l) ck_RX12_189_342 (ct2_cons (vl_349 l) ck_RX12_189_349 (ct2_nil)))))))
theorem vl_360 (l : Launch) : Vld2 l vwCl gTbl con_360 := conR_ok3 gT_all (hd_360) rfl pn_RX12 tk_X12_readFirst bo_RX12 xo_RX12 (cto_360 l) ch_360 cut_nil
/-- RookHustingModel readLine -/
noncomputable def ac_148 : AC := .inl (12, jl_n [vp_30, jl_8 8 2, jl_1 13 5, vp_32])
noncomputable def gi_201 : GI := jl_n [gp_109, gp_113, jl_i 0 30, jl_z 23, gp_102, jl_z 31, gp_119]
noncomputable def ac_149 : AC := .inl (12, jl_n [vp_33, jl_1 83 6, vp_31])
noncomputable def ac_150 : AC := .inr (1, jl_n [js_1 117 3, js_1 52 3, sp_0, jl_x (1, (0, 1, 0)), sp_11])
noncomputable def hq_142 : HP := [(true, ac_149), (true, ac_150), (false, am_2)]
noncomputable def ac_151 : AC := .inl (12, jl_n [vp_33, jl_1 81 4, vp_32])
noncomputable def hq_143 : HP := [(true, ac_151), (true, ac_150), (false, am_2)]
noncomputable def con_361 : Con2 := ((yX12_readLine, cX12_readLine, 1, none), (13, 309), ([(6, 0, 0)], gi_198, [ac_148, ac_143, am_2], []), [((9, 0, 0), gi_201, hq_142, [], tg_11), ((9, 0, 0), gi_200, hq_143, [], tg_11)])
theorem hd_361 : con_361.1 = (yX12_readLine, cX12_readLine, 1, none) := rfl
theorem ck_RX12_227_360 : COK2 RX12 vwCl gTbl 227 0 con_360 := ⟨wd_1590, wd_137, mh_X12_readFirst, .inr (.inr ⟨rfl, wd_1587, wd_1589, wd_55, ⟨_, rfl, pd_X12_readFirst⟩, 12, _, TX12, 45, rfl, rfl⟩)⟩
noncomputable def ct_361 : CTB2 := [(11, 227, 0, con_360, [0, 2, 1]), (22, 153, 0, con_314, [0]), (22, 153, 0, con_343, [0]), (38, 175, 0, con_317, [0]), (42, 153, 0, con_322, [0]), (42, 153, 0, con_314, [0]), (42, 153, 0, con_343, [0]), (49, 169, 0, con_313, [0, 2])]
noncomputable def cu_361 : List CUT2 := []
theorem ch_361 : staG tb_X12_readLine 1 bt_RX12 [] ct_361 [] [] cu_361 32 con_361 = true := by decide +kernel
theorem cto_361 (l : Launch) : CTOK2 l RX12 vwCl gTbl ct_361 := ct2_cons (vl_360 l) ck_RX12_227_360 (ct2_cons (vl_314 l) ck_RX12_153_314 (ct2_cons (vl_343 l) ck_RX12_153_343 (ct2_cons (vl_317 l) ck_RX12_175_317 (ct2_cons (vl_322 l) ck_RX12_153_322 (ct2_cons (vl_314 l) ck_RX12_153_314 (ct2_cons (vl_343 l) ck_RX12_153_343 (ct2_cons (vl_313 l) ck_RX12_169_313 (ct2_nil))))))))
theorem vl_361 (l : Launch) : Vld2 l vwCl gTbl con_361 := conR_ok3 gT_all (hd_361) rfl pn_RX12 tk_X12_readLine bo_RX12 xo_RX12 (cto_361 l) ch_361 cut_nil
noncomputable def gh_362 : GI := [(0, 0), (0, 0), (0, 0), (0, 0), (0, 0), (0, 0), (0, 0), (0, 0), (0, 0), (0, 0), (0, 700), (0, 700), (0, 4), (0, 0), (0, 0), (0, 0), (0, 0), (0, 0), (0, 0), (0, 0), (0, 0), (0, 0), (0, 0), (0, 0), (0, 0), (0, 0), (0, 0), (0, 0), (0, 0), (0, 0), (0, 0), (0, 0), (0, 0), (0, 0), (0, 0), (0, 0), (0, 0), (0, 0), (0, 0), (0, 0), (0, 0), (0, 0), (0, 0), (0, 0), (0, 0), (0, 0), (0, 0)]
noncomputable def fh_362 : List AV := [(8, 2, 0), (8, 3, 0), (8, 4, 0), (8, 5, 0), (6, 1, 0), (8, 7, 0), (8, 8, 0), (8, 9, 0), (1, 10, 0), (1, 11, 0), (1, 12, 0), (8, 13, 0), (0, 0, 0), (8, 15, 0), (8, 16, 0), (8, 17, 0), (8, 18, 0), (8, 19, 0), (8, 20, 0), (8, 21, 0), (8, 22, 0), (8, 23, 0), (8, 24, 0), (8, 25, 0), (8, 26, 0), (8, 27, 0), (8, 28, 0), (8, 29, 0), (8, 30, 0), (8, 31, 0), (8, 32, 0), (8, 33, 0), (8, 34, 0), (8, 35, 0), (8, 36, 0), (8, 37, 0), (8, 38, 0), (8, 39, 0), (8, 40, 0), (8, 41, 0), (8, 42, 0), (8, 43, 0), (8, 44, 0), (8, 45, 0), (8, 46, 0)]
noncomputable def con_362 : Con2 := ((yX12_is, cX12_is, 4, some .boolean), (8, 200), ([(6, 0, 0), (13, 2, 0)], gh_362, [.inl (12, fh_362), am_2], []), [((0, 0, 0), gh_362 ++ [(0, 0)], [(false, .inl (12, fh_362)), (false, am_2)], [], [1])])
theorem hv_362 (l : Launch) {ec : List va_E} (h : ((0 = 1 → isE 2 ec) ∧ (0 ≠ 1 → ¬ isE 2 ec))) : VldE l vwCl gTbl con_362 ec := is_vld (i := 2) (v := 0) (G := gh_362) (fsA := fh_362) (sg := [(700, (2, (-128), 127))]) (by decide) (by decide +kernel) (a12 := (0, 0, 0)) (a10 := (1, 12, 0)) (a8 := (1, 10, 0)) (a9 := (1, 11, 0)) rfl rfl rfl rfl rfl (q12 := (0, 0)) (q10 := (0, 4)) (q8 := (0, 700)) (q9 := (0, 700)) rfl rfl rfl rfl (by decide +kernel) (by decide +kernel) (Or.inr ⟨h.2 (by decide), rfl⟩)
noncomputable def gh_363 : GI := [(0, 0), (0, 0), (0, 0), (0, 0), (0, 0), (0, 0), (0, 0), (0, 0), (0, 0), (0, 0), (0, 700), (0, 700), (0, 4), (0, 0), (0, 0), (0, 0), (0, 0), (0, 0), (0, 0), (0, 0), (0, 0), (0, 0), (0, 0), (0, 0), (0, 0), (0, 0), (0, 0), (0, 0), (0, 0), (0, 0), (0, 0), (0, 0), (0, 0), (0, 0), (0, 0), (0, 0), (0, 0), (0, 0), (0, 0), (0, 0), (0, 0), (0, 0), (0, 0), (0, 0), (0, 0), (0, 0), (0, 0)]
noncomputable def fh_363 : List AV := [(8, 2, 0), (8, 3, 0), (8, 4, 0), (8, 5, 0), (6, 1, 0), (8, 7, 0), (8, 8, 0), (8, 9, 0), (1, 10, 0), (1, 11, 0), (1, 12, 0), (8, 13, 0), (0, 0, 0), (8, 15, 0), (8, 16, 0), (8, 17, 0), (8, 18, 0), (8, 19, 0), (8, 20, 0), (8, 21, 0), (8, 22, 0), (8, 23, 0), (8, 24, 0), (8, 25, 0), (8, 26, 0), (8, 27, 0), (8, 28, 0), (8, 29, 0), (8, 30, 0), (8, 31, 0), (8, 32, 0), (8, 33, 0), (8, 34, 0), (8, 35, 0), (8, 36, 0), (8, 37, 0), (8, 38, 0), (8, 39, 0), (8, 40, 0), (8, 41, 0), (8, 42, 0), (8, 43, 0), (8, 44, 0), (8, 45, 0), (8, 46, 0)]
noncomputable def con_363 : Con2 := ((yX12_is, cX12_is, 4, some .boolean), (8, 200), ([(6, 0, 0), (13, 5, 0)], gh_363, [.inl (12, fh_363), am_2], []), [((0, 0, 0), gh_363 ++ [(0, 0)], [(false, .inl (12, fh_363)), (false, am_2)], [], [1])])
theorem hv_363 (l : Launch) {ec : List va_E} (h : ((0 = 1 → isE 5 ec) ∧ (0 ≠ 1 → ¬ isE 5 ec))) : VldE l vwCl gTbl con_363 ec := is_vld (i := 5) (v := 0) (G := gh_363) (fsA := fh_363) (sg := [(700, (2, (-128), 127))]) (by decide) (by decide +kernel) (a12 := (0, 0, 0)) (a10 := (1, 12, 0)) (a8 := (1, 10, 0)) (a9 := (1, 11, 0)) rfl rfl rfl rfl rfl (q12 := (0, 0)) (q10 := (0, 4)) (q8 := (0, 700)) (q9 := (0, 700)) rfl rfl rfl rfl (by decide +kernel) (by decide +kernel) (Or.inr ⟨h.2 (by decide), rfl⟩)
noncomputable def gh_364 : GI := [(0, 0), (0, 0), (0, 0), (0, 0), (0, 0), (0, 0), (0, 0), (0, 0), (0, 0), (0, 0), (0, 700), (0, 700), (0, 4), (0, 0), (0, 0), (0, 0), (0, 0), (0, 0), (0, 0), (0, 0), (0, 0), (0, 0), (0, 0), (0, 0), (0, 0), (0, 0), (0, 0), (0, 0), (0, 0), (0, 0), (0, 0), (0, 0), (0, 0), (0, 0), (0, 0), (0, 0), (0, 0), (0, 0), (0, 0), (0, 0), (0, 0), (0, 0), (0, 0), (0, 0), (0, 0), (0, 0), (0, 0)]
noncomputable def fh_364 : List AV := [(8, 2, 0), (8, 3, 0), (8, 4, 0), (8, 5, 0), (6, 1, 0), (8, 7, 0), (8, 8, 0), (8, 9, 0), (1, 10, 0), (1, 11, 0), (1, 12, 0), (8, 13, 0), (0, 0, 0), (8, 15, 0), (8, 16, 0), (8, 17, 0), (8, 18, 0), (8, 19, 0), (8, 20, 0), (8, 21, 0), (8, 22, 0), (8, 23, 0), (8, 24, 0), (8, 25, 0), (8, 26, 0), (8, 27, 0), (8, 28, 0), (8, 29, 0), (8, 30, 0), (8, 31, 0), (8, 32, 0), (8, 33, 0), (8, 34, 0), (8, 35, 0), (8, 36, 0), (8, 37, 0), (8, 38, 0), (8, 39, 0), (8, 40, 0), (8, 41, 0), (8, 42, 0), (8, 43, 0), (8, 44, 0), (8, 45, 0), (8, 46, 0)]
noncomputable def con_364 : Con2 := ((yX12_is, cX12_is, 4, some .boolean), (8, 200), ([(6, 0, 0), (13, 8, 0)], gh_364, [.inl (12, fh_364), am_2], []), [((0, 0, 0), gh_364 ++ [(0, 0)], [(false, .inl (12, fh_364)), (false, am_2)], [], [1])])
theorem hv_364 (l : Launch) {ec : List va_E} (h : ((0 = 1 → isE 8 ec) ∧ (0 ≠ 1 → ¬ isE 8 ec))) : VldE l vwCl gTbl con_364 ec := is_vld (i := 8) (v := 0) (G := gh_364) (fsA := fh_364) (sg := [(700, (2, (-128), 127))]) (by decide) (by decide +kernel) (a12 := (0, 0, 0)) (a10 := (1, 12, 0)) (a8 := (1, 10, 0)) (a9 := (1, 11, 0)) rfl rfl rfl rfl rfl (q12 := (0, 0)) (q10 := (0, 4)) (q8 := (0, 700)) (q9 := (0, 700)) rfl rfl rfl rfl (by decide +kernel) (by decide +kernel) (Or.inr ⟨h.2 (by decide), rfl⟩)
noncomputable def gh_365 : GI := [(0, 0), (0, 0), (0, 0), (0, 0), (0, 0), (0, 0), (0, 0), (0, 0), (0, 0), (0, 0), (0, 700), (0, 700), (0, 4), (0, 0), (0, 0), (0, 0), (0, 0), (0, 0), (0, 0), (0, 0), (0, 0), (0, 0), (0, 0), (0, 0), (0, 0), (0, 0), (0, 0), (0, 0), (0, 0), (0, 0), (0, 0), (0, 0), (0, 0), (0, 0), (0, 0), (0, 0), (0, 0), (0, 0), (0, 0), (0, 0), (0, 0), (0, 0), (0, 0), (0, 0), (0, 0), (0, 0), (0, 0)]
noncomputable def fh_365 : List AV := [(8, 2, 0), (8, 3, 0), (8, 4, 0), (8, 5, 0), (6, 1, 0), (8, 7, 0), (8, 8, 0), (8, 9, 0), (1, 10, 0), (1, 11, 0), (1, 12, 0), (8, 13, 0), (0, 0, 0), (8, 15, 0), (8, 16, 0), (8, 17, 0), (8, 18, 0), (8, 19, 0), (8, 20, 0), (8, 21, 0), (8, 22, 0), (8, 23, 0), (8, 24, 0), (8, 25, 0), (8, 26, 0), (8, 27, 0), (8, 28, 0), (8, 29, 0), (8, 30, 0), (8, 31, 0), (8, 32, 0), (8, 33, 0), (8, 34, 0), (8, 35, 0), (8, 36, 0), (8, 37, 0), (8, 38, 0), (8, 39, 0), (8, 40, 0), (8, 41, 0), (8, 42, 0), (8, 43, 0), (8, 44, 0), (8, 45, 0), (8, 46, 0)]
noncomputable def con_365 : Con2 := ((yX12_is, cX12_is, 4, some .boolean), (8, 200), ([(6, 0, 0), (13, 12, 0)], gh_365, [.inl (12, fh_365), am_2], []), [((0, 0, 0), gh_365 ++ [(0, 0)], [(false, .inl (12, fh_365)), (false, am_2)], [], [1])])
theorem hv_365 (l : Launch) {ec : List va_E} (h : ((0 = 1 → isE 12 ec) ∧ (0 ≠ 1 → ¬ isE 12 ec))) : VldE l vwCl gTbl con_365 ec := is_vld (i := 12) (v := 0) (G := gh_365) (fsA := fh_365) (sg := [(700, (2, (-128), 127))]) (by decide) (by decide +kernel) (a12 := (0, 0, 0)) (a10 := (1, 12, 0)) (a8 := (1, 10, 0)) (a9 := (1, 11, 0)) rfl rfl rfl rfl rfl (q12 := (0, 0)) (q10 := (0, 4)) (q8 := (0, 700)) (q9 := (0, 700)) rfl rfl rfl rfl (by decide +kernel) (by decide +kernel) (Or.inr ⟨h.2 (by decide), rfl⟩)
/-- RookHustingModel is -/
noncomputable def con_366 : Con2 := ((yX12_is, cX12_is, 4, (some .boolean)), (8, 200), ([(6, 0, 0), (13, 2, 0)], gi_155, [ac_137, am_2], []), [((0, 0, 0), gi_156, hq_136, [], [1])])
theorem hd_366 : con_366.1 = (yX12_is, cX12_is, 4, (some .boolean)) := rfl
noncomputable def cu_366 : List CUT2 := [((39, [lq 0 6 0, lq 1 13 2, lq 2 0 0, lq 3 0 0], [], gi_196, hq_136), [], ([], 0))]
theorem ch_366 : staG tb_X12_is 1 bt_RX12 [] ct_355 [(55, [(0, (2, 0, 9), 0, 695)])] [23, 28] cu_366 10 con_366 = true := by decide +kernel
theorem cc_366 : cu_366.all (cutG tb_X12_is 1 bt_RX12 [] ct_355 [(55, [(0, (2, 0, 9), 0, 695)])] [23, 28] cu_366 10 con_366) = true := by decide +kernel
theorem vl_366 (l : Launch) : Vld2 l vwCl gTbl con_366 := conR_ok3 gT_all (hd_366) rfl pn_RX12 tk_X12_is bo_RX12 xo_RX12 (cto_355 l) ch_366 (cut_all cc_366)
/-- RookHustingModel is -/
noncomputable def con_367 : Con2 := ((yX12_is, cX12_is, 4, (some .boolean)), (8, 200), ([(6, 0, 0), (13, 5, 0)], gi_155, [ac_137, am_2], []), [((0, 0, 0), gi_156, hq_136, [], [1])])
theorem hd_367 : con_367.1 = (yX12_is, cX12_is, 4, (some .boolean)) := rfl
noncomputable def cu_367 : List CUT2 := [((39, [lq 0 6 0, lq 1 13 5, lq 2 0 0, lq 3 0 0], [], gi_196, hq_136), [], ([], 0))]
theorem ch_367 : staG tb_X12_is 1 bt_RX12 [] ct_355 [(55, [(0, (2, 0, 9), 0, 695)])] [23, 28] cu_367 10 con_367 = true := by decide +kernel
theorem cc_367 : cu_367.all (cutG tb_X12_is 1 bt_RX12 [] ct_355 [(55, [(0, (2, 0, 9), 0, 695)])] [23, 28] cu_367 10 con_367) = true := by decide +kernel
theorem vl_367 (l : Launch) : Vld2 l vwCl gTbl con_367 := conR_ok3 gT_all (hd_367) rfl pn_RX12 tk_X12_is bo_RX12 xo_RX12 (cto_355 l) ch_367 (cut_all cc_367)
/-- RookHustingModel is -/
noncomputable def con_368 : Con2 := ((yX12_is, cX12_is, 4, (some .boolean)), (8, 200), ([(6, 0, 0), (13, 8, 0)], gi_155, [ac_137, am_2], []), [((0, 0, 0), gi_156, hq_136, [], [1])])
theorem hd_368 : con_368.1 = (yX12_is, cX12_is, 4, (some .boolean)) := rfl
noncomputable def cu_368 : List CUT2 := [((39, [lq 0 6 0, lq 1 13 8, lq 2 0 0, lq 3 0 0], [], gi_196, hq_136), [], ([], 0))]
theorem ch_368 : staG tb_X12_is 1 bt_RX12 [] ct_355 [(55, [(0, (2, 0, 9), 0, 697)])] [23, 28] cu_368 10 con_368 = true := by decide +kernel
theorem cc_368 : cu_368.all (cutG tb_X12_is 1 bt_RX12 [] ct_355 [(55, [(0, (2, 0, 9), 0, 697)])] [23, 28] cu_368 10 con_368) = true := by decide +kernel
theorem vl_368 (l : Launch) : Vld2 l vwCl gTbl con_368 := conR_ok3 gT_all (hd_368) rfl pn_RX12 tk_X12_is bo_RX12 xo_RX12 (cto_355 l) ch_368 (cut_all cc_368)
/-- RookHustingModel is -/
noncomputable def con_369 : Con2 := ((yX12_is, cX12_is, 4, (some .boolean)), (8, 200), ([(6, 0, 0), (13, 12, 0)], gi_155, [ac_137, am_2], []), [((0, 0, 0), gi_156, hq_136, [], [1])])
theorem hd_369 : con_369.1 = (yX12_is, cX12_is, 4, (some .boolean)) := rfl
noncomputable def cu_369 : List CUT2 := [((39, [lq 0 6 0, lq 1 13 12, lq 2 0 0, lq 3 0 0], [], gi_196, hq_136), [], ([], 0))]
theorem ch_369 : staG tb_X12_is 1 bt_RX12 [] ct_355 [(55, [(0, (2, 0, 9), 0, 695)])] [23, 28] cu_369 10 con_369 = true := by decide +kernel
theorem cc_369 : cu_369.all (cutG tb_X12_is 1 bt_RX12 [] ct_355 [(55, [(0, (2, 0, 9), 0, 695)])] [23, 28] cu_369 10 con_369) = true := by decide +kernel
theorem vl_369 (l : Launch) : Vld2 l vwCl gTbl con_369 := conR_ok3 gT_all (hd_369) rfl pn_RX12 tk_X12_is bo_RX12 xo_RX12 (cto_355 l) ch_369 (cut_all cc_369)
/-- RookHustingModel isFull -/
noncomputable def gi_202 : GI := jl_n [gp_120, gp_124]
noncomputable def ac_152 : AC := .inl (12, jl_n [vp_15, jl_8 9 3, jl_1 12 3, jl_8 13 1, jl_c 1, jl_8 15 1, vp_29])
noncomputable def ac_153 : AC := .inr (1, jl_n [js_1 55 9, sp_20])
noncomputable def gi_203 : GI := jl_n [gp_120, gp_125]
noncomputable def hq_144 : HP := [(false, ac_152), (false, am_2), (false, ac_153)]
noncomputable def con_370 : Con2 := ((yX12_isFull, cX12_isFull, 1, (some .boolean)), (9, 223), ([(6, 0, 0)], gi_202, [ac_152, am_2, ac_153], []), [((0, 0, 0), gi_203, hq_144, [], [1])])
theorem hd_370 : con_370.1 = (yX12_isFull, cX12_isFull, 1, (some .boolean)) := rfl
theorem ck_RX12_165_369 : COK2 RX12 vwCl gTbl 165 0 con_369 := ⟨wd_1603, wd_137, mh_X12_is, .inr (.inr ⟨rfl, wd_1600, wd_1602, wd_58, ⟨_, rfl, pd_X12_is⟩, 12, _, TX12, 45, rfl, rfl⟩)⟩
theorem ck_RX12_165_368 : COK2 RX12 vwCl gTbl 165 0 con_368 := ⟨wd_1603, wd_137, mh_X12_is, .inr (.inr ⟨rfl, wd_1600, wd_1602, wd_58, ⟨_, rfl, pd_X12_is⟩, 12, _, TX12, 45, rfl, rfl⟩)⟩
theorem ck_RX12_165_367 : COK2 RX12 vwCl gTbl 165 0 con_367 := ⟨wd_1603, wd_137, mh_X12_is, .inr (.inr ⟨rfl, wd_1600, wd_1602, wd_58, ⟨_, rfl, pd_X12_is⟩, 12, _, TX12, 45, rfl, rfl⟩)⟩
theorem ck_RX12_165_366 : COK2 RX12 vwCl gTbl 165 0 con_366 := ⟨wd_1603, wd_137, mh_X12_is, .inr (.inr ⟨rfl, wd_1600, wd_1602, wd_58, ⟨_, rfl, pd_X12_is⟩, 12, _, TX12, 45, rfl, rfl⟩)⟩
noncomputable def ct_370 : CTB2 := [(3, 165, 0, con_366, [0, 1]), (22, 165, 0, con_367, [0, 1]), (44, 165, 0, con_368, [0, 1]), (63, 165, 0, con_369, [0, 1])]
noncomputable def cu_370 : List CUT2 := []
theorem ch_370 : staG tb_X12_isFull 1 bt_RX12 [] ct_370 [] [] cu_370 20 con_370 = true := by decide +kernel
theorem cto_370 (l : Launch) : CTOK2 l RX12 vwCl gTbl ct_370 := ct2_cons (vl_366 l) ck_RX12_165_366 (ct2_cons (vl_367 l) ck_RX12_165_367 (ct2_cons (vl_368 l) ck_RX12_165_368 (ct2_cons (vl_369 l) ck_RX12_165_369 (ct2_nil))))
theorem vl_370 (l : Launch) : Vld2 l vwCl gTbl con_370 := conR_ok3 gT_all (hd_370) rfl pn_RX12 tk_X12_isFull bo_RX12 xo_RX12 (cto_370 l) ch_370 cut_nil
noncomputable def gh_371 : GI := [(0, 0), (0, 0), (0, 0), (0, 0), (0, 0), (0, 0), (0, 0), (0, 0), (0, 0), (0, 0), (0, 700), (0, 700), (0, 4), (0, 0), (0, 0), (0, 0), (0, 0), (0, 0), (0, 0), (0, 0), (0, 0), (0, 0), (0, 0), (0, 0), (0, 0), (0, 0), (0, 0), (0, 0), (0, 0), (0, 0), (0, 0), (0, 0), (0, 0), (0, 0), (0, 0), (0, 0), (0, 0), (0, 0), (0, 0), (0, 0), (0, 0), (0, 0), (0, 0), (0, 0), (0, 0), (0, 0), (0, 0)]
noncomputable def fh_371 : List AV := [(8, 2, 0), (8, 3, 0), (8, 4, 0), (8, 5, 0), (6, 1, 0), (8, 7, 0), (8, 8, 0), (8, 9, 0), (1, 10, 0), (1, 11, 0), (1, 12, 0), (8, 13, 0), (0, 0, 0), (8, 15, 0), (8, 16, 0), (8, 17, 0), (8, 18, 0), (8, 19, 0), (8, 20, 0), (8, 21, 0), (8, 22, 0), (8, 23, 0), (8, 24, 0), (8, 25, 0), (8, 26, 0), (8, 27, 0), (8, 28, 0), (8, 29, 0), (8, 30, 0), (8, 31, 0), (8, 32, 0), (8, 33, 0), (8, 34, 0), (8, 35, 0), (8, 36, 0), (8, 37, 0), (8, 38, 0), (8, 39, 0), (8, 40, 0), (8, 41, 0), (8, 42, 0), (8, 43, 0), (8, 44, 0), (8, 45, 0), (8, 46, 0)]
noncomputable def con_371 : Con2 := ((yX12_is, cX12_is, 4, some .boolean), (8, 200), ([(6, 0, 0), (13, 12, 0)], gh_371, [.inl (12, fh_371), am_2], []), [((0, 1, 0), gh_371 ++ [(0, 0)], [(false, .inl (12, fh_371)), (false, am_2)], [], [1])])
theorem hv_371 (l : Launch) {ec : List va_E} (h : ((1 = 1 → isE 12 ec) ∧ (1 ≠ 1 → ¬ isE 12 ec))) : VldE l vwCl gTbl con_371 ec := is_vld (i := 12) (v := 1) (G := gh_371) (fsA := fh_371) (sg := [(700, (2, (-128), 127))]) (by decide) (by decide +kernel) (a12 := (0, 0, 0)) (a10 := (1, 12, 0)) (a8 := (1, 10, 0)) (a9 := (1, 11, 0)) rfl rfl rfl rfl rfl (q12 := (0, 0)) (q10 := (0, 4)) (q8 := (0, 700)) (q9 := (0, 700)) rfl rfl rfl rfl (by decide +kernel) (by decide +kernel) (Or.inl ⟨h.1 rfl, rfl⟩)
/-- RookHustingModel isFull -/
noncomputable def ac_154 : AC := .inl (12, jl_n [vp_15, jl_8 9 3, jl_1 12 3, jl_8 13 1, jl_c 0, jl_8 15 1, vp_29])
noncomputable def gi_204 : GI := jl_n [gp_120, gp_126, gp_128]
noncomputable def hq_145 : HP := [(false, ac_154), (false, am_2), (false, ac_153)]
noncomputable def gi_205 : GI := jl_n [gp_120, gp_126, jl_i 7 7, gp_127]
noncomputable def con_372 : Con2 := ((yX12_isFull, cX12_isFull, 1, (some .boolean)), (9, 223), ([(6, 0, 0)], gi_202, [ac_154, am_2, ac_153], []), [((0, 0, 0), gi_204, hq_145, [], [1]), ((0, 1, 0), gi_205, hq_145, [], [1])])
theorem hd_372 : con_372.1 = (yX12_isFull, cX12_isFull, 1, (some .boolean)) := rfl
noncomputable def ft_372 : CTB2 := [(3, 165, 0, con_362, [0, 1]), (22, 165, 0, con_363, [0, 1]), (44, 165, 0, con_364, [0, 1]), (63, 165, 0, con_371, [0, 1])]
theorem ck_RX12_165_371 : COK2 RX12 vwCl gTbl 165 0 con_371 := ⟨wd_1603, wd_137, mh_X12_is, .inr (.inr ⟨rfl, wd_1600, wd_1602, wd_58, ⟨_, rfl, pd_X12_is⟩, 12, _, TX12, 45, rfl, rfl⟩)⟩
theorem ck_RX12_165_364 : COK2 RX12 vwCl gTbl 165 0 con_364 := ⟨wd_1603, wd_137, mh_X12_is, .inr (.inr ⟨rfl, wd_1600, wd_1602, wd_58, ⟨_, rfl, pd_X12_is⟩, 12, _, TX12, 45, rfl, rfl⟩)⟩
theorem ck_RX12_165_363 : COK2 RX12 vwCl gTbl 165 0 con_363 := ⟨wd_1603, wd_137, mh_X12_is, .inr (.inr ⟨rfl, wd_1600, wd_1602, wd_58, ⟨_, rfl, pd_X12_is⟩, 12, _, TX12, 45, rfl, rfl⟩)⟩
theorem ck_RX12_165_362 : COK2 RX12 vwCl gTbl 165 0 con_362 := ⟨wd_1603, wd_137, mh_X12_is, .inr (.inr ⟨rfl, wd_1600, wd_1602, wd_58, ⟨_, rfl, pd_X12_is⟩, 12, _, TX12, 45, rfl, rfl⟩)⟩
theorem fto_372 (l : Launch) {es : List va_E} (f2 : isFact 2 0 [0, 1] es) (f5 : isFact 5 0 [0, 1] es) (f8 : isFact 8 0 [0, 1] es) (f12 : isFact 12 1 [0, 1] es) : FTOK2 l RX12 vwCl gTbl es ft_372 := ft2_cons (fun ec he => hv_362 l (f2 ec he)) ck_RX12_165_362 (ft2_cons (fun ec he => hv_363 l (f5 ec he)) ck_RX12_165_363 (ft2_cons (fun ec he => hv_364 l (f8 ec he)) ck_RX12_165_364 (ft2_cons (fun ec he => hv_371 l (f12 ec he)) ck_RX12_165_371 (ft2_nil))))
noncomputable def cu_372 : List CUT2 := []
theorem ch_372 : staG tb_X12_isFull 1 bt_RX12 ft_372 ct_2 [] [] cu_372 27 con_372 = true := by decide +kernel
theorem hv_372 (l : Launch) {es : List va_E} (f2 : isFact 2 0 [0, 1] es) (f5 : isFact 5 0 [0, 1] es) (f8 : isFact 8 0 [0, 1] es) (f12 : isFact 12 1 [0, 1] es) : VldE l vwCl gTbl con_372 es := conE_ok3 gT_all (hd_372) rfl pn_RX12 tk_X12_isFull bo_RX12 xo_RX12 (fto_372 l f2 f5 f8 f12) (cto_2 l) ch_372 cut_nil
/-- RookHustingModel takes -/
noncomputable def con_373 : Con2 := ((yX12_takes, cX12_takes, 3, (some .boolean)), (9, 223), ([(6, 0, 0), (13, 2, 0)], gi_160, [ac_113, am_2], []), [((0, 0, 0), gi_161, hq_122, [], [1])])
theorem hd_373 : con_373.1 = (yX12_takes, cX12_takes, 3, (some .boolean)) := rfl
noncomputable def ft_373 : CTB2 := [(2, 165, 0, con_362, [0, 1])]
theorem fto_373 (l : Launch) {es : List va_E} (f2 : isFact 2 0 [0, 1] es) : FTOK2 l RX12 vwCl gTbl es ft_373 := ft2_cons (fun ec he => hv_362 l (f2 ec he)) ck_RX12_165_362 (ft2_nil)
noncomputable def cu_373 : List CUT2 := []
theorem ch_373 : staG tb_X12_takes 1 bt_RX12 ft_373 ct_2 [] [] cu_373 10 con_373 = true := by decide +kernel
theorem hv_373 (l : Launch) {es : List va_E} (f2 : isFact 2 0 [0, 1] es) : VldE l vwCl gTbl con_373 es := conE_ok3 gT_all (hd_373) rfl pn_RX12 tk_X12_takes bo_RX12 xo_RX12 (fto_373 l f2) (cto_2 l) ch_373 cut_nil
/-- RookHustingModel takes -/
noncomputable def con_374 : Con2 := ((yX12_takes, cX12_takes, 3, (some .boolean)), (9, 223), ([(6, 0, 0), (13, 5, 0)], gi_160, [ac_113, am_2], []), [((0, 0, 0), gi_161, hq_122, [], [1])])
theorem hd_374 : con_374.1 = (yX12_takes, cX12_takes, 3, (some .boolean)) := rfl
noncomputable def ft_374 : CTB2 := [(2, 165, 0, con_363, [0, 1])]
theorem fto_374 (l : Launch) {es : List va_E} (f5 : isFact 5 0 [0, 1] es) : FTOK2 l RX12 vwCl gTbl es ft_374 := ft2_cons (fun ec he => hv_363 l (f5 ec he)) ck_RX12_165_363 (ft2_nil)
noncomputable def cu_374 : List CUT2 := []
theorem ch_374 : staG tb_X12_takes 1 bt_RX12 ft_374 ct_2 [] [] cu_374 10 con_374 = true := by decide +kernel
theorem hv_374 (l : Launch) {es : List va_E} (f5 : isFact 5 0 [0, 1] es) : VldE l vwCl gTbl con_374 es := conE_ok3 gT_all (hd_374) rfl pn_RX12 tk_X12_takes bo_RX12 xo_RX12 (fto_374 l f5) (cto_2 l) ch_374 cut_nil
/-- RookHustingModel takes -/
noncomputable def con_375 : Con2 := ((yX12_takes, cX12_takes, 3, (some .boolean)), (9, 223), ([(6, 0, 0), (13, 8, 0)], gi_160, [ac_113, am_2], []), [((0, 0, 0), gi_161, hq_122, [], [1])])
theorem hd_375 : con_375.1 = (yX12_takes, cX12_takes, 3, (some .boolean)) := rfl
noncomputable def ft_375 : CTB2 := [(2, 165, 0, con_364, [0, 1])]
theorem fto_375 (l : Launch) {es : List va_E} (f8 : isFact 8 0 [0, 1] es) : FTOK2 l RX12 vwCl gTbl es ft_375 := ft2_cons (fun ec he => hv_364 l (f8 ec he)) ck_RX12_165_364 (ft2_nil)
noncomputable def cu_375 : List CUT2 := []
theorem ch_375 : staG tb_X12_takes 1 bt_RX12 ft_375 ct_2 [] [] cu_375 10 con_375 = true := by decide +kernel
theorem hv_375 (l : Launch) {es : List va_E} (f8 : isFact 8 0 [0, 1] es) : VldE l vwCl gTbl con_375 es := conE_ok3 gT_all (hd_375) rfl pn_RX12 tk_X12_takes bo_RX12 xo_RX12 (fto_375 l f8) (cto_2 l) ch_375 cut_nil
/-- RookHustingModel is -/
noncomputable def con_376 : Con2 := ((yX12_is, cX12_is, 4, (some .boolean)), (8, 200), ([(6, 0, 0), (13, 4, 0)], gi_155, [ac_112, am_2], []), [((0, 0, 0), gi_156, hq_121, [], [1]), ((0, 1, 0), gi_157, hq_121, [], [1])])
theorem hd_376 : con_376.1 = (yX12_is, cX12_is, 4, (some .boolean)) := rfl
noncomputable def cu_376 : List CUT2 := [((39, [lq 0 6 0, lq 1 13 4, lq 2 0 1, lq 3 1 50], [], gi_168, hq_121), [([(10, 1), (11, (-1))], (-4))], ([(50, (-1))], 4)), ((39, [lq 0 6 0, lq 1 13 4, lq 2 0 0, lq 3 1 50], [], gi_169, hq_121), [], ([(50, (-1))], 4))]
theorem ch_376 : staG tb_X12_is 1 bt_RX12 [] ct_315 [(55, [(0, (2, 0, 9), 0, 696)])] [23, 28] cu_376 25 con_376 = true := by decide +kernel
theorem cc_376 : cu_376.all (cutG tb_X12_is 1 bt_RX12 [] ct_315 [(55, [(0, (2, 0, 9), 0, 696)])] [23, 28] cu_376 25 con_376) = true := by decide +kernel
theorem vl_376 (l : Launch) : Vld2 l vwCl gTbl con_376 := conR_ok3 gT_all (hd_376) rfl pn_RX12 tk_X12_is bo_RX12 xo_RX12 (cto_315 l) ch_376 (cut_all cc_376)
/-- RookHustingModel takes -/
noncomputable def con_377 : Con2 := ((yX12_takes, cX12_takes, 3, (some .boolean)), (9, 223), ([(6, 0, 0), (13, 4, 0)], gi_160, [ac_113, am_2], []), [((0, 0, 0), gi_161, hq_122, [], [1]), ((0, 1, 0), gi_162, hq_123, [], tg_1)])
theorem hd_377 : con_377.1 = (yX12_takes, cX12_takes, 3, (some .boolean)) := rfl
theorem ck_RX12_165_376 : COK2 RX12 vwCl gTbl 165 0 con_376 := ⟨wd_1603, wd_137, mh_X12_is, .inr (.inr ⟨rfl, wd_1600, wd_1602, wd_58, ⟨_, rfl, pd_X12_is⟩, 12, _, TX12, 45, rfl, rfl⟩)⟩
noncomputable def ct_377 : CTB2 := [(2, 165, 0, con_376, [0, 1]), (11, 169, 0, con_313, [0, 1])]
noncomputable def cu_377 : List CUT2 := []
theorem ch_377 : staG tb_X12_takes 1 bt_RX12 [] ct_377 [] [] cu_377 12 con_377 = true := by decide +kernel
theorem cto_377 (l : Launch) : CTOK2 l RX12 vwCl gTbl ct_377 := ct2_cons (vl_376 l) ck_RX12_165_376 (ct2_cons (vl_313 l) ck_RX12_169_313 (ct2_nil))
theorem vl_377 (l : Launch) : Vld2 l vwCl gTbl con_377 := conR_ok3 gT_all (hd_377) rfl pn_RX12 tk_X12_takes bo_RX12 xo_RX12 (cto_377 l) ch_377 cut_nil
/-- RookHustingModel expects -/
noncomputable def con_378 : Con2 := ((yX12_expects, cX12_expects, 2, none), (10, 245), ([(6, 0, 0), (13, 4, 0)], gi_165, [ac_117, am_2], []), [((9, 0, 0), gi_166, hq_124, [], tg_10), ((9, 0, 0), gi_167, hq_125, [], tg_10)])
theorem hd_378 : con_378.1 = (yX12_expects, cX12_expects, 2, none) := rfl
theorem ck_RX12_172_377 : COK2 RX12 vwCl gTbl 172 0 con_377 := ⟨wd_1599, wd_137, mh_X12_takes, .inr (.inr ⟨rfl, wd_1596, wd_1598, wd_57, ⟨_, rfl, pd_X12_takes⟩, 12, _, TX12, 45, rfl, rfl⟩)⟩
noncomputable def ct_378 : CTB2 := [(2, 172, 0, con_377, [0, 1]), (10, 175, 0, con_317, [0])]
noncomputable def cu_378 : List CUT2 := []
theorem ch_378 : staG tb_X12_expects 1 bt_RX12 [] ct_378 [] [] cu_378 10 con_378 = true := by decide +kernel
theorem cto_378 (l : Launch) : CTOK2 l RX12 vwCl gTbl ct_378 := ct2_cons (vl_377 l) ck_RX12_172_377 (ct2_cons (vl_317 l) ck_RX12_175_317 (ct2_nil))
theorem vl_378 (l : Launch) : Vld2 l vwCl gTbl con_378 := conR_ok3 gT_all (hd_378) rfl pn_RX12 tk_X12_expects bo_RX12 xo_RX12 (cto_378 l) ch_378 cut_nil
/-- RookHustingModel in -/
noncomputable def con_379 : Con2 := ((yX12_in, cX12_in, 6, (some .boolean)), (0, 0), ([(4, 0, 0), (3, 1, 0), (3, 9, 0)], gi_146, [], []), [((0, 0, 0), gi_147, [], [], [1]), ((0, 1, 0), [(1, 9), (0, 0), (0, 0), (0, 0)], [], [], [1])])
theorem hd_379 : con_379.1 = (yX12_in, cX12_in, 6, (some .boolean)) := rfl
noncomputable def cu_379 : List CUT2 := []
theorem ch_379 : staG tb_X12_in 1 bt_RX12 [] ct_2 [] [] cu_379 11 con_379 = true := by decide +kernel
theorem vl_379 (l : Launch) : Vld2 l vwCl gTbl con_379 := conR_ok3 gT_all (hd_379) rfl pn_RX12 tk_X12_in bo_RX12 xo_RX12 (cto_2 l) ch_379 cut_nil
/-- RookHustingModel number -/
noncomputable def gi_206 : GI := jl_n [gp_97, jl_i 1 9, gp_99]
noncomputable def con_380 : Con2 := ((yX12_number, cX12_number, 4, (some .int)), (2, 46), ([(6, 0, 0), (0, 1, 0), (0, 9, 0)], gi_170, [ac_123, am_2], []), [((0, 0, 0), gi_171, hq_126, [], tg_1), ((1, 14, 0), gi_206, hq_127, [], tg_1)])
theorem hd_380 : con_380.1 = (yX12_number, cX12_number, 4, (some .int)) := rfl
theorem ck_RX12_91_379 : COK2 RX12 vwCl gTbl 91 1 con_379 := ⟨wd_1544, wd_137, mh_X12_in, .inl ⟨rfl, wd_1542, wd_1543, pd_X12_in⟩⟩
noncomputable def ct_380 : CTB2 := [(1, 153, 0, con_314, [0]), (17, 175, 0, con_317, [0]), (21, 153, 0, con_322, [0]), (21, 153, 0, con_314, [0]), (36, 91, 1, con_379, []), (44, 175, 0, con_324, [0]), (48, 153, 0, con_322, [0]), (48, 153, 0, con_314, [0]), (48, 153, 0, con_325, [0]), (62, 169, 0, con_313, [0, 1])]
noncomputable def cu_380 : List CUT2 := []
theorem ch_380 : staG tb_X12_number 1 bt_RX12 [] ct_380 [] [] cu_380 31 con_380 = true := by decide +kernel
theorem cto_380 (l : Launch) : CTOK2 l RX12 vwCl gTbl ct_380 := ct2_cons (vl_314 l) ck_RX12_153_314 (ct2_cons (vl_317 l) ck_RX12_175_317 (ct2_cons (vl_322 l) ck_RX12_153_322 (ct2_cons (vl_314 l) ck_RX12_153_314 (ct2_cons (vl_379 l) ck_RX12_91_379 (ct2_cons (vl_324 l) ck_RX12_175_324 (ct2_cons (vl_322 l) ck_RX12_153_322 (ct2_cons (vl_314 l) ck_RX12_153_314 (ct2_cons (vl_325 l) ck_RX12_153_325 (ct2_cons (vl_313 l) ck_RX12_169_313 (ct2_nil))))))))))
theorem vl_380 (l : Launch) : Vld2 l vwCl gTbl con_380 := conR_ok3 gT_all (hd_380) rfl pn_RX12 tk_X12_number bo_RX12 xo_RX12 (cto_380 l) ch_380 cut_nil
/-- RookHustingModel number -/
noncomputable def con_381 : Con2 := ((yX12_number, cX12_number, 4, (some .int)), (1, 20), ([(6, 0, 0), (0, 1, 0), (0, 9, 0)], gi_170, [ac_126, am_2], []), [((0, 0, 0), gi_173, hq_128, [], [1])])
theorem hd_381 : con_381.1 = (yX12_number, cX12_number, 4, (some .int)) := rfl
noncomputable def cu_381 : List CUT2 := []
theorem ch_381 : staG tb_X12_number 1 bt_RX12 [] ct_327 [] [] cu_381 13 con_381 = true := by decide +kernel
theorem vl_381 (l : Launch) : Vld2 l vwCl gTbl con_381 := conR_ok3 gT_all (hd_381) rfl pn_RX12 tk_X12_number bo_RX12 xo_RX12 (cto_327 l) ch_381 cut_nil
/-- RookHustingModel told -/
noncomputable def gi_207 : GI := jl_n [gp_104, jl_i 1 9, gp_105]
noncomputable def con_382 : Con2 := ((yX12_told, cX12_told, 4, (some .int)), (11, 266), ([(6, 0, 0), (13, 4, 0), (0, 1, 0), (0, 9, 0)], gi_174, [ac_127, am_2], []), [((0, 0, 0), gi_175, hq_129, [], tg_1), ((1, 49, 0), gi_207, hq_130, [], tg_1)])
theorem hd_382 : con_382.1 = (yX12_told, cX12_told, 4, (some .int)) := rfl
theorem ck_RX12_183_381 : COK2 RX12 vwCl gTbl 183 0 con_381 := ⟨wd_1618, wd_137, mh_X12_number, .inr (.inr ⟨rfl, wd_1615, wd_1617, wd_61, ⟨_, rfl, pd_X12_number⟩, 12, _, TX12, 45, rfl, rfl⟩)⟩
theorem ck_RX12_183_380 : COK2 RX12 vwCl gTbl 183 0 con_380 := ⟨wd_1618, wd_137, mh_X12_number, .inr (.inr ⟨rfl, wd_1615, wd_1617, wd_61, ⟨_, rfl, pd_X12_number⟩, 12, _, TX12, 45, rfl, rfl⟩)⟩
theorem ck_RX12_179_378 : COK2 RX12 vwCl gTbl 179 0 con_378 := ⟨wd_1595, wd_137, mh_X12_expects, .inr (.inr ⟨rfl, wd_1592, wd_1594, wd_56, ⟨_, rfl, pd_X12_expects⟩, 12, _, TX12, 45, rfl, rfl⟩)⟩
noncomputable def ct_382 : CTB2 := [(2, 179, 0, con_378, [0, 1]), (8, 183, 0, con_380, [0, 1]), (8, 183, 0, con_381, [0, 1])]
noncomputable def cu_382 : List CUT2 := []
theorem ch_382 : staG tb_X12_told 1 bt_RX12 [] ct_382 [] [] cu_382 10 con_382 = true := by decide +kernel
theorem cto_382 (l : Launch) : CTOK2 l RX12 vwCl gTbl ct_382 := ct2_cons (vl_378 l) ck_RX12_179_378 (ct2_cons (vl_380 l) ck_RX12_183_380 (ct2_cons (vl_381 l) ck_RX12_183_381 (ct2_nil)))
theorem vl_382 (l : Launch) : Vld2 l vwCl gTbl con_382 := conR_ok3 gT_all (hd_382) rfl pn_RX12 tk_X12_told bo_RX12 xo_RX12 (cto_382 l) ch_382 cut_nil
/-- RookHustingModel bit -/
noncomputable def con_383 : Con2 := ((yX12_bit, cX12_bit, 2, (some .int)), (0, 0), ([(0, 0, 0), (0, 4, 0)], [(0, 0), (0, 0)], [], []), [((0, 0, 0), [(0, 0), (0, 0), (0, 0)], [], [], [1])])
theorem hd_383 : con_383.1 = (yX12_bit, cX12_bit, 2, (some .int)) := rfl
noncomputable def cu_383 : List CUT2 := []
theorem ch_383 : staG tb_X12_bit 1 bt_RX12 [] ct_2 [] [] cu_383 8 con_383 = true := by decide +kernel
theorem vl_383 (l : Launch) : Vld2 l vwCl gTbl con_383 := conR_ok3 gT_all (hd_383) rfl pn_RX12 tk_X12_bit bo_RX12 xo_RX12 (cto_2 l) ch_383 cut_nil
/-- RookHustingModel in -/
noncomputable def gi_208 : GI := jl_n [gp_129, jl_m 0 4]
noncomputable def gi_209 : GI := jl_n [gp_129, jl_m 0 4, jl_z 1]
noncomputable def con_384 : Con2 := ((yX12_in, cX12_in, 6, (some .boolean)), (0, 0), ([(4, 0, 0), (3, 0, 0), (4, 2, 0)], gi_208, [], []), [((0, 0, 0), gi_209, [], [], [1]), ((0, 1, 0), [(0, 4), (0, 0), (0, 4), (0, 0)], [], [], [1])])
theorem hd_384 : con_384.1 = (yX12_in, cX12_in, 6, (some .boolean)) := rfl
noncomputable def cu_384 : List CUT2 := []
theorem ch_384 : staG tb_X12_in 1 bt_RX12 [] ct_2 [] [] cu_384 11 con_384 = true := by decide +kernel
theorem vl_384 (l : Launch) : Vld2 l vwCl gTbl con_384 := conR_ok3 gT_all (hd_384) rfl pn_RX12 tk_X12_in bo_RX12 xo_RX12 (cto_2 l) ch_384 cut_nil
/-- RookHustingModel number -/
noncomputable def gi_210 : GI := jl_n [gp_130, gp_92]
noncomputable def gi_211 : GI := jl_n [gp_130, gp_93, jl_z 42, gp_94, gp_95]
noncomputable def gi_212 : GI := jl_n [gp_131, gp_96, gp_94, gp_98]
noncomputable def con_385 : Con2 := ((yX12_number, cX12_number, 4, (some .int)), (2, 46), ([(6, 0, 0), (0, 0, 0), (1, 2, 0)], gi_210, [ac_123, am_2], []), [((0, 0, 0), gi_211, hq_126, [], tg_1), ((1, 14, 0), gi_212, hq_127, [], tg_1)])
theorem hd_385 : con_385.1 = (yX12_number, cX12_number, 4, (some .int)) := rfl
theorem ck_RX12_91_384 : COK2 RX12 vwCl gTbl 91 1 con_384 := ⟨wd_1544, wd_137, mh_X12_in, .inl ⟨rfl, wd_1542, wd_1543, pd_X12_in⟩⟩
noncomputable def ct_385 : CTB2 := [(1, 153, 0, con_314, [0]), (17, 175, 0, con_317, [0]), (21, 153, 0, con_322, [0]), (21, 153, 0, con_314, [0]), (36, 91, 1, con_384, []), (44, 175, 0, con_324, [0]), (48, 153, 0, con_322, [0]), (48, 153, 0, con_314, [0]), (48, 153, 0, con_325, [0]), (62, 169, 0, con_313, [0, 1])]
noncomputable def cu_385 : List CUT2 := []
theorem ch_385 : staG tb_X12_number 1 bt_RX12 [] ct_385 [] [] cu_385 31 con_385 = true := by decide +kernel
theorem cto_385 (l : Launch) : CTOK2 l RX12 vwCl gTbl ct_385 := ct2_cons (vl_314 l) ck_RX12_153_314 (ct2_cons (vl_317 l) ck_RX12_175_317 (ct2_cons (vl_322 l) ck_RX12_153_322 (ct2_cons (vl_314 l) ck_RX12_153_314 (ct2_cons (vl_384 l) ck_RX12_91_384 (ct2_cons (vl_324 l) ck_RX12_175_324 (ct2_cons (vl_322 l) ck_RX12_153_322 (ct2_cons (vl_314 l) ck_RX12_153_314 (ct2_cons (vl_325 l) ck_RX12_153_325 (ct2_cons (vl_313 l) ck_RX12_169_313 (ct2_nil))))))))))
theorem vl_385 (l : Launch) : Vld2 l vwCl gTbl con_385 := conR_ok3 gT_all (hd_385) rfl pn_RX12 tk_X12_number bo_RX12 xo_RX12 (cto_385 l) ch_385 cut_nil
/-- RookHustingModel bit -/
noncomputable def con_386 : Con2 := ((yX12_bit, cX12_bit, 2, (some .int)), (0, 0), ([(0, 0, 0), (0, 3, 0)], [(0, 0), (0, 0)], [], []), [((0, 0, 0), [(0, 0), (0, 0), (0, 0)], [], [], [1])])
theorem hd_386 : con_386.1 = (yX12_bit, cX12_bit, 2, (some .int)) := rfl
noncomputable def cu_386 : List CUT2 := []
theorem ch_386 : staG tb_X12_bit 1 bt_RX12 [] ct_2 [] [] cu_386 8 con_386 = true := by decide +kernel
theorem vl_386 (l : Launch) : Vld2 l vwCl gTbl con_386 := conR_ok3 gT_all (hd_386) rfl pn_RX12 tk_X12_bit bo_RX12 xo_RX12 (cto_2 l) ch_386 cut_nil
/-- RookHustingModel bit -/
noncomputable def con_387 : Con2 := ((yX12_bit, cX12_bit, 2, (some .int)), (0, 0), ([(0, 0, 0), (0, 2, 0)], [(0, 0), (0, 0)], [], []), [((0, 0, 0), [(0, 0), (0, 0), (0, 0)], [], [], [1])])
theorem hd_387 : con_387.1 = (yX12_bit, cX12_bit, 2, (some .int)) := rfl
noncomputable def cu_387 : List CUT2 := []
theorem ch_387 : staG tb_X12_bit 1 bt_RX12 [] ct_2 [] [] cu_387 8 con_387 = true := by decide +kernel
theorem vl_387 (l : Launch) : Vld2 l vwCl gTbl con_387 := conR_ok3 gT_all (hd_387) rfl pn_RX12 tk_X12_bit bo_RX12 xo_RX12 (cto_2 l) ch_387 cut_nil
/-- RookHustingModel bit -/
noncomputable def con_388 : Con2 := ((yX12_bit, cX12_bit, 2, (some .int)), (0, 0), ([(0, 0, 0), (0, 1, 0)], [(0, 0), (0, 0)], [], []), [((0, 0, 0), [(0, 0), (0, 0), (0, 0)], [], [], [1])])
theorem hd_388 : con_388.1 = (yX12_bit, cX12_bit, 2, (some .int)) := rfl
noncomputable def cu_388 : List CUT2 := []
theorem ch_388 : staG tb_X12_bit 1 bt_RX12 [] ct_2 [] [] cu_388 8 con_388 = true := by decide +kernel
theorem vl_388 (l : Launch) : Vld2 l vwCl gTbl con_388 := conR_ok3 gT_all (hd_388) rfl pn_RX12 tk_X12_bit bo_RX12 xo_RX12 (cto_2 l) ch_388 cut_nil
/-- RookHustingModel bit -/
noncomputable def con_389 : Con2 := ((yX12_bit, cX12_bit, 2, (some .int)), (0, 0), ([(0, 0, 0), (0, 0, 0)], [(0, 0), (0, 0)], [], []), [((0, 0, 0), [(0, 0), (0, 0), (0, 0)], [], [], [1])])
theorem hd_389 : con_389.1 = (yX12_bit, cX12_bit, 2, (some .int)) := rfl
noncomputable def cu_389 : List CUT2 := []
theorem ch_389 : staG tb_X12_bit 1 bt_RX12 [] ct_2 [] [] cu_389 8 con_389 = true := by decide +kernel
theorem vl_389 (l : Launch) : Vld2 l vwCl gTbl con_389 := conR_ok3 gT_all (hd_389) rfl pn_RX12 tk_X12_bit bo_RX12 xo_RX12 (cto_2 l) ch_389 cut_nil
/-- RookHustingModel bit -/
noncomputable def gi_213 : GI := jl_n [jl_r 2 (jl_t), jl_i 0 1]
noncomputable def con_390 : Con2 := ((yX12_bit, cX12_bit, 2, (some .int)), (0, 0), ([(1, 0, 0), (1, 1, 0)], [((-2147483648), 2147483647), ((-2147483648), 2147483647)], [], []), [((1, 2, 0), gi_213, [], [], [1])])
theorem hd_390 : con_390.1 = (yX12_bit, cX12_bit, 2, (some .int)) := rfl
noncomputable def cu_390 : List CUT2 := []
theorem ch_390 : staG tb_X12_bit 1 bt_RX12 [] ct_2 [] [] cu_390 8 con_390 = true := by decide +kernel
theorem vl_390 (l : Launch) : Vld2 l vwCl gTbl con_390 := conR_ok3 gT_all (hd_390) rfl pn_RX12 tk_X12_bit bo_RX12 xo_RX12 (cto_2 l) ch_390 cut_nil
/-- RookHustingModel number -/
noncomputable def ac_155 : AC := .inl (12, jl_n [vp_24, jl_1 15 5, jl_c 2, vp_25])
noncomputable def gi_214 : GI := jl_n [gp_130, gp_100]
noncomputable def hq_146 : HP := [(false, ac_155), (false, am_2)]
noncomputable def con_391 : Con2 := ((yX12_number, cX12_number, 4, (some .int)), (1, 20), ([(6, 0, 0), (0, 0, 0), (1, 2, 0)], gi_210, [ac_155, am_2], []), [((0, 0, 0), gi_214, hq_146, [], [1])])
theorem hd_391 : con_391.1 = (yX12_number, cX12_number, 4, (some .int)) := rfl
noncomputable def ct_391 : CTB2 := [(1, 153, 0, con_325, [0]), (21, 153, 0, con_325, [0]), (48, 153, 0, con_325, [0])]
noncomputable def cu_391 : List CUT2 := []
theorem ch_391 : staG tb_X12_number 1 bt_RX12 [] ct_391 [] [] cu_391 13 con_391 = true := by decide +kernel
theorem cto_391 (l : Launch) : CTOK2 l RX12 vwCl gTbl ct_391 := ct2_cons (vl_325 l) ck_RX12_153_325 (ct2_cons (vl_325 l) ck_RX12_153_325 (ct2_cons (vl_325 l) ck_RX12_153_325 (ct2_nil)))
theorem vl_391 (l : Launch) : Vld2 l vwCl gTbl con_391 := conR_ok3 gT_all (hd_391) rfl pn_RX12 tk_X12_number bo_RX12 xo_RX12 (cto_391 l) ch_391 cut_nil
/-- RookHustingModel bit -/
noncomputable def con_392 : Con2 := ((yX12_bit, cX12_bit, 2, (some .int)), (0, 0), ([(0, 16, 0), (0, 4, 0)], [(0, 0), (0, 0)], [], []), [((0, 1, 0), [(0, 0), (0, 0), (0, 0)], [], [], [1])])
theorem hd_392 : con_392.1 = (yX12_bit, cX12_bit, 2, (some .int)) := rfl
noncomputable def cu_392 : List CUT2 := []
theorem ch_392 : staG tb_X12_bit 1 bt_RX12 [] ct_2 [] [] cu_392 8 con_392 = true := by decide +kernel
theorem vl_392 (l : Launch) : Vld2 l vwCl gTbl con_392 := conR_ok3 gT_all (hd_392) rfl pn_RX12 tk_X12_bit bo_RX12 xo_RX12 (cto_2 l) ch_392 cut_nil
/-- RookHustingModel bit -/
noncomputable def con_393 : Con2 := ((yX12_bit, cX12_bit, 2, (some .int)), (0, 0), ([(0, 16, 0), (0, 3, 0)], [(0, 0), (0, 0)], [], []), [((0, 0, 0), [(0, 0), (0, 0), (0, 0)], [], [], [1])])
theorem hd_393 : con_393.1 = (yX12_bit, cX12_bit, 2, (some .int)) := rfl
noncomputable def cu_393 : List CUT2 := []
theorem ch_393 : staG tb_X12_bit 1 bt_RX12 [] ct_2 [] [] cu_393 8 con_393 = true := by decide +kernel
theorem vl_393 (l : Launch) : Vld2 l vwCl gTbl con_393 := conR_ok3 gT_all (hd_393) rfl pn_RX12 tk_X12_bit bo_RX12 xo_RX12 (cto_2 l) ch_393 cut_nil
/-- RookHustingModel bit -/
noncomputable def con_394 : Con2 := ((yX12_bit, cX12_bit, 2, (some .int)), (0, 0), ([(0, 16, 0), (0, 2, 0)], [(0, 0), (0, 0)], [], []), [((0, 0, 0), [(0, 0), (0, 0), (0, 0)], [], [], [1])])
theorem hd_394 : con_394.1 = (yX12_bit, cX12_bit, 2, (some .int)) := rfl
noncomputable def cu_394 : List CUT2 := []
theorem ch_394 : staG tb_X12_bit 1 bt_RX12 [] ct_2 [] [] cu_394 8 con_394 = true := by decide +kernel
theorem vl_394 (l : Launch) : Vld2 l vwCl gTbl con_394 := conR_ok3 gT_all (hd_394) rfl pn_RX12 tk_X12_bit bo_RX12 xo_RX12 (cto_2 l) ch_394 cut_nil
/-- RookHustingModel bit -/
noncomputable def con_395 : Con2 := ((yX12_bit, cX12_bit, 2, (some .int)), (0, 0), ([(0, 16, 0), (0, 1, 0)], [(0, 0), (0, 0)], [], []), [((0, 0, 0), [(0, 0), (0, 0), (0, 0)], [], [], [1])])
theorem hd_395 : con_395.1 = (yX12_bit, cX12_bit, 2, (some .int)) := rfl
noncomputable def cu_395 : List CUT2 := []
theorem ch_395 : staG tb_X12_bit 1 bt_RX12 [] ct_2 [] [] cu_395 8 con_395 = true := by decide +kernel
theorem vl_395 (l : Launch) : Vld2 l vwCl gTbl con_395 := conR_ok3 gT_all (hd_395) rfl pn_RX12 tk_X12_bit bo_RX12 xo_RX12 (cto_2 l) ch_395 cut_nil
/-- RookHustingModel bit -/
noncomputable def con_396 : Con2 := ((yX12_bit, cX12_bit, 2, (some .int)), (0, 0), ([(0, 16, 0), (0, 0, 0)], [(0, 0), (0, 0)], [], []), [((0, 0, 0), [(0, 0), (0, 0), (0, 0)], [], [], [1])])
theorem hd_396 : con_396.1 = (yX12_bit, cX12_bit, 2, (some .int)) := rfl
noncomputable def cu_396 : List CUT2 := []
theorem ch_396 : staG tb_X12_bit 1 bt_RX12 [] ct_2 [] [] cu_396 8 con_396 = true := by decide +kernel
theorem vl_396 (l : Launch) : Vld2 l vwCl gTbl con_396 := conR_ok3 gT_all (hd_396) rfl pn_RX12 tk_X12_bit bo_RX12 xo_RX12 (cto_2 l) ch_396 cut_nil
/-- RookHustingModel bit -/
noncomputable def con_397 : Con2 := ((yX12_bit, cX12_bit, 2, (some .int)), (0, 0), ([(0, 8, 0), (0, 4, 0)], [(0, 0), (0, 0)], [], []), [((0, 0, 0), [(0, 0), (0, 0), (0, 0)], [], [], [1])])
theorem hd_397 : con_397.1 = (yX12_bit, cX12_bit, 2, (some .int)) := rfl
noncomputable def cu_397 : List CUT2 := []
theorem ch_397 : staG tb_X12_bit 1 bt_RX12 [] ct_2 [] [] cu_397 8 con_397 = true := by decide +kernel
theorem vl_397 (l : Launch) : Vld2 l vwCl gTbl con_397 := conR_ok3 gT_all (hd_397) rfl pn_RX12 tk_X12_bit bo_RX12 xo_RX12 (cto_2 l) ch_397 cut_nil
/-- RookHustingModel bit -/
noncomputable def con_398 : Con2 := ((yX12_bit, cX12_bit, 2, (some .int)), (0, 0), ([(0, 8, 0), (0, 3, 0)], [(0, 0), (0, 0)], [], []), [((0, 1, 0), [(0, 0), (0, 0), (0, 0)], [], [], [1])])
theorem hd_398 : con_398.1 = (yX12_bit, cX12_bit, 2, (some .int)) := rfl
noncomputable def cu_398 : List CUT2 := []
theorem ch_398 : staG tb_X12_bit 1 bt_RX12 [] ct_2 [] [] cu_398 8 con_398 = true := by decide +kernel
theorem vl_398 (l : Launch) : Vld2 l vwCl gTbl con_398 := conR_ok3 gT_all (hd_398) rfl pn_RX12 tk_X12_bit bo_RX12 xo_RX12 (cto_2 l) ch_398 cut_nil
/-- RookHustingModel bit -/
noncomputable def con_399 : Con2 := ((yX12_bit, cX12_bit, 2, (some .int)), (0, 0), ([(0, 8, 0), (0, 2, 0)], [(0, 0), (0, 0)], [], []), [((0, 0, 0), [(0, 0), (0, 0), (0, 0)], [], [], [1])])
theorem hd_399 : con_399.1 = (yX12_bit, cX12_bit, 2, (some .int)) := rfl
noncomputable def cu_399 : List CUT2 := []
theorem ch_399 : staG tb_X12_bit 1 bt_RX12 [] ct_2 [] [] cu_399 8 con_399 = true := by decide +kernel
theorem vl_399 (l : Launch) : Vld2 l vwCl gTbl con_399 := conR_ok3 gT_all (hd_399) rfl pn_RX12 tk_X12_bit bo_RX12 xo_RX12 (cto_2 l) ch_399 cut_nil
/-- RookHustingModel bit -/
noncomputable def con_400 : Con2 := ((yX12_bit, cX12_bit, 2, (some .int)), (0, 0), ([(0, 8, 0), (0, 1, 0)], [(0, 0), (0, 0)], [], []), [((0, 0, 0), [(0, 0), (0, 0), (0, 0)], [], [], [1])])
theorem hd_400 : con_400.1 = (yX12_bit, cX12_bit, 2, (some .int)) := rfl
noncomputable def cu_400 : List CUT2 := []
theorem ch_400 : staG tb_X12_bit 1 bt_RX12 [] ct_2 [] [] cu_400 8 con_400 = true := by decide +kernel
theorem vl_400 (l : Launch) : Vld2 l vwCl gTbl con_400 := conR_ok3 gT_all (hd_400) rfl pn_RX12 tk_X12_bit bo_RX12 xo_RX12 (cto_2 l) ch_400 cut_nil
/-- RookHustingModel bit -/
noncomputable def con_401 : Con2 := ((yX12_bit, cX12_bit, 2, (some .int)), (0, 0), ([(0, 8, 0), (0, 0, 0)], [(0, 0), (0, 0)], [], []), [((0, 0, 0), [(0, 0), (0, 0), (0, 0)], [], [], [1])])
theorem hd_401 : con_401.1 = (yX12_bit, cX12_bit, 2, (some .int)) := rfl
noncomputable def cu_401 : List CUT2 := []
theorem ch_401 : staG tb_X12_bit 1 bt_RX12 [] ct_2 [] [] cu_401 8 con_401 = true := by decide +kernel
theorem vl_401 (l : Launch) : Vld2 l vwCl gTbl con_401 := conR_ok3 gT_all (hd_401) rfl pn_RX12 tk_X12_bit bo_RX12 xo_RX12 (cto_2 l) ch_401 cut_nil
/-- RookHustingModel bit -/
noncomputable def con_402 : Con2 := ((yX12_bit, cX12_bit, 2, (some .int)), (0, 0), ([(0, 4, 0), (0, 4, 0)], [(0, 0), (0, 0)], [], []), [((0, 0, 0), [(0, 0), (0, 0), (0, 0)], [], [], [1])])
theorem hd_402 : con_402.1 = (yX12_bit, cX12_bit, 2, (some .int)) := rfl
noncomputable def cu_402 : List CUT2 := []
theorem ch_402 : staG tb_X12_bit 1 bt_RX12 [] ct_2 [] [] cu_402 8 con_402 = true := by decide +kernel
theorem vl_402 (l : Launch) : Vld2 l vwCl gTbl con_402 := conR_ok3 gT_all (hd_402) rfl pn_RX12 tk_X12_bit bo_RX12 xo_RX12 (cto_2 l) ch_402 cut_nil
/-- RookHustingModel bit -/
noncomputable def con_403 : Con2 := ((yX12_bit, cX12_bit, 2, (some .int)), (0, 0), ([(0, 4, 0), (0, 3, 0)], [(0, 0), (0, 0)], [], []), [((0, 0, 0), [(0, 0), (0, 0), (0, 0)], [], [], [1])])
theorem hd_403 : con_403.1 = (yX12_bit, cX12_bit, 2, (some .int)) := rfl
noncomputable def cu_403 : List CUT2 := []
theorem ch_403 : staG tb_X12_bit 1 bt_RX12 [] ct_2 [] [] cu_403 8 con_403 = true := by decide +kernel
theorem vl_403 (l : Launch) : Vld2 l vwCl gTbl con_403 := conR_ok3 gT_all (hd_403) rfl pn_RX12 tk_X12_bit bo_RX12 xo_RX12 (cto_2 l) ch_403 cut_nil
/-- RookHustingModel bit -/
noncomputable def con_404 : Con2 := ((yX12_bit, cX12_bit, 2, (some .int)), (0, 0), ([(0, 4, 0), (0, 2, 0)], [(0, 0), (0, 0)], [], []), [((0, 1, 0), [(0, 0), (0, 0), (0, 0)], [], [], [1])])
theorem hd_404 : con_404.1 = (yX12_bit, cX12_bit, 2, (some .int)) := rfl
noncomputable def cu_404 : List CUT2 := []
theorem ch_404 : staG tb_X12_bit 1 bt_RX12 [] ct_2 [] [] cu_404 8 con_404 = true := by decide +kernel
theorem vl_404 (l : Launch) : Vld2 l vwCl gTbl con_404 := conR_ok3 gT_all (hd_404) rfl pn_RX12 tk_X12_bit bo_RX12 xo_RX12 (cto_2 l) ch_404 cut_nil
/-- RookHustingModel bit -/
noncomputable def con_405 : Con2 := ((yX12_bit, cX12_bit, 2, (some .int)), (0, 0), ([(0, 4, 0), (0, 1, 0)], [(0, 0), (0, 0)], [], []), [((0, 0, 0), [(0, 0), (0, 0), (0, 0)], [], [], [1])])
theorem hd_405 : con_405.1 = (yX12_bit, cX12_bit, 2, (some .int)) := rfl
noncomputable def cu_405 : List CUT2 := []
theorem ch_405 : staG tb_X12_bit 1 bt_RX12 [] ct_2 [] [] cu_405 8 con_405 = true := by decide +kernel
theorem vl_405 (l : Launch) : Vld2 l vwCl gTbl con_405 := conR_ok3 gT_all (hd_405) rfl pn_RX12 tk_X12_bit bo_RX12 xo_RX12 (cto_2 l) ch_405 cut_nil
/-- RookHustingModel bit -/
noncomputable def con_406 : Con2 := ((yX12_bit, cX12_bit, 2, (some .int)), (0, 0), ([(0, 4, 0), (0, 0, 0)], [(0, 0), (0, 0)], [], []), [((0, 0, 0), [(0, 0), (0, 0), (0, 0)], [], [], [1])])
theorem hd_406 : con_406.1 = (yX12_bit, cX12_bit, 2, (some .int)) := rfl
noncomputable def cu_406 : List CUT2 := []
theorem ch_406 : staG tb_X12_bit 1 bt_RX12 [] ct_2 [] [] cu_406 8 con_406 = true := by decide +kernel
theorem vl_406 (l : Launch) : Vld2 l vwCl gTbl con_406 := conR_ok3 gT_all (hd_406) rfl pn_RX12 tk_X12_bit bo_RX12 xo_RX12 (cto_2 l) ch_406 cut_nil
/-- RookHustingModel bit -/
noncomputable def con_407 : Con2 := ((yX12_bit, cX12_bit, 2, (some .int)), (0, 0), ([(0, 2, 0), (0, 4, 0)], [(0, 0), (0, 0)], [], []), [((0, 0, 0), [(0, 0), (0, 0), (0, 0)], [], [], [1])])
theorem hd_407 : con_407.1 = (yX12_bit, cX12_bit, 2, (some .int)) := rfl
noncomputable def cu_407 : List CUT2 := []
theorem ch_407 : staG tb_X12_bit 1 bt_RX12 [] ct_2 [] [] cu_407 8 con_407 = true := by decide +kernel
theorem vl_407 (l : Launch) : Vld2 l vwCl gTbl con_407 := conR_ok3 gT_all (hd_407) rfl pn_RX12 tk_X12_bit bo_RX12 xo_RX12 (cto_2 l) ch_407 cut_nil
/-- RookHustingModel bit -/
noncomputable def con_408 : Con2 := ((yX12_bit, cX12_bit, 2, (some .int)), (0, 0), ([(0, 2, 0), (0, 3, 0)], [(0, 0), (0, 0)], [], []), [((0, 0, 0), [(0, 0), (0, 0), (0, 0)], [], [], [1])])
theorem hd_408 : con_408.1 = (yX12_bit, cX12_bit, 2, (some .int)) := rfl
noncomputable def cu_408 : List CUT2 := []
theorem ch_408 : staG tb_X12_bit 1 bt_RX12 [] ct_2 [] [] cu_408 8 con_408 = true := by decide +kernel
theorem vl_408 (l : Launch) : Vld2 l vwCl gTbl con_408 := conR_ok3 gT_all (hd_408) rfl pn_RX12 tk_X12_bit bo_RX12 xo_RX12 (cto_2 l) ch_408 cut_nil
/-- RookHustingModel bit -/
noncomputable def con_409 : Con2 := ((yX12_bit, cX12_bit, 2, (some .int)), (0, 0), ([(0, 2, 0), (0, 2, 0)], [(0, 0), (0, 0)], [], []), [((0, 0, 0), [(0, 0), (0, 0), (0, 0)], [], [], [1])])
theorem hd_409 : con_409.1 = (yX12_bit, cX12_bit, 2, (some .int)) := rfl
noncomputable def cu_409 : List CUT2 := []
theorem ch_409 : staG tb_X12_bit 1 bt_RX12 [] ct_2 [] [] cu_409 8 con_409 = true := by decide +kernel
theorem vl_409 (l : Launch) : Vld2 l vwCl gTbl con_409 := conR_ok3 gT_all (hd_409) rfl pn_RX12 tk_X12_bit bo_RX12 xo_RX12 (cto_2 l) ch_409 cut_nil
/-- RookHustingModel bit -/
noncomputable def con_410 : Con2 := ((yX12_bit, cX12_bit, 2, (some .int)), (0, 0), ([(0, 2, 0), (0, 1, 0)], [(0, 0), (0, 0)], [], []), [((0, 1, 0), [(0, 0), (0, 0), (0, 0)], [], [], [1])])
theorem hd_410 : con_410.1 = (yX12_bit, cX12_bit, 2, (some .int)) := rfl
noncomputable def cu_410 : List CUT2 := []
theorem ch_410 : staG tb_X12_bit 1 bt_RX12 [] ct_2 [] [] cu_410 8 con_410 = true := by decide +kernel
theorem vl_410 (l : Launch) : Vld2 l vwCl gTbl con_410 := conR_ok3 gT_all (hd_410) rfl pn_RX12 tk_X12_bit bo_RX12 xo_RX12 (cto_2 l) ch_410 cut_nil
/-- RookHustingModel bit -/
noncomputable def con_411 : Con2 := ((yX12_bit, cX12_bit, 2, (some .int)), (0, 0), ([(0, 2, 0), (0, 0, 0)], [(0, 0), (0, 0)], [], []), [((0, 0, 0), [(0, 0), (0, 0), (0, 0)], [], [], [1])])
theorem hd_411 : con_411.1 = (yX12_bit, cX12_bit, 2, (some .int)) := rfl
noncomputable def cu_411 : List CUT2 := []
theorem ch_411 : staG tb_X12_bit 1 bt_RX12 [] ct_2 [] [] cu_411 8 con_411 = true := by decide +kernel
theorem vl_411 (l : Launch) : Vld2 l vwCl gTbl con_411 := conR_ok3 gT_all (hd_411) rfl pn_RX12 tk_X12_bit bo_RX12 xo_RX12 (cto_2 l) ch_411 cut_nil
/-- RookHustingModel bit -/
noncomputable def con_412 : Con2 := ((yX12_bit, cX12_bit, 2, (some .int)), (0, 0), ([(0, 1, 0), (0, 4, 0)], [(0, 0), (0, 0)], [], []), [((0, 0, 0), [(0, 0), (0, 0), (0, 0)], [], [], [1])])
theorem hd_412 : con_412.1 = (yX12_bit, cX12_bit, 2, (some .int)) := rfl
noncomputable def cu_412 : List CUT2 := []
theorem ch_412 : staG tb_X12_bit 1 bt_RX12 [] ct_2 [] [] cu_412 8 con_412 = true := by decide +kernel
theorem vl_412 (l : Launch) : Vld2 l vwCl gTbl con_412 := conR_ok3 gT_all (hd_412) rfl pn_RX12 tk_X12_bit bo_RX12 xo_RX12 (cto_2 l) ch_412 cut_nil
/-- RookHustingModel bit -/
noncomputable def con_413 : Con2 := ((yX12_bit, cX12_bit, 2, (some .int)), (0, 0), ([(0, 1, 0), (0, 3, 0)], [(0, 0), (0, 0)], [], []), [((0, 0, 0), [(0, 0), (0, 0), (0, 0)], [], [], [1])])
theorem hd_413 : con_413.1 = (yX12_bit, cX12_bit, 2, (some .int)) := rfl
noncomputable def cu_413 : List CUT2 := []
theorem ch_413 : staG tb_X12_bit 1 bt_RX12 [] ct_2 [] [] cu_413 8 con_413 = true := by decide +kernel
theorem vl_413 (l : Launch) : Vld2 l vwCl gTbl con_413 := conR_ok3 gT_all (hd_413) rfl pn_RX12 tk_X12_bit bo_RX12 xo_RX12 (cto_2 l) ch_413 cut_nil
/-- RookHustingModel bit -/
noncomputable def con_414 : Con2 := ((yX12_bit, cX12_bit, 2, (some .int)), (0, 0), ([(0, 1, 0), (0, 2, 0)], [(0, 0), (0, 0)], [], []), [((0, 0, 0), [(0, 0), (0, 0), (0, 0)], [], [], [1])])
theorem hd_414 : con_414.1 = (yX12_bit, cX12_bit, 2, (some .int)) := rfl
noncomputable def cu_414 : List CUT2 := []
theorem ch_414 : staG tb_X12_bit 1 bt_RX12 [] ct_2 [] [] cu_414 8 con_414 = true := by decide +kernel
theorem vl_414 (l : Launch) : Vld2 l vwCl gTbl con_414 := conR_ok3 gT_all (hd_414) rfl pn_RX12 tk_X12_bit bo_RX12 xo_RX12 (cto_2 l) ch_414 cut_nil
/-- RookHustingModel bit -/
noncomputable def con_415 : Con2 := ((yX12_bit, cX12_bit, 2, (some .int)), (0, 0), ([(0, 1, 0), (0, 1, 0)], [(0, 0), (0, 0)], [], []), [((0, 0, 0), [(0, 0), (0, 0), (0, 0)], [], [], [1])])
theorem hd_415 : con_415.1 = (yX12_bit, cX12_bit, 2, (some .int)) := rfl
noncomputable def cu_415 : List CUT2 := []
theorem ch_415 : staG tb_X12_bit 1 bt_RX12 [] ct_2 [] [] cu_415 8 con_415 = true := by decide +kernel
theorem vl_415 (l : Launch) : Vld2 l vwCl gTbl con_415 := conR_ok3 gT_all (hd_415) rfl pn_RX12 tk_X12_bit bo_RX12 xo_RX12 (cto_2 l) ch_415 cut_nil
/-- RookHustingModel bit -/
noncomputable def con_416 : Con2 := ((yX12_bit, cX12_bit, 2, (some .int)), (0, 0), ([(0, 1, 0), (0, 0, 0)], [(0, 0), (0, 0)], [], []), [((0, 1, 0), [(0, 0), (0, 0), (0, 0)], [], [], [1])])
theorem hd_416 : con_416.1 = (yX12_bit, cX12_bit, 2, (some .int)) := rfl
noncomputable def cu_416 : List CUT2 := []
theorem ch_416 : staG tb_X12_bit 1 bt_RX12 [] ct_2 [] [] cu_416 8 con_416 = true := by decide +kernel
theorem vl_416 (l : Launch) : Vld2 l vwCl gTbl con_416 := conR_ok3 gT_all (hd_416) rfl pn_RX12 tk_X12_bit bo_RX12 xo_RX12 (cto_2 l) ch_416 cut_nil
/-- RookHustingModel bit -/
noncomputable def con_417 : Con2 := ((yX12_bit, cX12_bit, 2, (some .int)), (0, 0), ([(0, 24, 0), (0, 4, 0)], [(0, 0), (0, 0)], [], []), [((0, 1, 0), [(0, 0), (0, 0), (0, 0)], [], [], [1])])
theorem hd_417 : con_417.1 = (yX12_bit, cX12_bit, 2, (some .int)) := rfl
noncomputable def cu_417 : List CUT2 := []
theorem ch_417 : staG tb_X12_bit 1 bt_RX12 [] ct_2 [] [] cu_417 8 con_417 = true := by decide +kernel
theorem vl_417 (l : Launch) : Vld2 l vwCl gTbl con_417 := conR_ok3 gT_all (hd_417) rfl pn_RX12 tk_X12_bit bo_RX12 xo_RX12 (cto_2 l) ch_417 cut_nil
/-- RookHustingModel bit -/
noncomputable def con_418 : Con2 := ((yX12_bit, cX12_bit, 2, (some .int)), (0, 0), ([(0, 24, 0), (0, 3, 0)], [(0, 0), (0, 0)], [], []), [((0, 1, 0), [(0, 0), (0, 0), (0, 0)], [], [], [1])])
theorem hd_418 : con_418.1 = (yX12_bit, cX12_bit, 2, (some .int)) := rfl
noncomputable def cu_418 : List CUT2 := []
theorem ch_418 : staG tb_X12_bit 1 bt_RX12 [] ct_2 [] [] cu_418 8 con_418 = true := by decide +kernel
theorem vl_418 (l : Launch) : Vld2 l vwCl gTbl con_418 := conR_ok3 gT_all (hd_418) rfl pn_RX12 tk_X12_bit bo_RX12 xo_RX12 (cto_2 l) ch_418 cut_nil
/-- RookHustingModel bit -/
noncomputable def con_419 : Con2 := ((yX12_bit, cX12_bit, 2, (some .int)), (0, 0), ([(0, 24, 0), (0, 2, 0)], [(0, 0), (0, 0)], [], []), [((0, 0, 0), [(0, 0), (0, 0), (0, 0)], [], [], [1])])
theorem hd_419 : con_419.1 = (yX12_bit, cX12_bit, 2, (some .int)) := rfl
noncomputable def cu_419 : List CUT2 := []
theorem ch_419 : staG tb_X12_bit 1 bt_RX12 [] ct_2 [] [] cu_419 8 con_419 = true := by decide +kernel
theorem vl_419 (l : Launch) : Vld2 l vwCl gTbl con_419 := conR_ok3 gT_all (hd_419) rfl pn_RX12 tk_X12_bit bo_RX12 xo_RX12 (cto_2 l) ch_419 cut_nil
/-- RookHustingModel bit -/
noncomputable def con_420 : Con2 := ((yX12_bit, cX12_bit, 2, (some .int)), (0, 0), ([(0, 24, 0), (0, 1, 0)], [(0, 0), (0, 0)], [], []), [((0, 0, 0), [(0, 0), (0, 0), (0, 0)], [], [], [1])])
theorem hd_420 : con_420.1 = (yX12_bit, cX12_bit, 2, (some .int)) := rfl
noncomputable def cu_420 : List CUT2 := []
theorem ch_420 : staG tb_X12_bit 1 bt_RX12 [] ct_2 [] [] cu_420 8 con_420 = true := by decide +kernel
theorem vl_420 (l : Launch) : Vld2 l vwCl gTbl con_420 := conR_ok3 gT_all (hd_420) rfl pn_RX12 tk_X12_bit bo_RX12 xo_RX12 (cto_2 l) ch_420 cut_nil
/-- RookHustingModel bit -/
noncomputable def con_421 : Con2 := ((yX12_bit, cX12_bit, 2, (some .int)), (0, 0), ([(0, 24, 0), (0, 0, 0)], [(0, 0), (0, 0)], [], []), [((0, 0, 0), [(0, 0), (0, 0), (0, 0)], [], [], [1])])
theorem hd_421 : con_421.1 = (yX12_bit, cX12_bit, 2, (some .int)) := rfl
noncomputable def cu_421 : List CUT2 := []
theorem ch_421 : staG tb_X12_bit 1 bt_RX12 [] ct_2 [] [] cu_421 8 con_421 = true := by decide +kernel
theorem vl_421 (l : Launch) : Vld2 l vwCl gTbl con_421 := conR_ok3 gT_all (hd_421) rfl pn_RX12 tk_X12_bit bo_RX12 xo_RX12 (cto_2 l) ch_421 cut_nil
/-- RookHustingModel bit -/
noncomputable def con_422 : Con2 := ((yX12_bit, cX12_bit, 2, (some .int)), (0, 0), ([(0, 20, 0), (0, 4, 0)], [(0, 0), (0, 0)], [], []), [((0, 1, 0), [(0, 0), (0, 0), (0, 0)], [], [], [1])])
theorem hd_422 : con_422.1 = (yX12_bit, cX12_bit, 2, (some .int)) := rfl
noncomputable def cu_422 : List CUT2 := []
theorem ch_422 : staG tb_X12_bit 1 bt_RX12 [] ct_2 [] [] cu_422 8 con_422 = true := by decide +kernel
theorem vl_422 (l : Launch) : Vld2 l vwCl gTbl con_422 := conR_ok3 gT_all (hd_422) rfl pn_RX12 tk_X12_bit bo_RX12 xo_RX12 (cto_2 l) ch_422 cut_nil
/-- RookHustingModel bit -/
noncomputable def con_423 : Con2 := ((yX12_bit, cX12_bit, 2, (some .int)), (0, 0), ([(0, 20, 0), (0, 3, 0)], [(0, 0), (0, 0)], [], []), [((0, 0, 0), [(0, 0), (0, 0), (0, 0)], [], [], [1])])
theorem hd_423 : con_423.1 = (yX12_bit, cX12_bit, 2, (some .int)) := rfl
noncomputable def cu_423 : List CUT2 := []
theorem ch_423 : staG tb_X12_bit 1 bt_RX12 [] ct_2 [] [] cu_423 8 con_423 = true := by decide +kernel
theorem vl_423 (l : Launch) : Vld2 l vwCl gTbl con_423 := conR_ok3 gT_all (hd_423) rfl pn_RX12 tk_X12_bit bo_RX12 xo_RX12 (cto_2 l) ch_423 cut_nil
/-- RookHustingModel bit -/
noncomputable def con_424 : Con2 := ((yX12_bit, cX12_bit, 2, (some .int)), (0, 0), ([(0, 20, 0), (0, 2, 0)], [(0, 0), (0, 0)], [], []), [((0, 1, 0), [(0, 0), (0, 0), (0, 0)], [], [], [1])])
theorem hd_424 : con_424.1 = (yX12_bit, cX12_bit, 2, (some .int)) := rfl
noncomputable def cu_424 : List CUT2 := []
theorem ch_424 : staG tb_X12_bit 1 bt_RX12 [] ct_2 [] [] cu_424 8 con_424 = true := by decide +kernel
theorem vl_424 (l : Launch) : Vld2 l vwCl gTbl con_424 := conR_ok3 gT_all (hd_424) rfl pn_RX12 tk_X12_bit bo_RX12 xo_RX12 (cto_2 l) ch_424 cut_nil
/-- RookHustingModel bit -/
noncomputable def con_425 : Con2 := ((yX12_bit, cX12_bit, 2, (some .int)), (0, 0), ([(0, 20, 0), (0, 1, 0)], [(0, 0), (0, 0)], [], []), [((0, 0, 0), [(0, 0), (0, 0), (0, 0)], [], [], [1])])
theorem hd_425 : con_425.1 = (yX12_bit, cX12_bit, 2, (some .int)) := rfl
noncomputable def cu_425 : List CUT2 := []
theorem ch_425 : staG tb_X12_bit 1 bt_RX12 [] ct_2 [] [] cu_425 8 con_425 = true := by decide +kernel
theorem vl_425 (l : Launch) : Vld2 l vwCl gTbl con_425 := conR_ok3 gT_all (hd_425) rfl pn_RX12 tk_X12_bit bo_RX12 xo_RX12 (cto_2 l) ch_425 cut_nil
/-- RookHustingModel bit -/
noncomputable def con_426 : Con2 := ((yX12_bit, cX12_bit, 2, (some .int)), (0, 0), ([(0, 20, 0), (0, 0, 0)], [(0, 0), (0, 0)], [], []), [((0, 0, 0), [(0, 0), (0, 0), (0, 0)], [], [], [1])])
theorem hd_426 : con_426.1 = (yX12_bit, cX12_bit, 2, (some .int)) := rfl
noncomputable def cu_426 : List CUT2 := []
theorem ch_426 : staG tb_X12_bit 1 bt_RX12 [] ct_2 [] [] cu_426 8 con_426 = true := by decide +kernel
theorem vl_426 (l : Launch) : Vld2 l vwCl gTbl con_426 := conR_ok3 gT_all (hd_426) rfl pn_RX12 tk_X12_bit bo_RX12 xo_RX12 (cto_2 l) ch_426 cut_nil
/-- RookHustingModel bit -/
noncomputable def con_427 : Con2 := ((yX12_bit, cX12_bit, 2, (some .int)), (0, 0), ([(0, 18, 0), (0, 4, 0)], [(0, 0), (0, 0)], [], []), [((0, 1, 0), [(0, 0), (0, 0), (0, 0)], [], [], [1])])
theorem hd_427 : con_427.1 = (yX12_bit, cX12_bit, 2, (some .int)) := rfl
noncomputable def cu_427 : List CUT2 := []
theorem ch_427 : staG tb_X12_bit 1 bt_RX12 [] ct_2 [] [] cu_427 8 con_427 = true := by decide +kernel
theorem vl_427 (l : Launch) : Vld2 l vwCl gTbl con_427 := conR_ok3 gT_all (hd_427) rfl pn_RX12 tk_X12_bit bo_RX12 xo_RX12 (cto_2 l) ch_427 cut_nil
/-- RookHustingModel bit -/
noncomputable def con_428 : Con2 := ((yX12_bit, cX12_bit, 2, (some .int)), (0, 0), ([(0, 18, 0), (0, 3, 0)], [(0, 0), (0, 0)], [], []), [((0, 0, 0), [(0, 0), (0, 0), (0, 0)], [], [], [1])])
theorem hd_428 : con_428.1 = (yX12_bit, cX12_bit, 2, (some .int)) := rfl
noncomputable def cu_428 : List CUT2 := []
theorem ch_428 : staG tb_X12_bit 1 bt_RX12 [] ct_2 [] [] cu_428 8 con_428 = true := by decide +kernel
theorem vl_428 (l : Launch) : Vld2 l vwCl gTbl con_428 := conR_ok3 gT_all (hd_428) rfl pn_RX12 tk_X12_bit bo_RX12 xo_RX12 (cto_2 l) ch_428 cut_nil
/-- RookHustingModel bit -/
noncomputable def con_429 : Con2 := ((yX12_bit, cX12_bit, 2, (some .int)), (0, 0), ([(0, 18, 0), (0, 2, 0)], [(0, 0), (0, 0)], [], []), [((0, 0, 0), [(0, 0), (0, 0), (0, 0)], [], [], [1])])
theorem hd_429 : con_429.1 = (yX12_bit, cX12_bit, 2, (some .int)) := rfl
noncomputable def cu_429 : List CUT2 := []
theorem ch_429 : staG tb_X12_bit 1 bt_RX12 [] ct_2 [] [] cu_429 8 con_429 = true := by decide +kernel
theorem vl_429 (l : Launch) : Vld2 l vwCl gTbl con_429 := conR_ok3 gT_all (hd_429) rfl pn_RX12 tk_X12_bit bo_RX12 xo_RX12 (cto_2 l) ch_429 cut_nil
/-- RookHustingModel bit -/
noncomputable def con_430 : Con2 := ((yX12_bit, cX12_bit, 2, (some .int)), (0, 0), ([(0, 18, 0), (0, 1, 0)], [(0, 0), (0, 0)], [], []), [((0, 1, 0), [(0, 0), (0, 0), (0, 0)], [], [], [1])])
theorem hd_430 : con_430.1 = (yX12_bit, cX12_bit, 2, (some .int)) := rfl
noncomputable def cu_430 : List CUT2 := []
theorem ch_430 : staG tb_X12_bit 1 bt_RX12 [] ct_2 [] [] cu_430 8 con_430 = true := by decide +kernel
theorem vl_430 (l : Launch) : Vld2 l vwCl gTbl con_430 := conR_ok3 gT_all (hd_430) rfl pn_RX12 tk_X12_bit bo_RX12 xo_RX12 (cto_2 l) ch_430 cut_nil
/-- RookHustingModel bit -/
noncomputable def con_431 : Con2 := ((yX12_bit, cX12_bit, 2, (some .int)), (0, 0), ([(0, 18, 0), (0, 0, 0)], [(0, 0), (0, 0)], [], []), [((0, 0, 0), [(0, 0), (0, 0), (0, 0)], [], [], [1])])
theorem hd_431 : con_431.1 = (yX12_bit, cX12_bit, 2, (some .int)) := rfl
noncomputable def cu_431 : List CUT2 := []
theorem ch_431 : staG tb_X12_bit 1 bt_RX12 [] ct_2 [] [] cu_431 8 con_431 = true := by decide +kernel
theorem vl_431 (l : Launch) : Vld2 l vwCl gTbl con_431 := conR_ok3 gT_all (hd_431) rfl pn_RX12 tk_X12_bit bo_RX12 xo_RX12 (cto_2 l) ch_431 cut_nil
/-- RookHustingModel bit -/
noncomputable def con_432 : Con2 := ((yX12_bit, cX12_bit, 2, (some .int)), (0, 0), ([(0, 17, 0), (0, 4, 0)], [(0, 0), (0, 0)], [], []), [((0, 1, 0), [(0, 0), (0, 0), (0, 0)], [], [], [1])])
theorem hd_432 : con_432.1 = (yX12_bit, cX12_bit, 2, (some .int)) := rfl
noncomputable def cu_432 : List CUT2 := []
theorem ch_432 : staG tb_X12_bit 1 bt_RX12 [] ct_2 [] [] cu_432 8 con_432 = true := by decide +kernel
theorem vl_432 (l : Launch) : Vld2 l vwCl gTbl con_432 := conR_ok3 gT_all (hd_432) rfl pn_RX12 tk_X12_bit bo_RX12 xo_RX12 (cto_2 l) ch_432 cut_nil
/-- RookHustingModel bit -/
noncomputable def con_433 : Con2 := ((yX12_bit, cX12_bit, 2, (some .int)), (0, 0), ([(0, 17, 0), (0, 3, 0)], [(0, 0), (0, 0)], [], []), [((0, 0, 0), [(0, 0), (0, 0), (0, 0)], [], [], [1])])
theorem hd_433 : con_433.1 = (yX12_bit, cX12_bit, 2, (some .int)) := rfl
noncomputable def cu_433 : List CUT2 := []
theorem ch_433 : staG tb_X12_bit 1 bt_RX12 [] ct_2 [] [] cu_433 8 con_433 = true := by decide +kernel
theorem vl_433 (l : Launch) : Vld2 l vwCl gTbl con_433 := conR_ok3 gT_all (hd_433) rfl pn_RX12 tk_X12_bit bo_RX12 xo_RX12 (cto_2 l) ch_433 cut_nil
/-- RookHustingModel bit -/
noncomputable def con_434 : Con2 := ((yX12_bit, cX12_bit, 2, (some .int)), (0, 0), ([(0, 17, 0), (0, 2, 0)], [(0, 0), (0, 0)], [], []), [((0, 0, 0), [(0, 0), (0, 0), (0, 0)], [], [], [1])])
theorem hd_434 : con_434.1 = (yX12_bit, cX12_bit, 2, (some .int)) := rfl
noncomputable def cu_434 : List CUT2 := []
theorem ch_434 : staG tb_X12_bit 1 bt_RX12 [] ct_2 [] [] cu_434 8 con_434 = true := by decide +kernel
theorem vl_434 (l : Launch) : Vld2 l vwCl gTbl con_434 := conR_ok3 gT_all (hd_434) rfl pn_RX12 tk_X12_bit bo_RX12 xo_RX12 (cto_2 l) ch_434 cut_nil
/-- RookHustingModel bit -/
noncomputable def con_435 : Con2 := ((yX12_bit, cX12_bit, 2, (some .int)), (0, 0), ([(0, 17, 0), (0, 1, 0)], [(0, 0), (0, 0)], [], []), [((0, 0, 0), [(0, 0), (0, 0), (0, 0)], [], [], [1])])
theorem hd_435 : con_435.1 = (yX12_bit, cX12_bit, 2, (some .int)) := rfl
noncomputable def cu_435 : List CUT2 := []
theorem ch_435 : staG tb_X12_bit 1 bt_RX12 [] ct_2 [] [] cu_435 8 con_435 = true := by decide +kernel
theorem vl_435 (l : Launch) : Vld2 l vwCl gTbl con_435 := conR_ok3 gT_all (hd_435) rfl pn_RX12 tk_X12_bit bo_RX12 xo_RX12 (cto_2 l) ch_435 cut_nil
/-- RookHustingModel bit -/
noncomputable def con_436 : Con2 := ((yX12_bit, cX12_bit, 2, (some .int)), (0, 0), ([(0, 17, 0), (0, 0, 0)], [(0, 0), (0, 0)], [], []), [((0, 1, 0), [(0, 0), (0, 0), (0, 0)], [], [], [1])])
theorem hd_436 : con_436.1 = (yX12_bit, cX12_bit, 2, (some .int)) := rfl
noncomputable def cu_436 : List CUT2 := []
theorem ch_436 : staG tb_X12_bit 1 bt_RX12 [] ct_2 [] [] cu_436 8 con_436 = true := by decide +kernel
theorem vl_436 (l : Launch) : Vld2 l vwCl gTbl con_436 := conR_ok3 gT_all (hd_436) rfl pn_RX12 tk_X12_bit bo_RX12 xo_RX12 (cto_2 l) ch_436 cut_nil
/-- RookHustingModel bit -/
noncomputable def con_437 : Con2 := ((yX12_bit, cX12_bit, 2, (some .int)), (0, 0), ([(0, 12, 0), (0, 4, 0)], [(0, 0), (0, 0)], [], []), [((0, 0, 0), [(0, 0), (0, 0), (0, 0)], [], [], [1])])
theorem hd_437 : con_437.1 = (yX12_bit, cX12_bit, 2, (some .int)) := rfl
noncomputable def cu_437 : List CUT2 := []
theorem ch_437 : staG tb_X12_bit 1 bt_RX12 [] ct_2 [] [] cu_437 8 con_437 = true := by decide +kernel
theorem vl_437 (l : Launch) : Vld2 l vwCl gTbl con_437 := conR_ok3 gT_all (hd_437) rfl pn_RX12 tk_X12_bit bo_RX12 xo_RX12 (cto_2 l) ch_437 cut_nil
/-- RookHustingModel bit -/
noncomputable def con_438 : Con2 := ((yX12_bit, cX12_bit, 2, (some .int)), (0, 0), ([(0, 12, 0), (0, 3, 0)], [(0, 0), (0, 0)], [], []), [((0, 1, 0), [(0, 0), (0, 0), (0, 0)], [], [], [1])])
theorem hd_438 : con_438.1 = (yX12_bit, cX12_bit, 2, (some .int)) := rfl
noncomputable def cu_438 : List CUT2 := []
theorem ch_438 : staG tb_X12_bit 1 bt_RX12 [] ct_2 [] [] cu_438 8 con_438 = true := by decide +kernel
theorem vl_438 (l : Launch) : Vld2 l vwCl gTbl con_438 := conR_ok3 gT_all (hd_438) rfl pn_RX12 tk_X12_bit bo_RX12 xo_RX12 (cto_2 l) ch_438 cut_nil
/-- RookHustingModel bit -/
noncomputable def con_439 : Con2 := ((yX12_bit, cX12_bit, 2, (some .int)), (0, 0), ([(0, 12, 0), (0, 2, 0)], [(0, 0), (0, 0)], [], []), [((0, 1, 0), [(0, 0), (0, 0), (0, 0)], [], [], [1])])
theorem hd_439 : con_439.1 = (yX12_bit, cX12_bit, 2, (some .int)) := rfl
noncomputable def cu_439 : List CUT2 := []
theorem ch_439 : staG tb_X12_bit 1 bt_RX12 [] ct_2 [] [] cu_439 8 con_439 = true := by decide +kernel
theorem vl_439 (l : Launch) : Vld2 l vwCl gTbl con_439 := conR_ok3 gT_all (hd_439) rfl pn_RX12 tk_X12_bit bo_RX12 xo_RX12 (cto_2 l) ch_439 cut_nil
/-- RookHustingModel bit -/
noncomputable def con_440 : Con2 := ((yX12_bit, cX12_bit, 2, (some .int)), (0, 0), ([(0, 12, 0), (0, 1, 0)], [(0, 0), (0, 0)], [], []), [((0, 0, 0), [(0, 0), (0, 0), (0, 0)], [], [], [1])])
theorem hd_440 : con_440.1 = (yX12_bit, cX12_bit, 2, (some .int)) := rfl
noncomputable def cu_440 : List CUT2 := []
theorem ch_440 : staG tb_X12_bit 1 bt_RX12 [] ct_2 [] [] cu_440 8 con_440 = true := by decide +kernel
theorem vl_440 (l : Launch) : Vld2 l vwCl gTbl con_440 := conR_ok3 gT_all (hd_440) rfl pn_RX12 tk_X12_bit bo_RX12 xo_RX12 (cto_2 l) ch_440 cut_nil
/-- RookHustingModel bit -/
noncomputable def con_441 : Con2 := ((yX12_bit, cX12_bit, 2, (some .int)), (0, 0), ([(0, 12, 0), (0, 0, 0)], [(0, 0), (0, 0)], [], []), [((0, 0, 0), [(0, 0), (0, 0), (0, 0)], [], [], [1])])
theorem hd_441 : con_441.1 = (yX12_bit, cX12_bit, 2, (some .int)) := rfl
noncomputable def cu_441 : List CUT2 := []
theorem ch_441 : staG tb_X12_bit 1 bt_RX12 [] ct_2 [] [] cu_441 8 con_441 = true := by decide +kernel
theorem vl_441 (l : Launch) : Vld2 l vwCl gTbl con_441 := conR_ok3 gT_all (hd_441) rfl pn_RX12 tk_X12_bit bo_RX12 xo_RX12 (cto_2 l) ch_441 cut_nil
/-- RookHustingModel bit -/
noncomputable def con_442 : Con2 := ((yX12_bit, cX12_bit, 2, (some .int)), (0, 0), ([(0, 10, 0), (0, 4, 0)], [(0, 0), (0, 0)], [], []), [((0, 0, 0), [(0, 0), (0, 0), (0, 0)], [], [], [1])])
theorem hd_442 : con_442.1 = (yX12_bit, cX12_bit, 2, (some .int)) := rfl
noncomputable def cu_442 : List CUT2 := []
theorem ch_442 : staG tb_X12_bit 1 bt_RX12 [] ct_2 [] [] cu_442 8 con_442 = true := by decide +kernel
theorem vl_442 (l : Launch) : Vld2 l vwCl gTbl con_442 := conR_ok3 gT_all (hd_442) rfl pn_RX12 tk_X12_bit bo_RX12 xo_RX12 (cto_2 l) ch_442 cut_nil
/-- RookHustingModel bit -/
noncomputable def con_443 : Con2 := ((yX12_bit, cX12_bit, 2, (some .int)), (0, 0), ([(0, 10, 0), (0, 3, 0)], [(0, 0), (0, 0)], [], []), [((0, 1, 0), [(0, 0), (0, 0), (0, 0)], [], [], [1])])
theorem hd_443 : con_443.1 = (yX12_bit, cX12_bit, 2, (some .int)) := rfl
noncomputable def cu_443 : List CUT2 := []
theorem ch_443 : staG tb_X12_bit 1 bt_RX12 [] ct_2 [] [] cu_443 8 con_443 = true := by decide +kernel
theorem vl_443 (l : Launch) : Vld2 l vwCl gTbl con_443 := conR_ok3 gT_all (hd_443) rfl pn_RX12 tk_X12_bit bo_RX12 xo_RX12 (cto_2 l) ch_443 cut_nil
/-- RookHustingModel bit -/
noncomputable def con_444 : Con2 := ((yX12_bit, cX12_bit, 2, (some .int)), (0, 0), ([(0, 10, 0), (0, 2, 0)], [(0, 0), (0, 0)], [], []), [((0, 0, 0), [(0, 0), (0, 0), (0, 0)], [], [], [1])])
theorem hd_444 : con_444.1 = (yX12_bit, cX12_bit, 2, (some .int)) := rfl
noncomputable def cu_444 : List CUT2 := []
theorem ch_444 : staG tb_X12_bit 1 bt_RX12 [] ct_2 [] [] cu_444 8 con_444 = true := by decide +kernel
theorem vl_444 (l : Launch) : Vld2 l vwCl gTbl con_444 := conR_ok3 gT_all (hd_444) rfl pn_RX12 tk_X12_bit bo_RX12 xo_RX12 (cto_2 l) ch_444 cut_nil
/-- RookHustingModel bit -/
noncomputable def con_445 : Con2 := ((yX12_bit, cX12_bit, 2, (some .int)), (0, 0), ([(0, 10, 0), (0, 1, 0)], [(0, 0), (0, 0)], [], []), [((0, 1, 0), [(0, 0), (0, 0), (0, 0)], [], [], [1])])
theorem hd_445 : con_445.1 = (yX12_bit, cX12_bit, 2, (some .int)) := rfl
noncomputable def cu_445 : List CUT2 := []
theorem ch_445 : staG tb_X12_bit 1 bt_RX12 [] ct_2 [] [] cu_445 8 con_445 = true := by decide +kernel
theorem vl_445 (l : Launch) : Vld2 l vwCl gTbl con_445 := conR_ok3 gT_all (hd_445) rfl pn_RX12 tk_X12_bit bo_RX12 xo_RX12 (cto_2 l) ch_445 cut_nil
/-- RookHustingModel bit -/
noncomputable def con_446 : Con2 := ((yX12_bit, cX12_bit, 2, (some .int)), (0, 0), ([(0, 10, 0), (0, 0, 0)], [(0, 0), (0, 0)], [], []), [((0, 0, 0), [(0, 0), (0, 0), (0, 0)], [], [], [1])])
theorem hd_446 : con_446.1 = (yX12_bit, cX12_bit, 2, (some .int)) := rfl
noncomputable def cu_446 : List CUT2 := []
theorem ch_446 : staG tb_X12_bit 1 bt_RX12 [] ct_2 [] [] cu_446 8 con_446 = true := by decide +kernel
theorem vl_446 (l : Launch) : Vld2 l vwCl gTbl con_446 := conR_ok3 gT_all (hd_446) rfl pn_RX12 tk_X12_bit bo_RX12 xo_RX12 (cto_2 l) ch_446 cut_nil
/-- RookHustingModel bit -/
noncomputable def con_447 : Con2 := ((yX12_bit, cX12_bit, 2, (some .int)), (0, 0), ([(0, 9, 0), (0, 4, 0)], [(0, 0), (0, 0)], [], []), [((0, 0, 0), [(0, 0), (0, 0), (0, 0)], [], [], [1])])
theorem hd_447 : con_447.1 = (yX12_bit, cX12_bit, 2, (some .int)) := rfl
noncomputable def cu_447 : List CUT2 := []
theorem ch_447 : staG tb_X12_bit 1 bt_RX12 [] ct_2 [] [] cu_447 8 con_447 = true := by decide +kernel
theorem vl_447 (l : Launch) : Vld2 l vwCl gTbl con_447 := conR_ok3 gT_all (hd_447) rfl pn_RX12 tk_X12_bit bo_RX12 xo_RX12 (cto_2 l) ch_447 cut_nil
/-- RookHustingModel bit -/
noncomputable def con_448 : Con2 := ((yX12_bit, cX12_bit, 2, (some .int)), (0, 0), ([(0, 9, 0), (0, 3, 0)], [(0, 0), (0, 0)], [], []), [((0, 1, 0), [(0, 0), (0, 0), (0, 0)], [], [], [1])])
theorem hd_448 : con_448.1 = (yX12_bit, cX12_bit, 2, (some .int)) := rfl
noncomputable def cu_448 : List CUT2 := []
theorem ch_448 : staG tb_X12_bit 1 bt_RX12 [] ct_2 [] [] cu_448 8 con_448 = true := by decide +kernel
theorem vl_448 (l : Launch) : Vld2 l vwCl gTbl con_448 := conR_ok3 gT_all (hd_448) rfl pn_RX12 tk_X12_bit bo_RX12 xo_RX12 (cto_2 l) ch_448 cut_nil
/-- RookHustingModel bit -/
noncomputable def con_449 : Con2 := ((yX12_bit, cX12_bit, 2, (some .int)), (0, 0), ([(0, 9, 0), (0, 2, 0)], [(0, 0), (0, 0)], [], []), [((0, 0, 0), [(0, 0), (0, 0), (0, 0)], [], [], [1])])
theorem hd_449 : con_449.1 = (yX12_bit, cX12_bit, 2, (some .int)) := rfl
noncomputable def cu_449 : List CUT2 := []
theorem ch_449 : staG tb_X12_bit 1 bt_RX12 [] ct_2 [] [] cu_449 8 con_449 = true := by decide +kernel
theorem vl_449 (l : Launch) : Vld2 l vwCl gTbl con_449 := conR_ok3 gT_all (hd_449) rfl pn_RX12 tk_X12_bit bo_RX12 xo_RX12 (cto_2 l) ch_449 cut_nil
/-- RookHustingModel bit -/
noncomputable def con_450 : Con2 := ((yX12_bit, cX12_bit, 2, (some .int)), (0, 0), ([(0, 9, 0), (0, 1, 0)], [(0, 0), (0, 0)], [], []), [((0, 0, 0), [(0, 0), (0, 0), (0, 0)], [], [], [1])])
theorem hd_450 : con_450.1 = (yX12_bit, cX12_bit, 2, (some .int)) := rfl
noncomputable def cu_450 : List CUT2 := []
theorem ch_450 : staG tb_X12_bit 1 bt_RX12 [] ct_2 [] [] cu_450 8 con_450 = true := by decide +kernel
theorem vl_450 (l : Launch) : Vld2 l vwCl gTbl con_450 := conR_ok3 gT_all (hd_450) rfl pn_RX12 tk_X12_bit bo_RX12 xo_RX12 (cto_2 l) ch_450 cut_nil
/-- RookHustingModel bit -/
noncomputable def con_451 : Con2 := ((yX12_bit, cX12_bit, 2, (some .int)), (0, 0), ([(0, 9, 0), (0, 0, 0)], [(0, 0), (0, 0)], [], []), [((0, 1, 0), [(0, 0), (0, 0), (0, 0)], [], [], [1])])
theorem hd_451 : con_451.1 = (yX12_bit, cX12_bit, 2, (some .int)) := rfl
noncomputable def cu_451 : List CUT2 := []
theorem ch_451 : staG tb_X12_bit 1 bt_RX12 [] ct_2 [] [] cu_451 8 con_451 = true := by decide +kernel
theorem vl_451 (l : Launch) : Vld2 l vwCl gTbl con_451 := conR_ok3 gT_all (hd_451) rfl pn_RX12 tk_X12_bit bo_RX12 xo_RX12 (cto_2 l) ch_451 cut_nil
/-- RookHustingModel bit -/
noncomputable def con_452 : Con2 := ((yX12_bit, cX12_bit, 2, (some .int)), (0, 0), ([(0, 6, 0), (0, 4, 0)], [(0, 0), (0, 0)], [], []), [((0, 0, 0), [(0, 0), (0, 0), (0, 0)], [], [], [1])])
theorem hd_452 : con_452.1 = (yX12_bit, cX12_bit, 2, (some .int)) := rfl
noncomputable def cu_452 : List CUT2 := []
theorem ch_452 : staG tb_X12_bit 1 bt_RX12 [] ct_2 [] [] cu_452 8 con_452 = true := by decide +kernel
theorem vl_452 (l : Launch) : Vld2 l vwCl gTbl con_452 := conR_ok3 gT_all (hd_452) rfl pn_RX12 tk_X12_bit bo_RX12 xo_RX12 (cto_2 l) ch_452 cut_nil
/-- RookHustingModel bit -/
noncomputable def con_453 : Con2 := ((yX12_bit, cX12_bit, 2, (some .int)), (0, 0), ([(0, 6, 0), (0, 3, 0)], [(0, 0), (0, 0)], [], []), [((0, 0, 0), [(0, 0), (0, 0), (0, 0)], [], [], [1])])
theorem hd_453 : con_453.1 = (yX12_bit, cX12_bit, 2, (some .int)) := rfl
noncomputable def cu_453 : List CUT2 := []
theorem ch_453 : staG tb_X12_bit 1 bt_RX12 [] ct_2 [] [] cu_453 8 con_453 = true := by decide +kernel
theorem vl_453 (l : Launch) : Vld2 l vwCl gTbl con_453 := conR_ok3 gT_all (hd_453) rfl pn_RX12 tk_X12_bit bo_RX12 xo_RX12 (cto_2 l) ch_453 cut_nil
/-- RookHustingModel bit -/
noncomputable def con_454 : Con2 := ((yX12_bit, cX12_bit, 2, (some .int)), (0, 0), ([(0, 6, 0), (0, 2, 0)], [(0, 0), (0, 0)], [], []), [((0, 1, 0), [(0, 0), (0, 0), (0, 0)], [], [], [1])])
theorem hd_454 : con_454.1 = (yX12_bit, cX12_bit, 2, (some .int)) := rfl
noncomputable def cu_454 : List CUT2 := []
theorem ch_454 : staG tb_X12_bit 1 bt_RX12 [] ct_2 [] [] cu_454 8 con_454 = true := by decide +kernel
theorem vl_454 (l : Launch) : Vld2 l vwCl gTbl con_454 := conR_ok3 gT_all (hd_454) rfl pn_RX12 tk_X12_bit bo_RX12 xo_RX12 (cto_2 l) ch_454 cut_nil
/-- RookHustingModel bit -/
noncomputable def con_455 : Con2 := ((yX12_bit, cX12_bit, 2, (some .int)), (0, 0), ([(0, 6, 0), (0, 1, 0)], [(0, 0), (0, 0)], [], []), [((0, 1, 0), [(0, 0), (0, 0), (0, 0)], [], [], [1])])
theorem hd_455 : con_455.1 = (yX12_bit, cX12_bit, 2, (some .int)) := rfl
noncomputable def cu_455 : List CUT2 := []
theorem ch_455 : staG tb_X12_bit 1 bt_RX12 [] ct_2 [] [] cu_455 8 con_455 = true := by decide +kernel
theorem vl_455 (l : Launch) : Vld2 l vwCl gTbl con_455 := conR_ok3 gT_all (hd_455) rfl pn_RX12 tk_X12_bit bo_RX12 xo_RX12 (cto_2 l) ch_455 cut_nil
/-- RookHustingModel bit -/
noncomputable def con_456 : Con2 := ((yX12_bit, cX12_bit, 2, (some .int)), (0, 0), ([(0, 6, 0), (0, 0, 0)], [(0, 0), (0, 0)], [], []), [((0, 0, 0), [(0, 0), (0, 0), (0, 0)], [], [], [1])])
theorem hd_456 : con_456.1 = (yX12_bit, cX12_bit, 2, (some .int)) := rfl
noncomputable def cu_456 : List CUT2 := []
theorem ch_456 : staG tb_X12_bit 1 bt_RX12 [] ct_2 [] [] cu_456 8 con_456 = true := by decide +kernel
theorem vl_456 (l : Launch) : Vld2 l vwCl gTbl con_456 := conR_ok3 gT_all (hd_456) rfl pn_RX12 tk_X12_bit bo_RX12 xo_RX12 (cto_2 l) ch_456 cut_nil
/-- RookHustingModel bit -/
noncomputable def con_457 : Con2 := ((yX12_bit, cX12_bit, 2, (some .int)), (0, 0), ([(0, 5, 0), (0, 4, 0)], [(0, 0), (0, 0)], [], []), [((0, 0, 0), [(0, 0), (0, 0), (0, 0)], [], [], [1])])
theorem hd_457 : con_457.1 = (yX12_bit, cX12_bit, 2, (some .int)) := rfl
noncomputable def cu_457 : List CUT2 := []
theorem ch_457 : staG tb_X12_bit 1 bt_RX12 [] ct_2 [] [] cu_457 8 con_457 = true := by decide +kernel
theorem vl_457 (l : Launch) : Vld2 l vwCl gTbl con_457 := conR_ok3 gT_all (hd_457) rfl pn_RX12 tk_X12_bit bo_RX12 xo_RX12 (cto_2 l) ch_457 cut_nil
/-- RookHustingModel bit -/
noncomputable def con_458 : Con2 := ((yX12_bit, cX12_bit, 2, (some .int)), (0, 0), ([(0, 5, 0), (0, 3, 0)], [(0, 0), (0, 0)], [], []), [((0, 0, 0), [(0, 0), (0, 0), (0, 0)], [], [], [1])])
theorem hd_458 : con_458.1 = (yX12_bit, cX12_bit, 2, (some .int)) := rfl
noncomputable def cu_458 : List CUT2 := []
theorem ch_458 : staG tb_X12_bit 1 bt_RX12 [] ct_2 [] [] cu_458 8 con_458 = true := by decide +kernel
theorem vl_458 (l : Launch) : Vld2 l vwCl gTbl con_458 := conR_ok3 gT_all (hd_458) rfl pn_RX12 tk_X12_bit bo_RX12 xo_RX12 (cto_2 l) ch_458 cut_nil
/-- RookHustingModel bit -/
noncomputable def con_459 : Con2 := ((yX12_bit, cX12_bit, 2, (some .int)), (0, 0), ([(0, 5, 0), (0, 2, 0)], [(0, 0), (0, 0)], [], []), [((0, 1, 0), [(0, 0), (0, 0), (0, 0)], [], [], [1])])
theorem hd_459 : con_459.1 = (yX12_bit, cX12_bit, 2, (some .int)) := rfl
noncomputable def cu_459 : List CUT2 := []
theorem ch_459 : staG tb_X12_bit 1 bt_RX12 [] ct_2 [] [] cu_459 8 con_459 = true := by decide +kernel
theorem vl_459 (l : Launch) : Vld2 l vwCl gTbl con_459 := conR_ok3 gT_all (hd_459) rfl pn_RX12 tk_X12_bit bo_RX12 xo_RX12 (cto_2 l) ch_459 cut_nil
/-- RookHustingModel bit -/
noncomputable def con_460 : Con2 := ((yX12_bit, cX12_bit, 2, (some .int)), (0, 0), ([(0, 5, 0), (0, 1, 0)], [(0, 0), (0, 0)], [], []), [((0, 0, 0), [(0, 0), (0, 0), (0, 0)], [], [], [1])])
theorem hd_460 : con_460.1 = (yX12_bit, cX12_bit, 2, (some .int)) := rfl
noncomputable def cu_460 : List CUT2 := []
theorem ch_460 : staG tb_X12_bit 1 bt_RX12 [] ct_2 [] [] cu_460 8 con_460 = true := by decide +kernel
theorem vl_460 (l : Launch) : Vld2 l vwCl gTbl con_460 := conR_ok3 gT_all (hd_460) rfl pn_RX12 tk_X12_bit bo_RX12 xo_RX12 (cto_2 l) ch_460 cut_nil
/-- RookHustingModel bit -/
noncomputable def con_461 : Con2 := ((yX12_bit, cX12_bit, 2, (some .int)), (0, 0), ([(0, 5, 0), (0, 0, 0)], [(0, 0), (0, 0)], [], []), [((0, 1, 0), [(0, 0), (0, 0), (0, 0)], [], [], [1])])
theorem hd_461 : con_461.1 = (yX12_bit, cX12_bit, 2, (some .int)) := rfl
noncomputable def cu_461 : List CUT2 := []
theorem ch_461 : staG tb_X12_bit 1 bt_RX12 [] ct_2 [] [] cu_461 8 con_461 = true := by decide +kernel
theorem vl_461 (l : Launch) : Vld2 l vwCl gTbl con_461 := conR_ok3 gT_all (hd_461) rfl pn_RX12 tk_X12_bit bo_RX12 xo_RX12 (cto_2 l) ch_461 cut_nil
/-- RookHustingModel bit -/
noncomputable def con_462 : Con2 := ((yX12_bit, cX12_bit, 2, (some .int)), (0, 0), ([(0, 3, 0), (0, 4, 0)], [(0, 0), (0, 0)], [], []), [((0, 0, 0), [(0, 0), (0, 0), (0, 0)], [], [], [1])])
theorem hd_462 : con_462.1 = (yX12_bit, cX12_bit, 2, (some .int)) := rfl
noncomputable def cu_462 : List CUT2 := []
theorem ch_462 : staG tb_X12_bit 1 bt_RX12 [] ct_2 [] [] cu_462 8 con_462 = true := by decide +kernel
theorem vl_462 (l : Launch) : Vld2 l vwCl gTbl con_462 := conR_ok3 gT_all (hd_462) rfl pn_RX12 tk_X12_bit bo_RX12 xo_RX12 (cto_2 l) ch_462 cut_nil
/-- RookHustingModel bit -/
noncomputable def con_463 : Con2 := ((yX12_bit, cX12_bit, 2, (some .int)), (0, 0), ([(0, 3, 0), (0, 3, 0)], [(0, 0), (0, 0)], [], []), [((0, 0, 0), [(0, 0), (0, 0), (0, 0)], [], [], [1])])
theorem hd_463 : con_463.1 = (yX12_bit, cX12_bit, 2, (some .int)) := rfl
noncomputable def cu_463 : List CUT2 := []
theorem ch_463 : staG tb_X12_bit 1 bt_RX12 [] ct_2 [] [] cu_463 8 con_463 = true := by decide +kernel
theorem vl_463 (l : Launch) : Vld2 l vwCl gTbl con_463 := conR_ok3 gT_all (hd_463) rfl pn_RX12 tk_X12_bit bo_RX12 xo_RX12 (cto_2 l) ch_463 cut_nil
/-- RookHustingModel bit -/
noncomputable def con_464 : Con2 := ((yX12_bit, cX12_bit, 2, (some .int)), (0, 0), ([(0, 3, 0), (0, 2, 0)], [(0, 0), (0, 0)], [], []), [((0, 0, 0), [(0, 0), (0, 0), (0, 0)], [], [], [1])])
theorem hd_464 : con_464.1 = (yX12_bit, cX12_bit, 2, (some .int)) := rfl
noncomputable def cu_464 : List CUT2 := []
theorem ch_464 : staG tb_X12_bit 1 bt_RX12 [] ct_2 [] [] cu_464 8 con_464 = true := by decide +kernel
theorem vl_464 (l : Launch) : Vld2 l vwCl gTbl con_464 := conR_ok3 gT_all (hd_464) rfl pn_RX12 tk_X12_bit bo_RX12 xo_RX12 (cto_2 l) ch_464 cut_nil
/-- RookHustingModel bit -/
noncomputable def con_465 : Con2 := ((yX12_bit, cX12_bit, 2, (some .int)), (0, 0), ([(0, 3, 0), (0, 1, 0)], [(0, 0), (0, 0)], [], []), [((0, 1, 0), [(0, 0), (0, 0), (0, 0)], [], [], [1])])
theorem hd_465 : con_465.1 = (yX12_bit, cX12_bit, 2, (some .int)) := rfl
noncomputable def cu_465 : List CUT2 := []
theorem ch_465 : staG tb_X12_bit 1 bt_RX12 [] ct_2 [] [] cu_465 8 con_465 = true := by decide +kernel
theorem vl_465 (l : Launch) : Vld2 l vwCl gTbl con_465 := conR_ok3 gT_all (hd_465) rfl pn_RX12 tk_X12_bit bo_RX12 xo_RX12 (cto_2 l) ch_465 cut_nil
/-- RookHustingModel bit -/
noncomputable def con_466 : Con2 := ((yX12_bit, cX12_bit, 2, (some .int)), (0, 0), ([(0, 3, 0), (0, 0, 0)], [(0, 0), (0, 0)], [], []), [((0, 1, 0), [(0, 0), (0, 0), (0, 0)], [], [], [1])])
theorem hd_466 : con_466.1 = (yX12_bit, cX12_bit, 2, (some .int)) := rfl
noncomputable def cu_466 : List CUT2 := []
theorem ch_466 : staG tb_X12_bit 1 bt_RX12 [] ct_2 [] [] cu_466 8 con_466 = true := by decide +kernel
theorem vl_466 (l : Launch) : Vld2 l vwCl gTbl con_466 := conR_ok3 gT_all (hd_466) rfl pn_RX12 tk_X12_bit bo_RX12 xo_RX12 (cto_2 l) ch_466 cut_nil
/-- RookHustingModel bit -/
noncomputable def con_467 : Con2 := ((yX12_bit, cX12_bit, 2, (some .int)), (0, 0), ([(0, 28, 0), (0, 4, 0)], [(0, 0), (0, 0)], [], []), [((0, 1, 0), [(0, 0), (0, 0), (0, 0)], [], [], [1])])
theorem hd_467 : con_467.1 = (yX12_bit, cX12_bit, 2, (some .int)) := rfl
noncomputable def cu_467 : List CUT2 := []
theorem ch_467 : staG tb_X12_bit 1 bt_RX12 [] ct_2 [] [] cu_467 8 con_467 = true := by decide +kernel
theorem vl_467 (l : Launch) : Vld2 l vwCl gTbl con_467 := conR_ok3 gT_all (hd_467) rfl pn_RX12 tk_X12_bit bo_RX12 xo_RX12 (cto_2 l) ch_467 cut_nil
/-- RookHustingModel bit -/
noncomputable def con_468 : Con2 := ((yX12_bit, cX12_bit, 2, (some .int)), (0, 0), ([(0, 28, 0), (0, 3, 0)], [(0, 0), (0, 0)], [], []), [((0, 1, 0), [(0, 0), (0, 0), (0, 0)], [], [], [1])])
theorem hd_468 : con_468.1 = (yX12_bit, cX12_bit, 2, (some .int)) := rfl
noncomputable def cu_468 : List CUT2 := []
theorem ch_468 : staG tb_X12_bit 1 bt_RX12 [] ct_2 [] [] cu_468 8 con_468 = true := by decide +kernel
theorem vl_468 (l : Launch) : Vld2 l vwCl gTbl con_468 := conR_ok3 gT_all (hd_468) rfl pn_RX12 tk_X12_bit bo_RX12 xo_RX12 (cto_2 l) ch_468 cut_nil
/-- RookHustingModel bit -/
noncomputable def con_469 : Con2 := ((yX12_bit, cX12_bit, 2, (some .int)), (0, 0), ([(0, 28, 0), (0, 2, 0)], [(0, 0), (0, 0)], [], []), [((0, 1, 0), [(0, 0), (0, 0), (0, 0)], [], [], [1])])
theorem hd_469 : con_469.1 = (yX12_bit, cX12_bit, 2, (some .int)) := rfl
noncomputable def cu_469 : List CUT2 := []
theorem ch_469 : staG tb_X12_bit 1 bt_RX12 [] ct_2 [] [] cu_469 8 con_469 = true := by decide +kernel
theorem vl_469 (l : Launch) : Vld2 l vwCl gTbl con_469 := conR_ok3 gT_all (hd_469) rfl pn_RX12 tk_X12_bit bo_RX12 xo_RX12 (cto_2 l) ch_469 cut_nil
/-- RookHustingModel bit -/
noncomputable def con_470 : Con2 := ((yX12_bit, cX12_bit, 2, (some .int)), (0, 0), ([(0, 28, 0), (0, 1, 0)], [(0, 0), (0, 0)], [], []), [((0, 0, 0), [(0, 0), (0, 0), (0, 0)], [], [], [1])])
theorem hd_470 : con_470.1 = (yX12_bit, cX12_bit, 2, (some .int)) := rfl
noncomputable def cu_470 : List CUT2 := []
theorem ch_470 : staG tb_X12_bit 1 bt_RX12 [] ct_2 [] [] cu_470 8 con_470 = true := by decide +kernel
theorem vl_470 (l : Launch) : Vld2 l vwCl gTbl con_470 := conR_ok3 gT_all (hd_470) rfl pn_RX12 tk_X12_bit bo_RX12 xo_RX12 (cto_2 l) ch_470 cut_nil
/-- RookHustingModel bit -/
noncomputable def con_471 : Con2 := ((yX12_bit, cX12_bit, 2, (some .int)), (0, 0), ([(0, 28, 0), (0, 0, 0)], [(0, 0), (0, 0)], [], []), [((0, 0, 0), [(0, 0), (0, 0), (0, 0)], [], [], [1])])
theorem hd_471 : con_471.1 = (yX12_bit, cX12_bit, 2, (some .int)) := rfl
noncomputable def cu_471 : List CUT2 := []
theorem ch_471 : staG tb_X12_bit 1 bt_RX12 [] ct_2 [] [] cu_471 8 con_471 = true := by decide +kernel
theorem vl_471 (l : Launch) : Vld2 l vwCl gTbl con_471 := conR_ok3 gT_all (hd_471) rfl pn_RX12 tk_X12_bit bo_RX12 xo_RX12 (cto_2 l) ch_471 cut_nil
/-- RookHustingModel bit -/
noncomputable def con_472 : Con2 := ((yX12_bit, cX12_bit, 2, (some .int)), (0, 0), ([(0, 26, 0), (0, 4, 0)], [(0, 0), (0, 0)], [], []), [((0, 1, 0), [(0, 0), (0, 0), (0, 0)], [], [], [1])])
theorem hd_472 : con_472.1 = (yX12_bit, cX12_bit, 2, (some .int)) := rfl
noncomputable def cu_472 : List CUT2 := []
theorem ch_472 : staG tb_X12_bit 1 bt_RX12 [] ct_2 [] [] cu_472 8 con_472 = true := by decide +kernel
theorem vl_472 (l : Launch) : Vld2 l vwCl gTbl con_472 := conR_ok3 gT_all (hd_472) rfl pn_RX12 tk_X12_bit bo_RX12 xo_RX12 (cto_2 l) ch_472 cut_nil
/-- RookHustingModel bit -/
noncomputable def con_473 : Con2 := ((yX12_bit, cX12_bit, 2, (some .int)), (0, 0), ([(0, 26, 0), (0, 3, 0)], [(0, 0), (0, 0)], [], []), [((0, 1, 0), [(0, 0), (0, 0), (0, 0)], [], [], [1])])
theorem hd_473 : con_473.1 = (yX12_bit, cX12_bit, 2, (some .int)) := rfl
noncomputable def cu_473 : List CUT2 := []
theorem ch_473 : staG tb_X12_bit 1 bt_RX12 [] ct_2 [] [] cu_473 8 con_473 = true := by decide +kernel
theorem vl_473 (l : Launch) : Vld2 l vwCl gTbl con_473 := conR_ok3 gT_all (hd_473) rfl pn_RX12 tk_X12_bit bo_RX12 xo_RX12 (cto_2 l) ch_473 cut_nil
/-- RookHustingModel bit -/
noncomputable def con_474 : Con2 := ((yX12_bit, cX12_bit, 2, (some .int)), (0, 0), ([(0, 26, 0), (0, 2, 0)], [(0, 0), (0, 0)], [], []), [((0, 0, 0), [(0, 0), (0, 0), (0, 0)], [], [], [1])])
theorem hd_474 : con_474.1 = (yX12_bit, cX12_bit, 2, (some .int)) := rfl
noncomputable def cu_474 : List CUT2 := []
theorem ch_474 : staG tb_X12_bit 1 bt_RX12 [] ct_2 [] [] cu_474 8 con_474 = true := by decide +kernel
theorem vl_474 (l : Launch) : Vld2 l vwCl gTbl con_474 := conR_ok3 gT_all (hd_474) rfl pn_RX12 tk_X12_bit bo_RX12 xo_RX12 (cto_2 l) ch_474 cut_nil
/-- RookHustingModel bit -/
noncomputable def con_475 : Con2 := ((yX12_bit, cX12_bit, 2, (some .int)), (0, 0), ([(0, 26, 0), (0, 1, 0)], [(0, 0), (0, 0)], [], []), [((0, 1, 0), [(0, 0), (0, 0), (0, 0)], [], [], [1])])
theorem hd_475 : con_475.1 = (yX12_bit, cX12_bit, 2, (some .int)) := rfl
noncomputable def cu_475 : List CUT2 := []
theorem ch_475 : staG tb_X12_bit 1 bt_RX12 [] ct_2 [] [] cu_475 8 con_475 = true := by decide +kernel
theorem vl_475 (l : Launch) : Vld2 l vwCl gTbl con_475 := conR_ok3 gT_all (hd_475) rfl pn_RX12 tk_X12_bit bo_RX12 xo_RX12 (cto_2 l) ch_475 cut_nil
/-- RookHustingModel bit -/
noncomputable def con_476 : Con2 := ((yX12_bit, cX12_bit, 2, (some .int)), (0, 0), ([(0, 26, 0), (0, 0, 0)], [(0, 0), (0, 0)], [], []), [((0, 0, 0), [(0, 0), (0, 0), (0, 0)], [], [], [1])])
theorem hd_476 : con_476.1 = (yX12_bit, cX12_bit, 2, (some .int)) := rfl
noncomputable def cu_476 : List CUT2 := []
theorem ch_476 : staG tb_X12_bit 1 bt_RX12 [] ct_2 [] [] cu_476 8 con_476 = true := by decide +kernel
theorem vl_476 (l : Launch) : Vld2 l vwCl gTbl con_476 := conR_ok3 gT_all (hd_476) rfl pn_RX12 tk_X12_bit bo_RX12 xo_RX12 (cto_2 l) ch_476 cut_nil
/-- RookHustingModel bit -/
noncomputable def con_477 : Con2 := ((yX12_bit, cX12_bit, 2, (some .int)), (0, 0), ([(0, 25, 0), (0, 4, 0)], [(0, 0), (0, 0)], [], []), [((0, 1, 0), [(0, 0), (0, 0), (0, 0)], [], [], [1])])
theorem hd_477 : con_477.1 = (yX12_bit, cX12_bit, 2, (some .int)) := rfl
noncomputable def cu_477 : List CUT2 := []
theorem ch_477 : staG tb_X12_bit 1 bt_RX12 [] ct_2 [] [] cu_477 8 con_477 = true := by decide +kernel
theorem vl_477 (l : Launch) : Vld2 l vwCl gTbl con_477 := conR_ok3 gT_all (hd_477) rfl pn_RX12 tk_X12_bit bo_RX12 xo_RX12 (cto_2 l) ch_477 cut_nil
/-- RookHustingModel bit -/
noncomputable def con_478 : Con2 := ((yX12_bit, cX12_bit, 2, (some .int)), (0, 0), ([(0, 25, 0), (0, 3, 0)], [(0, 0), (0, 0)], [], []), [((0, 1, 0), [(0, 0), (0, 0), (0, 0)], [], [], [1])])
theorem hd_478 : con_478.1 = (yX12_bit, cX12_bit, 2, (some .int)) := rfl
noncomputable def cu_478 : List CUT2 := []
theorem ch_478 : staG tb_X12_bit 1 bt_RX12 [] ct_2 [] [] cu_478 8 con_478 = true := by decide +kernel
theorem vl_478 (l : Launch) : Vld2 l vwCl gTbl con_478 := conR_ok3 gT_all (hd_478) rfl pn_RX12 tk_X12_bit bo_RX12 xo_RX12 (cto_2 l) ch_478 cut_nil
/-- RookHustingModel bit -/
noncomputable def con_479 : Con2 := ((yX12_bit, cX12_bit, 2, (some .int)), (0, 0), ([(0, 25, 0), (0, 2, 0)], [(0, 0), (0, 0)], [], []), [((0, 0, 0), [(0, 0), (0, 0), (0, 0)], [], [], [1])])
theorem hd_479 : con_479.1 = (yX12_bit, cX12_bit, 2, (some .int)) := rfl
noncomputable def cu_479 : List CUT2 := []
theorem ch_479 : staG tb_X12_bit 1 bt_RX12 [] ct_2 [] [] cu_479 8 con_479 = true := by decide +kernel
theorem vl_479 (l : Launch) : Vld2 l vwCl gTbl con_479 := conR_ok3 gT_all (hd_479) rfl pn_RX12 tk_X12_bit bo_RX12 xo_RX12 (cto_2 l) ch_479 cut_nil
/-- RookHustingModel bit -/
noncomputable def con_480 : Con2 := ((yX12_bit, cX12_bit, 2, (some .int)), (0, 0), ([(0, 25, 0), (0, 1, 0)], [(0, 0), (0, 0)], [], []), [((0, 0, 0), [(0, 0), (0, 0), (0, 0)], [], [], [1])])
theorem hd_480 : con_480.1 = (yX12_bit, cX12_bit, 2, (some .int)) := rfl
noncomputable def cu_480 : List CUT2 := []
theorem ch_480 : staG tb_X12_bit 1 bt_RX12 [] ct_2 [] [] cu_480 8 con_480 = true := by decide +kernel
theorem vl_480 (l : Launch) : Vld2 l vwCl gTbl con_480 := conR_ok3 gT_all (hd_480) rfl pn_RX12 tk_X12_bit bo_RX12 xo_RX12 (cto_2 l) ch_480 cut_nil
/-- RookHustingModel bit -/
noncomputable def con_481 : Con2 := ((yX12_bit, cX12_bit, 2, (some .int)), (0, 0), ([(0, 25, 0), (0, 0, 0)], [(0, 0), (0, 0)], [], []), [((0, 1, 0), [(0, 0), (0, 0), (0, 0)], [], [], [1])])
theorem hd_481 : con_481.1 = (yX12_bit, cX12_bit, 2, (some .int)) := rfl
noncomputable def cu_481 : List CUT2 := []
theorem ch_481 : staG tb_X12_bit 1 bt_RX12 [] ct_2 [] [] cu_481 8 con_481 = true := by decide +kernel
theorem vl_481 (l : Launch) : Vld2 l vwCl gTbl con_481 := conR_ok3 gT_all (hd_481) rfl pn_RX12 tk_X12_bit bo_RX12 xo_RX12 (cto_2 l) ch_481 cut_nil
/-- RookHustingModel bit -/
noncomputable def con_482 : Con2 := ((yX12_bit, cX12_bit, 2, (some .int)), (0, 0), ([(0, 22, 0), (0, 4, 0)], [(0, 0), (0, 0)], [], []), [((0, 1, 0), [(0, 0), (0, 0), (0, 0)], [], [], [1])])
theorem hd_482 : con_482.1 = (yX12_bit, cX12_bit, 2, (some .int)) := rfl
noncomputable def cu_482 : List CUT2 := []
theorem ch_482 : staG tb_X12_bit 1 bt_RX12 [] ct_2 [] [] cu_482 8 con_482 = true := by decide +kernel
theorem vl_482 (l : Launch) : Vld2 l vwCl gTbl con_482 := conR_ok3 gT_all (hd_482) rfl pn_RX12 tk_X12_bit bo_RX12 xo_RX12 (cto_2 l) ch_482 cut_nil
/-- RookHustingModel bit -/
noncomputable def con_483 : Con2 := ((yX12_bit, cX12_bit, 2, (some .int)), (0, 0), ([(0, 22, 0), (0, 3, 0)], [(0, 0), (0, 0)], [], []), [((0, 0, 0), [(0, 0), (0, 0), (0, 0)], [], [], [1])])
theorem hd_483 : con_483.1 = (yX12_bit, cX12_bit, 2, (some .int)) := rfl
noncomputable def cu_483 : List CUT2 := []
theorem ch_483 : staG tb_X12_bit 1 bt_RX12 [] ct_2 [] [] cu_483 8 con_483 = true := by decide +kernel
theorem vl_483 (l : Launch) : Vld2 l vwCl gTbl con_483 := conR_ok3 gT_all (hd_483) rfl pn_RX12 tk_X12_bit bo_RX12 xo_RX12 (cto_2 l) ch_483 cut_nil
/-- RookHustingModel bit -/
noncomputable def con_484 : Con2 := ((yX12_bit, cX12_bit, 2, (some .int)), (0, 0), ([(0, 22, 0), (0, 2, 0)], [(0, 0), (0, 0)], [], []), [((0, 1, 0), [(0, 0), (0, 0), (0, 0)], [], [], [1])])
theorem hd_484 : con_484.1 = (yX12_bit, cX12_bit, 2, (some .int)) := rfl
noncomputable def cu_484 : List CUT2 := []
theorem ch_484 : staG tb_X12_bit 1 bt_RX12 [] ct_2 [] [] cu_484 8 con_484 = true := by decide +kernel
theorem vl_484 (l : Launch) : Vld2 l vwCl gTbl con_484 := conR_ok3 gT_all (hd_484) rfl pn_RX12 tk_X12_bit bo_RX12 xo_RX12 (cto_2 l) ch_484 cut_nil
/-- RookHustingModel bit -/
noncomputable def con_485 : Con2 := ((yX12_bit, cX12_bit, 2, (some .int)), (0, 0), ([(0, 22, 0), (0, 1, 0)], [(0, 0), (0, 0)], [], []), [((0, 1, 0), [(0, 0), (0, 0), (0, 0)], [], [], [1])])
theorem hd_485 : con_485.1 = (yX12_bit, cX12_bit, 2, (some .int)) := rfl
noncomputable def cu_485 : List CUT2 := []
theorem ch_485 : staG tb_X12_bit 1 bt_RX12 [] ct_2 [] [] cu_485 8 con_485 = true := by decide +kernel
theorem vl_485 (l : Launch) : Vld2 l vwCl gTbl con_485 := conR_ok3 gT_all (hd_485) rfl pn_RX12 tk_X12_bit bo_RX12 xo_RX12 (cto_2 l) ch_485 cut_nil
/-- RookHustingModel bit -/
noncomputable def con_486 : Con2 := ((yX12_bit, cX12_bit, 2, (some .int)), (0, 0), ([(0, 22, 0), (0, 0, 0)], [(0, 0), (0, 0)], [], []), [((0, 0, 0), [(0, 0), (0, 0), (0, 0)], [], [], [1])])
theorem hd_486 : con_486.1 = (yX12_bit, cX12_bit, 2, (some .int)) := rfl
noncomputable def cu_486 : List CUT2 := []
theorem ch_486 : staG tb_X12_bit 1 bt_RX12 [] ct_2 [] [] cu_486 8 con_486 = true := by decide +kernel
theorem vl_486 (l : Launch) : Vld2 l vwCl gTbl con_486 := conR_ok3 gT_all (hd_486) rfl pn_RX12 tk_X12_bit bo_RX12 xo_RX12 (cto_2 l) ch_486 cut_nil
/-- RookHustingModel bit -/
noncomputable def con_487 : Con2 := ((yX12_bit, cX12_bit, 2, (some .int)), (0, 0), ([(0, 21, 0), (0, 4, 0)], [(0, 0), (0, 0)], [], []), [((0, 1, 0), [(0, 0), (0, 0), (0, 0)], [], [], [1])])
theorem hd_487 : con_487.1 = (yX12_bit, cX12_bit, 2, (some .int)) := rfl
noncomputable def cu_487 : List CUT2 := []
theorem ch_487 : staG tb_X12_bit 1 bt_RX12 [] ct_2 [] [] cu_487 8 con_487 = true := by decide +kernel
theorem vl_487 (l : Launch) : Vld2 l vwCl gTbl con_487 := conR_ok3 gT_all (hd_487) rfl pn_RX12 tk_X12_bit bo_RX12 xo_RX12 (cto_2 l) ch_487 cut_nil
/-- RookHustingModel bit -/
noncomputable def con_488 : Con2 := ((yX12_bit, cX12_bit, 2, (some .int)), (0, 0), ([(0, 21, 0), (0, 3, 0)], [(0, 0), (0, 0)], [], []), [((0, 0, 0), [(0, 0), (0, 0), (0, 0)], [], [], [1])])
theorem hd_488 : con_488.1 = (yX12_bit, cX12_bit, 2, (some .int)) := rfl
noncomputable def cu_488 : List CUT2 := []
theorem ch_488 : staG tb_X12_bit 1 bt_RX12 [] ct_2 [] [] cu_488 8 con_488 = true := by decide +kernel
theorem vl_488 (l : Launch) : Vld2 l vwCl gTbl con_488 := conR_ok3 gT_all (hd_488) rfl pn_RX12 tk_X12_bit bo_RX12 xo_RX12 (cto_2 l) ch_488 cut_nil
/-- RookHustingModel bit -/
noncomputable def con_489 : Con2 := ((yX12_bit, cX12_bit, 2, (some .int)), (0, 0), ([(0, 21, 0), (0, 2, 0)], [(0, 0), (0, 0)], [], []), [((0, 1, 0), [(0, 0), (0, 0), (0, 0)], [], [], [1])])
theorem hd_489 : con_489.1 = (yX12_bit, cX12_bit, 2, (some .int)) := rfl
noncomputable def cu_489 : List CUT2 := []
theorem ch_489 : staG tb_X12_bit 1 bt_RX12 [] ct_2 [] [] cu_489 8 con_489 = true := by decide +kernel
theorem vl_489 (l : Launch) : Vld2 l vwCl gTbl con_489 := conR_ok3 gT_all (hd_489) rfl pn_RX12 tk_X12_bit bo_RX12 xo_RX12 (cto_2 l) ch_489 cut_nil
/-- RookHustingModel bit -/
noncomputable def con_490 : Con2 := ((yX12_bit, cX12_bit, 2, (some .int)), (0, 0), ([(0, 21, 0), (0, 1, 0)], [(0, 0), (0, 0)], [], []), [((0, 0, 0), [(0, 0), (0, 0), (0, 0)], [], [], [1])])
theorem hd_490 : con_490.1 = (yX12_bit, cX12_bit, 2, (some .int)) := rfl
noncomputable def cu_490 : List CUT2 := []
theorem ch_490 : staG tb_X12_bit 1 bt_RX12 [] ct_2 [] [] cu_490 8 con_490 = true := by decide +kernel
theorem vl_490 (l : Launch) : Vld2 l vwCl gTbl con_490 := conR_ok3 gT_all (hd_490) rfl pn_RX12 tk_X12_bit bo_RX12 xo_RX12 (cto_2 l) ch_490 cut_nil
/-- RookHustingModel bit -/
noncomputable def con_491 : Con2 := ((yX12_bit, cX12_bit, 2, (some .int)), (0, 0), ([(0, 21, 0), (0, 0, 0)], [(0, 0), (0, 0)], [], []), [((0, 1, 0), [(0, 0), (0, 0), (0, 0)], [], [], [1])])
theorem hd_491 : con_491.1 = (yX12_bit, cX12_bit, 2, (some .int)) := rfl
noncomputable def cu_491 : List CUT2 := []
theorem ch_491 : staG tb_X12_bit 1 bt_RX12 [] ct_2 [] [] cu_491 8 con_491 = true := by decide +kernel
theorem vl_491 (l : Launch) : Vld2 l vwCl gTbl con_491 := conR_ok3 gT_all (hd_491) rfl pn_RX12 tk_X12_bit bo_RX12 xo_RX12 (cto_2 l) ch_491 cut_nil
/-- RookHustingModel bit -/
noncomputable def con_492 : Con2 := ((yX12_bit, cX12_bit, 2, (some .int)), (0, 0), ([(0, 19, 0), (0, 4, 0)], [(0, 0), (0, 0)], [], []), [((0, 1, 0), [(0, 0), (0, 0), (0, 0)], [], [], [1])])
theorem hd_492 : con_492.1 = (yX12_bit, cX12_bit, 2, (some .int)) := rfl
noncomputable def cu_492 : List CUT2 := []
theorem ch_492 : staG tb_X12_bit 1 bt_RX12 [] ct_2 [] [] cu_492 8 con_492 = true := by decide +kernel
theorem vl_492 (l : Launch) : Vld2 l vwCl gTbl con_492 := conR_ok3 gT_all (hd_492) rfl pn_RX12 tk_X12_bit bo_RX12 xo_RX12 (cto_2 l) ch_492 cut_nil
/-- RookHustingModel bit -/
noncomputable def con_493 : Con2 := ((yX12_bit, cX12_bit, 2, (some .int)), (0, 0), ([(0, 19, 0), (0, 3, 0)], [(0, 0), (0, 0)], [], []), [((0, 0, 0), [(0, 0), (0, 0), (0, 0)], [], [], [1])])
theorem hd_493 : con_493.1 = (yX12_bit, cX12_bit, 2, (some .int)) := rfl
noncomputable def cu_493 : List CUT2 := []
theorem ch_493 : staG tb_X12_bit 1 bt_RX12 [] ct_2 [] [] cu_493 8 con_493 = true := by decide +kernel
theorem vl_493 (l : Launch) : Vld2 l vwCl gTbl con_493 := conR_ok3 gT_all (hd_493) rfl pn_RX12 tk_X12_bit bo_RX12 xo_RX12 (cto_2 l) ch_493 cut_nil
/-- RookHustingModel bit -/
noncomputable def con_494 : Con2 := ((yX12_bit, cX12_bit, 2, (some .int)), (0, 0), ([(0, 19, 0), (0, 2, 0)], [(0, 0), (0, 0)], [], []), [((0, 0, 0), [(0, 0), (0, 0), (0, 0)], [], [], [1])])
theorem hd_494 : con_494.1 = (yX12_bit, cX12_bit, 2, (some .int)) := rfl
noncomputable def cu_494 : List CUT2 := []
theorem ch_494 : staG tb_X12_bit 1 bt_RX12 [] ct_2 [] [] cu_494 8 con_494 = true := by decide +kernel
theorem vl_494 (l : Launch) : Vld2 l vwCl gTbl con_494 := conR_ok3 gT_all (hd_494) rfl pn_RX12 tk_X12_bit bo_RX12 xo_RX12 (cto_2 l) ch_494 cut_nil
/-- RookHustingModel bit -/
noncomputable def con_495 : Con2 := ((yX12_bit, cX12_bit, 2, (some .int)), (0, 0), ([(0, 19, 0), (0, 1, 0)], [(0, 0), (0, 0)], [], []), [((0, 1, 0), [(0, 0), (0, 0), (0, 0)], [], [], [1])])
theorem hd_495 : con_495.1 = (yX12_bit, cX12_bit, 2, (some .int)) := rfl
noncomputable def cu_495 : List CUT2 := []
theorem ch_495 : staG tb_X12_bit 1 bt_RX12 [] ct_2 [] [] cu_495 8 con_495 = true := by decide +kernel
theorem vl_495 (l : Launch) : Vld2 l vwCl gTbl con_495 := conR_ok3 gT_all (hd_495) rfl pn_RX12 tk_X12_bit bo_RX12 xo_RX12 (cto_2 l) ch_495 cut_nil
/-- RookHustingModel bit -/
noncomputable def con_496 : Con2 := ((yX12_bit, cX12_bit, 2, (some .int)), (0, 0), ([(0, 19, 0), (0, 0, 0)], [(0, 0), (0, 0)], [], []), [((0, 1, 0), [(0, 0), (0, 0), (0, 0)], [], [], [1])])
theorem hd_496 : con_496.1 = (yX12_bit, cX12_bit, 2, (some .int)) := rfl
noncomputable def cu_496 : List CUT2 := []
theorem ch_496 : staG tb_X12_bit 1 bt_RX12 [] ct_2 [] [] cu_496 8 con_496 = true := by decide +kernel
theorem vl_496 (l : Launch) : Vld2 l vwCl gTbl con_496 := conR_ok3 gT_all (hd_496) rfl pn_RX12 tk_X12_bit bo_RX12 xo_RX12 (cto_2 l) ch_496 cut_nil
/-- RookHustingModel bit -/
noncomputable def con_497 : Con2 := ((yX12_bit, cX12_bit, 2, (some .int)), (0, 0), ([(0, 14, 0), (0, 4, 0)], [(0, 0), (0, 0)], [], []), [((0, 0, 0), [(0, 0), (0, 0), (0, 0)], [], [], [1])])
theorem hd_497 : con_497.1 = (yX12_bit, cX12_bit, 2, (some .int)) := rfl
noncomputable def cu_497 : List CUT2 := []
theorem ch_497 : staG tb_X12_bit 1 bt_RX12 [] ct_2 [] [] cu_497 8 con_497 = true := by decide +kernel
theorem vl_497 (l : Launch) : Vld2 l vwCl gTbl con_497 := conR_ok3 gT_all (hd_497) rfl pn_RX12 tk_X12_bit bo_RX12 xo_RX12 (cto_2 l) ch_497 cut_nil
/-- RookHustingModel bit -/
noncomputable def con_498 : Con2 := ((yX12_bit, cX12_bit, 2, (some .int)), (0, 0), ([(0, 14, 0), (0, 3, 0)], [(0, 0), (0, 0)], [], []), [((0, 1, 0), [(0, 0), (0, 0), (0, 0)], [], [], [1])])
theorem hd_498 : con_498.1 = (yX12_bit, cX12_bit, 2, (some .int)) := rfl
noncomputable def cu_498 : List CUT2 := []
theorem ch_498 : staG tb_X12_bit 1 bt_RX12 [] ct_2 [] [] cu_498 8 con_498 = true := by decide +kernel
theorem vl_498 (l : Launch) : Vld2 l vwCl gTbl con_498 := conR_ok3 gT_all (hd_498) rfl pn_RX12 tk_X12_bit bo_RX12 xo_RX12 (cto_2 l) ch_498 cut_nil
/-- RookHustingModel bit -/
noncomputable def con_499 : Con2 := ((yX12_bit, cX12_bit, 2, (some .int)), (0, 0), ([(0, 14, 0), (0, 2, 0)], [(0, 0), (0, 0)], [], []), [((0, 1, 0), [(0, 0), (0, 0), (0, 0)], [], [], [1])])
theorem hd_499 : con_499.1 = (yX12_bit, cX12_bit, 2, (some .int)) := rfl
noncomputable def cu_499 : List CUT2 := []
theorem ch_499 : staG tb_X12_bit 1 bt_RX12 [] ct_2 [] [] cu_499 8 con_499 = true := by decide +kernel
theorem vl_499 (l : Launch) : Vld2 l vwCl gTbl con_499 := conR_ok3 gT_all (hd_499) rfl pn_RX12 tk_X12_bit bo_RX12 xo_RX12 (cto_2 l) ch_499 cut_nil
/-- RookHustingModel bit -/
noncomputable def con_500 : Con2 := ((yX12_bit, cX12_bit, 2, (some .int)), (0, 0), ([(0, 14, 0), (0, 1, 0)], [(0, 0), (0, 0)], [], []), [((0, 1, 0), [(0, 0), (0, 0), (0, 0)], [], [], [1])])
theorem hd_500 : con_500.1 = (yX12_bit, cX12_bit, 2, (some .int)) := rfl
noncomputable def cu_500 : List CUT2 := []
theorem ch_500 : staG tb_X12_bit 1 bt_RX12 [] ct_2 [] [] cu_500 8 con_500 = true := by decide +kernel
theorem vl_500 (l : Launch) : Vld2 l vwCl gTbl con_500 := conR_ok3 gT_all (hd_500) rfl pn_RX12 tk_X12_bit bo_RX12 xo_RX12 (cto_2 l) ch_500 cut_nil
/-- RookHustingModel bit -/
noncomputable def con_501 : Con2 := ((yX12_bit, cX12_bit, 2, (some .int)), (0, 0), ([(0, 14, 0), (0, 0, 0)], [(0, 0), (0, 0)], [], []), [((0, 0, 0), [(0, 0), (0, 0), (0, 0)], [], [], [1])])
theorem hd_501 : con_501.1 = (yX12_bit, cX12_bit, 2, (some .int)) := rfl
noncomputable def cu_501 : List CUT2 := []
theorem ch_501 : staG tb_X12_bit 1 bt_RX12 [] ct_2 [] [] cu_501 8 con_501 = true := by decide +kernel
theorem vl_501 (l : Launch) : Vld2 l vwCl gTbl con_501 := conR_ok3 gT_all (hd_501) rfl pn_RX12 tk_X12_bit bo_RX12 xo_RX12 (cto_2 l) ch_501 cut_nil
/-- RookHustingModel bit -/
noncomputable def con_502 : Con2 := ((yX12_bit, cX12_bit, 2, (some .int)), (0, 0), ([(0, 13, 0), (0, 4, 0)], [(0, 0), (0, 0)], [], []), [((0, 0, 0), [(0, 0), (0, 0), (0, 0)], [], [], [1])])
theorem hd_502 : con_502.1 = (yX12_bit, cX12_bit, 2, (some .int)) := rfl
noncomputable def cu_502 : List CUT2 := []
theorem ch_502 : staG tb_X12_bit 1 bt_RX12 [] ct_2 [] [] cu_502 8 con_502 = true := by decide +kernel
theorem vl_502 (l : Launch) : Vld2 l vwCl gTbl con_502 := conR_ok3 gT_all (hd_502) rfl pn_RX12 tk_X12_bit bo_RX12 xo_RX12 (cto_2 l) ch_502 cut_nil
/-- RookHustingModel bit -/
noncomputable def con_503 : Con2 := ((yX12_bit, cX12_bit, 2, (some .int)), (0, 0), ([(0, 13, 0), (0, 3, 0)], [(0, 0), (0, 0)], [], []), [((0, 1, 0), [(0, 0), (0, 0), (0, 0)], [], [], [1])])
theorem hd_503 : con_503.1 = (yX12_bit, cX12_bit, 2, (some .int)) := rfl
noncomputable def cu_503 : List CUT2 := []
theorem ch_503 : staG tb_X12_bit 1 bt_RX12 [] ct_2 [] [] cu_503 8 con_503 = true := by decide +kernel
theorem vl_503 (l : Launch) : Vld2 l vwCl gTbl con_503 := conR_ok3 gT_all (hd_503) rfl pn_RX12 tk_X12_bit bo_RX12 xo_RX12 (cto_2 l) ch_503 cut_nil
/-- RookHustingModel bit -/
noncomputable def con_504 : Con2 := ((yX12_bit, cX12_bit, 2, (some .int)), (0, 0), ([(0, 13, 0), (0, 2, 0)], [(0, 0), (0, 0)], [], []), [((0, 1, 0), [(0, 0), (0, 0), (0, 0)], [], [], [1])])
theorem hd_504 : con_504.1 = (yX12_bit, cX12_bit, 2, (some .int)) := rfl
noncomputable def cu_504 : List CUT2 := []
theorem ch_504 : staG tb_X12_bit 1 bt_RX12 [] ct_2 [] [] cu_504 8 con_504 = true := by decide +kernel
theorem vl_504 (l : Launch) : Vld2 l vwCl gTbl con_504 := conR_ok3 gT_all (hd_504) rfl pn_RX12 tk_X12_bit bo_RX12 xo_RX12 (cto_2 l) ch_504 cut_nil
/-- RookHustingModel bit -/
noncomputable def con_505 : Con2 := ((yX12_bit, cX12_bit, 2, (some .int)), (0, 0), ([(0, 13, 0), (0, 1, 0)], [(0, 0), (0, 0)], [], []), [((0, 0, 0), [(0, 0), (0, 0), (0, 0)], [], [], [1])])
theorem hd_505 : con_505.1 = (yX12_bit, cX12_bit, 2, (some .int)) := rfl
noncomputable def cu_505 : List CUT2 := []
theorem ch_505 : staG tb_X12_bit 1 bt_RX12 [] ct_2 [] [] cu_505 8 con_505 = true := by decide +kernel
theorem vl_505 (l : Launch) : Vld2 l vwCl gTbl con_505 := conR_ok3 gT_all (hd_505) rfl pn_RX12 tk_X12_bit bo_RX12 xo_RX12 (cto_2 l) ch_505 cut_nil
/-- RookHustingModel bit -/
noncomputable def con_506 : Con2 := ((yX12_bit, cX12_bit, 2, (some .int)), (0, 0), ([(0, 13, 0), (0, 0, 0)], [(0, 0), (0, 0)], [], []), [((0, 1, 0), [(0, 0), (0, 0), (0, 0)], [], [], [1])])
theorem hd_506 : con_506.1 = (yX12_bit, cX12_bit, 2, (some .int)) := rfl
noncomputable def cu_506 : List CUT2 := []
theorem ch_506 : staG tb_X12_bit 1 bt_RX12 [] ct_2 [] [] cu_506 8 con_506 = true := by decide +kernel
theorem vl_506 (l : Launch) : Vld2 l vwCl gTbl con_506 := conR_ok3 gT_all (hd_506) rfl pn_RX12 tk_X12_bit bo_RX12 xo_RX12 (cto_2 l) ch_506 cut_nil
/-- RookHustingModel bit -/
noncomputable def con_507 : Con2 := ((yX12_bit, cX12_bit, 2, (some .int)), (0, 0), ([(0, 11, 0), (0, 4, 0)], [(0, 0), (0, 0)], [], []), [((0, 0, 0), [(0, 0), (0, 0), (0, 0)], [], [], [1])])
theorem hd_507 : con_507.1 = (yX12_bit, cX12_bit, 2, (some .int)) := rfl
noncomputable def cu_507 : List CUT2 := []
theorem ch_507 : staG tb_X12_bit 1 bt_RX12 [] ct_2 [] [] cu_507 8 con_507 = true := by decide +kernel
theorem vl_507 (l : Launch) : Vld2 l vwCl gTbl con_507 := conR_ok3 gT_all (hd_507) rfl pn_RX12 tk_X12_bit bo_RX12 xo_RX12 (cto_2 l) ch_507 cut_nil
/-- RookHustingModel bit -/
noncomputable def con_508 : Con2 := ((yX12_bit, cX12_bit, 2, (some .int)), (0, 0), ([(0, 11, 0), (0, 3, 0)], [(0, 0), (0, 0)], [], []), [((0, 1, 0), [(0, 0), (0, 0), (0, 0)], [], [], [1])])
theorem hd_508 : con_508.1 = (yX12_bit, cX12_bit, 2, (some .int)) := rfl
noncomputable def cu_508 : List CUT2 := []
theorem ch_508 : staG tb_X12_bit 1 bt_RX12 [] ct_2 [] [] cu_508 8 con_508 = true := by decide +kernel
theorem vl_508 (l : Launch) : Vld2 l vwCl gTbl con_508 := conR_ok3 gT_all (hd_508) rfl pn_RX12 tk_X12_bit bo_RX12 xo_RX12 (cto_2 l) ch_508 cut_nil
/-- RookHustingModel bit -/
noncomputable def con_509 : Con2 := ((yX12_bit, cX12_bit, 2, (some .int)), (0, 0), ([(0, 11, 0), (0, 2, 0)], [(0, 0), (0, 0)], [], []), [((0, 0, 0), [(0, 0), (0, 0), (0, 0)], [], [], [1])])
theorem hd_509 : con_509.1 = (yX12_bit, cX12_bit, 2, (some .int)) := rfl
noncomputable def cu_509 : List CUT2 := []
theorem ch_509 : staG tb_X12_bit 1 bt_RX12 [] ct_2 [] [] cu_509 8 con_509 = true := by decide +kernel
theorem vl_509 (l : Launch) : Vld2 l vwCl gTbl con_509 := conR_ok3 gT_all (hd_509) rfl pn_RX12 tk_X12_bit bo_RX12 xo_RX12 (cto_2 l) ch_509 cut_nil
/-- RookHustingModel bit -/
noncomputable def con_510 : Con2 := ((yX12_bit, cX12_bit, 2, (some .int)), (0, 0), ([(0, 11, 0), (0, 1, 0)], [(0, 0), (0, 0)], [], []), [((0, 1, 0), [(0, 0), (0, 0), (0, 0)], [], [], [1])])
theorem hd_510 : con_510.1 = (yX12_bit, cX12_bit, 2, (some .int)) := rfl
noncomputable def cu_510 : List CUT2 := []
theorem ch_510 : staG tb_X12_bit 1 bt_RX12 [] ct_2 [] [] cu_510 8 con_510 = true := by decide +kernel
theorem vl_510 (l : Launch) : Vld2 l vwCl gTbl con_510 := conR_ok3 gT_all (hd_510) rfl pn_RX12 tk_X12_bit bo_RX12 xo_RX12 (cto_2 l) ch_510 cut_nil
/-- RookHustingModel bit -/
noncomputable def con_511 : Con2 := ((yX12_bit, cX12_bit, 2, (some .int)), (0, 0), ([(0, 11, 0), (0, 0, 0)], [(0, 0), (0, 0)], [], []), [((0, 1, 0), [(0, 0), (0, 0), (0, 0)], [], [], [1])])
theorem hd_511 : con_511.1 = (yX12_bit, cX12_bit, 2, (some .int)) := rfl
noncomputable def cu_511 : List CUT2 := []
theorem ch_511 : staG tb_X12_bit 1 bt_RX12 [] ct_2 [] [] cu_511 8 con_511 = true := by decide +kernel
theorem vl_511 (l : Launch) : Vld2 l vwCl gTbl con_511 := conR_ok3 gT_all (hd_511) rfl pn_RX12 tk_X12_bit bo_RX12 xo_RX12 (cto_2 l) ch_511 cut_nil
/-- RookHustingModel bit -/
noncomputable def con_512 : Con2 := ((yX12_bit, cX12_bit, 2, (some .int)), (0, 0), ([(0, 7, 0), (0, 4, 0)], [(0, 0), (0, 0)], [], []), [((0, 0, 0), [(0, 0), (0, 0), (0, 0)], [], [], [1])])
theorem hd_512 : con_512.1 = (yX12_bit, cX12_bit, 2, (some .int)) := rfl
noncomputable def cu_512 : List CUT2 := []
theorem ch_512 : staG tb_X12_bit 1 bt_RX12 [] ct_2 [] [] cu_512 8 con_512 = true := by decide +kernel
theorem vl_512 (l : Launch) : Vld2 l vwCl gTbl con_512 := conR_ok3 gT_all (hd_512) rfl pn_RX12 tk_X12_bit bo_RX12 xo_RX12 (cto_2 l) ch_512 cut_nil
/-- RookHustingModel bit -/
noncomputable def con_513 : Con2 := ((yX12_bit, cX12_bit, 2, (some .int)), (0, 0), ([(0, 7, 0), (0, 3, 0)], [(0, 0), (0, 0)], [], []), [((0, 0, 0), [(0, 0), (0, 0), (0, 0)], [], [], [1])])
theorem hd_513 : con_513.1 = (yX12_bit, cX12_bit, 2, (some .int)) := rfl
noncomputable def cu_513 : List CUT2 := []
theorem ch_513 : staG tb_X12_bit 1 bt_RX12 [] ct_2 [] [] cu_513 8 con_513 = true := by decide +kernel
theorem vl_513 (l : Launch) : Vld2 l vwCl gTbl con_513 := conR_ok3 gT_all (hd_513) rfl pn_RX12 tk_X12_bit bo_RX12 xo_RX12 (cto_2 l) ch_513 cut_nil
/-- RookHustingModel bit -/
noncomputable def con_514 : Con2 := ((yX12_bit, cX12_bit, 2, (some .int)), (0, 0), ([(0, 7, 0), (0, 2, 0)], [(0, 0), (0, 0)], [], []), [((0, 1, 0), [(0, 0), (0, 0), (0, 0)], [], [], [1])])
theorem hd_514 : con_514.1 = (yX12_bit, cX12_bit, 2, (some .int)) := rfl
noncomputable def cu_514 : List CUT2 := []
theorem ch_514 : staG tb_X12_bit 1 bt_RX12 [] ct_2 [] [] cu_514 8 con_514 = true := by decide +kernel
theorem vl_514 (l : Launch) : Vld2 l vwCl gTbl con_514 := conR_ok3 gT_all (hd_514) rfl pn_RX12 tk_X12_bit bo_RX12 xo_RX12 (cto_2 l) ch_514 cut_nil
/-- RookHustingModel bit -/
noncomputable def con_515 : Con2 := ((yX12_bit, cX12_bit, 2, (some .int)), (0, 0), ([(0, 7, 0), (0, 1, 0)], [(0, 0), (0, 0)], [], []), [((0, 1, 0), [(0, 0), (0, 0), (0, 0)], [], [], [1])])
theorem hd_515 : con_515.1 = (yX12_bit, cX12_bit, 2, (some .int)) := rfl
noncomputable def cu_515 : List CUT2 := []
theorem ch_515 : staG tb_X12_bit 1 bt_RX12 [] ct_2 [] [] cu_515 8 con_515 = true := by decide +kernel
theorem vl_515 (l : Launch) : Vld2 l vwCl gTbl con_515 := conR_ok3 gT_all (hd_515) rfl pn_RX12 tk_X12_bit bo_RX12 xo_RX12 (cto_2 l) ch_515 cut_nil
/-- RookHustingModel bit -/
noncomputable def con_516 : Con2 := ((yX12_bit, cX12_bit, 2, (some .int)), (0, 0), ([(0, 7, 0), (0, 0, 0)], [(0, 0), (0, 0)], [], []), [((0, 1, 0), [(0, 0), (0, 0), (0, 0)], [], [], [1])])
theorem hd_516 : con_516.1 = (yX12_bit, cX12_bit, 2, (some .int)) := rfl
noncomputable def cu_516 : List CUT2 := []
theorem ch_516 : staG tb_X12_bit 1 bt_RX12 [] ct_2 [] [] cu_516 8 con_516 = true := by decide +kernel
theorem vl_516 (l : Launch) : Vld2 l vwCl gTbl con_516 := conR_ok3 gT_all (hd_516) rfl pn_RX12 tk_X12_bit bo_RX12 xo_RX12 (cto_2 l) ch_516 cut_nil
/-- RookHustingModel bit -/
noncomputable def con_517 : Con2 := ((yX12_bit, cX12_bit, 2, (some .int)), (0, 0), ([(0, 30, 0), (0, 4, 0)], [(0, 0), (0, 0)], [], []), [((0, 1, 0), [(0, 0), (0, 0), (0, 0)], [], [], [1])])
theorem hd_517 : con_517.1 = (yX12_bit, cX12_bit, 2, (some .int)) := rfl
noncomputable def cu_517 : List CUT2 := []
theorem ch_517 : staG tb_X12_bit 1 bt_RX12 [] ct_2 [] [] cu_517 8 con_517 = true := by decide +kernel
theorem vl_517 (l : Launch) : Vld2 l vwCl gTbl con_517 := conR_ok3 gT_all (hd_517) rfl pn_RX12 tk_X12_bit bo_RX12 xo_RX12 (cto_2 l) ch_517 cut_nil
/-- RookHustingModel bit -/
noncomputable def con_518 : Con2 := ((yX12_bit, cX12_bit, 2, (some .int)), (0, 0), ([(0, 30, 0), (0, 3, 0)], [(0, 0), (0, 0)], [], []), [((0, 1, 0), [(0, 0), (0, 0), (0, 0)], [], [], [1])])
theorem hd_518 : con_518.1 = (yX12_bit, cX12_bit, 2, (some .int)) := rfl
noncomputable def cu_518 : List CUT2 := []
theorem ch_518 : staG tb_X12_bit 1 bt_RX12 [] ct_2 [] [] cu_518 8 con_518 = true := by decide +kernel
theorem vl_518 (l : Launch) : Vld2 l vwCl gTbl con_518 := conR_ok3 gT_all (hd_518) rfl pn_RX12 tk_X12_bit bo_RX12 xo_RX12 (cto_2 l) ch_518 cut_nil
/-- RookHustingModel bit -/
noncomputable def con_519 : Con2 := ((yX12_bit, cX12_bit, 2, (some .int)), (0, 0), ([(0, 30, 0), (0, 2, 0)], [(0, 0), (0, 0)], [], []), [((0, 1, 0), [(0, 0), (0, 0), (0, 0)], [], [], [1])])
theorem hd_519 : con_519.1 = (yX12_bit, cX12_bit, 2, (some .int)) := rfl
noncomputable def cu_519 : List CUT2 := []
theorem ch_519 : staG tb_X12_bit 1 bt_RX12 [] ct_2 [] [] cu_519 8 con_519 = true := by decide +kernel
theorem vl_519 (l : Launch) : Vld2 l vwCl gTbl con_519 := conR_ok3 gT_all (hd_519) rfl pn_RX12 tk_X12_bit bo_RX12 xo_RX12 (cto_2 l) ch_519 cut_nil
/-- RookHustingModel bit -/
noncomputable def con_520 : Con2 := ((yX12_bit, cX12_bit, 2, (some .int)), (0, 0), ([(0, 30, 0), (0, 1, 0)], [(0, 0), (0, 0)], [], []), [((0, 1, 0), [(0, 0), (0, 0), (0, 0)], [], [], [1])])
theorem hd_520 : con_520.1 = (yX12_bit, cX12_bit, 2, (some .int)) := rfl
noncomputable def cu_520 : List CUT2 := []
theorem ch_520 : staG tb_X12_bit 1 bt_RX12 [] ct_2 [] [] cu_520 8 con_520 = true := by decide +kernel
theorem vl_520 (l : Launch) : Vld2 l vwCl gTbl con_520 := conR_ok3 gT_all (hd_520) rfl pn_RX12 tk_X12_bit bo_RX12 xo_RX12 (cto_2 l) ch_520 cut_nil
/-- RookHustingModel bit -/
noncomputable def con_521 : Con2 := ((yX12_bit, cX12_bit, 2, (some .int)), (0, 0), ([(0, 30, 0), (0, 0, 0)], [(0, 0), (0, 0)], [], []), [((0, 0, 0), [(0, 0), (0, 0), (0, 0)], [], [], [1])])
theorem hd_521 : con_521.1 = (yX12_bit, cX12_bit, 2, (some .int)) := rfl
noncomputable def cu_521 : List CUT2 := []
theorem ch_521 : staG tb_X12_bit 1 bt_RX12 [] ct_2 [] [] cu_521 8 con_521 = true := by decide +kernel
theorem vl_521 (l : Launch) : Vld2 l vwCl gTbl con_521 := conR_ok3 gT_all (hd_521) rfl pn_RX12 tk_X12_bit bo_RX12 xo_RX12 (cto_2 l) ch_521 cut_nil
/-- RookHustingModel bit -/
noncomputable def con_522 : Con2 := ((yX12_bit, cX12_bit, 2, (some .int)), (0, 0), ([(0, 29, 0), (0, 4, 0)], [(0, 0), (0, 0)], [], []), [((0, 1, 0), [(0, 0), (0, 0), (0, 0)], [], [], [1])])
theorem hd_522 : con_522.1 = (yX12_bit, cX12_bit, 2, (some .int)) := rfl
noncomputable def cu_522 : List CUT2 := []
theorem ch_522 : staG tb_X12_bit 1 bt_RX12 [] ct_2 [] [] cu_522 8 con_522 = true := by decide +kernel
theorem vl_522 (l : Launch) : Vld2 l vwCl gTbl con_522 := conR_ok3 gT_all (hd_522) rfl pn_RX12 tk_X12_bit bo_RX12 xo_RX12 (cto_2 l) ch_522 cut_nil
/-- RookHustingModel bit -/
noncomputable def con_523 : Con2 := ((yX12_bit, cX12_bit, 2, (some .int)), (0, 0), ([(0, 29, 0), (0, 3, 0)], [(0, 0), (0, 0)], [], []), [((0, 1, 0), [(0, 0), (0, 0), (0, 0)], [], [], [1])])
theorem hd_523 : con_523.1 = (yX12_bit, cX12_bit, 2, (some .int)) := rfl
noncomputable def cu_523 : List CUT2 := []
theorem ch_523 : staG tb_X12_bit 1 bt_RX12 [] ct_2 [] [] cu_523 8 con_523 = true := by decide +kernel
theorem vl_523 (l : Launch) : Vld2 l vwCl gTbl con_523 := conR_ok3 gT_all (hd_523) rfl pn_RX12 tk_X12_bit bo_RX12 xo_RX12 (cto_2 l) ch_523 cut_nil
/-- RookHustingModel bit -/
noncomputable def con_524 : Con2 := ((yX12_bit, cX12_bit, 2, (some .int)), (0, 0), ([(0, 29, 0), (0, 2, 0)], [(0, 0), (0, 0)], [], []), [((0, 1, 0), [(0, 0), (0, 0), (0, 0)], [], [], [1])])
theorem hd_524 : con_524.1 = (yX12_bit, cX12_bit, 2, (some .int)) := rfl
noncomputable def cu_524 : List CUT2 := []
theorem ch_524 : staG tb_X12_bit 1 bt_RX12 [] ct_2 [] [] cu_524 8 con_524 = true := by decide +kernel
theorem vl_524 (l : Launch) : Vld2 l vwCl gTbl con_524 := conR_ok3 gT_all (hd_524) rfl pn_RX12 tk_X12_bit bo_RX12 xo_RX12 (cto_2 l) ch_524 cut_nil
/-- RookHustingModel bit -/
noncomputable def con_525 : Con2 := ((yX12_bit, cX12_bit, 2, (some .int)), (0, 0), ([(0, 29, 0), (0, 1, 0)], [(0, 0), (0, 0)], [], []), [((0, 0, 0), [(0, 0), (0, 0), (0, 0)], [], [], [1])])
theorem hd_525 : con_525.1 = (yX12_bit, cX12_bit, 2, (some .int)) := rfl
noncomputable def cu_525 : List CUT2 := []
theorem ch_525 : staG tb_X12_bit 1 bt_RX12 [] ct_2 [] [] cu_525 8 con_525 = true := by decide +kernel
theorem vl_525 (l : Launch) : Vld2 l vwCl gTbl con_525 := conR_ok3 gT_all (hd_525) rfl pn_RX12 tk_X12_bit bo_RX12 xo_RX12 (cto_2 l) ch_525 cut_nil
/-- RookHustingModel bit -/
noncomputable def con_526 : Con2 := ((yX12_bit, cX12_bit, 2, (some .int)), (0, 0), ([(0, 29, 0), (0, 0, 0)], [(0, 0), (0, 0)], [], []), [((0, 1, 0), [(0, 0), (0, 0), (0, 0)], [], [], [1])])
theorem hd_526 : con_526.1 = (yX12_bit, cX12_bit, 2, (some .int)) := rfl
noncomputable def cu_526 : List CUT2 := []
theorem ch_526 : staG tb_X12_bit 1 bt_RX12 [] ct_2 [] [] cu_526 8 con_526 = true := by decide +kernel
theorem vl_526 (l : Launch) : Vld2 l vwCl gTbl con_526 := conR_ok3 gT_all (hd_526) rfl pn_RX12 tk_X12_bit bo_RX12 xo_RX12 (cto_2 l) ch_526 cut_nil
/-- RookHustingModel bit -/
noncomputable def con_527 : Con2 := ((yX12_bit, cX12_bit, 2, (some .int)), (0, 0), ([(0, 27, 0), (0, 4, 0)], [(0, 0), (0, 0)], [], []), [((0, 1, 0), [(0, 0), (0, 0), (0, 0)], [], [], [1])])
theorem hd_527 : con_527.1 = (yX12_bit, cX12_bit, 2, (some .int)) := rfl
noncomputable def cu_527 : List CUT2 := []
theorem ch_527 : staG tb_X12_bit 1 bt_RX12 [] ct_2 [] [] cu_527 8 con_527 = true := by decide +kernel
theorem vl_527 (l : Launch) : Vld2 l vwCl gTbl con_527 := conR_ok3 gT_all (hd_527) rfl pn_RX12 tk_X12_bit bo_RX12 xo_RX12 (cto_2 l) ch_527 cut_nil
/-- RookHustingModel bit -/
noncomputable def con_528 : Con2 := ((yX12_bit, cX12_bit, 2, (some .int)), (0, 0), ([(0, 27, 0), (0, 3, 0)], [(0, 0), (0, 0)], [], []), [((0, 1, 0), [(0, 0), (0, 0), (0, 0)], [], [], [1])])
theorem hd_528 : con_528.1 = (yX12_bit, cX12_bit, 2, (some .int)) := rfl
noncomputable def cu_528 : List CUT2 := []
theorem ch_528 : staG tb_X12_bit 1 bt_RX12 [] ct_2 [] [] cu_528 8 con_528 = true := by decide +kernel
theorem vl_528 (l : Launch) : Vld2 l vwCl gTbl con_528 := conR_ok3 gT_all (hd_528) rfl pn_RX12 tk_X12_bit bo_RX12 xo_RX12 (cto_2 l) ch_528 cut_nil
/-- RookHustingModel bit -/
noncomputable def con_529 : Con2 := ((yX12_bit, cX12_bit, 2, (some .int)), (0, 0), ([(0, 27, 0), (0, 2, 0)], [(0, 0), (0, 0)], [], []), [((0, 0, 0), [(0, 0), (0, 0), (0, 0)], [], [], [1])])
theorem hd_529 : con_529.1 = (yX12_bit, cX12_bit, 2, (some .int)) := rfl
noncomputable def cu_529 : List CUT2 := []
theorem ch_529 : staG tb_X12_bit 1 bt_RX12 [] ct_2 [] [] cu_529 8 con_529 = true := by decide +kernel
theorem vl_529 (l : Launch) : Vld2 l vwCl gTbl con_529 := conR_ok3 gT_all (hd_529) rfl pn_RX12 tk_X12_bit bo_RX12 xo_RX12 (cto_2 l) ch_529 cut_nil
/-- RookHustingModel bit -/
noncomputable def con_530 : Con2 := ((yX12_bit, cX12_bit, 2, (some .int)), (0, 0), ([(0, 27, 0), (0, 1, 0)], [(0, 0), (0, 0)], [], []), [((0, 1, 0), [(0, 0), (0, 0), (0, 0)], [], [], [1])])
theorem hd_530 : con_530.1 = (yX12_bit, cX12_bit, 2, (some .int)) := rfl
noncomputable def cu_530 : List CUT2 := []
theorem ch_530 : staG tb_X12_bit 1 bt_RX12 [] ct_2 [] [] cu_530 8 con_530 = true := by decide +kernel
theorem vl_530 (l : Launch) : Vld2 l vwCl gTbl con_530 := conR_ok3 gT_all (hd_530) rfl pn_RX12 tk_X12_bit bo_RX12 xo_RX12 (cto_2 l) ch_530 cut_nil
/-- RookHustingModel bit -/
noncomputable def con_531 : Con2 := ((yX12_bit, cX12_bit, 2, (some .int)), (0, 0), ([(0, 27, 0), (0, 0, 0)], [(0, 0), (0, 0)], [], []), [((0, 1, 0), [(0, 0), (0, 0), (0, 0)], [], [], [1])])
theorem hd_531 : con_531.1 = (yX12_bit, cX12_bit, 2, (some .int)) := rfl
noncomputable def cu_531 : List CUT2 := []
theorem ch_531 : staG tb_X12_bit 1 bt_RX12 [] ct_2 [] [] cu_531 8 con_531 = true := by decide +kernel
theorem vl_531 (l : Launch) : Vld2 l vwCl gTbl con_531 := conR_ok3 gT_all (hd_531) rfl pn_RX12 tk_X12_bit bo_RX12 xo_RX12 (cto_2 l) ch_531 cut_nil
/-- RookHustingModel bit -/
noncomputable def con_532 : Con2 := ((yX12_bit, cX12_bit, 2, (some .int)), (0, 0), ([(0, 23, 0), (0, 4, 0)], [(0, 0), (0, 0)], [], []), [((0, 1, 0), [(0, 0), (0, 0), (0, 0)], [], [], [1])])
theorem hd_532 : con_532.1 = (yX12_bit, cX12_bit, 2, (some .int)) := rfl
noncomputable def cu_532 : List CUT2 := []
theorem ch_532 : staG tb_X12_bit 1 bt_RX12 [] ct_2 [] [] cu_532 8 con_532 = true := by decide +kernel
theorem vl_532 (l : Launch) : Vld2 l vwCl gTbl con_532 := conR_ok3 gT_all (hd_532) rfl pn_RX12 tk_X12_bit bo_RX12 xo_RX12 (cto_2 l) ch_532 cut_nil
/-- RookHustingModel bit -/
noncomputable def con_533 : Con2 := ((yX12_bit, cX12_bit, 2, (some .int)), (0, 0), ([(0, 23, 0), (0, 3, 0)], [(0, 0), (0, 0)], [], []), [((0, 0, 0), [(0, 0), (0, 0), (0, 0)], [], [], [1])])
theorem hd_533 : con_533.1 = (yX12_bit, cX12_bit, 2, (some .int)) := rfl
noncomputable def cu_533 : List CUT2 := []
theorem ch_533 : staG tb_X12_bit 1 bt_RX12 [] ct_2 [] [] cu_533 8 con_533 = true := by decide +kernel
theorem vl_533 (l : Launch) : Vld2 l vwCl gTbl con_533 := conR_ok3 gT_all (hd_533) rfl pn_RX12 tk_X12_bit bo_RX12 xo_RX12 (cto_2 l) ch_533 cut_nil
/-- RookHustingModel bit -/
noncomputable def con_534 : Con2 := ((yX12_bit, cX12_bit, 2, (some .int)), (0, 0), ([(0, 23, 0), (0, 2, 0)], [(0, 0), (0, 0)], [], []), [((0, 1, 0), [(0, 0), (0, 0), (0, 0)], [], [], [1])])
theorem hd_534 : con_534.1 = (yX12_bit, cX12_bit, 2, (some .int)) := rfl
noncomputable def cu_534 : List CUT2 := []
theorem ch_534 : staG tb_X12_bit 1 bt_RX12 [] ct_2 [] [] cu_534 8 con_534 = true := by decide +kernel
theorem vl_534 (l : Launch) : Vld2 l vwCl gTbl con_534 := conR_ok3 gT_all (hd_534) rfl pn_RX12 tk_X12_bit bo_RX12 xo_RX12 (cto_2 l) ch_534 cut_nil
/-- RookHustingModel bit -/
noncomputable def con_535 : Con2 := ((yX12_bit, cX12_bit, 2, (some .int)), (0, 0), ([(0, 23, 0), (0, 1, 0)], [(0, 0), (0, 0)], [], []), [((0, 1, 0), [(0, 0), (0, 0), (0, 0)], [], [], [1])])
theorem hd_535 : con_535.1 = (yX12_bit, cX12_bit, 2, (some .int)) := rfl
noncomputable def cu_535 : List CUT2 := []
theorem ch_535 : staG tb_X12_bit 1 bt_RX12 [] ct_2 [] [] cu_535 8 con_535 = true := by decide +kernel
theorem vl_535 (l : Launch) : Vld2 l vwCl gTbl con_535 := conR_ok3 gT_all (hd_535) rfl pn_RX12 tk_X12_bit bo_RX12 xo_RX12 (cto_2 l) ch_535 cut_nil
/-- RookHustingModel bit -/
noncomputable def con_536 : Con2 := ((yX12_bit, cX12_bit, 2, (some .int)), (0, 0), ([(0, 23, 0), (0, 0, 0)], [(0, 0), (0, 0)], [], []), [((0, 1, 0), [(0, 0), (0, 0), (0, 0)], [], [], [1])])
theorem hd_536 : con_536.1 = (yX12_bit, cX12_bit, 2, (some .int)) := rfl
noncomputable def cu_536 : List CUT2 := []
theorem ch_536 : staG tb_X12_bit 1 bt_RX12 [] ct_2 [] [] cu_536 8 con_536 = true := by decide +kernel
theorem vl_536 (l : Launch) : Vld2 l vwCl gTbl con_536 := conR_ok3 gT_all (hd_536) rfl pn_RX12 tk_X12_bit bo_RX12 xo_RX12 (cto_2 l) ch_536 cut_nil
/-- RookHustingModel bit -/
noncomputable def con_537 : Con2 := ((yX12_bit, cX12_bit, 2, (some .int)), (0, 0), ([(0, 15, 0), (0, 4, 0)], [(0, 0), (0, 0)], [], []), [((0, 0, 0), [(0, 0), (0, 0), (0, 0)], [], [], [1])])
theorem hd_537 : con_537.1 = (yX12_bit, cX12_bit, 2, (some .int)) := rfl
noncomputable def cu_537 : List CUT2 := []
theorem ch_537 : staG tb_X12_bit 1 bt_RX12 [] ct_2 [] [] cu_537 8 con_537 = true := by decide +kernel
theorem vl_537 (l : Launch) : Vld2 l vwCl gTbl con_537 := conR_ok3 gT_all (hd_537) rfl pn_RX12 tk_X12_bit bo_RX12 xo_RX12 (cto_2 l) ch_537 cut_nil
/-- RookHustingModel bit -/
noncomputable def con_538 : Con2 := ((yX12_bit, cX12_bit, 2, (some .int)), (0, 0), ([(0, 15, 0), (0, 3, 0)], [(0, 0), (0, 0)], [], []), [((0, 1, 0), [(0, 0), (0, 0), (0, 0)], [], [], [1])])
theorem hd_538 : con_538.1 = (yX12_bit, cX12_bit, 2, (some .int)) := rfl
noncomputable def cu_538 : List CUT2 := []
theorem ch_538 : staG tb_X12_bit 1 bt_RX12 [] ct_2 [] [] cu_538 8 con_538 = true := by decide +kernel
theorem vl_538 (l : Launch) : Vld2 l vwCl gTbl con_538 := conR_ok3 gT_all (hd_538) rfl pn_RX12 tk_X12_bit bo_RX12 xo_RX12 (cto_2 l) ch_538 cut_nil
/-- RookHustingModel bit -/
noncomputable def con_539 : Con2 := ((yX12_bit, cX12_bit, 2, (some .int)), (0, 0), ([(0, 15, 0), (0, 2, 0)], [(0, 0), (0, 0)], [], []), [((0, 1, 0), [(0, 0), (0, 0), (0, 0)], [], [], [1])])
theorem hd_539 : con_539.1 = (yX12_bit, cX12_bit, 2, (some .int)) := rfl
noncomputable def cu_539 : List CUT2 := []
theorem ch_539 : staG tb_X12_bit 1 bt_RX12 [] ct_2 [] [] cu_539 8 con_539 = true := by decide +kernel
theorem vl_539 (l : Launch) : Vld2 l vwCl gTbl con_539 := conR_ok3 gT_all (hd_539) rfl pn_RX12 tk_X12_bit bo_RX12 xo_RX12 (cto_2 l) ch_539 cut_nil
/-- RookHustingModel bit -/
noncomputable def con_540 : Con2 := ((yX12_bit, cX12_bit, 2, (some .int)), (0, 0), ([(0, 15, 0), (0, 1, 0)], [(0, 0), (0, 0)], [], []), [((0, 1, 0), [(0, 0), (0, 0), (0, 0)], [], [], [1])])
theorem hd_540 : con_540.1 = (yX12_bit, cX12_bit, 2, (some .int)) := rfl
noncomputable def cu_540 : List CUT2 := []
theorem ch_540 : staG tb_X12_bit 1 bt_RX12 [] ct_2 [] [] cu_540 8 con_540 = true := by decide +kernel
theorem vl_540 (l : Launch) : Vld2 l vwCl gTbl con_540 := conR_ok3 gT_all (hd_540) rfl pn_RX12 tk_X12_bit bo_RX12 xo_RX12 (cto_2 l) ch_540 cut_nil
/-- RookHustingModel bit -/
noncomputable def con_541 : Con2 := ((yX12_bit, cX12_bit, 2, (some .int)), (0, 0), ([(0, 15, 0), (0, 0, 0)], [(0, 0), (0, 0)], [], []), [((0, 1, 0), [(0, 0), (0, 0), (0, 0)], [], [], [1])])
theorem hd_541 : con_541.1 = (yX12_bit, cX12_bit, 2, (some .int)) := rfl
noncomputable def cu_541 : List CUT2 := []
theorem ch_541 : staG tb_X12_bit 1 bt_RX12 [] ct_2 [] [] cu_541 8 con_541 = true := by decide +kernel
theorem vl_541 (l : Launch) : Vld2 l vwCl gTbl con_541 := conR_ok3 gT_all (hd_541) rfl pn_RX12 tk_X12_bit bo_RX12 xo_RX12 (cto_2 l) ch_541 cut_nil
/-- RookHustingModel bit -/
noncomputable def con_542 : Con2 := ((yX12_bit, cX12_bit, 2, (some .int)), (0, 0), ([(0, 31, 0), (0, 4, 0)], [(0, 0), (0, 0)], [], []), [((0, 1, 0), [(0, 0), (0, 0), (0, 0)], [], [], [1])])
theorem hd_542 : con_542.1 = (yX12_bit, cX12_bit, 2, (some .int)) := rfl
noncomputable def cu_542 : List CUT2 := []
theorem ch_542 : staG tb_X12_bit 1 bt_RX12 [] ct_2 [] [] cu_542 8 con_542 = true := by decide +kernel
theorem vl_542 (l : Launch) : Vld2 l vwCl gTbl con_542 := conR_ok3 gT_all (hd_542) rfl pn_RX12 tk_X12_bit bo_RX12 xo_RX12 (cto_2 l) ch_542 cut_nil
/-- RookHustingModel bit -/
noncomputable def con_543 : Con2 := ((yX12_bit, cX12_bit, 2, (some .int)), (0, 0), ([(0, 31, 0), (0, 3, 0)], [(0, 0), (0, 0)], [], []), [((0, 1, 0), [(0, 0), (0, 0), (0, 0)], [], [], [1])])
theorem hd_543 : con_543.1 = (yX12_bit, cX12_bit, 2, (some .int)) := rfl
noncomputable def cu_543 : List CUT2 := []
theorem ch_543 : staG tb_X12_bit 1 bt_RX12 [] ct_2 [] [] cu_543 8 con_543 = true := by decide +kernel
theorem vl_543 (l : Launch) : Vld2 l vwCl gTbl con_543 := conR_ok3 gT_all (hd_543) rfl pn_RX12 tk_X12_bit bo_RX12 xo_RX12 (cto_2 l) ch_543 cut_nil
