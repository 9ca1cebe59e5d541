/-! ===== contracts, 6 ===== -/
noncomputable def gh_548 : GI := [(0, 0), (0, 0), (0, 0), (0, 0), (0, 0), (0, 0), (0, 0), (0, 0), (0, 0), (0, 0), (0, 700), (0, 700), (0, 4), (0, 0), (0, 0), (0, 0), (0, 0), (0, 0), (0, 0), (0, 0), (0, 0), (0, 0), (0, 0), (0, 0), (0, 0), (0, 0), (0, 0), (0, 0), (0, 0), (0, 0), (0, 0), (0, 0), (0, 0), (0, 0), (0, 0), (0, 0), (0, 0), (0, 0), (0, 0), (0, 0), (0, 0), (0, 0), (0, 0), (0, 0), (0, 0), (0, 0), (0, 0)]
noncomputable def fh_548 : List AV := [(8, 2, 0), (8, 3, 0), (8, 4, 0), (8, 5, 0), (6, 1, 0), (8, 7, 0), (8, 8, 0), (8, 9, 0), (1, 10, 0), (1, 11, 0), (1, 12, 0), (8, 13, 0), (0, 0, 0), (8, 15, 0), (8, 16, 0), (8, 17, 0), (8, 18, 0), (8, 19, 0), (8, 20, 0), (8, 21, 0), (8, 22, 0), (8, 23, 0), (8, 24, 0), (8, 25, 0), (8, 26, 0), (8, 27, 0), (8, 28, 0), (8, 29, 0), (8, 30, 0), (8, 31, 0), (8, 32, 0), (8, 33, 0), (8, 34, 0), (8, 35, 0), (8, 36, 0), (8, 37, 0), (8, 38, 0), (8, 39, 0), (8, 40, 0), (8, 41, 0), (8, 42, 0), (8, 43, 0), (8, 44, 0), (8, 45, 0), (8, 46, 0)]
noncomputable def con_548 : Con2 := ((yX12_is, cX12_is, 4, some .boolean), (8, 200), ([(6, 0, 0), (13, 8, 0)], gh_548, [.inl (12, fh_548), am_2], []), [((0, 1, 0), gh_548 ++ [(0, 0)], [(false, .inl (12, fh_548)), (false, am_2)], [], [1])])
theorem hv_548 (l : Launch) {ec : List va_E} (h : ((1 = 1 → isE 8 ec) ∧ (1 ≠ 1 → ¬ isE 8 ec))) : VldE l vwCl gTbl con_548 ec := is_vld (i := 8) (v := 1) (G := gh_548) (fsA := fh_548) (sg := [(700, (2, (-128), 127))]) (by decide) (by decide +kernel) (a12 := (0, 0, 0)) (a10 := (1, 12, 0)) (a8 := (1, 10, 0)) (a9 := (1, 11, 0)) rfl rfl rfl rfl rfl (q12 := (0, 0)) (q10 := (0, 4)) (q8 := (0, 700)) (q9 := (0, 700)) rfl rfl rfl rfl (by decide +kernel) (by decide +kernel) (Or.inl ⟨h.1 rfl, rfl⟩)
/-- RookHustingModel isFull -/
noncomputable def gi_234 : GI := jl_n [gp_120, gp_111, gp_147]
noncomputable def gi_235 : GI := jl_n [gp_120, gp_111, jl_i 5 5, gp_146]
noncomputable def con_549 : Con2 := ((yX12_isFull, cX12_isFull, 1, (some .boolean)), (9, 223), ([(6, 0, 0)], gi_202, [ac_154, am_2, ac_153], []), [((0, 0, 0), gi_234, hq_145, [], [1]), ((0, 1, 0), gi_235, hq_145, [], [1])])
theorem hd_549 : con_549.1 = (yX12_isFull, cX12_isFull, 1, (some .boolean)) := rfl
noncomputable def ft_549 : CTB2 := [(3, 165, 0, con_362, [0, 1]), (22, 165, 0, con_363, [0, 1]), (44, 165, 0, con_548, [0, 1]), (63, 165, 0, con_365, [0, 1])]
theorem ck_RX12_165_365 : COK2 RX12 vwCl gTbl 165 0 con_365 := ⟨wd_1603, wd_137, mh_X12_is, .inr (.inr ⟨rfl, wd_1600, wd_1602, wd_58, ⟨_, rfl, pd_X12_is⟩, 12, _, TX12, 45, rfl, rfl⟩)⟩
theorem ck_RX12_165_548 : COK2 RX12 vwCl gTbl 165 0 con_548 := ⟨wd_1603, wd_137, mh_X12_is, .inr (.inr ⟨rfl, wd_1600, wd_1602, wd_58, ⟨_, rfl, pd_X12_is⟩, 12, _, TX12, 45, rfl, rfl⟩)⟩
theorem fto_549 (l : Launch) {es : List va_E} (f2 : isFact 2 0 [0, 1] es) (f5 : isFact 5 0 [0, 1] es) (f8 : isFact 8 1 [0, 1] es) (f12 : isFact 12 0 [0, 1] es) : FTOK2 l RX12 vwCl gTbl es ft_549 := ft2_cons (fun ec he => hv_362 l (f2 ec he)) ck_RX12_165_362 (ft2_cons (fun ec he => hv_363 l (f5 ec he)) ck_RX12_165_363 (ft2_cons (fun ec he => hv_548 l (f8 ec he)) ck_RX12_165_548 (ft2_cons (fun ec he => hv_365 l (f12 ec he)) ck_RX12_165_365 (ft2_nil))))
noncomputable def cu_549 : List CUT2 := []
theorem ch_549 : staG tb_X12_isFull 1 bt_RX12 ft_549 ct_2 [] [] cu_549 26 con_549 = true := by decide +kernel
theorem hv_549 (l : Launch) {es : List va_E} (f2 : isFact 2 0 [0, 1] es) (f5 : isFact 5 0 [0, 1] es) (f8 : isFact 8 1 [0, 1] es) (f12 : isFact 12 0 [0, 1] es) : VldE l vwCl gTbl con_549 es := conE_ok3 gT_all (hd_549) rfl pn_RX12 tk_X12_isFull bo_RX12 xo_RX12 (fto_549 l f2 f5 f8 f12) (cto_2 l) ch_549 cut_nil
/-- RookHustingModel errs -/
noncomputable def ac_189 : AC := .inl (12, jl_n [vp_20, jl_c 3, vp_22])
noncomputable def con_550 : Con2 := ((yX12_errs, cX12_errs, 2, none), (1, 20), ([(6, 0, 0), (0, 3, 0)], gi_163, [ac_115], []), [((9, 0, 0), gi_164, [(true, ac_189)], [], tg_10)])
theorem hd_550 : con_550.1 = (yX12_errs, cX12_errs, 2, none) := rfl
noncomputable def cu_550 : List CUT2 := []
theorem ch_550 : staG tb_X12_errs 1 bt_RX12 [] ct_315 [] [] cu_550 13 con_550 = true := by decide +kernel
theorem vl_550 (l : Launch) : Vld2 l vwCl gTbl con_550 := conR_ok3 gT_all (hd_550) rfl pn_RX12 tk_X12_errs bo_RX12 xo_RX12 (cto_315 l) ch_550 cut_nil
/-- RookHustingModel good -/
noncomputable def ac_190 : AC := .inl (12, jl_n [jl_8 13 12, jl_c 3, jl_8 46 32])
noncomputable def con_551 : Con2 := ((yX12_good, cX12_good, 1, (some .boolean)), (0, 0), ([(6, 0, 0)], gi_153, [ac_190], []), [((0, 0, 0), gi_154, [(false, ac_190)], [], [1])])
theorem hd_551 : con_551.1 = (yX12_good, cX12_good, 1, (some .boolean)) := rfl
noncomputable def cu_551 : List CUT2 := []
theorem ch_551 : staG tb_X12_good 1 bt_RX12 [] ct_2 [] [] cu_551 7 con_551 = true := by decide +kernel
theorem vl_551 (l : Launch) : Vld2 l vwCl gTbl con_551 := conR_ok3 gT_all (hd_551) rfl pn_RX12 tk_X12_good bo_RX12 xo_RX12 (cto_2 l) ch_551 cut_nil
/-- RookHustingModel takes -/
noncomputable def gi_236 : GI := jl_n [jl_z 9, gp_78, jl_z 42, gp_81]
noncomputable def con_552 : Con2 := ((yX12_takes, cX12_takes, 3, (some .boolean)), (9, 223), ([(6, 0, 0), (13, 8, 0)], gi_160, [ac_113, am_2], []), [((0, 1, 0), gi_236, hq_123, [], tg_1)])
theorem hd_552 : con_552.1 = (yX12_takes, cX12_takes, 3, (some .boolean)) := rfl
noncomputable def ct_552 : CTB2 := [(11, 169, 0, con_313, [0, 1])]
noncomputable def ft_552 : CTB2 := [(2, 165, 0, con_548, [0, 1])]
theorem fto_552 (l : Launch) {es : List va_E} (f8 : isFact 8 1 [0, 1] es) : FTOK2 l RX12 vwCl gTbl es ft_552 := ft2_cons (fun ec he => hv_548 l (f8 ec he)) ck_RX12_165_548 (ft2_nil)
noncomputable def cu_552 : List CUT2 := []
theorem ch_552 : staG tb_X12_takes 1 bt_RX12 ft_552 ct_552 [] [] cu_552 12 con_552 = true := by decide +kernel
theorem cto_552 (l : Launch) : CTOK2 l RX12 vwCl gTbl ct_552 := ct2_cons (vl_313 l) ck_RX12_169_313 (ct2_nil)
theorem hv_552 (l : Launch) {es : List va_E} (f8 : isFact 8 1 [0, 1] es) : VldE l vwCl gTbl con_552 es := conE_ok3 gT_all (hd_552) rfl pn_RX12 tk_X12_takes bo_RX12 xo_RX12 (fto_552 l f8) (cto_552 l) ch_552 cut_nil
/-- RookHustingModel is -/
noncomputable def con_553 : Con2 := ((yX12_is, cX12_is, 4, (some .boolean)), (8, 200), ([(6, 0, 0), (13, 3, 0)], gi_155, [ac_112, am_2], []), [((0, 0, 0), gi_156, hq_121, [], [1]), ((0, 1, 0), gi_157, hq_121, [], [1])])
theorem hd_553 : con_553.1 = (yX12_is, cX12_is, 4, (some .boolean)) := rfl
noncomputable def cu_553 : List CUT2 := [((39, [lq 0 6 0, lq 1 13 3, lq 2 0 1, lq 3 1 50], [], gi_158, hq_121), [([(10, 1), (11, (-1))], (-7))], ([(50, (-1))], 7)), ((39, [lq 0 6 0, lq 1 13 3, lq 2 0 0, lq 3 1 50], [], gi_159, hq_121), [], ([(50, (-1))], 7))]
theorem ch_553 : staG tb_X12_is 1 bt_RX12 [] ct_315 [(55, [(0, (2, 0, 9), 0, 693)])] [23, 28] cu_553 25 con_553 = true := by decide +kernel
theorem cc_553 : cu_553.all (cutG tb_X12_is 1 bt_RX12 [] ct_315 [(55, [(0, (2, 0, 9), 0, 693)])] [23, 28] cu_553 25 con_553) = true := by decide +kernel
theorem vl_553 (l : Launch) : Vld2 l vwCl gTbl con_553 := conR_ok3 gT_all (hd_553) rfl pn_RX12 tk_X12_is bo_RX12 xo_RX12 (cto_315 l) ch_553 (cut_all cc_553)
/-- RookHustingModel takes -/
noncomputable def con_554 : Con2 := ((yX12_takes, cX12_takes, 3, (some .boolean)), (9, 223), ([(6, 0, 0), (13, 3, 0)], gi_160, [ac_113, am_2], []), [((0, 0, 0), gi_161, hq_122, [], [1]), ((0, 1, 0), gi_162, hq_123, [], tg_1)])
theorem hd_554 : con_554.1 = (yX12_takes, cX12_takes, 3, (some .boolean)) := rfl
theorem ck_RX12_165_553 : COK2 RX12 vwCl gTbl 165 0 con_553 := ⟨wd_1603, wd_137, mh_X12_is, .inr (.inr ⟨rfl, wd_1600, wd_1602, wd_58, ⟨_, rfl, pd_X12_is⟩, 12, _, TX12, 45, rfl, rfl⟩)⟩
noncomputable def ct_554 : CTB2 := [(2, 165, 0, con_553, [0, 1]), (11, 169, 0, con_313, [0, 1])]
noncomputable def cu_554 : List CUT2 := []
theorem ch_554 : staG tb_X12_takes 1 bt_RX12 [] ct_554 [] [] cu_554 12 con_554 = true := by decide +kernel
theorem cto_554 (l : Launch) : CTOK2 l RX12 vwCl gTbl ct_554 := ct2_cons (vl_553 l) ck_RX12_165_553 (ct2_cons (vl_313 l) ck_RX12_169_313 (ct2_nil))
theorem vl_554 (l : Launch) : Vld2 l vwCl gTbl con_554 := conR_ok3 gT_all (hd_554) rfl pn_RX12 tk_X12_takes bo_RX12 xo_RX12 (cto_554 l) ch_554 cut_nil
/-- RookHustingModel expects -/
noncomputable def con_555 : Con2 := ((yX12_expects, cX12_expects, 2, none), (10, 245), ([(6, 0, 0), (13, 3, 0)], gi_165, [ac_117, am_2], []), [((9, 0, 0), gi_166, hq_124, [], tg_10), ((9, 0, 0), gi_167, hq_125, [], tg_10)])
theorem hd_555 : con_555.1 = (yX12_expects, cX12_expects, 2, none) := rfl
theorem ck_RX12_172_554 : COK2 RX12 vwCl gTbl 172 0 con_554 := ⟨wd_1599, wd_137, mh_X12_takes, .inr (.inr ⟨rfl, wd_1596, wd_1598, wd_57, ⟨_, rfl, pd_X12_takes⟩, 12, _, TX12, 45, rfl, rfl⟩)⟩
noncomputable def ct_555 : CTB2 := [(2, 172, 0, con_554, [0, 1]), (10, 175, 0, con_317, [0])]
noncomputable def cu_555 : List CUT2 := []
theorem ch_555 : staG tb_X12_expects 1 bt_RX12 [] ct_555 [] [] cu_555 10 con_555 = true := by decide +kernel
theorem cto_555 (l : Launch) : CTOK2 l RX12 vwCl gTbl ct_555 := ct2_cons (vl_554 l) ck_RX12_172_554 (ct2_cons (vl_317 l) ck_RX12_175_317 (ct2_nil))
theorem vl_555 (l : Launch) : Vld2 l vwCl gTbl con_555 := conR_ok3 gT_all (hd_555) rfl pn_RX12 tk_X12_expects bo_RX12 xo_RX12 (cto_555 l) ch_555 cut_nil
/-- RookHustingModel in -/
noncomputable def con_556 : Con2 := ((yX12_in, cX12_in, 6, (some .boolean)), (0, 0), ([(4, 0, 0), (3, 0, 0), (3, 40, 0)], gi_146, [], []), [((0, 0, 0), gi_147, [], [], [1]), ((0, 1, 0), [(0, 40), (0, 0), (0, 0), (0, 0)], [], [], [1])])
theorem hd_556 : con_556.1 = (yX12_in, cX12_in, 6, (some .boolean)) := rfl
noncomputable def cu_556 : List CUT2 := []
theorem ch_556 : staG tb_X12_in 1 bt_RX12 [] ct_2 [] [] cu_556 11 con_556 = true := by decide +kernel
theorem vl_556 (l : Launch) : Vld2 l vwCl gTbl con_556 := conR_ok3 gT_all (hd_556) rfl pn_RX12 tk_X12_in bo_RX12 xo_RX12 (cto_2 l) ch_556 cut_nil
/-- RookHustingModel number -/
noncomputable def gi_237 : GI := jl_n [gp_97, jl_i 0 40, gp_99]
noncomputable def con_557 : Con2 := ((yX12_number, cX12_number, 4, (some .int)), (2, 46), ([(6, 0, 0), (0, 0, 0), (0, 40, 0)], gi_170, [ac_123, am_2], []), [((0, 0, 0), gi_171, hq_126, [], tg_1), ((1, 14, 0), gi_237, hq_127, [], tg_1)])
theorem hd_557 : con_557.1 = (yX12_number, cX12_number, 4, (some .int)) := rfl
theorem ck_RX12_91_556 : COK2 RX12 vwCl gTbl 91 1 con_556 := ⟨wd_1544, wd_137, mh_X12_in, .inl ⟨rfl, wd_1542, wd_1543, pd_X12_in⟩⟩
noncomputable def ct_557 : CTB2 := [(1, 153, 0, con_314, [0]), (17, 175, 0, con_317, [0]), (21, 153, 0, con_322, [0]), (21, 153, 0, con_314, [0]), (36, 91, 1, con_556, []), (44, 175, 0, con_324, [0]), (48, 153, 0, con_322, [0]), (48, 153, 0, con_314, [0]), (48, 153, 0, con_325, [0]), (62, 169, 0, con_313, [0, 1])]
noncomputable def cu_557 : List CUT2 := []
theorem ch_557 : staG tb_X12_number 1 bt_RX12 [] ct_557 [] [] cu_557 31 con_557 = true := by decide +kernel
theorem cto_557 (l : Launch) : CTOK2 l RX12 vwCl gTbl ct_557 := ct2_cons (vl_314 l) ck_RX12_153_314 (ct2_cons (vl_317 l) ck_RX12_175_317 (ct2_cons (vl_322 l) ck_RX12_153_322 (ct2_cons (vl_314 l) ck_RX12_153_314 (ct2_cons (vl_556 l) ck_RX12_91_556 (ct2_cons (vl_324 l) ck_RX12_175_324 (ct2_cons (vl_322 l) ck_RX12_153_322 (ct2_cons (vl_314 l) ck_RX12_153_314 (ct2_cons (vl_325 l) ck_RX12_153_325 (ct2_cons (vl_313 l) ck_RX12_169_313 (ct2_nil))))))))))
theorem vl_557 (l : Launch) : Vld2 l vwCl gTbl con_557 := conR_ok3 gT_all (hd_557) rfl pn_RX12 tk_X12_number bo_RX12 xo_RX12 (cto_557 l) ch_557 cut_nil
/-- RookHustingModel number -/
noncomputable def con_558 : Con2 := ((yX12_number, cX12_number, 4, (some .int)), (1, 20), ([(6, 0, 0), (0, 0, 0), (0, 40, 0)], gi_170, [ac_126, am_2], []), [((0, 0, 0), gi_173, hq_128, [], [1])])
theorem hd_558 : con_558.1 = (yX12_number, cX12_number, 4, (some .int)) := rfl
noncomputable def cu_558 : List CUT2 := []
theorem ch_558 : staG tb_X12_number 1 bt_RX12 [] ct_327 [] [] cu_558 13 con_558 = true := by decide +kernel
theorem vl_558 (l : Launch) : Vld2 l vwCl gTbl con_558 := conR_ok3 gT_all (hd_558) rfl pn_RX12 tk_X12_number bo_RX12 xo_RX12 (cto_327 l) ch_558 cut_nil
/-- RookHustingModel told -/
noncomputable def gi_238 : GI := jl_n [gp_104, jl_i 0 40, gp_105]
noncomputable def con_559 : Con2 := ((yX12_told, cX12_told, 4, (some .int)), (11, 266), ([(6, 0, 0), (13, 3, 0), (0, 0, 0), (0, 40, 0)], gi_174, [ac_127, am_2], []), [((0, 0, 0), gi_175, hq_129, [], tg_1), ((1, 49, 0), gi_238, hq_130, [], tg_1)])
theorem hd_559 : con_559.1 = (yX12_told, cX12_told, 4, (some .int)) := rfl
theorem ck_RX12_183_558 : COK2 RX12 vwCl gTbl 183 0 con_558 := ⟨wd_1618, wd_137, mh_X12_number, .inr (.inr ⟨rfl, wd_1615, wd_1617, wd_61, ⟨_, rfl, pd_X12_number⟩, 12, _, TX12, 45, rfl, rfl⟩)⟩
theorem ck_RX12_183_557 : COK2 RX12 vwCl gTbl 183 0 con_557 := ⟨wd_1618, wd_137, mh_X12_number, .inr (.inr ⟨rfl, wd_1615, wd_1617, wd_61, ⟨_, rfl, pd_X12_number⟩, 12, _, TX12, 45, rfl, rfl⟩)⟩
theorem ck_RX12_179_555 : COK2 RX12 vwCl gTbl 179 0 con_555 := ⟨wd_1595, wd_137, mh_X12_expects, .inr (.inr ⟨rfl, wd_1592, wd_1594, wd_56, ⟨_, rfl, pd_X12_expects⟩, 12, _, TX12, 45, rfl, rfl⟩)⟩
noncomputable def ct_559 : CTB2 := [(2, 179, 0, con_555, [0, 1]), (8, 183, 0, con_557, [0, 1]), (8, 183, 0, con_558, [0, 1])]
noncomputable def cu_559 : List CUT2 := []
theorem ch_559 : staG tb_X12_told 1 bt_RX12 [] ct_559 [] [] cu_559 10 con_559 = true := by decide +kernel
theorem cto_559 (l : Launch) : CTOK2 l RX12 vwCl gTbl ct_559 := ct2_cons (vl_555 l) ck_RX12_179_555 (ct2_cons (vl_557 l) ck_RX12_183_557 (ct2_cons (vl_558 l) ck_RX12_183_558 (ct2_nil)))
theorem vl_559 (l : Launch) : Vld2 l vwCl gTbl con_559 := conR_ok3 gT_all (hd_559) rfl pn_RX12 tk_X12_told bo_RX12 xo_RX12 (cto_559 l) ch_559 cut_nil
/-- RookHustingModel is -/
noncomputable def con_560 : Con2 := ((yX12_is, cX12_is, 4, (some .boolean)), (8, 200), ([(6, 0, 0), (13, 11, 0)], gi_155, [ac_112, am_2], []), [((0, 0, 0), gi_156, hq_121, [], [1]), ((0, 1, 0), gi_157, hq_121, [], [1])])
theorem hd_560 : con_560.1 = (yX12_is, cX12_is, 4, (some .boolean)) := rfl
noncomputable def gi_239 : GI := jl_n [gp_86, jl_i 0 5]
noncomputable def gi_240 : GI := jl_n [gp_87, jl_i 0 5]
noncomputable def cu_560 : List CUT2 := [((39, [lq 0 6 0, lq 1 13 11, lq 2 0 1, lq 3 1 50], [], gi_239, hq_121), [([(10, 1), (11, (-1))], (-5))], ([(50, (-1))], 5)), ((39, [lq 0 6 0, lq 1 13 11, lq 2 0 0, lq 3 1 50], [], gi_240, hq_121), [], ([(50, (-1))], 5))]
theorem ch_560 : staG tb_X12_is 1 bt_RX12 [] ct_315 [(55, [(0, (2, 0, 9), 0, 695)])] [23, 28] cu_560 25 con_560 = true := by decide +kernel
theorem cc_560 : cu_560.all (cutG tb_X12_is 1 bt_RX12 [] ct_315 [(55, [(0, (2, 0, 9), 0, 695)])] [23, 28] cu_560 25 con_560) = true := by decide +kernel
theorem vl_560 (l : Launch) : Vld2 l vwCl gTbl con_560 := conR_ok3 gT_all (hd_560) rfl pn_RX12 tk_X12_is bo_RX12 xo_RX12 (cto_315 l) ch_560 (cut_all cc_560)
/-- RookHustingModel takes -/
noncomputable def con_561 : Con2 := ((yX12_takes, cX12_takes, 3, (some .boolean)), (9, 223), ([(6, 0, 0), (13, 11, 0)], gi_160, [ac_113, am_2], []), [((0, 0, 0), gi_161, hq_122, [], [1]), ((0, 1, 0), gi_162, hq_123, [], tg_1)])
theorem hd_561 : con_561.1 = (yX12_takes, cX12_takes, 3, (some .boolean)) := rfl
theorem ck_RX12_165_560 : COK2 RX12 vwCl gTbl 165 0 con_560 := ⟨wd_1603, wd_137, mh_X12_is, .inr (.inr ⟨rfl, wd_1600, wd_1602, wd_58, ⟨_, rfl, pd_X12_is⟩, 12, _, TX12, 45, rfl, rfl⟩)⟩
noncomputable def ct_561 : CTB2 := [(2, 165, 0, con_560, [0, 1]), (11, 169, 0, con_313, [0, 1])]
noncomputable def cu_561 : List CUT2 := []
theorem ch_561 : staG tb_X12_takes 1 bt_RX12 [] ct_561 [] [] cu_561 12 con_561 = true := by decide +kernel
theorem cto_561 (l : Launch) : CTOK2 l RX12 vwCl gTbl ct_561 := ct2_cons (vl_560 l) ck_RX12_165_560 (ct2_cons (vl_313 l) ck_RX12_169_313 (ct2_nil))
theorem vl_561 (l : Launch) : Vld2 l vwCl gTbl con_561 := conR_ok3 gT_all (hd_561) rfl pn_RX12 tk_X12_takes bo_RX12 xo_RX12 (cto_561 l) ch_561 cut_nil
/-- RookHustingModel expects -/
noncomputable def con_562 : Con2 := ((yX12_expects, cX12_expects, 2, none), (10, 245), ([(6, 0, 0), (13, 11, 0)], gi_165, [ac_117, am_2], []), [((9, 0, 0), gi_166, hq_124, [], tg_10), ((9, 0, 0), gi_167, hq_125, [], tg_10)])
theorem hd_562 : con_562.1 = (yX12_expects, cX12_expects, 2, none) := rfl
theorem ck_RX12_172_561 : COK2 RX12 vwCl gTbl 172 0 con_561 := ⟨wd_1599, wd_137, mh_X12_takes, .inr (.inr ⟨rfl, wd_1596, wd_1598, wd_57, ⟨_, rfl, pd_X12_takes⟩, 12, _, TX12, 45, rfl, rfl⟩)⟩
noncomputable def ct_562 : CTB2 := [(2, 172, 0, con_561, [0, 1]), (10, 175, 0, con_317, [0])]
noncomputable def cu_562 : List CUT2 := []
theorem ch_562 : staG tb_X12_expects 1 bt_RX12 [] ct_562 [] [] cu_562 10 con_562 = true := by decide +kernel
theorem cto_562 (l : Launch) : CTOK2 l RX12 vwCl gTbl ct_562 := ct2_cons (vl_561 l) ck_RX12_172_561 (ct2_cons (vl_317 l) ck_RX12_175_317 (ct2_nil))
theorem vl_562 (l : Launch) : Vld2 l vwCl gTbl con_562 := conR_ok3 gT_all (hd_562) rfl pn_RX12 tk_X12_expects bo_RX12 xo_RX12 (cto_562 l) ch_562 cut_nil
/-- RookHustingModel in -/
noncomputable def con_563 : Con2 := ((yX12_in, cX12_in, 6, (some .boolean)), (0, 0), ([(4, 0, 0), (3, 0, 0), (3, 9, 0)], gi_146, [], []), [((0, 0, 0), gi_147, [], [], [1]), ((0, 1, 0), [(0, 9), (0, 0), (0, 0), (0, 0)], [], [], [1])])
theorem hd_563 : con_563.1 = (yX12_in, cX12_in, 6, (some .boolean)) := rfl
noncomputable def cu_563 : List CUT2 := []
theorem ch_563 : staG tb_X12_in 1 bt_RX12 [] ct_2 [] [] cu_563 11 con_563 = true := by decide +kernel
theorem vl_563 (l : Launch) : Vld2 l vwCl gTbl con_563 := conR_ok3 gT_all (hd_563) rfl pn_RX12 tk_X12_in bo_RX12 xo_RX12 (cto_2 l) ch_563 cut_nil
/-- RookHustingModel number -/
noncomputable def gi_241 : GI := jl_n [gp_97, jl_i 0 9, gp_99]
noncomputable def con_564 : Con2 := ((yX12_number, cX12_number, 4, (some .int)), (2, 46), ([(6, 0, 0), (0, 0, 0), (0, 9, 0)], gi_170, [ac_123, am_2], []), [((0, 0, 0), gi_171, hq_126, [], tg_1), ((1, 14, 0), gi_241, hq_127, [], tg_1)])
theorem hd_564 : con_564.1 = (yX12_number, cX12_number, 4, (some .int)) := rfl
theorem ck_RX12_91_563 : COK2 RX12 vwCl gTbl 91 1 con_563 := ⟨wd_1544, wd_137, mh_X12_in, .inl ⟨rfl, wd_1542, wd_1543, pd_X12_in⟩⟩
noncomputable def ct_564 : CTB2 := [(1, 153, 0, con_314, [0]), (17, 175, 0, con_317, [0]), (21, 153, 0, con_322, [0]), (21, 153, 0, con_314, [0]), (36, 91, 1, con_563, []), (44, 175, 0, con_324, [0]), (48, 153, 0, con_322, [0]), (48, 153, 0, con_314, [0]), (48, 153, 0, con_325, [0]), (62, 169, 0, con_313, [0, 1])]
noncomputable def cu_564 : List CUT2 := []
theorem ch_564 : staG tb_X12_number 1 bt_RX12 [] ct_564 [] [] cu_564 31 con_564 = true := by decide +kernel
theorem cto_564 (l : Launch) : CTOK2 l RX12 vwCl gTbl ct_564 := ct2_cons (vl_314 l) ck_RX12_153_314 (ct2_cons (vl_317 l) ck_RX12_175_317 (ct2_cons (vl_322 l) ck_RX12_153_322 (ct2_cons (vl_314 l) ck_RX12_153_314 (ct2_cons (vl_563 l) ck_RX12_91_563 (ct2_cons (vl_324 l) ck_RX12_175_324 (ct2_cons (vl_322 l) ck_RX12_153_322 (ct2_cons (vl_314 l) ck_RX12_153_314 (ct2_cons (vl_325 l) ck_RX12_153_325 (ct2_cons (vl_313 l) ck_RX12_169_313 (ct2_nil))))))))))
theorem vl_564 (l : Launch) : Vld2 l vwCl gTbl con_564 := conR_ok3 gT_all (hd_564) rfl pn_RX12 tk_X12_number bo_RX12 xo_RX12 (cto_564 l) ch_564 cut_nil
/-- RookHustingModel number -/
noncomputable def con_565 : Con2 := ((yX12_number, cX12_number, 4, (some .int)), (1, 20), ([(6, 0, 0), (0, 0, 0), (0, 9, 0)], gi_170, [ac_126, am_2], []), [((0, 0, 0), gi_173, hq_128, [], [1])])
theorem hd_565 : con_565.1 = (yX12_number, cX12_number, 4, (some .int)) := rfl
noncomputable def cu_565 : List CUT2 := []
theorem ch_565 : staG tb_X12_number 1 bt_RX12 [] ct_327 [] [] cu_565 13 con_565 = true := by decide +kernel
theorem vl_565 (l : Launch) : Vld2 l vwCl gTbl con_565 := conR_ok3 gT_all (hd_565) rfl pn_RX12 tk_X12_number bo_RX12 xo_RX12 (cto_327 l) ch_565 cut_nil
/-- RookHustingModel told -/
noncomputable def gi_242 : GI := jl_n [gp_104, jl_i 0 9, gp_105]
noncomputable def con_566 : Con2 := ((yX12_told, cX12_told, 4, (some .int)), (11, 266), ([(6, 0, 0), (13, 11, 0), (0, 0, 0), (0, 9, 0)], gi_174, [ac_127, am_2], []), [((0, 0, 0), gi_175, hq_129, [], tg_1), ((1, 49, 0), gi_242, hq_130, [], tg_1)])
theorem hd_566 : con_566.1 = (yX12_told, cX12_told, 4, (some .int)) := rfl
theorem ck_RX12_183_565 : COK2 RX12 vwCl gTbl 183 0 con_565 := ⟨wd_1618, wd_137, mh_X12_number, .inr (.inr ⟨rfl, wd_1615, wd_1617, wd_61, ⟨_, rfl, pd_X12_number⟩, 12, _, TX12, 45, rfl, rfl⟩)⟩
theorem ck_RX12_183_564 : COK2 RX12 vwCl gTbl 183 0 con_564 := ⟨wd_1618, wd_137, mh_X12_number, .inr (.inr ⟨rfl, wd_1615, wd_1617, wd_61, ⟨_, rfl, pd_X12_number⟩, 12, _, TX12, 45, rfl, rfl⟩)⟩
theorem ck_RX12_179_562 : COK2 RX12 vwCl gTbl 179 0 con_562 := ⟨wd_1595, wd_137, mh_X12_expects, .inr (.inr ⟨rfl, wd_1592, wd_1594, wd_56, ⟨_, rfl, pd_X12_expects⟩, 12, _, TX12, 45, rfl, rfl⟩)⟩
noncomputable def ct_566 : CTB2 := [(2, 179, 0, con_562, [0, 1]), (8, 183, 0, con_564, [0, 1]), (8, 183, 0, con_565, [0, 1])]
noncomputable def cu_566 : List CUT2 := []
theorem ch_566 : staG tb_X12_told 1 bt_RX12 [] ct_566 [] [] cu_566 10 con_566 = true := by decide +kernel
theorem cto_566 (l : Launch) : CTOK2 l RX12 vwCl gTbl ct_566 := ct2_cons (vl_562 l) ck_RX12_179_562 (ct2_cons (vl_564 l) ck_RX12_183_564 (ct2_cons (vl_565 l) ck_RX12_183_565 (ct2_nil)))
theorem vl_566 (l : Launch) : Vld2 l vwCl gTbl con_566 := conR_ok3 gT_all (hd_566) rfl pn_RX12 tk_X12_told bo_RX12 xo_RX12 (cto_566 l) ch_566 cut_nil
/-- RookHustingModel is -/
noncomputable def con_567 : Con2 := ((yX12_is, cX12_is, 4, (some .boolean)), (8, 200), ([(6, 0, 0), (13, 11, 0)], gi_185, [ac_131, am_2], []), [((0, 0, 0), gi_186, hq_131, [], [1])])
theorem hd_567 : con_567.1 = (yX12_is, cX12_is, 4, (some .boolean)) := rfl
noncomputable def cu_567 : List CUT2 := [((39, [lq 0 6 0, lq 1 13 11, lq 2 0 0, lq 3 0 0], [], gi_187, hq_131), [], ([], 0))]
theorem ch_567 : staG tb_X12_is 1 bt_RX12 [] ct_344 [(55, [(0, (2, 0, 9), 0, 695)])] [23, 28] cu_567 10 con_567 = true := by decide +kernel
theorem cc_567 : cu_567.all (cutG tb_X12_is 1 bt_RX12 [] ct_344 [(55, [(0, (2, 0, 9), 0, 695)])] [23, 28] cu_567 10 con_567) = true := by decide +kernel
theorem vl_567 (l : Launch) : Vld2 l vwCl gTbl con_567 := conR_ok3 gT_all (hd_567) rfl pn_RX12 tk_X12_is bo_RX12 xo_RX12 (cto_344 l) ch_567 (cut_all cc_567)
/-- RookHustingModel takes -/
noncomputable def con_568 : Con2 := ((yX12_takes, cX12_takes, 3, (some .boolean)), (9, 223), ([(6, 0, 0), (13, 11, 0)], gi_188, [ac_132, am_2], []), [((0, 0, 0), gi_189, hq_132, [], [1])])
theorem hd_568 : con_568.1 = (yX12_takes, cX12_takes, 3, (some .boolean)) := rfl
theorem ck_RX12_165_567 : COK2 RX12 vwCl gTbl 165 0 con_567 := ⟨wd_1603, wd_137, mh_X12_is, .inr (.inr ⟨rfl, wd_1600, wd_1602, wd_58, ⟨_, rfl, pd_X12_is⟩, 12, _, TX12, 45, rfl, rfl⟩)⟩
noncomputable def ct_568 : CTB2 := [(2, 165, 0, con_567, [0, 1])]
noncomputable def cu_568 : List CUT2 := []
theorem ch_568 : staG tb_X12_takes 1 bt_RX12 [] ct_568 [] [] cu_568 10 con_568 = true := by decide +kernel
theorem cto_568 (l : Launch) : CTOK2 l RX12 vwCl gTbl ct_568 := ct2_cons (vl_567 l) ck_RX12_165_567 (ct2_nil)
theorem vl_568 (l : Launch) : Vld2 l vwCl gTbl con_568 := conR_ok3 gT_all (hd_568) rfl pn_RX12 tk_X12_takes bo_RX12 xo_RX12 (cto_568 l) ch_568 cut_nil
/-- RookHustingModel expects -/
noncomputable def con_569 : Con2 := ((yX12_expects, cX12_expects, 2, none), (10, 245), ([(6, 0, 0), (13, 11, 0)], gi_191, [ac_134, am_2], []), [((9, 0, 0), gi_191, hq_133, [], [])])
theorem hd_569 : con_569.1 = (yX12_expects, cX12_expects, 2, none) := rfl
theorem ck_RX12_172_568 : COK2 RX12 vwCl gTbl 172 0 con_568 := ⟨wd_1599, wd_137, mh_X12_takes, .inr (.inr ⟨rfl, wd_1596, wd_1598, wd_57, ⟨_, rfl, pd_X12_takes⟩, 12, _, TX12, 45, rfl, rfl⟩)⟩
noncomputable def ct_569 : CTB2 := [(2, 172, 0, con_568, [0, 1]), (10, 175, 0, con_346, [0])]
noncomputable def cu_569 : List CUT2 := []
theorem ch_569 : staG tb_X12_expects 1 bt_RX12 [] ct_569 [] [] cu_569 10 con_569 = true := by decide +kernel
theorem cto_569 (l : Launch) : CTOK2 l RX12 vwCl gTbl ct_569 := ct2_cons (vl_568 l) ck_RX12_172_568 (ct2_cons (vl_346 l) ck_RX12_175_346 (ct2_nil))
theorem vl_569 (l : Launch) : Vld2 l vwCl gTbl con_569 := conR_ok3 gT_all (hd_569) rfl pn_RX12 tk_X12_expects bo_RX12 xo_RX12 (cto_569 l) ch_569 cut_nil
/-- RookHustingModel number -/
noncomputable def con_570 : Con2 := ((yX12_number, cX12_number, 4, (some .int)), (1, 20), ([(6, 0, 0), (0, 0, 0), (0, 9, 0)], gi_192, [ac_135, am_2], []), [((0, 0, 0), gi_193, hq_134, [], [1])])
theorem hd_570 : con_570.1 = (yX12_number, cX12_number, 4, (some .int)) := rfl
noncomputable def cu_570 : List CUT2 := []
theorem ch_570 : staG tb_X12_number 1 bt_RX12 [] ct_348 [] [] cu_570 13 con_570 = true := by decide +kernel
theorem vl_570 (l : Launch) : Vld2 l vwCl gTbl con_570 := conR_ok3 gT_all (hd_570) rfl pn_RX12 tk_X12_number bo_RX12 xo_RX12 (cto_348 l) ch_570 cut_nil
/-- RookHustingModel told -/
noncomputable def con_571 : Con2 := ((yX12_told, cX12_told, 4, (some .int)), (11, 266), ([(6, 0, 0), (13, 11, 0), (0, 0, 0), (0, 9, 0)], gi_194, [ac_136, am_2], []), [((0, 0, 0), gi_195, hq_135, [], [1])])
theorem hd_571 : con_571.1 = (yX12_told, cX12_told, 4, (some .int)) := rfl
theorem ck_RX12_183_570 : COK2 RX12 vwCl gTbl 183 0 con_570 := ⟨wd_1618, wd_137, mh_X12_number, .inr (.inr ⟨rfl, wd_1615, wd_1617, wd_61, ⟨_, rfl, pd_X12_number⟩, 12, _, TX12, 45, rfl, rfl⟩)⟩
theorem ck_RX12_179_569 : COK2 RX12 vwCl gTbl 179 0 con_569 := ⟨wd_1595, wd_137, mh_X12_expects, .inr (.inr ⟨rfl, wd_1592, wd_1594, wd_56, ⟨_, rfl, pd_X12_expects⟩, 12, _, TX12, 45, rfl, rfl⟩)⟩
noncomputable def ct_571 : CTB2 := [(2, 179, 0, con_569, [0, 1]), (8, 183, 0, con_570, [0, 1])]
noncomputable def cu_571 : List CUT2 := []
theorem ch_571 : staG tb_X12_told 1 bt_RX12 [] ct_571 [] [] cu_571 10 con_571 = true := by decide +kernel
theorem cto_571 (l : Launch) : CTOK2 l RX12 vwCl gTbl ct_571 := ct2_cons (vl_569 l) ck_RX12_179_569 (ct2_cons (vl_570 l) ck_RX12_183_570 (ct2_nil))
theorem vl_571 (l : Launch) : Vld2 l vwCl gTbl con_571 := conR_ok3 gT_all (hd_571) rfl pn_RX12 tk_X12_told bo_RX12 xo_RX12 (cto_571 l) ch_571 cut_nil
/-- RookHustingModel isFull -/
noncomputable def gi_243 : GI := jl_n [gp_120, gp_111, gp_148]
noncomputable def con_572 : Con2 := ((yX12_isFull, cX12_isFull, 1, (some .boolean)), (9, 223), ([(6, 0, 0)], gi_202, [ac_154, am_2, ac_153], []), [((0, 0, 0), gi_243, hq_145, [], [1]), ((0, 1, 0), gi_203, hq_145, [], [1])])
theorem hd_572 : con_572.1 = (yX12_isFull, cX12_isFull, 1, (some .boolean)) := rfl
noncomputable def ft_572 : CTB2 := [(3, 165, 0, con_362, [0, 1]), (22, 165, 0, con_363, [0, 1]), (44, 165, 0, con_548, [0, 1]), (63, 165, 0, con_371, [0, 1])]
theorem fto_572 (l : Launch) {es : List va_E} (f2 : isFact 2 0 [0, 1] es) (f5 : isFact 5 0 [0, 1] es) (f8 : isFact 8 1 [0, 1] es) (f12 : isFact 12 1 [0, 1] es) : FTOK2 l RX12 vwCl gTbl es ft_572 := ft2_cons (fun ec he => hv_362 l (f2 ec he)) ck_RX12_165_362 (ft2_cons (fun ec he => hv_363 l (f5 ec he)) ck_RX12_165_363 (ft2_cons (fun ec he => hv_548 l (f8 ec he)) ck_RX12_165_548 (ft2_cons (fun ec he => hv_371 l (f12 ec he)) ck_RX12_165_371 (ft2_nil))))
noncomputable def cu_572 : List CUT2 := []
theorem ch_572 : staG tb_X12_isFull 1 bt_RX12 ft_572 ct_2 [] [] cu_572 33 con_572 = true := by decide +kernel
theorem hv_572 (l : Launch) {es : List va_E} (f2 : isFact 2 0 [0, 1] es) (f5 : isFact 5 0 [0, 1] es) (f8 : isFact 8 1 [0, 1] es) (f12 : isFact 12 1 [0, 1] es) : VldE l vwCl gTbl con_572 es := conE_ok3 gT_all (hd_572) rfl pn_RX12 tk_X12_isFull bo_RX12 xo_RX12 (fto_572 l f2 f5 f8 f12) (cto_2 l) ch_572 cut_nil
noncomputable def gh_573 : GI := [(0, 0), (0, 0), (0, 0), (0, 0), (0, 0), (0, 0), (0, 0), (0, 0), (0, 0), (0, 0), (0, 700), (0, 700), (0, 4), (0, 0), (0, 0), (0, 0), (0, 0), (0, 0), (0, 0), (0, 0), (0, 0), (0, 0), (0, 0), (0, 0), (0, 0), (0, 0), (0, 0), (0, 0), (0, 0), (0, 0), (0, 0), (0, 0), (0, 0), (0, 0), (0, 0), (0, 0), (0, 0), (0, 0), (0, 0), (0, 0), (0, 0), (0, 0), (0, 0), (0, 0), (0, 0), (0, 0), (0, 0)]
noncomputable def fh_573 : List AV := [(8, 2, 0), (8, 3, 0), (8, 4, 0), (8, 5, 0), (6, 1, 0), (8, 7, 0), (8, 8, 0), (8, 9, 0), (1, 10, 0), (1, 11, 0), (1, 12, 0), (8, 13, 0), (0, 0, 0), (8, 15, 0), (8, 16, 0), (8, 17, 0), (8, 18, 0), (8, 19, 0), (8, 20, 0), (8, 21, 0), (8, 22, 0), (8, 23, 0), (8, 24, 0), (8, 25, 0), (8, 26, 0), (8, 27, 0), (8, 28, 0), (8, 29, 0), (8, 30, 0), (8, 31, 0), (8, 32, 0), (8, 33, 0), (8, 34, 0), (8, 35, 0), (8, 36, 0), (8, 37, 0), (8, 38, 0), (8, 39, 0), (8, 40, 0), (8, 41, 0), (8, 42, 0), (8, 43, 0), (8, 44, 0), (8, 45, 0), (8, 46, 0)]
noncomputable def con_573 : Con2 := ((yX12_is, cX12_is, 4, some .boolean), (8, 200), ([(6, 0, 0), (13, 5, 0)], gh_573, [.inl (12, fh_573), am_2], []), [((0, 1, 0), gh_573 ++ [(0, 0)], [(false, .inl (12, fh_573)), (false, am_2)], [], [1])])
theorem hv_573 (l : Launch) {ec : List va_E} (h : ((1 = 1 → isE 5 ec) ∧ (1 ≠ 1 → ¬ isE 5 ec))) : VldE l vwCl gTbl con_573 ec := is_vld (i := 5) (v := 1) (G := gh_573) (fsA := fh_573) (sg := [(700, (2, (-128), 127))]) (by decide) (by decide +kernel) (a12 := (0, 0, 0)) (a10 := (1, 12, 0)) (a8 := (1, 10, 0)) (a9 := (1, 11, 0)) rfl rfl rfl rfl rfl (q12 := (0, 0)) (q10 := (0, 4)) (q8 := (0, 700)) (q9 := (0, 700)) rfl rfl rfl rfl (by decide +kernel) (by decide +kernel) (Or.inl ⟨h.1 rfl, rfl⟩)
/-- RookHustingModel isFull -/
noncomputable def gi_244 : GI := jl_n [gp_150, gp_12, gp_127]
noncomputable def gi_245 : GI := jl_n [gp_120, gp_110, jl_i 8 8, gp_12, gp_127]
noncomputable def con_574 : Con2 := ((yX12_isFull, cX12_isFull, 1, (some .boolean)), (9, 223), ([(6, 0, 0)], gi_202, [ac_154, am_2, ac_153], []), [((0, 0, 0), gi_244, hq_145, [], [1]), ((0, 1, 0), gi_245, hq_145, [], [1])])
theorem hd_574 : con_574.1 = (yX12_isFull, cX12_isFull, 1, (some .boolean)) := rfl
noncomputable def ft_574 : CTB2 := [(3, 165, 0, con_362, [0, 1]), (22, 165, 0, con_573, [0, 1]), (44, 165, 0, con_364, [0, 1]), (63, 165, 0, con_365, [0, 1])]
theorem ck_RX12_165_573 : COK2 RX12 vwCl gTbl 165 0 con_573 := ⟨wd_1603, wd_137, mh_X12_is, .inr (.inr ⟨rfl, wd_1600, wd_1602, wd_58, ⟨_, rfl, pd_X12_is⟩, 12, _, TX12, 45, rfl, rfl⟩)⟩
theorem fto_574 (l : Launch) {es : List va_E} (f2 : isFact 2 0 [0, 1] es) (f5 : isFact 5 1 [0, 1] es) (f8 : isFact 8 0 [0, 1] es) (f12 : isFact 12 0 [0, 1] es) : FTOK2 l RX12 vwCl gTbl es ft_574 := ft2_cons (fun ec he => hv_362 l (f2 ec he)) ck_RX12_165_362 (ft2_cons (fun ec he => hv_573 l (f5 ec he)) ck_RX12_165_573 (ft2_cons (fun ec he => hv_364 l (f8 ec he)) ck_RX12_165_364 (ft2_cons (fun ec he => hv_365 l (f12 ec he)) ck_RX12_165_365 (ft2_nil))))
noncomputable def cu_574 : List CUT2 := []
theorem ch_574 : staG tb_X12_isFull 1 bt_RX12 ft_574 ct_2 [] [] cu_574 26 con_574 = true := by decide +kernel
theorem hv_574 (l : Launch) {es : List va_E} (f2 : isFact 2 0 [0, 1] es) (f5 : isFact 5 1 [0, 1] es) (f8 : isFact 8 0 [0, 1] es) (f12 : isFact 12 0 [0, 1] es) : VldE l vwCl gTbl con_574 es := conE_ok3 gT_all (hd_574) rfl pn_RX12 tk_X12_isFull bo_RX12 xo_RX12 (fto_574 l f2 f5 f8 f12) (cto_2 l) ch_574 cut_nil
/-- RookHustingModel takes -/
noncomputable def con_575 : Con2 := ((yX12_takes, cX12_takes, 3, (some .boolean)), (9, 223), ([(6, 0, 0), (13, 5, 0)], gi_160, [ac_113, am_2], []), [((0, 1, 0), gi_236, hq_123, [], tg_1)])
theorem hd_575 : con_575.1 = (yX12_takes, cX12_takes, 3, (some .boolean)) := rfl
noncomputable def ft_575 : CTB2 := [(2, 165, 0, con_573, [0, 1])]
theorem fto_575 (l : Launch) {es : List va_E} (f5 : isFact 5 1 [0, 1] es) : FTOK2 l RX12 vwCl gTbl es ft_575 := ft2_cons (fun ec he => hv_573 l (f5 ec he)) ck_RX12_165_573 (ft2_nil)
noncomputable def cu_575 : List CUT2 := []
theorem ch_575 : staG tb_X12_takes 1 bt_RX12 ft_575 ct_552 [] [] cu_575 12 con_575 = true := by decide +kernel
theorem hv_575 (l : Launch) {es : List va_E} (f5 : isFact 5 1 [0, 1] es) : VldE l vwCl gTbl con_575 es := conE_ok3 gT_all (hd_575) rfl pn_RX12 tk_X12_takes bo_RX12 xo_RX12 (fto_575 l f5) (cto_552 l) ch_575 cut_nil
/-- RookHustingModel number -/
noncomputable def gi_246 : GI := jl_n [gp_131, gp_92]
noncomputable def gi_247 : GI := jl_n [gp_131, gp_100]
noncomputable def con_576 : Con2 := ((yX12_number, cX12_number, 4, (some .int)), (1, 20), ([(6, 0, 0), (0, 0, 0), (1, 2, 0)], gi_246, [ac_155, am_2], []), [((0, 0, 0), gi_247, hq_146, [], [1])])
theorem hd_576 : con_576.1 = (yX12_number, cX12_number, 4, (some .int)) := rfl
noncomputable def cu_576 : List CUT2 := []
theorem ch_576 : staG tb_X12_number 1 bt_RX12 [] ct_391 [] [] cu_576 13 con_576 = true := by decide +kernel
theorem vl_576 (l : Launch) : Vld2 l vwCl gTbl con_576 := conR_ok3 gT_all (hd_576) rfl pn_RX12 tk_X12_number bo_RX12 xo_RX12 (cto_391 l) ch_576 cut_nil
/-- RookHustingModel in -/
noncomputable def gi_248 : GI := jl_n [jl_u, gp_52]
noncomputable def gi_249 : GI := jl_n [jl_u, gp_151]
noncomputable def con_577 : Con2 := ((yX12_in, cX12_in, 6, (some .boolean)), (0, 0), ([(4, 0, 0), (3, 0, 0), (4, 2, 0)], gi_248, [], []), [((0, 0, 0), gi_249, [], [], [1]), ((0, 1, 0), [(0, 4), (0, 0), (0, 4), (0, 0)], [], [], [1])])
theorem hd_577 : con_577.1 = (yX12_in, cX12_in, 6, (some .boolean)) := rfl
noncomputable def cu_577 : List CUT2 := []
theorem ch_577 : staG tb_X12_in 1 bt_RX12 [] ct_2 [] [] cu_577 11 con_577 = true := by decide +kernel
theorem vl_577 (l : Launch) : Vld2 l vwCl gTbl con_577 := conR_ok3 gT_all (hd_577) rfl pn_RX12 tk_X12_in bo_RX12 xo_RX12 (cto_2 l) ch_577 cut_nil
/-- RookHustingModel number -/
noncomputable def gi_250 : GI := jl_n [gp_131, gp_93, jl_z 42, gp_94, gp_95]
noncomputable def con_578 : Con2 := ((yX12_number, cX12_number, 4, (some .int)), (2, 46), ([(6, 0, 0), (0, 0, 0), (1, 2, 0)], gi_246, [ac_123, am_2], []), [((0, 0, 0), gi_250, hq_126, [], tg_1), ((1, 14, 0), gi_212, hq_127, [], tg_1)])
theorem hd_578 : con_578.1 = (yX12_number, cX12_number, 4, (some .int)) := rfl
theorem ck_RX12_91_577 : COK2 RX12 vwCl gTbl 91 1 con_577 := ⟨wd_1544, wd_137, mh_X12_in, .inl ⟨rfl, wd_1542, wd_1543, pd_X12_in⟩⟩
noncomputable def ct_578 : CTB2 := [(1, 153, 0, con_314, [0]), (17, 175, 0, con_317, [0]), (21, 153, 0, con_322, [0]), (21, 153, 0, con_314, [0]), (36, 91, 1, con_577, []), (44, 175, 0, con_324, [0]), (48, 153, 0, con_322, [0]), (48, 153, 0, con_314, [0]), (48, 153, 0, con_325, [0]), (62, 169, 0, con_313, [0, 1])]
noncomputable def cu_578 : List CUT2 := []
theorem ch_578 : staG tb_X12_number 1 bt_RX12 [] ct_578 [] [] cu_578 31 con_578 = true := by decide +kernel
theorem cto_578 (l : Launch) : CTOK2 l RX12 vwCl gTbl ct_578 := ct2_cons (vl_314 l) ck_RX12_153_314 (ct2_cons (vl_317 l) ck_RX12_175_317 (ct2_cons (vl_322 l) ck_RX12_153_322 (ct2_cons (vl_314 l) ck_RX12_153_314 (ct2_cons (vl_577 l) ck_RX12_91_577 (ct2_cons (vl_324 l) ck_RX12_175_324 (ct2_cons (vl_322 l) ck_RX12_153_322 (ct2_cons (vl_314 l) ck_RX12_153_314 (ct2_cons (vl_325 l) ck_RX12_153_325 (ct2_cons (vl_313 l) ck_RX12_169_313 (ct2_nil))))))))))
theorem vl_578 (l : Launch) : Vld2 l vwCl gTbl con_578 := conR_ok3 gT_all (hd_578) rfl pn_RX12 tk_X12_number bo_RX12 xo_RX12 (cto_578 l) ch_578 cut_nil
/-- RookHustingModel number -/
noncomputable def gi_251 : GI := jl_n [gp_130, gp_108]
noncomputable def gi_252 : GI := jl_n [gp_130, gp_107, jl_m 0 700, jl_z 32]
noncomputable def con_579 : Con2 := ((yX12_number, cX12_number, 4, (some .int)), (1, 20), ([(6, 0, 0), (0, 0, 0), (1, 2, 0)], gi_251, [ac_135, am_2], []), [((0, 0, 0), gi_252, hq_134, [], [1])])
theorem hd_579 : con_579.1 = (yX12_number, cX12_number, 4, (some .int)) := rfl
noncomputable def cu_579 : List CUT2 := []
theorem ch_579 : staG tb_X12_number 1 bt_RX12 [] ct_348 [] [] cu_579 13 con_579 = true := by decide +kernel
theorem vl_579 (l : Launch) : Vld2 l vwCl gTbl con_579 := conR_ok3 gT_all (hd_579) rfl pn_RX12 tk_X12_number bo_RX12 xo_RX12 (cto_348 l) ch_579 cut_nil
/-- RookHustingModel readHedge -/
noncomputable def gi_253 : GI := jl_n [gp_137, jl_z 54]
noncomputable def ac_191 : AC := .inr (1, jl_n [sp_46, sp_22, sp_10])
noncomputable def hq_176 : HP := [(true, ac_149), (true, ac_191), (false, am_2)]
noncomputable def gi_254 : GI := jl_n [jl_z 8, gp_96, gp_94, gp_89, gp_153, gp_112, gp_132, gp_135, jl_z 56]
noncomputable def hq_177 : HP := [(true, ac_151), (true, ac_191), (false, am_2)]
noncomputable def con_580 : Con2 := ((yX12_readHedge, cX12_readHedge, 2, none), (3, 69), ([(6, 0, 0)], gi_215, [ac_148, ac_156, am_2], []), [((9, 0, 0), gi_253, hq_176, [], tg_11), ((9, 0, 0), gi_254, hq_177, [], tg_11)])
theorem hd_580 : con_580.1 = (yX12_readHedge, cX12_readHedge, 2, none) := rfl
theorem ck_RX12_183_579 : COK2 RX12 vwCl gTbl 183 0 con_579 := ⟨wd_1618, wd_137, mh_X12_number, .inr (.inr ⟨rfl, wd_1615, wd_1617, wd_61, ⟨_, rfl, pd_X12_number⟩, 12, _, TX12, 45, rfl, rfl⟩)⟩
theorem ck_RX12_183_578 : COK2 RX12 vwCl gTbl 183 0 con_578 := ⟨wd_1618, wd_137, mh_X12_number, .inr (.inr ⟨rfl, wd_1615, wd_1617, wd_61, ⟨_, rfl, pd_X12_number⟩, 12, _, TX12, 45, rfl, rfl⟩)⟩
theorem ck_RX12_183_576 : COK2 RX12 vwCl gTbl 183 0 con_576 := ⟨wd_1618, wd_137, mh_X12_number, .inr (.inr ⟨rfl, wd_1615, wd_1617, wd_61, ⟨_, rfl, pd_X12_number⟩, 12, _, TX12, 45, rfl, rfl⟩)⟩
noncomputable def ct_580 : CTB2 := [(27, 183, 0, con_385, [0, 2]), (32, 153, 0, con_314, [0]), (32, 153, 0, con_343, [0]), (61, 175, 0, con_324, [0]), (81, 183, 0, con_576, [0, 2]), (81, 183, 0, con_578, [0, 2]), (81, 183, 0, con_579, [0, 2])]
noncomputable def cu_580 : List CUT2 := []
theorem ch_580 : staG tb_X12_readHedge 1 bt_RX12 [] ct_580 [] [] cu_580 65 con_580 = true := by decide +kernel
theorem cto_580 (l : Launch) : CTOK2 l RX12 vwCl gTbl ct_580 := ct2_cons (vl_385 l) ck_RX12_183_385 (ct2_cons (vl_314 l) ck_RX12_153_314 (ct2_cons (vl_343 l) ck_RX12_153_343 (ct2_cons (vl_324 l) ck_RX12_175_324 (ct2_cons (vl_576 l) ck_RX12_183_576 (ct2_cons (vl_578 l) ck_RX12_183_578 (ct2_cons (vl_579 l) ck_RX12_183_579 (ct2_nil)))))))
theorem vl_580 (l : Launch) : Vld2 l vwCl gTbl con_580 := conR_ok3 gT_all (hd_580) rfl pn_RX12 tk_X12_readHedge bo_RX12 xo_RX12 (cto_580 l) ch_580 cut_nil
/-- RookHustingModel isFull -/
noncomputable def gi_255 : GI := jl_n [gp_150, jl_i 0 5, gp_128]
noncomputable def con_581 : Con2 := ((yX12_isFull, cX12_isFull, 1, (some .boolean)), (9, 223), ([(6, 0, 0)], gi_202, [ac_154, am_2, ac_153], []), [((0, 0, 0), gi_255, hq_145, [], [1]), ((0, 1, 0), gi_203, hq_145, [], [1])])
theorem hd_581 : con_581.1 = (yX12_isFull, cX12_isFull, 1, (some .boolean)) := rfl
noncomputable def ft_581 : CTB2 := [(3, 165, 0, con_362, [0, 1]), (22, 165, 0, con_573, [0, 1]), (44, 165, 0, con_364, [0, 1]), (63, 165, 0, con_371, [0, 1])]
theorem fto_581 (l : Launch) {es : List va_E} (f2 : isFact 2 0 [0, 1] es) (f5 : isFact 5 1 [0, 1] es) (f8 : isFact 8 0 [0, 1] es) (f12 : isFact 12 1 [0, 1] es) : FTOK2 l RX12 vwCl gTbl es ft_581 := ft2_cons (fun ec he => hv_362 l (f2 ec he)) ck_RX12_165_362 (ft2_cons (fun ec he => hv_573 l (f5 ec he)) ck_RX12_165_573 (ft2_cons (fun ec he => hv_364 l (f8 ec he)) ck_RX12_165_364 (ft2_cons (fun ec he => hv_371 l (f12 ec he)) ck_RX12_165_371 (ft2_nil))))
noncomputable def cu_581 : List CUT2 := []
theorem ch_581 : staG tb_X12_isFull 1 bt_RX12 ft_581 ct_2 [] [] cu_581 33 con_581 = true := by decide +kernel
theorem hv_581 (l : Launch) {es : List va_E} (f2 : isFact 2 0 [0, 1] es) (f5 : isFact 5 1 [0, 1] es) (f8 : isFact 8 0 [0, 1] es) (f12 : isFact 12 1 [0, 1] es) : VldE l vwCl gTbl con_581 es := conE_ok3 gT_all (hd_581) rfl pn_RX12 tk_X12_isFull bo_RX12 xo_RX12 (fto_581 l f2 f5 f8 f12) (cto_2 l) ch_581 cut_nil
/-- RookHustingModel isFull -/
noncomputable def gi_256 : GI := jl_n [gp_150, gp_147]
noncomputable def con_582 : Con2 := ((yX12_isFull, cX12_isFull, 1, (some .boolean)), (9, 223), ([(6, 0, 0)], gi_202, [ac_154, am_2, ac_153], []), [((0, 0, 0), gi_256, hq_145, [], [1]), ((0, 1, 0), gi_203, hq_145, [], [1])])
theorem hd_582 : con_582.1 = (yX12_isFull, cX12_isFull, 1, (some .boolean)) := rfl
noncomputable def ft_582 : CTB2 := [(3, 165, 0, con_362, [0, 1]), (22, 165, 0, con_573, [0, 1]), (44, 165, 0, con_548, [0, 1]), (63, 165, 0, con_365, [0, 1])]
theorem fto_582 (l : Launch) {es : List va_E} (f2 : isFact 2 0 [0, 1] es) (f5 : isFact 5 1 [0, 1] es) (f8 : isFact 8 1 [0, 1] es) (f12 : isFact 12 0 [0, 1] es) : FTOK2 l RX12 vwCl gTbl es ft_582 := ft2_cons (fun ec he => hv_362 l (f2 ec he)) ck_RX12_165_362 (ft2_cons (fun ec he => hv_573 l (f5 ec he)) ck_RX12_165_573 (ft2_cons (fun ec he => hv_548 l (f8 ec he)) ck_RX12_165_548 (ft2_cons (fun ec he => hv_365 l (f12 ec he)) ck_RX12_165_365 (ft2_nil))))
noncomputable def cu_582 : List CUT2 := []
theorem ch_582 : staG tb_X12_isFull 1 bt_RX12 ft_582 ct_2 [] [] cu_582 32 con_582 = true := by decide +kernel
theorem hv_582 (l : Launch) {es : List va_E} (f2 : isFact 2 0 [0, 1] es) (f5 : isFact 5 1 [0, 1] es) (f8 : isFact 8 1 [0, 1] es) (f12 : isFact 12 0 [0, 1] es) : VldE l vwCl gTbl con_582 es := conE_ok3 gT_all (hd_582) rfl pn_RX12 tk_X12_isFull bo_RX12 xo_RX12 (fto_582 l f2 f5 f8 f12) (cto_2 l) ch_582 cut_nil
/-- RookHustingModel isFull -/
noncomputable def gi_257 : GI := jl_n [gp_150, gp_148]
noncomputable def con_583 : Con2 := ((yX12_isFull, cX12_isFull, 1, (some .boolean)), (9, 223), ([(6, 0, 0)], gi_202, [ac_154, am_2, ac_153], []), [((0, 0, 0), gi_257, hq_145, [], [1]), ((0, 1, 0), gi_203, hq_145, [], [1])])
theorem hd_583 : con_583.1 = (yX12_isFull, cX12_isFull, 1, (some .boolean)) := rfl
noncomputable def ft_583 : CTB2 := [(3, 165, 0, con_362, [0, 1]), (22, 165, 0, con_573, [0, 1]), (44, 165, 0, con_548, [0, 1]), (63, 165, 0, con_371, [0, 1])]
theorem fto_583 (l : Launch) {es : List va_E} (f2 : isFact 2 0 [0, 1] es) (f5 : isFact 5 1 [0, 1] es) (f8 : isFact 8 1 [0, 1] es) (f12 : isFact 12 1 [0, 1] es) : FTOK2 l RX12 vwCl gTbl es ft_583 := ft2_cons (fun ec he => hv_362 l (f2 ec he)) ck_RX12_165_362 (ft2_cons (fun ec he => hv_573 l (f5 ec he)) ck_RX12_165_573 (ft2_cons (fun ec he => hv_548 l (f8 ec he)) ck_RX12_165_548 (ft2_cons (fun ec he => hv_371 l (f12 ec he)) ck_RX12_165_371 (ft2_nil))))
noncomputable def cu_583 : List CUT2 := []
theorem ch_583 : staG tb_X12_isFull 1 bt_RX12 ft_583 ct_2 [] [] cu_583 39 con_583 = true := by decide +kernel
theorem hv_583 (l : Launch) {es : List va_E} (f2 : isFact 2 0 [0, 1] es) (f5 : isFact 5 1 [0, 1] es) (f8 : isFact 8 1 [0, 1] es) (f12 : isFact 12 1 [0, 1] es) : VldE l vwCl gTbl con_583 es := conE_ok3 gT_all (hd_583) rfl pn_RX12 tk_X12_isFull bo_RX12 xo_RX12 (fto_583 l f2 f5 f8 f12) (cto_2 l) ch_583 cut_nil
noncomputable def gh_584 : GI := [(0, 0), (0, 0), (0, 0), (0, 0), (0, 0), (0, 0), (0, 0), (0, 0), (0, 0), (0, 0), (0, 700), (0, 700), (0, 4), (0, 0), (0, 0), (0, 0), (0, 0), (0, 0), (0, 0), (0, 0), (0, 0), (0, 0), (0, 0), (0, 0), (0, 0), (0, 0), (0, 0), (0, 0), (0, 0), (0, 0), (0, 0), (0, 0), (0, 0), (0, 0), (0, 0), (0, 0), (0, 0), (0, 0), (0, 0), (0, 0), (0, 0), (0, 0), (0, 0), (0, 0), (0, 0), (0, 0), (0, 0)]
noncomputable def fh_584 : List AV := [(8, 2, 0), (8, 3, 0), (8, 4, 0), (8, 5, 0), (6, 1, 0), (8, 7, 0), (8, 8, 0), (8, 9, 0), (1, 10, 0), (1, 11, 0), (1, 12, 0), (8, 13, 0), (0, 0, 0), (8, 15, 0), (8, 16, 0), (8, 17, 0), (8, 18, 0), (8, 19, 0), (8, 20, 0), (8, 21, 0), (8, 22, 0), (8, 23, 0), (8, 24, 0), (8, 25, 0), (8, 26, 0), (8, 27, 0), (8, 28, 0), (8, 29, 0), (8, 30, 0), (8, 31, 0), (8, 32, 0), (8, 33, 0), (8, 34, 0), (8, 35, 0), (8, 36, 0), (8, 37, 0), (8, 38, 0), (8, 39, 0), (8, 40, 0), (8, 41, 0), (8, 42, 0), (8, 43, 0), (8, 44, 0), (8, 45, 0), (8, 46, 0)]
noncomputable def con_584 : Con2 := ((yX12_is, cX12_is, 4, some .boolean), (8, 200), ([(6, 0, 0), (13, 2, 0)], gh_584, [.inl (12, fh_584), am_2], []), [((0, 1, 0), gh_584 ++ [(0, 0)], [(false, .inl (12, fh_584)), (false, am_2)], [], [1])])
theorem hv_584 (l : Launch) {ec : List va_E} (h : ((1 = 1 → isE 2 ec) ∧ (1 ≠ 1 → ¬ isE 2 ec))) : VldE l vwCl gTbl con_584 ec := is_vld (i := 2) (v := 1) (G := gh_584) (fsA := fh_584) (sg := [(700, (2, (-128), 127))]) (by decide) (by decide +kernel) (a12 := (0, 0, 0)) (a10 := (1, 12, 0)) (a8 := (1, 10, 0)) (a9 := (1, 11, 0)) rfl rfl rfl rfl rfl (q12 := (0, 0)) (q10 := (0, 4)) (q8 := (0, 700)) (q9 := (0, 700)) rfl rfl rfl rfl (by decide +kernel) (by decide +kernel) (Or.inl ⟨h.1 rfl, rfl⟩)
/-- RookHustingModel isFull -/
noncomputable def gi_258 : GI := jl_n [gp_154, gp_13, gp_127]
noncomputable def gi_259 : GI := jl_n [gp_149, jl_i 5 5, gp_13, gp_127]
noncomputable def con_585 : Con2 := ((yX12_isFull, cX12_isFull, 1, (some .boolean)), (9, 223), ([(6, 0, 0)], gi_202, [ac_154, am_2, ac_153], []), [((0, 0, 0), gi_258, hq_145, [], [1]), ((0, 1, 0), gi_259, hq_145, [], [1])])
theorem hd_585 : con_585.1 = (yX12_isFull, cX12_isFull, 1, (some .boolean)) := rfl
noncomputable def ft_585 : CTB2 := [(3, 165, 0, con_584, [0, 1]), (22, 165, 0, con_363, [0, 1]), (44, 165, 0, con_364, [0, 1]), (63, 165, 0, con_365, [0, 1])]
theorem ck_RX12_165_584 : COK2 RX12 vwCl gTbl 165 0 con_584 := ⟨wd_1603, wd_137, mh_X12_is, .inr (.inr ⟨rfl, wd_1600, wd_1602, wd_58, ⟨_, rfl, pd_X12_is⟩, 12, _, TX12, 45, rfl, rfl⟩)⟩
theorem fto_585 (l : Launch) {es : List va_E} (f2 : isFact 2 1 [0, 1] es) (f5 : isFact 5 0 [0, 1] es) (f8 : isFact 8 0 [0, 1] es) (f12 : isFact 12 0 [0, 1] es) : FTOK2 l RX12 vwCl gTbl es ft_585 := ft2_cons (fun ec he => hv_584 l (f2 ec he)) ck_RX12_165_584 (ft2_cons (fun ec he => hv_363 l (f5 ec he)) ck_RX12_165_363 (ft2_cons (fun ec he => hv_364 l (f8 ec he)) ck_RX12_165_364 (ft2_cons (fun ec he => hv_365 l (f12 ec he)) ck_RX12_165_365 (ft2_nil))))
noncomputable def cu_585 : List CUT2 := []
theorem ch_585 : staG tb_X12_isFull 1 bt_RX12 ft_585 ct_2 [] [] cu_585 26 con_585 = true := by decide +kernel
theorem hv_585 (l : Launch) {es : List va_E} (f2 : isFact 2 1 [0, 1] es) (f5 : isFact 5 0 [0, 1] es) (f8 : isFact 8 0 [0, 1] es) (f12 : isFact 12 0 [0, 1] es) : VldE l vwCl gTbl con_585 es := conE_ok3 gT_all (hd_585) rfl pn_RX12 tk_X12_isFull bo_RX12 xo_RX12 (fto_585 l f2 f5 f8 f12) (cto_2 l) ch_585 cut_nil
/-- RookHustingModel takes -/
noncomputable def con_586 : Con2 := ((yX12_takes, cX12_takes, 3, (some .boolean)), (9, 223), ([(6, 0, 0), (13, 2, 0)], gi_160, [ac_113, am_2], []), [((0, 1, 0), gi_236, hq_123, [], tg_1)])
theorem hd_586 : con_586.1 = (yX12_takes, cX12_takes, 3, (some .boolean)) := rfl
noncomputable def ft_586 : CTB2 := [(2, 165, 0, con_584, [0, 1])]
theorem fto_586 (l : Launch) {es : List va_E} (f2 : isFact 2 1 [0, 1] es) : FTOK2 l RX12 vwCl gTbl es ft_586 := ft2_cons (fun ec he => hv_584 l (f2 ec he)) ck_RX12_165_584 (ft2_nil)
noncomputable def cu_586 : List CUT2 := []
theorem ch_586 : staG tb_X12_takes 1 bt_RX12 ft_586 ct_552 [] [] cu_586 12 con_586 = true := by decide +kernel
theorem hv_586 (l : Launch) {es : List va_E} (f2 : isFact 2 1 [0, 1] es) : VldE l vwCl gTbl con_586 es := conE_ok3 gT_all (hd_586) rfl pn_RX12 tk_X12_takes bo_RX12 xo_RX12 (fto_586 l f2) (cto_552 l) ch_586 cut_nil
/-- RookHustingModel is -/
noncomputable def con_587 : Con2 := ((yX12_is, cX12_is, 4, (some .boolean)), (8, 200), ([(6, 0, 0), (13, 0, 0)], gi_155, [ac_112, am_2], []), [((0, 0, 0), gi_156, hq_121, [], [1]), ((0, 1, 0), gi_157, hq_121, [], [1])])
theorem hd_587 : con_587.1 = (yX12_is, cX12_is, 4, (some .boolean)) := rfl
noncomputable def cu_587 : List CUT2 := [((39, [lq 0 6 0, lq 1 13 0, lq 2 0 1, lq 3 1 50], [], gi_168, hq_121), [([(10, 1), (11, (-1))], (-4))], ([(50, (-1))], 4)), ((39, [lq 0 6 0, lq 1 13 0, lq 2 0 0, lq 3 1 50], [], gi_169, hq_121), [], ([(50, (-1))], 4))]
theorem ch_587 : staG tb_X12_is 1 bt_RX12 [] ct_315 [(55, [(0, (2, 0, 9), 0, 696)])] [23, 28] cu_587 25 con_587 = true := by decide +kernel
theorem cc_587 : cu_587.all (cutG tb_X12_is 1 bt_RX12 [] ct_315 [(55, [(0, (2, 0, 9), 0, 696)])] [23, 28] cu_587 25 con_587) = true := by decide +kernel
theorem vl_587 (l : Launch) : Vld2 l vwCl gTbl con_587 := conR_ok3 gT_all (hd_587) rfl pn_RX12 tk_X12_is bo_RX12 xo_RX12 (cto_315 l) ch_587 (cut_all cc_587)
/-- RookHustingModel takes -/
noncomputable def con_588 : Con2 := ((yX12_takes, cX12_takes, 3, (some .boolean)), (9, 223), ([(6, 0, 0), (13, 0, 0)], gi_160, [ac_113, am_2], []), [((0, 0, 0), gi_161, hq_122, [], [1]), ((0, 1, 0), gi_162, hq_123, [], tg_1)])
theorem hd_588 : con_588.1 = (yX12_takes, cX12_takes, 3, (some .boolean)) := rfl
theorem ck_RX12_165_587 : COK2 RX12 vwCl gTbl 165 0 con_587 := ⟨wd_1603, wd_137, mh_X12_is, .inr (.inr ⟨rfl, wd_1600, wd_1602, wd_58, ⟨_, rfl, pd_X12_is⟩, 12, _, TX12, 45, rfl, rfl⟩)⟩
noncomputable def ct_588 : CTB2 := [(2, 165, 0, con_587, [0, 1]), (11, 169, 0, con_313, [0, 1])]
noncomputable def cu_588 : List CUT2 := []
theorem ch_588 : staG tb_X12_takes 1 bt_RX12 [] ct_588 [] [] cu_588 12 con_588 = true := by decide +kernel
theorem cto_588 (l : Launch) : CTOK2 l RX12 vwCl gTbl ct_588 := ct2_cons (vl_587 l) ck_RX12_165_587 (ct2_cons (vl_313 l) ck_RX12_169_313 (ct2_nil))
theorem vl_588 (l : Launch) : Vld2 l vwCl gTbl con_588 := conR_ok3 gT_all (hd_588) rfl pn_RX12 tk_X12_takes bo_RX12 xo_RX12 (cto_588 l) ch_588 cut_nil
/-- RookHustingModel expects -/
noncomputable def con_589 : Con2 := ((yX12_expects, cX12_expects, 2, none), (10, 245), ([(6, 0, 0), (13, 0, 0)], gi_165, [ac_117, am_2], []), [((9, 0, 0), gi_166, hq_124, [], tg_10), ((9, 0, 0), gi_167, hq_125, [], tg_10)])
theorem hd_589 : con_589.1 = (yX12_expects, cX12_expects, 2, none) := rfl
theorem ck_RX12_172_588 : COK2 RX12 vwCl gTbl 172 0 con_588 := ⟨wd_1599, wd_137, mh_X12_takes, .inr (.inr ⟨rfl, wd_1596, wd_1598, wd_57, ⟨_, rfl, pd_X12_takes⟩, 12, _, TX12, 45, rfl, rfl⟩)⟩
noncomputable def ct_589 : CTB2 := [(2, 172, 0, con_588, [0, 1]), (10, 175, 0, con_317, [0])]
noncomputable def cu_589 : List CUT2 := []
theorem ch_589 : staG tb_X12_expects 1 bt_RX12 [] ct_589 [] [] cu_589 10 con_589 = true := by decide +kernel
theorem cto_589 (l : Launch) : CTOK2 l RX12 vwCl gTbl ct_589 := ct2_cons (vl_588 l) ck_RX12_172_588 (ct2_cons (vl_317 l) ck_RX12_175_317 (ct2_nil))
theorem vl_589 (l : Launch) : Vld2 l vwCl gTbl con_589 := conR_ok3 gT_all (hd_589) rfl pn_RX12 tk_X12_expects bo_RX12 xo_RX12 (cto_589 l) ch_589 cut_nil
/-- RookHustingModel in -/
noncomputable def con_590 : Con2 := ((yX12_in, cX12_in, 6, (some .boolean)), (0, 0), ([(4, 0, 0), (3, 0, 0), (3, 300, 0)], gi_146, [], []), [((0, 0, 0), gi_147, [], [], [1]), ((0, 1, 0), [(0, 300), (0, 0), (0, 0), (0, 0)], [], [], [1])])
theorem hd_590 : con_590.1 = (yX12_in, cX12_in, 6, (some .boolean)) := rfl
noncomputable def cu_590 : List CUT2 := []
theorem ch_590 : staG tb_X12_in 1 bt_RX12 [] ct_2 [] [] cu_590 11 con_590 = true := by decide +kernel
theorem vl_590 (l : Launch) : Vld2 l vwCl gTbl con_590 := conR_ok3 gT_all (hd_590) rfl pn_RX12 tk_X12_in bo_RX12 xo_RX12 (cto_2 l) ch_590 cut_nil
/-- RookHustingModel number -/
noncomputable def gi_260 : GI := jl_n [gp_97, jl_i 0 300, gp_99]
noncomputable def con_591 : Con2 := ((yX12_number, cX12_number, 4, (some .int)), (2, 46), ([(6, 0, 0), (0, 0, 0), (0, 300, 0)], gi_170, [ac_123, am_2], []), [((0, 0, 0), gi_171, hq_126, [], tg_1), ((1, 14, 0), gi_260, hq_127, [], tg_1)])
theorem hd_591 : con_591.1 = (yX12_number, cX12_number, 4, (some .int)) := rfl
theorem ck_RX12_91_590 : COK2 RX12 vwCl gTbl 91 1 con_590 := ⟨wd_1544, wd_137, mh_X12_in, .inl ⟨rfl, wd_1542, wd_1543, pd_X12_in⟩⟩
noncomputable def ct_591 : CTB2 := [(1, 153, 0, con_314, [0]), (17, 175, 0, con_317, [0]), (21, 153, 0, con_322, [0]), (21, 153, 0, con_314, [0]), (36, 91, 1, con_590, []), (44, 175, 0, con_324, [0]), (48, 153, 0, con_322, [0]), (48, 153, 0, con_314, [0]), (48, 153, 0, con_325, [0]), (62, 169, 0, con_313, [0, 1])]
noncomputable def cu_591 : List CUT2 := []
theorem ch_591 : staG tb_X12_number 1 bt_RX12 [] ct_591 [] [] cu_591 31 con_591 = true := by decide +kernel
theorem cto_591 (l : Launch) : CTOK2 l RX12 vwCl gTbl ct_591 := ct2_cons (vl_314 l) ck_RX12_153_314 (ct2_cons (vl_317 l) ck_RX12_175_317 (ct2_cons (vl_322 l) ck_RX12_153_322 (ct2_cons (vl_314 l) ck_RX12_153_314 (ct2_cons (vl_590 l) ck_RX12_91_590 (ct2_cons (vl_324 l) ck_RX12_175_324 (ct2_cons (vl_322 l) ck_RX12_153_322 (ct2_cons (vl_314 l) ck_RX12_153_314 (ct2_cons (vl_325 l) ck_RX12_153_325 (ct2_cons (vl_313 l) ck_RX12_169_313 (ct2_nil))))))))))
theorem vl_591 (l : Launch) : Vld2 l vwCl gTbl con_591 := conR_ok3 gT_all (hd_591) rfl pn_RX12 tk_X12_number bo_RX12 xo_RX12 (cto_591 l) ch_591 cut_nil
/-- RookHustingModel number -/
noncomputable def con_592 : Con2 := ((yX12_number, cX12_number, 4, (some .int)), (1, 20), ([(6, 0, 0), (0, 0, 0), (0, 300, 0)], gi_170, [ac_126, am_2], []), [((0, 0, 0), gi_173, hq_128, [], [1])])
theorem hd_592 : con_592.1 = (yX12_number, cX12_number, 4, (some .int)) := rfl
noncomputable def cu_592 : List CUT2 := []
theorem ch_592 : staG tb_X12_number 1 bt_RX12 [] ct_327 [] [] cu_592 13 con_592 = true := by decide +kernel
theorem vl_592 (l : Launch) : Vld2 l vwCl gTbl con_592 := conR_ok3 gT_all (hd_592) rfl pn_RX12 tk_X12_number bo_RX12 xo_RX12 (cto_327 l) ch_592 cut_nil
/-- RookHustingModel told -/
noncomputable def gi_261 : GI := jl_n [gp_104, jl_i 0 300, gp_105]
noncomputable def con_593 : Con2 := ((yX12_told, cX12_told, 4, (some .int)), (11, 266), ([(6, 0, 0), (13, 0, 0), (0, 0, 0), (0, 300, 0)], gi_174, [ac_127, am_2], []), [((0, 0, 0), gi_175, hq_129, [], tg_1), ((1, 49, 0), gi_261, hq_130, [], tg_1)])
theorem hd_593 : con_593.1 = (yX12_told, cX12_told, 4, (some .int)) := rfl
theorem ck_RX12_183_592 : COK2 RX12 vwCl gTbl 183 0 con_592 := ⟨wd_1618, wd_137, mh_X12_number, .inr (.inr ⟨rfl, wd_1615, wd_1617, wd_61, ⟨_, rfl, pd_X12_number⟩, 12, _, TX12, 45, rfl, rfl⟩)⟩
theorem ck_RX12_183_591 : COK2 RX12 vwCl gTbl 183 0 con_591 := ⟨wd_1618, wd_137, mh_X12_number, .inr (.inr ⟨rfl, wd_1615, wd_1617, wd_61, ⟨_, rfl, pd_X12_number⟩, 12, _, TX12, 45, rfl, rfl⟩)⟩
theorem ck_RX12_179_589 : COK2 RX12 vwCl gTbl 179 0 con_589 := ⟨wd_1595, wd_137, mh_X12_expects, .inr (.inr ⟨rfl, wd_1592, wd_1594, wd_56, ⟨_, rfl, pd_X12_expects⟩, 12, _, TX12, 45, rfl, rfl⟩)⟩
noncomputable def ct_593 : CTB2 := [(2, 179, 0, con_589, [0, 1]), (8, 183, 0, con_591, [0, 1]), (8, 183, 0, con_592, [0, 1])]
noncomputable def cu_593 : List CUT2 := []
theorem ch_593 : staG tb_X12_told 1 bt_RX12 [] ct_593 [] [] cu_593 10 con_593 = true := by decide +kernel
theorem cto_593 (l : Launch) : CTOK2 l RX12 vwCl gTbl ct_593 := ct2_cons (vl_589 l) ck_RX12_179_589 (ct2_cons (vl_591 l) ck_RX12_183_591 (ct2_cons (vl_592 l) ck_RX12_183_592 (ct2_nil)))
theorem vl_593 (l : Launch) : Vld2 l vwCl gTbl con_593 := conR_ok3 gT_all (hd_593) rfl pn_RX12 tk_X12_told bo_RX12 xo_RX12 (cto_593 l) ch_593 cut_nil
/-- RookHustingModel is -/
noncomputable def con_594 : Con2 := ((yX12_is, cX12_is, 4, (some .boolean)), (8, 200), ([(6, 0, 0), (13, 10, 0)], gi_155, [ac_112, am_2], []), [((0, 0, 0), gi_156, hq_121, [], [1]), ((0, 1, 0), gi_157, hq_121, [], [1])])
theorem hd_594 : con_594.1 = (yX12_is, cX12_is, 4, (some .boolean)) := rfl
noncomputable def cu_594 : List CUT2 := [((39, [lq 0 6 0, lq 1 13 10, lq 2 0 1, lq 3 1 50], [], gi_239, hq_121), [([(10, 1), (11, (-1))], (-5))], ([(50, (-1))], 5)), ((39, [lq 0 6 0, lq 1 13 10, lq 2 0 0, lq 3 1 50], [], gi_240, hq_121), [], ([(50, (-1))], 5))]
theorem ch_594 : staG tb_X12_is 1 bt_RX12 [] ct_315 [(55, [(0, (2, 0, 9), 0, 695)])] [23, 28] cu_594 25 con_594 = true := by decide +kernel
theorem cc_594 : cu_594.all (cutG tb_X12_is 1 bt_RX12 [] ct_315 [(55, [(0, (2, 0, 9), 0, 695)])] [23, 28] cu_594 25 con_594) = true := by decide +kernel
theorem vl_594 (l : Launch) : Vld2 l vwCl gTbl con_594 := conR_ok3 gT_all (hd_594) rfl pn_RX12 tk_X12_is bo_RX12 xo_RX12 (cto_315 l) ch_594 (cut_all cc_594)
/-- RookHustingModel takes -/
noncomputable def con_595 : Con2 := ((yX12_takes, cX12_takes, 3, (some .boolean)), (9, 223), ([(6, 0, 0), (13, 10, 0)], gi_160, [ac_113, am_2], []), [((0, 0, 0), gi_161, hq_122, [], [1]), ((0, 1, 0), gi_162, hq_123, [], tg_1)])
theorem hd_595 : con_595.1 = (yX12_takes, cX12_takes, 3, (some .boolean)) := rfl
theorem ck_RX12_165_594 : COK2 RX12 vwCl gTbl 165 0 con_594 := ⟨wd_1603, wd_137, mh_X12_is, .inr (.inr ⟨rfl, wd_1600, wd_1602, wd_58, ⟨_, rfl, pd_X12_is⟩, 12, _, TX12, 45, rfl, rfl⟩)⟩
noncomputable def ct_595 : CTB2 := [(2, 165, 0, con_594, [0, 1]), (11, 169, 0, con_313, [0, 1])]
noncomputable def cu_595 : List CUT2 := []
theorem ch_595 : staG tb_X12_takes 1 bt_RX12 [] ct_595 [] [] cu_595 12 con_595 = true := by decide +kernel
theorem cto_595 (l : Launch) : CTOK2 l RX12 vwCl gTbl ct_595 := ct2_cons (vl_594 l) ck_RX12_165_594 (ct2_cons (vl_313 l) ck_RX12_169_313 (ct2_nil))
theorem vl_595 (l : Launch) : Vld2 l vwCl gTbl con_595 := conR_ok3 gT_all (hd_595) rfl pn_RX12 tk_X12_takes bo_RX12 xo_RX12 (cto_595 l) ch_595 cut_nil
/-- RookHustingModel expects -/
noncomputable def con_596 : Con2 := ((yX12_expects, cX12_expects, 2, none), (10, 245), ([(6, 0, 0), (13, 10, 0)], gi_165, [ac_117, am_2], []), [((9, 0, 0), gi_166, hq_124, [], tg_10), ((9, 0, 0), gi_167, hq_125, [], tg_10)])
theorem hd_596 : con_596.1 = (yX12_expects, cX12_expects, 2, none) := rfl
theorem ck_RX12_172_595 : COK2 RX12 vwCl gTbl 172 0 con_595 := ⟨wd_1599, wd_137, mh_X12_takes, .inr (.inr ⟨rfl, wd_1596, wd_1598, wd_57, ⟨_, rfl, pd_X12_takes⟩, 12, _, TX12, 45, rfl, rfl⟩)⟩
noncomputable def ct_596 : CTB2 := [(2, 172, 0, con_595, [0, 1]), (10, 175, 0, con_317, [0])]
noncomputable def cu_596 : List CUT2 := []
theorem ch_596 : staG tb_X12_expects 1 bt_RX12 [] ct_596 [] [] cu_596 10 con_596 = true := by decide +kernel
theorem cto_596 (l : Launch) : CTOK2 l RX12 vwCl gTbl ct_596 := ct2_cons (vl_595 l) ck_RX12_172_595 (ct2_cons (vl_317 l) ck_RX12_175_317 (ct2_nil))
theorem vl_596 (l : Launch) : Vld2 l vwCl gTbl con_596 := conR_ok3 gT_all (hd_596) rfl pn_RX12 tk_X12_expects bo_RX12 xo_RX12 (cto_596 l) ch_596 cut_nil
/-- RookHustingModel told -/
noncomputable def con_597 : Con2 := ((yX12_told, cX12_told, 4, (some .int)), (11, 266), ([(6, 0, 0), (13, 10, 0), (0, 0, 0), (0, 40, 0)], gi_174, [ac_127, am_2], []), [((0, 0, 0), gi_175, hq_129, [], tg_1), ((1, 49, 0), gi_238, hq_130, [], tg_1)])
theorem hd_597 : con_597.1 = (yX12_told, cX12_told, 4, (some .int)) := rfl
theorem ck_RX12_179_596 : COK2 RX12 vwCl gTbl 179 0 con_596 := ⟨wd_1595, wd_137, mh_X12_expects, .inr (.inr ⟨rfl, wd_1592, wd_1594, wd_56, ⟨_, rfl, pd_X12_expects⟩, 12, _, TX12, 45, rfl, rfl⟩)⟩
noncomputable def ct_597 : CTB2 := [(2, 179, 0, con_596, [0, 1]), (8, 183, 0, con_557, [0, 1]), (8, 183, 0, con_558, [0, 1])]
noncomputable def cu_597 : List CUT2 := []
theorem ch_597 : staG tb_X12_told 1 bt_RX12 [] ct_597 [] [] cu_597 10 con_597 = true := by decide +kernel
theorem cto_597 (l : Launch) : CTOK2 l RX12 vwCl gTbl ct_597 := ct2_cons (vl_596 l) ck_RX12_179_596 (ct2_cons (vl_557 l) ck_RX12_183_557 (ct2_cons (vl_558 l) ck_RX12_183_558 (ct2_nil)))
theorem vl_597 (l : Launch) : Vld2 l vwCl gTbl con_597 := conR_ok3 gT_all (hd_597) rfl pn_RX12 tk_X12_told bo_RX12 xo_RX12 (cto_597 l) ch_597 cut_nil
/-- RookHustingModel is -/
noncomputable def con_598 : Con2 := ((yX12_is, cX12_is, 4, (some .boolean)), (8, 200), ([(6, 0, 0), (13, 10, 0)], gi_185, [ac_131, am_2], []), [((0, 0, 0), gi_186, hq_131, [], [1])])
theorem hd_598 : con_598.1 = (yX12_is, cX12_is, 4, (some .boolean)) := rfl
noncomputable def cu_598 : List CUT2 := [((39, [lq 0 6 0, lq 1 13 10, lq 2 0 0, lq 3 0 0], [], gi_187, hq_131), [], ([], 0))]
theorem ch_598 : staG tb_X12_is 1 bt_RX12 [] ct_344 [(55, [(0, (2, 0, 9), 0, 695)])] [23, 28] cu_598 10 con_598 = true := by decide +kernel
theorem cc_598 : cu_598.all (cutG tb_X12_is 1 bt_RX12 [] ct_344 [(55, [(0, (2, 0, 9), 0, 695)])] [23, 28] cu_598 10 con_598) = true := by decide +kernel
theorem vl_598 (l : Launch) : Vld2 l vwCl gTbl con_598 := conR_ok3 gT_all (hd_598) rfl pn_RX12 tk_X12_is bo_RX12 xo_RX12 (cto_344 l) ch_598 (cut_all cc_598)
/-- RookHustingModel takes -/
noncomputable def con_599 : Con2 := ((yX12_takes, cX12_takes, 3, (some .boolean)), (9, 223), ([(6, 0, 0), (13, 10, 0)], gi_188, [ac_132, am_2], []), [((0, 0, 0), gi_189, hq_132, [], [1])])
theorem hd_599 : con_599.1 = (yX12_takes, cX12_takes, 3, (some .boolean)) := rfl
theorem ck_RX12_165_598 : COK2 RX12 vwCl gTbl 165 0 con_598 := ⟨wd_1603, wd_137, mh_X12_is, .inr (.inr ⟨rfl, wd_1600, wd_1602, wd_58, ⟨_, rfl, pd_X12_is⟩, 12, _, TX12, 45, rfl, rfl⟩)⟩
noncomputable def ct_599 : CTB2 := [(2, 165, 0, con_598, [0, 1])]
noncomputable def cu_599 : List CUT2 := []
theorem ch_599 : staG tb_X12_takes 1 bt_RX12 [] ct_599 [] [] cu_599 10 con_599 = true := by decide +kernel
theorem cto_599 (l : Launch) : CTOK2 l RX12 vwCl gTbl ct_599 := ct2_cons (vl_598 l) ck_RX12_165_598 (ct2_nil)
theorem vl_599 (l : Launch) : Vld2 l vwCl gTbl con_599 := conR_ok3 gT_all (hd_599) rfl pn_RX12 tk_X12_takes bo_RX12 xo_RX12 (cto_599 l) ch_599 cut_nil
/-- RookHustingModel expects -/
noncomputable def con_600 : Con2 := ((yX12_expects, cX12_expects, 2, none), (10, 245), ([(6, 0, 0), (13, 10, 0)], gi_191, [ac_134, am_2], []), [((9, 0, 0), gi_191, hq_133, [], [])])
theorem hd_600 : con_600.1 = (yX12_expects, cX12_expects, 2, none) := rfl
theorem ck_RX12_172_599 : COK2 RX12 vwCl gTbl 172 0 con_599 := ⟨wd_1599, wd_137, mh_X12_takes, .inr (.inr ⟨rfl, wd_1596, wd_1598, wd_57, ⟨_, rfl, pd_X12_takes⟩, 12, _, TX12, 45, rfl, rfl⟩)⟩
noncomputable def ct_600 : CTB2 := [(2, 172, 0, con_599, [0, 1]), (10, 175, 0, con_346, [0])]
noncomputable def cu_600 : List CUT2 := []
theorem ch_600 : staG tb_X12_expects 1 bt_RX12 [] ct_600 [] [] cu_600 10 con_600 = true := by decide +kernel
theorem cto_600 (l : Launch) : CTOK2 l RX12 vwCl gTbl ct_600 := ct2_cons (vl_599 l) ck_RX12_172_599 (ct2_cons (vl_346 l) ck_RX12_175_346 (ct2_nil))
theorem vl_600 (l : Launch) : Vld2 l vwCl gTbl con_600 := conR_ok3 gT_all (hd_600) rfl pn_RX12 tk_X12_expects bo_RX12 xo_RX12 (cto_600 l) ch_600 cut_nil
/-- RookHustingModel number -/
noncomputable def con_601 : Con2 := ((yX12_number, cX12_number, 4, (some .int)), (1, 20), ([(6, 0, 0), (0, 0, 0), (0, 40, 0)], gi_192, [ac_135, am_2], []), [((0, 0, 0), gi_193, hq_134, [], [1])])
theorem hd_601 : con_601.1 = (yX12_number, cX12_number, 4, (some .int)) := rfl
noncomputable def cu_601 : List CUT2 := []
theorem ch_601 : staG tb_X12_number 1 bt_RX12 [] ct_348 [] [] cu_601 13 con_601 = true := by decide +kernel
theorem vl_601 (l : Launch) : Vld2 l vwCl gTbl con_601 := conR_ok3 gT_all (hd_601) rfl pn_RX12 tk_X12_number bo_RX12 xo_RX12 (cto_348 l) ch_601 cut_nil
/-- RookHustingModel told -/
noncomputable def con_602 : Con2 := ((yX12_told, cX12_told, 4, (some .int)), (11, 266), ([(6, 0, 0), (13, 10, 0), (0, 0, 0), (0, 40, 0)], gi_194, [ac_136, am_2], []), [((0, 0, 0), gi_195, hq_135, [], [1])])
theorem hd_602 : con_602.1 = (yX12_told, cX12_told, 4, (some .int)) := rfl
theorem ck_RX12_183_601 : COK2 RX12 vwCl gTbl 183 0 con_601 := ⟨wd_1618, wd_137, mh_X12_number, .inr (.inr ⟨rfl, wd_1615, wd_1617, wd_61, ⟨_, rfl, pd_X12_number⟩, 12, _, TX12, 45, rfl, rfl⟩)⟩
theorem ck_RX12_179_600 : COK2 RX12 vwCl gTbl 179 0 con_600 := ⟨wd_1595, wd_137, mh_X12_expects, .inr (.inr ⟨rfl, wd_1592, wd_1594, wd_56, ⟨_, rfl, pd_X12_expects⟩, 12, _, TX12, 45, rfl, rfl⟩)⟩
noncomputable def ct_602 : CTB2 := [(2, 179, 0, con_600, [0, 1]), (8, 183, 0, con_601, [0, 1])]
noncomputable def cu_602 : List CUT2 := []
theorem ch_602 : staG tb_X12_told 1 bt_RX12 [] ct_602 [] [] cu_602 10 con_602 = true := by decide +kernel
theorem cto_602 (l : Launch) : CTOK2 l RX12 vwCl gTbl ct_602 := ct2_cons (vl_600 l) ck_RX12_179_600 (ct2_cons (vl_601 l) ck_RX12_183_601 (ct2_nil))
theorem vl_602 (l : Launch) : Vld2 l vwCl gTbl con_602 := conR_ok3 gT_all (hd_602) rfl pn_RX12 tk_X12_told bo_RX12 xo_RX12 (cto_602 l) ch_602 cut_nil
/-- RookHustingModel isFull -/
noncomputable def gi_262 : GI := jl_n [gp_154, jl_i 0 8, jl_i 0 5, gp_128]
noncomputable def con_603 : Con2 := ((yX12_isFull, cX12_isFull, 1, (some .boolean)), (9, 223), ([(6, 0, 0)], gi_202, [ac_154, am_2, ac_153], []), [((0, 0, 0), gi_262, hq_145, [], [1]), ((0, 1, 0), gi_203, hq_145, [], [1])])
theorem hd_603 : con_603.1 = (yX12_isFull, cX12_isFull, 1, (some .boolean)) := rfl
noncomputable def ft_603 : CTB2 := [(3, 165, 0, con_584, [0, 1]), (22, 165, 0, con_363, [0, 1]), (44, 165, 0, con_364, [0, 1]), (63, 165, 0, con_371, [0, 1])]
theorem fto_603 (l : Launch) {es : List va_E} (f2 : isFact 2 1 [0, 1] es) (f5 : isFact 5 0 [0, 1] es) (f8 : isFact 8 0 [0, 1] es) (f12 : isFact 12 1 [0, 1] es) : FTOK2 l RX12 vwCl gTbl es ft_603 := ft2_cons (fun ec he => hv_584 l (f2 ec he)) ck_RX12_165_584 (ft2_cons (fun ec he => hv_363 l (f5 ec he)) ck_RX12_165_363 (ft2_cons (fun ec he => hv_364 l (f8 ec he)) ck_RX12_165_364 (ft2_cons (fun ec he => hv_371 l (f12 ec he)) ck_RX12_165_371 (ft2_nil))))
noncomputable def cu_603 : List CUT2 := []
theorem ch_603 : staG tb_X12_isFull 1 bt_RX12 ft_603 ct_2 [] [] cu_603 33 con_603 = true := by decide +kernel
theorem hv_603 (l : Launch) {es : List va_E} (f2 : isFact 2 1 [0, 1] es) (f5 : isFact 5 0 [0, 1] es) (f8 : isFact 8 0 [0, 1] es) (f12 : isFact 12 1 [0, 1] es) : VldE l vwCl gTbl con_603 es := conE_ok3 gT_all (hd_603) rfl pn_RX12 tk_X12_isFull bo_RX12 xo_RX12 (fto_603 l f2 f5 f8 f12) (cto_2 l) ch_603 cut_nil
/-- RookHustingModel isFull -/
noncomputable def gi_263 : GI := jl_n [gp_154, jl_i 0 8, gp_147]
noncomputable def con_604 : Con2 := ((yX12_isFull, cX12_isFull, 1, (some .boolean)), (9, 223), ([(6, 0, 0)], gi_202, [ac_154, am_2, ac_153], []), [((0, 0, 0), gi_263, hq_145, [], [1]), ((0, 1, 0), gi_203, hq_145, [], [1])])
theorem hd_604 : con_604.1 = (yX12_isFull, cX12_isFull, 1, (some .boolean)) := rfl
noncomputable def ft_604 : CTB2 := [(3, 165, 0, con_584, [0, 1]), (22, 165, 0, con_363, [0, 1]), (44, 165, 0, con_548, [0, 1]), (63, 165, 0, con_365, [0, 1])]
theorem fto_604 (l : Launch) {es : List va_E} (f2 : isFact 2 1 [0, 1] es) (f5 : isFact 5 0 [0, 1] es) (f8 : isFact 8 1 [0, 1] es) (f12 : isFact 12 0 [0, 1] es) : FTOK2 l RX12 vwCl gTbl es ft_604 := ft2_cons (fun ec he => hv_584 l (f2 ec he)) ck_RX12_165_584 (ft2_cons (fun ec he => hv_363 l (f5 ec he)) ck_RX12_165_363 (ft2_cons (fun ec he => hv_548 l (f8 ec he)) ck_RX12_165_548 (ft2_cons (fun ec he => hv_365 l (f12 ec he)) ck_RX12_165_365 (ft2_nil))))
noncomputable def cu_604 : List CUT2 := []
theorem ch_604 : staG tb_X12_isFull 1 bt_RX12 ft_604 ct_2 [] [] cu_604 32 con_604 = true := by decide +kernel
theorem hv_604 (l : Launch) {es : List va_E} (f2 : isFact 2 1 [0, 1] es) (f5 : isFact 5 0 [0, 1] es) (f8 : isFact 8 1 [0, 1] es) (f12 : isFact 12 0 [0, 1] es) : VldE l vwCl gTbl con_604 es := conE_ok3 gT_all (hd_604) rfl pn_RX12 tk_X12_isFull bo_RX12 xo_RX12 (fto_604 l f2 f5 f8 f12) (cto_2 l) ch_604 cut_nil
/-- RookHustingModel isFull -/
noncomputable def gi_264 : GI := jl_n [gp_154, jl_i 0 8, gp_148]
noncomputable def con_605 : Con2 := ((yX12_isFull, cX12_isFull, 1, (some .boolean)), (9, 223), ([(6, 0, 0)], gi_202, [ac_154, am_2, ac_153], []), [((0, 0, 0), gi_264, hq_145, [], [1]), ((0, 1, 0), gi_203, hq_145, [], [1])])
theorem hd_605 : con_605.1 = (yX12_isFull, cX12_isFull, 1, (some .boolean)) := rfl
noncomputable def ft_605 : CTB2 := [(3, 165, 0, con_584, [0, 1]), (22, 165, 0, con_363, [0, 1]), (44, 165, 0, con_548, [0, 1]), (63, 165, 0, con_371, [0, 1])]
theorem fto_605 (l : Launch) {es : List va_E} (f2 : isFact 2 1 [0, 1] es) (f5 : isFact 5 0 [0, 1] es) (f8 : isFact 8 1 [0, 1] es) (f12 : isFact 12 1 [0, 1] es) : FTOK2 l RX12 vwCl gTbl es ft_605 := ft2_cons (fun ec he => hv_584 l (f2 ec he)) ck_RX12_165_584 (ft2_cons (fun ec he => hv_363 l (f5 ec he)) ck_RX12_165_363 (ft2_cons (fun ec he => hv_548 l (f8 ec he)) ck_RX12_165_548 (ft2_cons (fun ec he => hv_371 l (f12 ec he)) ck_RX12_165_371 (ft2_nil))))
noncomputable def cu_605 : List CUT2 := []
theorem ch_605 : staG tb_X12_isFull 1 bt_RX12 ft_605 ct_2 [] [] cu_605 39 con_605 = true := by decide +kernel
theorem hv_605 (l : Launch) {es : List va_E} (f2 : isFact 2 1 [0, 1] es) (f5 : isFact 5 0 [0, 1] es) (f8 : isFact 8 1 [0, 1] es) (f12 : isFact 12 1 [0, 1] es) : VldE l vwCl gTbl con_605 es := conE_ok3 gT_all (hd_605) rfl pn_RX12 tk_X12_isFull bo_RX12 xo_RX12 (fto_605 l f2 f5 f8 f12) (cto_2 l) ch_605 cut_nil
/-- RookHustingModel isFull -/
noncomputable def gi_265 : GI := jl_n [gp_155, gp_12, gp_127]
noncomputable def con_606 : Con2 := ((yX12_isFull, cX12_isFull, 1, (some .boolean)), (9, 223), ([(6, 0, 0)], gi_202, [ac_154, am_2, ac_153], []), [((0, 0, 0), gi_265, hq_145, [], [1]), ((0, 1, 0), gi_203, hq_145, [], [1])])
theorem hd_606 : con_606.1 = (yX12_isFull, cX12_isFull, 1, (some .boolean)) := rfl
noncomputable def ft_606 : CTB2 := [(3, 165, 0, con_584, [0, 1]), (22, 165, 0, con_573, [0, 1]), (44, 165, 0, con_364, [0, 1]), (63, 165, 0, con_365, [0, 1])]
theorem fto_606 (l : Launch) {es : List va_E} (f2 : isFact 2 1 [0, 1] es) (f5 : isFact 5 1 [0, 1] es) (f8 : isFact 8 0 [0, 1] es) (f12 : isFact 12 0 [0, 1] es) : FTOK2 l RX12 vwCl gTbl es ft_606 := ft2_cons (fun ec he => hv_584 l (f2 ec he)) ck_RX12_165_584 (ft2_cons (fun ec he => hv_573 l (f5 ec he)) ck_RX12_165_573 (ft2_cons (fun ec he => hv_364 l (f8 ec he)) ck_RX12_165_364 (ft2_cons (fun ec he => hv_365 l (f12 ec he)) ck_RX12_165_365 (ft2_nil))))
noncomputable def cu_606 : List CUT2 := []
theorem ch_606 : staG tb_X12_isFull 1 bt_RX12 ft_606 ct_2 [] [] cu_606 32 con_606 = true := by decide +kernel
theorem hv_606 (l : Launch) {es : List va_E} (f2 : isFact 2 1 [0, 1] es) (f5 : isFact 5 1 [0, 1] es) (f8 : isFact 8 0 [0, 1] es) (f12 : isFact 12 0 [0, 1] es) : VldE l vwCl gTbl con_606 es := conE_ok3 gT_all (hd_606) rfl pn_RX12 tk_X12_isFull bo_RX12 xo_RX12 (fto_606 l f2 f5 f8 f12) (cto_2 l) ch_606 cut_nil
/-- RookHustingModel isFull -/
noncomputable def gi_266 : GI := jl_n [gp_155, jl_i 0 5, gp_128]
noncomputable def con_607 : Con2 := ((yX12_isFull, cX12_isFull, 1, (some .boolean)), (9, 223), ([(6, 0, 0)], gi_202, [ac_154, am_2, ac_153], []), [((0, 0, 0), gi_266, hq_145, [], [1]), ((0, 1, 0), gi_203, hq_145, [], [1])])
theorem hd_607 : con_607.1 = (yX12_isFull, cX12_isFull, 1, (some .boolean)) := rfl
noncomputable def ft_607 : CTB2 := [(3, 165, 0, con_584, [0, 1]), (22, 165, 0, con_573, [0, 1]), (44, 165, 0, con_364, [0, 1]), (63, 165, 0, con_371, [0, 1])]
theorem fto_607 (l : Launch) {es : List va_E} (f2 : isFact 2 1 [0, 1] es) (f5 : isFact 5 1 [0, 1] es) (f8 : isFact 8 0 [0, 1] es) (f12 : isFact 12 1 [0, 1] es) : FTOK2 l RX12 vwCl gTbl es ft_607 := ft2_cons (fun ec he => hv_584 l (f2 ec he)) ck_RX12_165_584 (ft2_cons (fun ec he => hv_573 l (f5 ec he)) ck_RX12_165_573 (ft2_cons (fun ec he => hv_364 l (f8 ec he)) ck_RX12_165_364 (ft2_cons (fun ec he => hv_371 l (f12 ec he)) ck_RX12_165_371 (ft2_nil))))
noncomputable def cu_607 : List CUT2 := []
theorem ch_607 : staG tb_X12_isFull 1 bt_RX12 ft_607 ct_2 [] [] cu_607 39 con_607 = true := by decide +kernel
theorem hv_607 (l : Launch) {es : List va_E} (f2 : isFact 2 1 [0, 1] es) (f5 : isFact 5 1 [0, 1] es) (f8 : isFact 8 0 [0, 1] es) (f12 : isFact 12 1 [0, 1] es) : VldE l vwCl gTbl con_607 es := conE_ok3 gT_all (hd_607) rfl pn_RX12 tk_X12_isFull bo_RX12 xo_RX12 (fto_607 l f2 f5 f8 f12) (cto_2 l) ch_607 cut_nil
/-- RookHustingModel isFull -/
noncomputable def gi_267 : GI := jl_n [gp_155, gp_147]
noncomputable def con_608 : Con2 := ((yX12_isFull, cX12_isFull, 1, (some .boolean)), (9, 223), ([(6, 0, 0)], gi_202, [ac_154, am_2, ac_153], []), [((0, 0, 0), gi_267, hq_145, [], [1]), ((0, 1, 0), gi_203, hq_145, [], [1])])
theorem hd_608 : con_608.1 = (yX12_isFull, cX12_isFull, 1, (some .boolean)) := rfl
noncomputable def ft_608 : CTB2 := [(3, 165, 0, con_584, [0, 1]), (22, 165, 0, con_573, [0, 1]), (44, 165, 0, con_548, [0, 1]), (63, 165, 0, con_365, [0, 1])]
theorem fto_608 (l : Launch) {es : List va_E} (f2 : isFact 2 1 [0, 1] es) (f5 : isFact 5 1 [0, 1] es) (f8 : isFact 8 1 [0, 1] es) (f12 : isFact 12 0 [0, 1] es) : FTOK2 l RX12 vwCl gTbl es ft_608 := ft2_cons (fun ec he => hv_584 l (f2 ec he)) ck_RX12_165_584 (ft2_cons (fun ec he => hv_573 l (f5 ec he)) ck_RX12_165_573 (ft2_cons (fun ec he => hv_548 l (f8 ec he)) ck_RX12_165_548 (ft2_cons (fun ec he => hv_365 l (f12 ec he)) ck_RX12_165_365 (ft2_nil))))
noncomputable def cu_608 : List CUT2 := []
theorem ch_608 : staG tb_X12_isFull 1 bt_RX12 ft_608 ct_2 [] [] cu_608 38 con_608 = true := by decide +kernel
theorem hv_608 (l : Launch) {es : List va_E} (f2 : isFact 2 1 [0, 1] es) (f5 : isFact 5 1 [0, 1] es) (f8 : isFact 8 1 [0, 1] es) (f12 : isFact 12 0 [0, 1] es) : VldE l vwCl gTbl con_608 es := conE_ok3 gT_all (hd_608) rfl pn_RX12 tk_X12_isFull bo_RX12 xo_RX12 (fto_608 l f2 f5 f8 f12) (cto_2 l) ch_608 cut_nil
/-- RookHustingModel isFull -/
noncomputable def gi_268 : GI := jl_n [gp_155, gp_148]
noncomputable def con_609 : Con2 := ((yX12_isFull, cX12_isFull, 1, (some .boolean)), (9, 223), ([(6, 0, 0)], gi_202, [ac_154, am_2, ac_153], []), [((0, 0, 0), gi_268, hq_145, [], [1]), ((0, 1, 0), gi_203, hq_145, [], [1])])
theorem hd_609 : con_609.1 = (yX12_isFull, cX12_isFull, 1, (some .boolean)) := rfl
noncomputable def ft_609 : CTB2 := [(3, 165, 0, con_584, [0, 1]), (22, 165, 0, con_573, [0, 1]), (44, 165, 0, con_548, [0, 1]), (63, 165, 0, con_371, [0, 1])]
theorem fto_609 (l : Launch) {es : List va_E} (f2 : isFact 2 1 [0, 1] es) (f5 : isFact 5 1 [0, 1] es) (f8 : isFact 8 1 [0, 1] es) (f12 : isFact 12 1 [0, 1] es) : FTOK2 l RX12 vwCl gTbl es ft_609 := ft2_cons (fun ec he => hv_584 l (f2 ec he)) ck_RX12_165_584 (ft2_cons (fun ec he => hv_573 l (f5 ec he)) ck_RX12_165_573 (ft2_cons (fun ec he => hv_548 l (f8 ec he)) ck_RX12_165_548 (ft2_cons (fun ec he => hv_371 l (f12 ec he)) ck_RX12_165_371 (ft2_nil))))
noncomputable def cu_609 : List CUT2 := []
theorem ch_609 : staG tb_X12_isFull 1 bt_RX12 ft_609 ct_2 [] [] cu_609 45 con_609 = true := by decide +kernel
theorem hv_609 (l : Launch) {es : List va_E} (f2 : isFact 2 1 [0, 1] es) (f5 : isFact 5 1 [0, 1] es) (f8 : isFact 8 1 [0, 1] es) (f12 : isFact 12 1 [0, 1] es) : VldE l vwCl gTbl con_609 es := conE_ok3 gT_all (hd_609) rfl pn_RX12 tk_X12_isFull bo_RX12 xo_RX12 (fto_609 l f2 f5 f8 f12) (cto_2 l) ch_609 cut_nil
/-- RookHustingModel readNext -/
noncomputable def gi_269 : GI := jl_n [gp_136, jl_i 1 3, jl_i 0 700, jl_z 34, gp_53, gp_156]
noncomputable def ac_192 : AC := .inr (1, jl_n [js_1 49 3, js_1 120 3, sp_22, sp_10])
noncomputable def hq_178 : HP := [(true, ac_144), (false, am_2), (true, ac_192)]
noncomputable def hq_179 : HP := [(true, ac_144), (false, am_2), (true, ac_157)]
noncomputable def gi_270 : GI := jl_n [gp_136, jl_z 36, gp_53, gp_156]
noncomputable def hq_180 : HP := [(true, ac_146), (false, am_2), (true, ac_192)]
noncomputable def rq_0 : RLs := [([(49, (-1)), (50, (-1)), (51, (-1)), (117, 1), (118, 1), (119, 1)], (-1))]
noncomputable def gi_271 : GI := jl_n [gp_136, jl_z 56]
noncomputable def hq_181 : HP := [(true, ac_146), (false, am_2), (true, ac_158)]
noncomputable def con_610 : Con2 := ((yX12_readNext, cX12_readNext, 3, none), (13, 312), ([(6, 0, 0)], gi_215, [ac_142, am_2, ac_156], []), [((9, 0, 0), gi_269, hq_178, [], tg_11), ((9, 0, 0), gi_216, hq_179, [], tg_11), ((9, 0, 0), gi_270, hq_180, rq_0, tg_11), ((9, 0, 0), gi_271, hq_181, [], tg_11)])
theorem hd_610 : con_610.1 = (yX12_readNext, cX12_readNext, 3, none) := rfl
theorem ck_RX12_210_370 : COK2 RX12 vwCl gTbl 210 0 con_370 := ⟨wd_1632, wd_137, mh_X12_isFull, .inr (.inr ⟨rfl, wd_1629, wd_1631, wd_63, ⟨_, rfl, pd_X12_isFull⟩, 12, _, TX12, 45, rfl, rfl⟩)⟩
noncomputable def ct_610_0 : CTB2 := [(67, 175, 0, con_317, [0]), (71, 210, 0, con_370, [0, 1, 2]), (83, 153, 0, con_322, [0])]
noncomputable def ft_610_0 : CTB2 := [(3, 165, 0, con_362, [0, 1]), (12, 165, 0, con_363, [0, 1]), (21, 165, 0, con_364, [0, 1]), (30, 165, 0, con_365, [0, 1])]
theorem fto_610_0 (l : Launch) {es : List va_E} (f2 : isFact 2 0 [0, 1] es) (f5 : isFact 5 0 [0, 1] es) (f8 : isFact 8 0 [0, 1] es) (f12 : isFact 12 0 [0, 1] es) : FTOK2 l RX12 vwCl gTbl es ft_610_0 := ft2_cons (fun ec he => hv_362 l (f2 ec he)) ck_RX12_165_362 (ft2_cons (fun ec he => hv_363 l (f5 ec he)) ck_RX12_165_363 (ft2_cons (fun ec he => hv_364 l (f8 ec he)) ck_RX12_165_364 (ft2_cons (fun ec he => hv_365 l (f12 ec he)) ck_RX12_165_365 (ft2_nil))))
noncomputable def cu_610_0 : List CUT2 := []
theorem ch_610_0 : staG tb_X12_readNext 1 bt_RX12 ft_610_0 ct_610_0 [] [] cu_610_0 32 con_610 = true := by decide +kernel
theorem cto_610_0 (l : Launch) : CTOK2 l RX12 vwCl gTbl ct_610_0 := ct2_cons (vl_317 l) ck_RX12_175_317 (ct2_cons (vl_370 l) ck_RX12_210_370 (ct2_cons (vl_322 l) ck_RX12_153_322 (ct2_nil)))
theorem ck_RX12_224_547 : COK2 RX12 vwCl gTbl 224 0 con_547 := ⟨wd_1644, wd_137, mh_X12_readVoter, .inr (.inr ⟨rfl, wd_1641, wd_1643, wd_65, ⟨_, rfl, pd_X12_readVoter⟩, 12, _, TX12, 45, rfl, rfl⟩)⟩
noncomputable def ct_610_1 : CTB2 := [(83, 153, 0, con_314, [0]), (240, 169, 0, con_313, [0, 1]), (244, 224, 0, con_547, [0, 2, 1])]
noncomputable def ft_610_1 : CTB2 := [(3, 165, 0, con_362, [0, 1]), (12, 165, 0, con_363, [0, 1]), (21, 165, 0, con_364, [0, 1]), (30, 165, 0, con_371, [0, 1]), (49, 165, 0, con_364, [0, 1]), (71, 210, 0, con_372, [0, 1, 2]), (93, 172, 0, con_373, [0, 1]), (160, 172, 0, con_374, [0, 1]), (176, 172, 0, con_375, [0, 1])]
theorem ck_RX12_172_375 : COK2 RX12 vwCl gTbl 172 0 con_375 := ⟨wd_1599, wd_137, mh_X12_takes, .inr (.inr ⟨rfl, wd_1596, wd_1598, wd_57, ⟨_, rfl, pd_X12_takes⟩, 12, _, TX12, 45, rfl, rfl⟩)⟩
theorem ck_RX12_172_374 : COK2 RX12 vwCl gTbl 172 0 con_374 := ⟨wd_1599, wd_137, mh_X12_takes, .inr (.inr ⟨rfl, wd_1596, wd_1598, wd_57, ⟨_, rfl, pd_X12_takes⟩, 12, _, TX12, 45, rfl, rfl⟩)⟩
theorem ck_RX12_172_373 : COK2 RX12 vwCl gTbl 172 0 con_373 := ⟨wd_1599, wd_137, mh_X12_takes, .inr (.inr ⟨rfl, wd_1596, wd_1598, wd_57, ⟨_, rfl, pd_X12_takes⟩, 12, _, TX12, 45, rfl, rfl⟩)⟩
theorem ck_RX12_210_372 : COK2 RX12 vwCl gTbl 210 0 con_372 := ⟨wd_1632, wd_137, mh_X12_isFull, .inr (.inr ⟨rfl, wd_1629, wd_1631, wd_63, ⟨_, rfl, pd_X12_isFull⟩, 12, _, TX12, 45, rfl, rfl⟩)⟩
theorem fto_610_1 (l : Launch) {es : List va_E} (f2 : isFact 2 0 [0, 1] es) (f5 : isFact 5 0 [0, 1] es) (f8 : isFact 8 0 [0, 1] es) (f12 : isFact 12 1 [0, 1] es) : FTOK2 l RX12 vwCl gTbl es ft_610_1 := ft2_cons (fun ec he => hv_362 l (f2 ec he)) ck_RX12_165_362 (ft2_cons (fun ec he => hv_363 l (f5 ec he)) ck_RX12_165_363 (ft2_cons (fun ec he => hv_364 l (f8 ec he)) ck_RX12_165_364 (ft2_cons (fun ec he => hv_371 l (f12 ec he)) ck_RX12_165_371 (ft2_cons (fun ec he => hv_364 l (f8 ec he)) ck_RX12_165_364 (ft2_cons (fun ec he => hv_372 l (fact_at f2 he (τ := [0, 1]) (by decide) (by decide)) (fact_at f5 he (τ := [0, 1]) (by decide) (by decide)) (fact_at f8 he (τ := [0, 1]) (by decide) (by decide)) (fact_at f12 he (τ := [0, 1]) (by decide) (by decide))) ck_RX12_210_372 (ft2_cons (fun ec he => hv_373 l (fact_at f2 he (τ := [0, 1]) (by decide) (by decide))) ck_RX12_172_373 (ft2_cons (fun ec he => hv_374 l (fact_at f5 he (τ := [0, 1]) (by decide) (by decide))) ck_RX12_172_374 (ft2_cons (fun ec he => hv_375 l (fact_at f8 he (τ := [0, 1]) (by decide) (by decide))) ck_RX12_172_375 (ft2_nil)))))))))
noncomputable def cu_610_1 : List CUT2 := []
theorem ch_610_1 : staG tb_X12_readNext 1 bt_RX12 ft_610_1 ct_610_1 [] [] cu_610_1 50 con_610 = true := by decide +kernel
theorem cto_610_1 (l : Launch) : CTOK2 l RX12 vwCl gTbl ct_610_1 := ct2_cons (vl_314 l) ck_RX12_153_314 (ct2_cons (vl_313 l) ck_RX12_169_313 (ct2_cons (vl_547 l) ck_RX12_224_547 (ct2_nil)))
theorem ck_RX12_189_571 : COK2 RX12 vwCl gTbl 189 0 con_571 := ⟨wd_1614, wd_137, mh_X12_told, .inr (.inr ⟨rfl, wd_1611, wd_1613, wd_60, ⟨_, rfl, pd_X12_told⟩, 12, _, TX12, 45, rfl, rfl⟩)⟩
theorem ck_RX12_189_566 : COK2 RX12 vwCl gTbl 189 0 con_566 := ⟨wd_1614, wd_137, mh_X12_told, .inr (.inr ⟨rfl, wd_1611, wd_1613, wd_60, ⟨_, rfl, pd_X12_told⟩, 12, _, TX12, 45, rfl, rfl⟩)⟩
theorem ck_RX12_189_559 : COK2 RX12 vwCl gTbl 189 0 con_559 := ⟨wd_1614, wd_137, mh_X12_told, .inr (.inr ⟨rfl, wd_1611, wd_1613, wd_60, ⟨_, rfl, pd_X12_told⟩, 12, _, TX12, 45, rfl, rfl⟩)⟩
theorem ck_RX12_153_551 : COK2 RX12 vwCl gTbl 153 0 con_551 := ⟨wd_1582, wd_137, mh_X12_good, .inr (.inr ⟨rfl, wd_1579, wd_1581, wd_53, ⟨_, rfl, pd_X12_good⟩, 12, _, TX12, 45, rfl, rfl⟩)⟩
theorem ck_RX12_175_550 : COK2 RX12 vwCl gTbl 175 0 con_550 := ⟨wd_1609, wd_137, mh_X12_errs, .inr (.inr ⟨rfl, wd_1606, wd_1608, wd_59, ⟨_, rfl, pd_X12_errs⟩, 12, _, TX12, 45, rfl, rfl⟩)⟩
noncomputable def ct_610_2 : CTB2 := [(79, 175, 0, con_550, [0]), (83, 153, 0, con_551, [0]), (83, 153, 0, con_314, [0]), (205, 189, 0, con_559, [0, 1]), (222, 189, 0, con_566, [0, 1]), (222, 189, 0, con_571, [0, 1])]
noncomputable def ft_610_2 : CTB2 := [(3, 165, 0, con_362, [0, 1]), (12, 165, 0, con_363, [0, 1]), (21, 165, 0, con_548, [0, 1]), (49, 165, 0, con_548, [0, 1]), (71, 210, 0, con_549, [0, 1, 2]), (93, 172, 0, con_373, [0, 1]), (160, 172, 0, con_374, [0, 1]), (176, 172, 0, con_552, [0, 1])]
theorem ck_RX12_172_552 : COK2 RX12 vwCl gTbl 172 0 con_552 := ⟨wd_1599, wd_137, mh_X12_takes, .inr (.inr ⟨rfl, wd_1596, wd_1598, wd_57, ⟨_, rfl, pd_X12_takes⟩, 12, _, TX12, 45, rfl, rfl⟩)⟩
theorem ck_RX12_210_549 : COK2 RX12 vwCl gTbl 210 0 con_549 := ⟨wd_1632, wd_137, mh_X12_isFull, .inr (.inr ⟨rfl, wd_1629, wd_1631, wd_63, ⟨_, rfl, pd_X12_isFull⟩, 12, _, TX12, 45, rfl, rfl⟩)⟩
theorem fto_610_2 (l : Launch) {es : List va_E} (f2 : isFact 2 0 [0, 1] es) (f5 : isFact 5 0 [0, 1] es) (f8 : isFact 8 1 [0, 1] es) (f12 : isFact 12 0 [0, 1] es) : FTOK2 l RX12 vwCl gTbl es ft_610_2 := ft2_cons (fun ec he => hv_362 l (f2 ec he)) ck_RX12_165_362 (ft2_cons (fun ec he => hv_363 l (f5 ec he)) ck_RX12_165_363 (ft2_cons (fun ec he => hv_548 l (f8 ec he)) ck_RX12_165_548 (ft2_cons (fun ec he => hv_548 l (f8 ec he)) ck_RX12_165_548 (ft2_cons (fun ec he => hv_549 l (fact_at f2 he (τ := [0, 1]) (by decide) (by decide)) (fact_at f5 he (τ := [0, 1]) (by decide) (by decide)) (fact_at f8 he (τ := [0, 1]) (by decide) (by decide)) (fact_at f12 he (τ := [0, 1]) (by decide) (by decide))) ck_RX12_210_549 (ft2_cons (fun ec he => hv_373 l (fact_at f2 he (τ := [0, 1]) (by decide) (by decide))) ck_RX12_172_373 (ft2_cons (fun ec he => hv_374 l (fact_at f5 he (τ := [0, 1]) (by decide) (by decide))) ck_RX12_172_374 (ft2_cons (fun ec he => hv_552 l (fact_at f8 he (τ := [0, 1]) (by decide) (by decide))) ck_RX12_172_552 (ft2_nil))))))))
noncomputable def cu_610_2 : List CUT2 := []
theorem ch_610_2 : staG tb_X12_readNext 1 bt_RX12 ft_610_2 ct_610_2 [] [] cu_610_2 85 con_610 = true := by decide +kernel
theorem cto_610_2 (l : Launch) : CTOK2 l RX12 vwCl gTbl ct_610_2 := ct2_cons (vl_550 l) ck_RX12_175_550 (ct2_cons (vl_551 l) ck_RX12_153_551 (ct2_cons (vl_314 l) ck_RX12_153_314 (ct2_cons (vl_559 l) ck_RX12_189_559 (ct2_cons (vl_566 l) ck_RX12_189_566 (ct2_cons (vl_571 l) ck_RX12_189_571 (ct2_nil))))))
noncomputable def ft_610_3 : CTB2 := [(3, 165, 0, con_362, [0, 1]), (12, 165, 0, con_363, [0, 1]), (21, 165, 0, con_548, [0, 1]), (49, 165, 0, con_548, [0, 1]), (71, 210, 0, con_572, [0, 1, 2]), (93, 172, 0, con_373, [0, 1]), (160, 172, 0, con_374, [0, 1]), (176, 172, 0, con_552, [0, 1])]
theorem ck_RX12_210_572 : COK2 RX12 vwCl gTbl 210 0 con_572 := ⟨wd_1632, wd_137, mh_X12_isFull, .inr (.inr ⟨rfl, wd_1629, wd_1631, wd_63, ⟨_, rfl, pd_X12_isFull⟩, 12, _, TX12, 45, rfl, rfl⟩)⟩
theorem fto_610_3 (l : Launch) {es : List va_E} (f2 : isFact 2 0 [0, 1] es) (f5 : isFact 5 0 [0, 1] es) (f8 : isFact 8 1 [0, 1] es) (f12 : isFact 12 1 [0, 1] es) : FTOK2 l RX12 vwCl gTbl es ft_610_3 := ft2_cons (fun ec he => hv_362 l (f2 ec he)) ck_RX12_165_362 (ft2_cons (fun ec he => hv_363 l (f5 ec he)) ck_RX12_165_363 (ft2_cons (fun ec he => hv_548 l (f8 ec he)) ck_RX12_165_548 (ft2_cons (fun ec he => hv_548 l (f8 ec he)) ck_RX12_165_548 (ft2_cons (fun ec he => hv_572 l (fact_at f2 he (τ := [0, 1]) (by decide) (by decide)) (fact_at f5 he (τ := [0, 1]) (by decide) (by decide)) (fact_at f8 he (τ := [0, 1]) (by decide) (by decide)) (fact_at f12 he (τ := [0, 1]) (by decide) (by decide))) ck_RX12_210_572 (ft2_cons (fun ec he => hv_373 l (fact_at f2 he (τ := [0, 1]) (by decide) (by decide))) ck_RX12_172_373 (ft2_cons (fun ec he => hv_374 l (fact_at f5 he (τ := [0, 1]) (by decide) (by decide))) ck_RX12_172_374 (ft2_cons (fun ec he => hv_552 l (fact_at f8 he (τ := [0, 1]) (by decide) (by decide))) ck_RX12_172_552 (ft2_nil))))))))
noncomputable def cu_610_3 : List CUT2 := []
theorem ch_610_3 : staG tb_X12_readNext 1 bt_RX12 ft_610_3 ct_610_2 [] [] cu_610_3 85 con_610 = true := by decide +kernel
theorem ck_RX12_217_580 : COK2 RX12 vwCl gTbl 217 0 con_580 := ⟨wd_1638, wd_137, mh_X12_readHedge, .inr (.inr ⟨rfl, wd_1635, wd_1637, wd_64, ⟨_, rfl, pd_X12_readHedge⟩, 12, _, TX12, 45, rfl, rfl⟩)⟩
noncomputable def ct_610_4 : CTB2 := [(79, 175, 0, con_550, [0]), (83, 153, 0, con_551, [0]), (83, 153, 0, con_314, [0]), (167, 217, 0, con_580, [0, 2, 1])]
noncomputable def ft_610_4 : CTB2 := [(3, 165, 0, con_362, [0, 1]), (12, 165, 0, con_573, [0, 1]), (49, 165, 0, con_364, [0, 1]), (71, 210, 0, con_574, [0, 1, 2]), (93, 172, 0, con_373, [0, 1]), (160, 172, 0, con_575, [0, 1])]
theorem ck_RX12_172_575 : COK2 RX12 vwCl gTbl 172 0 con_575 := ⟨wd_1599, wd_137, mh_X12_takes, .inr (.inr ⟨rfl, wd_1596, wd_1598, wd_57, ⟨_, rfl, pd_X12_takes⟩, 12, _, TX12, 45, rfl, rfl⟩)⟩
theorem ck_RX12_210_574 : COK2 RX12 vwCl gTbl 210 0 con_574 := ⟨wd_1632, wd_137, mh_X12_isFull, .inr (.inr ⟨rfl, wd_1629, wd_1631, wd_63, ⟨_, rfl, pd_X12_isFull⟩, 12, _, TX12, 45, rfl, rfl⟩)⟩
theorem fto_610_4 (l : Launch) {es : List va_E} (f2 : isFact 2 0 [0, 1] es) (f5 : isFact 5 1 [0, 1] es) (f8 : isFact 8 0 [0, 1] es) (f12 : isFact 12 0 [0, 1] es) : FTOK2 l RX12 vwCl gTbl es ft_610_4 := ft2_cons (fun ec he => hv_362 l (f2 ec he)) ck_RX12_165_362 (ft2_cons (fun ec he => hv_573 l (f5 ec he)) ck_RX12_165_573 (ft2_cons (fun ec he => hv_364 l (f8 ec he)) ck_RX12_165_364 (ft2_cons (fun ec he => hv_574 l (fact_at f2 he (τ := [0, 1]) (by decide) (by decide)) (fact_at f5 he (τ := [0, 1]) (by decide) (by decide)) (fact_at f8 he (τ := [0, 1]) (by decide) (by decide)) (fact_at f12 he (τ := [0, 1]) (by decide) (by decide))) ck_RX12_210_574 (ft2_cons (fun ec he => hv_373 l (fact_at f2 he (τ := [0, 1]) (by decide) (by decide))) ck_RX12_172_373 (ft2_cons (fun ec he => hv_575 l (fact_at f5 he (τ := [0, 1]) (by decide) (by decide))) ck_RX12_172_575 (ft2_nil))))))
noncomputable def cu_610_4 : List CUT2 := []
theorem ch_610_4 : staG tb_X12_readNext 1 bt_RX12 ft_610_4 ct_610_4 [] [] cu_610_4 37 con_610 = true := by decide +kernel
theorem cto_610_4 (l : Launch) : CTOK2 l RX12 vwCl gTbl ct_610_4 := ct2_cons (vl_550 l) ck_RX12_175_550 (ct2_cons (vl_551 l) ck_RX12_153_551 (ct2_cons (vl_314 l) ck_RX12_153_314 (ct2_cons (vl_580 l) ck_RX12_217_580 (ct2_nil))))
noncomputable def ft_610_5 : CTB2 := [(3, 165, 0, con_362, [0, 1]), (12, 165, 0, con_573, [0, 1]), (49, 165, 0, con_364, [0, 1]), (71, 210, 0, con_581, [0, 1, 2]), (93, 172, 0, con_373, [0, 1]), (160, 172, 0, con_575, [0, 1])]
theorem ck_RX12_210_581 : COK2 RX12 vwCl gTbl 210 0 con_581 := ⟨wd_1632, wd_137, mh_X12_isFull, .inr (.inr ⟨rfl, wd_1629, wd_1631, wd_63, ⟨_, rfl, pd_X12_isFull⟩, 12, _, TX12, 45, rfl, rfl⟩)⟩
theorem fto_610_5 (l : Launch) {es : List va_E} (f2 : isFact 2 0 [0, 1] es) (f5 : isFact 5 1 [0, 1] es) (f8 : isFact 8 0 [0, 1] es) (f12 : isFact 12 1 [0, 1] es) : FTOK2 l RX12 vwCl gTbl es ft_610_5 := ft2_cons (fun ec he => hv_362 l (f2 ec he)) ck_RX12_165_362 (ft2_cons (fun ec he => hv_573 l (f5 ec he)) ck_RX12_165_573 (ft2_cons (fun ec he => hv_364 l (f8 ec he)) ck_RX12_165_364 (ft2_cons (fun ec he => hv_581 l (fact_at f2 he (τ := [0, 1]) (by decide) (by decide)) (fact_at f5 he (τ := [0, 1]) (by decide) (by decide)) (fact_at f8 he (τ := [0, 1]) (by decide) (by decide)) (fact_at f12 he (τ := [0, 1]) (by decide) (by decide))) ck_RX12_210_581 (ft2_cons (fun ec he => hv_373 l (fact_at f2 he (τ := [0, 1]) (by decide) (by decide))) ck_RX12_172_373 (ft2_cons (fun ec he => hv_575 l (fact_at f5 he (τ := [0, 1]) (by decide) (by decide))) ck_RX12_172_575 (ft2_nil))))))
noncomputable def cu_610_5 : List CUT2 := []
theorem ch_610_5 : staG tb_X12_readNext 1 bt_RX12 ft_610_5 ct_610_4 [] [] cu_610_5 37 con_610 = true := by decide +kernel
noncomputable def ft_610_6 : CTB2 := [(3, 165, 0, con_362, [0, 1]), (12, 165, 0, con_573, [0, 1]), (49, 165, 0, con_548, [0, 1]), (71, 210, 0, con_582, [0, 1, 2]), (93, 172, 0, con_373, [0, 1]), (160, 172, 0, con_575, [0, 1])]
theorem ck_RX12_210_582 : COK2 RX12 vwCl gTbl 210 0 con_582 := ⟨wd_1632, wd_137, mh_X12_isFull, .inr (.inr ⟨rfl, wd_1629, wd_1631, wd_63, ⟨_, rfl, pd_X12_isFull⟩, 12, _, TX12, 45, rfl, rfl⟩)⟩
theorem fto_610_6 (l : Launch) {es : List va_E} (f2 : isFact 2 0 [0, 1] es) (f5 : isFact 5 1 [0, 1] es) (f8 : isFact 8 1 [0, 1] es) (f12 : isFact 12 0 [0, 1] es) : FTOK2 l RX12 vwCl gTbl es ft_610_6 := ft2_cons (fun ec he => hv_362 l (f2 ec he)) ck_RX12_165_362 (ft2_cons (fun ec he => hv_573 l (f5 ec he)) ck_RX12_165_573 (ft2_cons (fun ec he => hv_548 l (f8 ec he)) ck_RX12_165_548 (ft2_cons (fun ec he => hv_582 l (fact_at f2 he (τ := [0, 1]) (by decide) (by decide)) (fact_at f5 he (τ := [0, 1]) (by decide) (by decide)) (fact_at f8 he (τ := [0, 1]) (by decide) (by decide)) (fact_at f12 he (τ := [0, 1]) (by decide) (by decide))) ck_RX12_210_582 (ft2_cons (fun ec he => hv_373 l (fact_at f2 he (τ := [0, 1]) (by decide) (by decide))) ck_RX12_172_373 (ft2_cons (fun ec he => hv_575 l (fact_at f5 he (τ := [0, 1]) (by decide) (by decide))) ck_RX12_172_575 (ft2_nil))))))
noncomputable def cu_610_6 : List CUT2 := []
theorem ch_610_6 : staG tb_X12_readNext 1 bt_RX12 ft_610_6 ct_610_4 [] [] cu_610_6 42 con_610 = true := by decide +kernel
noncomputable def ft_610_7 : CTB2 := [(3, 165, 0, con_362, [0, 1]), (12, 165, 0, con_573, [0, 1]), (49, 165, 0, con_548, [0, 1]), (71, 210, 0, con_583, [0, 1, 2]), (93, 172, 0, con_373, [0, 1]), (160, 172, 0, con_575, [0, 1])]
theorem ck_RX12_210_583 : COK2 RX12 vwCl gTbl 210 0 con_583 := ⟨wd_1632, wd_137, mh_X12_isFull, .inr (.inr ⟨rfl, wd_1629, wd_1631, wd_63, ⟨_, rfl, pd_X12_isFull⟩, 12, _, TX12, 45, rfl, rfl⟩)⟩
theorem fto_610_7 (l : Launch) {es : List va_E} (f2 : isFact 2 0 [0, 1] es) (f5 : isFact 5 1 [0, 1] es) (f8 : isFact 8 1 [0, 1] es) (f12 : isFact 12 1 [0, 1] es) : FTOK2 l RX12 vwCl gTbl es ft_610_7 := ft2_cons (fun ec he => hv_362 l (f2 ec he)) ck_RX12_165_362 (ft2_cons (fun ec he => hv_573 l (f5 ec he)) ck_RX12_165_573 (ft2_cons (fun ec he => hv_548 l (f8 ec he)) ck_RX12_165_548 (ft2_cons (fun ec he => hv_583 l (fact_at f2 he (τ := [0, 1]) (by decide) (by decide)) (fact_at f5 he (τ := [0, 1]) (by decide) (by decide)) (fact_at f8 he (τ := [0, 1]) (by decide) (by decide)) (fact_at f12 he (τ := [0, 1]) (by decide) (by decide))) ck_RX12_210_583 (ft2_cons (fun ec he => hv_373 l (fact_at f2 he (τ := [0, 1]) (by decide) (by decide))) ck_RX12_172_373 (ft2_cons (fun ec he => hv_575 l (fact_at f5 he (τ := [0, 1]) (by decide) (by decide))) ck_RX12_172_575 (ft2_nil))))))
noncomputable def cu_610_7 : List CUT2 := []
theorem ch_610_7 : staG tb_X12_readNext 1 bt_RX12 ft_610_7 ct_610_4 [] [] cu_610_7 42 con_610 = true := by decide +kernel
theorem ck_RX12_189_602 : COK2 RX12 vwCl gTbl 189 0 con_602 := ⟨wd_1614, wd_137, mh_X12_told, .inr (.inr ⟨rfl, wd_1611, wd_1613, wd_60, ⟨_, rfl, pd_X12_told⟩, 12, _, TX12, 45, rfl, rfl⟩)⟩
theorem ck_RX12_189_597 : COK2 RX12 vwCl gTbl 189 0 con_597 := ⟨wd_1614, wd_137, mh_X12_told, .inr (.inr ⟨rfl, wd_1611, wd_1613, wd_60, ⟨_, rfl, pd_X12_told⟩, 12, _, TX12, 45, rfl, rfl⟩)⟩
theorem ck_RX12_189_593 : COK2 RX12 vwCl gTbl 189 0 con_593 := ⟨wd_1614, wd_137, mh_X12_told, .inr (.inr ⟨rfl, wd_1611, wd_1613, wd_60, ⟨_, rfl, pd_X12_told⟩, 12, _, TX12, 45, rfl, rfl⟩)⟩
noncomputable def ct_610_8 : CTB2 := [(79, 175, 0, con_550, [0]), (83, 153, 0, con_551, [0]), (83, 153, 0, con_314, [0]), (123, 189, 0, con_593, [0, 1]), (140, 189, 0, con_597, [0, 1]), (140, 189, 0, con_602, [0, 1])]
noncomputable def ft_610_8 : CTB2 := [(3, 165, 0, con_584, [0, 1]), (49, 165, 0, con_364, [0, 1]), (71, 210, 0, con_585, [0, 1, 2]), (93, 172, 0, con_586, [0, 1])]
theorem ck_RX12_172_586 : COK2 RX12 vwCl gTbl 172 0 con_586 := ⟨wd_1599, wd_137, mh_X12_takes, .inr (.inr ⟨rfl, wd_1596, wd_1598, wd_57, ⟨_, rfl, pd_X12_takes⟩, 12, _, TX12, 45, rfl, rfl⟩)⟩
theorem ck_RX12_210_585 : COK2 RX12 vwCl gTbl 210 0 con_585 := ⟨wd_1632, wd_137, mh_X12_isFull, .inr (.inr ⟨rfl, wd_1629, wd_1631, wd_63, ⟨_, rfl, pd_X12_isFull⟩, 12, _, TX12, 45, rfl, rfl⟩)⟩
theorem fto_610_8 (l : Launch) {es : List va_E} (f2 : isFact 2 1 [0, 1] es) (f5 : isFact 5 0 [0, 1] es) (f8 : isFact 8 0 [0, 1] es) (f12 : isFact 12 0 [0, 1] es) : FTOK2 l RX12 vwCl gTbl es ft_610_8 := ft2_cons (fun ec he => hv_584 l (f2 ec he)) ck_RX12_165_584 (ft2_cons (fun ec he => hv_364 l (f8 ec he)) ck_RX12_165_364 (ft2_cons (fun ec he => hv_585 l (fact_at f2 he (τ := [0, 1]) (by decide) (by decide)) (fact_at f5 he (τ := [0, 1]) (by decide) (by decide)) (fact_at f8 he (τ := [0, 1]) (by decide) (by decide)) (fact_at f12 he (τ := [0, 1]) (by decide) (by decide))) ck_RX12_210_585 (ft2_cons (fun ec he => hv_586 l (fact_at f2 he (τ := [0, 1]) (by decide) (by decide))) ck_RX12_172_586 (ft2_nil))))
noncomputable def cu_610_8 : List CUT2 := []
theorem ch_610_8 : staG tb_X12_readNext 1 bt_RX12 ft_610_8 ct_610_8 [] [] cu_610_8 64 con_610 = true := by decide +kernel
theorem cto_610_8 (l : Launch) : CTOK2 l RX12 vwCl gTbl ct_610_8 := ct2_cons (vl_550 l) ck_RX12_175_550 (ct2_cons (vl_551 l) ck_RX12_153_551 (ct2_cons (vl_314 l) ck_RX12_153_314 (ct2_cons (vl_593 l) ck_RX12_189_593 (ct2_cons (vl_597 l) ck_RX12_189_597 (ct2_cons (vl_602 l) ck_RX12_189_602 (ct2_nil))))))
noncomputable def ft_610_9 : CTB2 := [(3, 165, 0, con_584, [0, 1]), (49, 165, 0, con_364, [0, 1]), (71, 210, 0, con_603, [0, 1, 2]), (93, 172, 0, con_586, [0, 1])]
theorem ck_RX12_210_603 : COK2 RX12 vwCl gTbl 210 0 con_603 := ⟨wd_1632, wd_137, mh_X12_isFull, .inr (.inr ⟨rfl, wd_1629, wd_1631, wd_63, ⟨_, rfl, pd_X12_isFull⟩, 12, _, TX12, 45, rfl, rfl⟩)⟩
theorem fto_610_9 (l : Launch) {es : List va_E} (f2 : isFact 2 1 [0, 1] es) (f5 : isFact 5 0 [0, 1] es) (f8 : isFact 8 0 [0, 1] es) (f12 : isFact 12 1 [0, 1] es) : FTOK2 l RX12 vwCl gTbl es ft_610_9 := ft2_cons (fun ec he => hv_584 l (f2 ec he)) ck_RX12_165_584 (ft2_cons (fun ec he => hv_364 l (f8 ec he)) ck_RX12_165_364 (ft2_cons (fun ec he => hv_603 l (fact_at f2 he (τ := [0, 1]) (by decide) (by decide)) (fact_at f5 he (τ := [0, 1]) (by decide) (by decide)) (fact_at f8 he (τ := [0, 1]) (by decide) (by decide)) (fact_at f12 he (τ := [0, 1]) (by decide) (by decide))) ck_RX12_210_603 (ft2_cons (fun ec he => hv_586 l (fact_at f2 he (τ := [0, 1]) (by decide) (by decide))) ck_RX12_172_586 (ft2_nil))))
noncomputable def cu_610_9 : List CUT2 := []
theorem ch_610_9 : staG tb_X12_readNext 1 bt_RX12 ft_610_9 ct_610_8 [] [] cu_610_9 64 con_610 = true := by decide +kernel
noncomputable def ft_610_10 : CTB2 := [(3, 165, 0, con_584, [0, 1]), (49, 165, 0, con_548, [0, 1]), (71, 210, 0, con_604, [0, 1, 2]), (93, 172, 0, con_586, [0, 1])]
theorem ck_RX12_210_604 : COK2 RX12 vwCl gTbl 210 0 con_604 := ⟨wd_1632, wd_137, mh_X12_isFull, .inr (.inr ⟨rfl, wd_1629, wd_1631, wd_63, ⟨_, rfl, pd_X12_isFull⟩, 12, _, TX12, 45, rfl, rfl⟩)⟩
theorem fto_610_10 (l : Launch) {es : List va_E} (f2 : isFact 2 1 [0, 1] es) (f5 : isFact 5 0 [0, 1] es) (f8 : isFact 8 1 [0, 1] es) (f12 : isFact 12 0 [0, 1] es) : FTOK2 l RX12 vwCl gTbl es ft_610_10 := ft2_cons (fun ec he => hv_584 l (f2 ec he)) ck_RX12_165_584 (ft2_cons (fun ec he => hv_548 l (f8 ec he)) ck_RX12_165_548 (ft2_cons (fun ec he => hv_604 l (fact_at f2 he (τ := [0, 1]) (by decide) (by decide)) (fact_at f5 he (τ := [0, 1]) (by decide) (by decide)) (fact_at f8 he (τ := [0, 1]) (by decide) (by decide)) (fact_at f12 he (τ := [0, 1]) (by decide) (by decide))) ck_RX12_210_604 (ft2_cons (fun ec he => hv_586 l (fact_at f2 he (τ := [0, 1]) (by decide) (by decide))) ck_RX12_172_586 (ft2_nil))))
noncomputable def cu_610_10 : List CUT2 := []
theorem ch_610_10 : staG tb_X12_readNext 1 bt_RX12 ft_610_10 ct_610_8 [] [] cu_610_10 69 con_610 = true := by decide +kernel
noncomputable def ft_610_11 : CTB2 := [(3, 165, 0, con_584, [0, 1]), (49, 165, 0, con_548, [0, 1]), (71, 210, 0, con_605, [0, 1, 2]), (93, 172, 0, con_586, [0, 1])]
theorem ck_RX12_210_605 : COK2 RX12 vwCl gTbl 210 0 con_605 := ⟨wd_1632, wd_137, mh_X12_isFull, .inr (.inr ⟨rfl, wd_1629, wd_1631, wd_63, ⟨_, rfl, pd_X12_isFull⟩, 12, _, TX12, 45, rfl, rfl⟩)⟩
theorem fto_610_11 (l : Launch) {es : List va_E} (f2 : isFact 2 1 [0, 1] es) (f5 : isFact 5 0 [0, 1] es) (f8 : isFact 8 1 [0, 1] es) (f12 : isFact 12 1 [0, 1] es) : FTOK2 l RX12 vwCl gTbl es ft_610_11 := ft2_cons (fun ec he => hv_584 l (f2 ec he)) ck_RX12_165_584 (ft2_cons (fun ec he => hv_548 l (f8 ec he)) ck_RX12_165_548 (ft2_cons (fun ec he => hv_605 l (fact_at f2 he (τ := [0, 1]) (by decide) (by decide)) (fact_at f5 he (τ := [0, 1]) (by decide) (by decide)) (fact_at f8 he (τ := [0, 1]) (by decide) (by decide)) (fact_at f12 he (τ := [0, 1]) (by decide) (by decide))) ck_RX12_210_605 (ft2_cons (fun ec he => hv_586 l (fact_at f2 he (τ := [0, 1]) (by decide) (by decide))) ck_RX12_172_586 (ft2_nil))))
noncomputable def cu_610_11 : List CUT2 := []
theorem ch_610_11 : staG tb_X12_readNext 1 bt_RX12 ft_610_11 ct_610_8 [] [] cu_610_11 69 con_610 = true := by decide +kernel
noncomputable def ft_610_12 : CTB2 := [(3, 165, 0, con_584, [0, 1]), (49, 165, 0, con_364, [0, 1]), (71, 210, 0, con_606, [0, 1, 2]), (93, 172, 0, con_586, [0, 1])]
theorem ck_RX12_210_606 : COK2 RX12 vwCl gTbl 210 0 con_606 := ⟨wd_1632, wd_137, mh_X12_isFull, .inr (.inr ⟨rfl, wd_1629, wd_1631, wd_63, ⟨_, rfl, pd_X12_isFull⟩, 12, _, TX12, 45, rfl, rfl⟩)⟩
theorem fto_610_12 (l : Launch) {es : List va_E} (f2 : isFact 2 1 [0, 1] es) (f5 : isFact 5 1 [0, 1] es) (f8 : isFact 8 0 [0, 1] es) (f12 : isFact 12 0 [0, 1] es) : FTOK2 l RX12 vwCl gTbl es ft_610_12 := ft2_cons (fun ec he => hv_584 l (f2 ec he)) ck_RX12_165_584 (ft2_cons (fun ec he => hv_364 l (f8 ec he)) ck_RX12_165_364 (ft2_cons (fun ec he => hv_606 l (fact_at f2 he (τ := [0, 1]) (by decide) (by decide)) (fact_at f5 he (τ := [0, 1]) (by decide) (by decide)) (fact_at f8 he (τ := [0, 1]) (by decide) (by decide)) (fact_at f12 he (τ := [0, 1]) (by decide) (by decide))) ck_RX12_210_606 (ft2_cons (fun ec he => hv_586 l (fact_at f2 he (τ := [0, 1]) (by decide) (by decide))) ck_RX12_172_586 (ft2_nil))))
noncomputable def cu_610_12 : List CUT2 := []
theorem ch_610_12 : staG tb_X12_readNext 1 bt_RX12 ft_610_12 ct_610_8 [] [] cu_610_12 64 con_610 = true := by decide +kernel
noncomputable def ft_610_13 : CTB2 := [(3, 165, 0, con_584, [0, 1]), (49, 165, 0, con_364, [0, 1]), (71, 210, 0, con_607, [0, 1, 2]), (93, 172, 0, con_586, [0, 1])]
theorem ck_RX12_210_607 : COK2 RX12 vwCl gTbl 210 0 con_607 := ⟨wd_1632, wd_137, mh_X12_isFull, .inr (.inr ⟨rfl, wd_1629, wd_1631, wd_63, ⟨_, rfl, pd_X12_isFull⟩, 12, _, TX12, 45, rfl, rfl⟩)⟩
theorem fto_610_13 (l : Launch) {es : List va_E} (f2 : isFact 2 1 [0, 1] es) (f5 : isFact 5 1 [0, 1] es) (f8 : isFact 8 0 [0, 1] es) (f12 : isFact 12 1 [0, 1] es) : FTOK2 l RX12 vwCl gTbl es ft_610_13 := ft2_cons (fun ec he => hv_584 l (f2 ec he)) ck_RX12_165_584 (ft2_cons (fun ec he => hv_364 l (f8 ec he)) ck_RX12_165_364 (ft2_cons (fun ec he => hv_607 l (fact_at f2 he (τ := [0, 1]) (by decide) (by decide)) (fact_at f5 he (τ := [0, 1]) (by decide) (by decide)) (fact_at f8 he (τ := [0, 1]) (by decide) (by decide)) (fact_at f12 he (τ := [0, 1]) (by decide) (by decide))) ck_RX12_210_607 (ft2_cons (fun ec he => hv_586 l (fact_at f2 he (τ := [0, 1]) (by decide) (by decide))) ck_RX12_172_586 (ft2_nil))))
noncomputable def cu_610_13 : List CUT2 := []
theorem ch_610_13 : staG tb_X12_readNext 1 bt_RX12 ft_610_13 ct_610_8 [] [] cu_610_13 64 con_610 = true := by decide +kernel
noncomputable def ft_610_14 : CTB2 := [(3, 165, 0, con_584, [0, 1]), (49, 165, 0, con_548, [0, 1]), (71, 210, 0, con_608, [0, 1, 2]), (93, 172, 0, con_586, [0, 1])]
theorem ck_RX12_210_608 : COK2 RX12 vwCl gTbl 210 0 con_608 := ⟨wd_1632, wd_137, mh_X12_isFull, .inr (.inr ⟨rfl, wd_1629, wd_1631, wd_63, ⟨_, rfl, pd_X12_isFull⟩, 12, _, TX12, 45, rfl, rfl⟩)⟩
theorem fto_610_14 (l : Launch) {es : List va_E} (f2 : isFact 2 1 [0, 1] es) (f5 : isFact 5 1 [0, 1] es) (f8 : isFact 8 1 [0, 1] es) (f12 : isFact 12 0 [0, 1] es) : FTOK2 l RX12 vwCl gTbl es ft_610_14 := ft2_cons (fun ec he => hv_584 l (f2 ec he)) ck_RX12_165_584 (ft2_cons (fun ec he => hv_548 l (f8 ec he)) ck_RX12_165_548 (ft2_cons (fun ec he => hv_608 l (fact_at f2 he (τ := [0, 1]) (by decide) (by decide)) (fact_at f5 he (τ := [0, 1]) (by decide) (by decide)) (fact_at f8 he (τ := [0, 1]) (by decide) (by decide)) (fact_at f12 he (τ := [0, 1]) (by decide) (by decide))) ck_RX12_210_608 (ft2_cons (fun ec he => hv_586 l (fact_at f2 he (τ := [0, 1]) (by decide) (by decide))) ck_RX12_172_586 (ft2_nil))))
noncomputable def cu_610_14 : List CUT2 := []
theorem ch_610_14 : staG tb_X12_readNext 1 bt_RX12 ft_610_14 ct_610_8 [] [] cu_610_14 69 con_610 = true := by decide +kernel
noncomputable def ft_610_15 : CTB2 := [(3, 165, 0, con_584, [0, 1]), (49, 165, 0, con_548, [0, 1]), (71, 210, 0, con_609, [0, 1, 2]), (93, 172, 0, con_586, [0, 1])]
theorem ck_RX12_210_609 : COK2 RX12 vwCl gTbl 210 0 con_609 := ⟨wd_1632, wd_137, mh_X12_isFull, .inr (.inr ⟨rfl, wd_1629, wd_1631, wd_63, ⟨_, rfl, pd_X12_isFull⟩, 12, _, TX12, 45, rfl, rfl⟩)⟩
theorem fto_610_15 (l : Launch) {es : List va_E} (f2 : isFact 2 1 [0, 1] es) (f5 : isFact 5 1 [0, 1] es) (f8 : isFact 8 1 [0, 1] es) (f12 : isFact 12 1 [0, 1] es) : FTOK2 l RX12 vwCl gTbl es ft_610_15 := ft2_cons (fun ec he => hv_584 l (f2 ec he)) ck_RX12_165_584 (ft2_cons (fun ec he => hv_548 l (f8 ec he)) ck_RX12_165_548 (ft2_cons (fun ec he => hv_609 l (fact_at f2 he (τ := [0, 1]) (by decide) (by decide)) (fact_at f5 he (τ := [0, 1]) (by decide) (by decide)) (fact_at f8 he (τ := [0, 1]) (by decide) (by decide)) (fact_at f12 he (τ := [0, 1]) (by decide) (by decide))) ck_RX12_210_609 (ft2_cons (fun ec he => hv_586 l (fact_at f2 he (τ := [0, 1]) (by decide) (by decide))) ck_RX12_172_586 (ft2_nil))))
noncomputable def cu_610_15 : List CUT2 := []
theorem ch_610_15 : staG tb_X12_readNext 1 bt_RX12 ft_610_15 ct_610_8 [] [] cu_610_15 69 con_610 = true := by decide +kernel
theorem vl_610 (l : Launch) : Vld2 l vwCl gTbl con_610 := fun es => by
  rcases fact_or 2 [0, 1] es with f2 | f2 <;> rcases fact_or 5 [0, 1] es with f5 | f5 <;> rcases fact_or 8 [0, 1] es with f8 | f8 <;> rcases fact_or 12 [0, 1] es with f12 | f12
  · exact conE_ok3 gT_all (hd_610) rfl pn_RX12 tk_X12_readNext bo_RX12 xo_RX12 (fto_610_0 l f2 f5 f8 f12) (cto_610_0 l) ch_610_0 cut_nil
  · exact conE_ok3 gT_all (hd_610) rfl pn_RX12 tk_X12_readNext bo_RX12 xo_RX12 (fto_610_1 l f2 f5 f8 f12) (cto_610_1 l) ch_610_1 cut_nil
  · exact conE_ok3 gT_all (hd_610) rfl pn_RX12 tk_X12_readNext bo_RX12 xo_RX12 (fto_610_2 l f2 f5 f8 f12) (cto_610_2 l) ch_610_2 cut_nil
  · exact conE_ok3 gT_all (hd_610) rfl pn_RX12 tk_X12_readNext bo_RX12 xo_RX12 (fto_610_3 l f2 f5 f8 f12) (cto_610_2 l) ch_610_3 cut_nil
  · exact conE_ok3 gT_all (hd_610) rfl pn_RX12 tk_X12_readNext bo_RX12 xo_RX12 (fto_610_4 l f2 f5 f8 f12) (cto_610_4 l) ch_610_4 cut_nil
  · exact conE_ok3 gT_all (hd_610) rfl pn_RX12 tk_X12_readNext bo_RX12 xo_RX12 (fto_610_5 l f2 f5 f8 f12) (cto_610_4 l) ch_610_5 cut_nil
  · exact conE_ok3 gT_all (hd_610) rfl pn_RX12 tk_X12_readNext bo_RX12 xo_RX12 (fto_610_6 l f2 f5 f8 f12) (cto_610_4 l) ch_610_6 cut_nil
  · exact conE_ok3 gT_all (hd_610) rfl pn_RX12 tk_X12_readNext bo_RX12 xo_RX12 (fto_610_7 l f2 f5 f8 f12) (cto_610_4 l) ch_610_7 cut_nil
  · exact conE_ok3 gT_all (hd_610) rfl pn_RX12 tk_X12_readNext bo_RX12 xo_RX12 (fto_610_8 l f2 f5 f8 f12) (cto_610_8 l) ch_610_8 cut_nil
  · exact conE_ok3 gT_all (hd_610) rfl pn_RX12 tk_X12_readNext bo_RX12 xo_RX12 (fto_610_9 l f2 f5 f8 f12) (cto_610_8 l) ch_610_9 cut_nil
  · exact conE_ok3 gT_all (hd_610) rfl pn_RX12 tk_X12_readNext bo_RX12 xo_RX12 (fto_610_10 l f2 f5 f8 f12) (cto_610_8 l) ch_610_10 cut_nil
  · exact conE_ok3 gT_all (hd_610) rfl pn_RX12 tk_X12_readNext bo_RX12 xo_RX12 (fto_610_11 l f2 f5 f8 f12) (cto_610_8 l) ch_610_11 cut_nil
  · exact conE_ok3 gT_all (hd_610) rfl pn_RX12 tk_X12_readNext bo_RX12 xo_RX12 (fto_610_12 l f2 f5 f8 f12) (cto_610_8 l) ch_610_12 cut_nil
  · exact conE_ok3 gT_all (hd_610) rfl pn_RX12 tk_X12_readNext bo_RX12 xo_RX12 (fto_610_13 l f2 f5 f8 f12) (cto_610_8 l) ch_610_13 cut_nil
  · exact conE_ok3 gT_all (hd_610) rfl pn_RX12 tk_X12_readNext bo_RX12 xo_RX12 (fto_610_14 l f2 f5 f8 f12) (cto_610_8 l) ch_610_14 cut_nil
  · exact conE_ok3 gT_all (hd_610) rfl pn_RX12 tk_X12_readNext bo_RX12 xo_RX12 (fto_610_15 l f2 f5 f8 f12) (cto_610_8 l) ch_610_15 cut_nil
/-- RookHustingModel good -/
noncomputable def gi_272 : GI := jl_n [jl_z 13, jl_i 1 3, jl_z 32]
noncomputable def gi_273 : GI := jl_n [jl_z 13, jl_i 1 3, jl_z 33]
noncomputable def con_611 : Con2 := ((yX12_good, cX12_good, 1, (some .boolean)), (0, 0), ([(6, 0, 0)], gi_272, [ac_130], []), [((0, 0, 0), gi_273, [(false, ac_130)], [], [1])])
theorem hd_611 : con_611.1 = (yX12_good, cX12_good, 1, (some .boolean)) := rfl
noncomputable def cu_611 : List CUT2 := []
theorem ch_611 : staG tb_X12_good 1 bt_RX12 [] ct_2 [] [] cu_611 7 con_611 = true := by decide +kernel
theorem vl_611 (l : Launch) : Vld2 l vwCl gTbl con_611 := conR_ok3 gT_all (hd_611) rfl pn_RX12 tk_X12_good bo_RX12 xo_RX12 (cto_2 l) ch_611 cut_nil
/-- RookHustingModel readLine -/
noncomputable def ac_193 : AC := .inr (1, jl_n [js_1 49 3, js_1 120 3, jl_x (1, (0, 0, 0)), sp_48, sp_10])
noncomputable def hq_182 : HP := [(true, ac_149), (true, ac_193), (false, am_2)]
noncomputable def gi_274 : GI := jl_n [gp_134, jl_z 22, gp_79, gp_0, jl_i 0 700, jl_z 54]
noncomputable def ac_194 : AC := .inl (12, jl_n [vp_33, jl_1 81 4, jl_c 1, jl_1 83 1, vp_31])
noncomputable def ac_195 : AC := .inr (1, jl_n [sp_30, sp_48, js_2 1 1 9, sp_29])
noncomputable def hq_183 : HP := [(true, ac_194), (true, ac_195), (false, am_2)]
noncomputable def ac_196 : AC := .inr (1, jl_n [sp_23, sp_49, sp_29])
noncomputable def hq_184 : HP := [(true, ac_149), (true, ac_196), (false, am_2)]
noncomputable def hq_185 : HP := [(true, ac_151), (true, ac_193), (false, am_2)]
noncomputable def hq_186 : HP := [(true, ac_151), (true, ac_195), (false, am_2)]
noncomputable def con_612 : Con2 := ((yX12_readLine, cX12_readLine, 1, none), (14, 334), ([(6, 0, 0)], gi_215, [ac_148, ac_156, am_2], []), [((9, 0, 0), gi_269, hq_182, [], tg_11), ((9, 0, 0), gi_274, hq_183, [], tg_11), ((9, 0, 0), gi_216, hq_184, [], tg_11), ((9, 0, 0), gi_270, hq_185, rq_0, tg_11), ((9, 0, 0), gi_271, hq_186, [], tg_11)])
theorem hd_612 : con_612.1 = (yX12_readLine, cX12_readLine, 1, none) := rfl
theorem ck_RX12_153_611 : COK2 RX12 vwCl gTbl 153 0 con_611 := ⟨wd_1582, wd_137, mh_X12_good, .inr (.inr ⟨rfl, wd_1579, wd_1581, wd_53, ⟨_, rfl, pd_X12_good⟩, 12, _, TX12, 45, rfl, rfl⟩)⟩
theorem ck_RX12_230_610 : COK2 RX12 vwCl gTbl 230 0 con_610 := ⟨wd_1624, wd_137, mh_X12_readNext, .inr (.inr ⟨rfl, wd_1621, wd_1623, wd_62, ⟨_, rfl, pd_X12_readNext⟩, 12, _, TX12, 45, rfl, rfl⟩)⟩
noncomputable def ct_612 : CTB2 := [(18, 230, 0, con_610, [0, 2, 1]), (22, 153, 0, con_314, [0]), (22, 153, 0, con_343, [0]), (22, 153, 0, con_611, [0]), (38, 175, 0, con_317, [0]), (42, 153, 0, con_322, [0]), (42, 153, 0, con_314, [0]), (42, 153, 0, con_343, [0]), (42, 153, 0, con_611, [0]), (49, 169, 0, con_313, [0, 2])]
noncomputable def cu_612 : List CUT2 := []
theorem ch_612 : staG tb_X12_readLine 1 bt_RX12 [] ct_612 [] [] cu_612 31 con_612 = true := by decide +kernel
theorem cto_612 (l : Launch) : CTOK2 l RX12 vwCl gTbl ct_612 := ct2_cons (vl_610 l) ck_RX12_230_610 (ct2_cons (vl_314 l) ck_RX12_153_314 (ct2_cons (vl_343 l) ck_RX12_153_343 (ct2_cons (vl_611 l) ck_RX12_153_611 (ct2_cons (vl_317 l) ck_RX12_175_317 (ct2_cons (vl_322 l) ck_RX12_153_322 (ct2_cons (vl_314 l) ck_RX12_153_314 (ct2_cons (vl_343 l) ck_RX12_153_343 (ct2_cons (vl_611 l) ck_RX12_153_611 (ct2_cons (vl_313 l) ck_RX12_169_313 (ct2_nil))))))))))
theorem vl_612 (l : Launch) : Vld2 l vwCl gTbl con_612 := conR_ok3 gT_all (hd_612) rfl pn_RX12 tk_X12_readLine bo_RX12 xo_RX12 (cto_612 l) ch_612 cut_nil
