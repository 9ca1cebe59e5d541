/-! ===== contracts, 6 ===== -/
noncomputable def gh_552 : GI := [(0, 0), (0, 0), (0, 0), (0, 0), (0, 0), (0, 0), (0, 0), (0, 0), (0, 0), (0, 0), (0, 700), (0, 700), (0, 4), (0, 0), (0, 0), (0, 0), (0, 0), (0, 0), (0, 0), (0, 0), (0, 0), (0, 0), (0, 0), (0, 0), (0, 0), (0, 0), (0, 0), (0, 0), (0, 0), (0, 0), (0, 0), (0, 0), (0, 0), (0, 0), (0, 0), (0, 0), (0, 0), (0, 0), (0, 0), (0, 0), (0, 0), (0, 0), (0, 0), (0, 0), (0, 0), (0, 0), (0, 0)]
noncomputable def fh_552 : List AV := [(8, 2, 0), (8, 3, 0), (8, 4, 0), (8, 5, 0), (6, 1, 0), (8, 7, 0), (8, 8, 0), (8, 9, 0), (1, 10, 0), (1, 11, 0), (1, 12, 0), (8, 13, 0), (0, 0, 0), (8, 15, 0), (8, 16, 0), (8, 17, 0), (8, 18, 0), (8, 19, 0), (8, 20, 0), (8, 21, 0), (8, 22, 0), (8, 23, 0), (8, 24, 0), (8, 25, 0), (8, 26, 0), (8, 27, 0), (8, 28, 0), (8, 29, 0), (8, 30, 0), (8, 31, 0), (8, 32, 0), (8, 33, 0), (8, 34, 0), (8, 35, 0), (8, 36, 0), (8, 37, 0), (8, 38, 0), (8, 39, 0), (8, 40, 0), (8, 41, 0), (8, 42, 0), (8, 43, 0), (8, 44, 0), (8, 45, 0), (8, 46, 0)]
noncomputable def con_552 : Con2 := ((yX12_is, cX12_is, 4, some .boolean), (8, 200), ([(6, 0, 0), (13, 8, 0)], gh_552, [.inl (12, fh_552), am_3], []), [((0, 1, 0), gh_552 ++ [(0, 0)], [(false, .inl (12, fh_552)), (false, am_3)], [], [1])])
theorem hv_552 (l : Launch) {ec : List va_E} (h : ((1 = 1 → isE 8 ec) ∧ (1 ≠ 1 → ¬ isE 8 ec))) : VldE l vwCl gTbl con_552 ec := is_vld (i := 8) (v := 1) (G := gh_552) (fsA := fh_552) (sg := [(700, (2, (-128), 127))]) (by decide) (by decide +kernel) (a12 := (0, 0, 0)) (a10 := (1, 12, 0)) (a8 := (1, 10, 0)) (a9 := (1, 11, 0)) rfl rfl rfl rfl rfl (q12 := (0, 0)) (q10 := (0, 4)) (q8 := (0, 700)) (q9 := (0, 700)) rfl rfl rfl rfl (by decide +kernel) (by decide +kernel) (Or.inl ⟨h.1 rfl, rfl⟩)
/-- RookHustingModel isFull -/
noncomputable def gi_233 : GI := jl_n [gp_120, gp_111, gp_147]
noncomputable def gi_234 : GI := jl_n [gp_120, gp_111, jl_i 5 5, gp_146]
noncomputable def con_553 : Con2 := ((yX12_isFull, cX12_isFull, 1, (some .boolean)), (9, 223), ([(6, 0, 0)], gi_201, [ac_154, am_3, ac_153], []), [((0, 0, 0), gi_233, hq_145, [], [1]), ((0, 1, 0), gi_234, hq_145, [], [1])])
theorem hd_553 : con_553.1 = (yX12_isFull, cX12_isFull, 1, (some .boolean)) := rfl
noncomputable def ft_553 : CTB2 := [(3, 165, 0, con_366, [0, 1]), (22, 165, 0, con_367, [0, 1]), (44, 165, 0, con_552, [0, 1]), (63, 165, 0, con_369, [0, 1])]
theorem ck_RX12_165_369 : COK2 RX12 vwCl gTbl 165 0 con_369 := ⟨wd_1603, wd_137, mh_X12_is, .inr (.inr ⟨rfl, wd_1600, wd_1602, wd_58, ⟨_, rfl, pd_X12_is⟩, 12, _, TX12, 45, rfl, rfl⟩)⟩
theorem ck_RX12_165_552 : COK2 RX12 vwCl gTbl 165 0 con_552 := ⟨wd_1603, wd_137, mh_X12_is, .inr (.inr ⟨rfl, wd_1600, wd_1602, wd_58, ⟨_, rfl, pd_X12_is⟩, 12, _, TX12, 45, rfl, rfl⟩)⟩
theorem fto_553 (l : Launch) {es : List va_E} (f2 : isFact 2 0 [0, 1] es) (f5 : isFact 5 0 [0, 1] es) (f8 : isFact 8 1 [0, 1] es) (f12 : isFact 12 0 [0, 1] es) : FTOK2 l RX12 vwCl gTbl es ft_553 := ft2_cons (fun ec he => hv_366 l (f2 ec he)) ck_RX12_165_366 (ft2_cons (fun ec he => hv_367 l (f5 ec he)) ck_RX12_165_367 (ft2_cons (fun ec he => hv_552 l (f8 ec he)) ck_RX12_165_552 (ft2_cons (fun ec he => hv_369 l (f12 ec he)) ck_RX12_165_369 (ft2_nil))))
noncomputable def cu_553 : List CUT2 := []
theorem ch_553 : staG tb_X12_isFull 1 bt_RX12 ft_553 ct_2 [] [] cu_553 26 con_553 = true := by decide +kernel
theorem hv_553 (l : Launch) {es : List va_E} (f2 : isFact 2 0 [0, 1] es) (f5 : isFact 5 0 [0, 1] es) (f8 : isFact 8 1 [0, 1] es) (f12 : isFact 12 0 [0, 1] es) : VldE l vwCl gTbl con_553 es := conE_ok3 gT_all (hd_553) rfl pn_RX12 tk_X12_isFull bo_RX12 xo_RX12 (fto_553 l f2 f5 f8 f12) (cto_2 l) ch_553 cut_nil
/-- RookHustingModel errs -/
noncomputable def ac_189 : AC := .inl (12, jl_n [vp_19, jl_c 3, vp_21])
noncomputable def con_554 : Con2 := ((yX12_errs, cX12_errs, 2, none), (1, 20), ([(6, 0, 0), (0, 3, 0)], gi_162, [ac_115], []), [((9, 0, 0), gi_163, [(true, ac_189)], [], tg_10)])
theorem hd_554 : con_554.1 = (yX12_errs, cX12_errs, 2, none) := rfl
noncomputable def cu_554 : List CUT2 := []
theorem ch_554 : staG tb_X12_errs 1 bt_RX12 [] ct_319 [] [] cu_554 13 con_554 = true := by decide +kernel
theorem vl_554 (l : Launch) : Vld2 l vwCl gTbl con_554 := conR_ok3 gT_all (hd_554) rfl pn_RX12 tk_X12_errs bo_RX12 xo_RX12 (cto_319 l) ch_554 cut_nil
/-- RookHustingModel good -/
noncomputable def ac_190 : AC := .inl (12, jl_n [jl_8 13 12, jl_c 3, jl_8 46 32])
noncomputable def con_555 : Con2 := ((yX12_good, cX12_good, 1, (some .boolean)), (0, 0), ([(6, 0, 0)], gi_152, [ac_190], []), [((0, 0, 0), gi_153, [(false, ac_190)], [], [1])])
theorem hd_555 : con_555.1 = (yX12_good, cX12_good, 1, (some .boolean)) := rfl
noncomputable def cu_555 : List CUT2 := []
theorem ch_555 : staG tb_X12_good 1 bt_RX12 [] ct_2 [] [] cu_555 7 con_555 = true := by decide +kernel
theorem vl_555 (l : Launch) : Vld2 l vwCl gTbl con_555 := conR_ok3 gT_all (hd_555) rfl pn_RX12 tk_X12_good bo_RX12 xo_RX12 (cto_2 l) ch_555 cut_nil
/-- RookHustingModel takes -/
noncomputable def gi_235 : GI := jl_n [jl_z 9, gp_79, jl_z 42, gp_82]
noncomputable def con_556 : Con2 := ((yX12_takes, cX12_takes, 3, (some .boolean)), (9, 223), ([(6, 0, 0), (13, 8, 0)], gi_159, [ac_113, am_3], []), [((0, 1, 0), gi_235, hq_123, [], tg_1)])
theorem hd_556 : con_556.1 = (yX12_takes, cX12_takes, 3, (some .boolean)) := rfl
noncomputable def ct_556 : CTB2 := [(11, 169, 0, con_317, [0, 1])]
noncomputable def ft_556 : CTB2 := [(2, 165, 0, con_552, [0, 1])]
theorem fto_556 (l : Launch) {es : List va_E} (f8 : isFact 8 1 [0, 1] es) : FTOK2 l RX12 vwCl gTbl es ft_556 := ft2_cons (fun ec he => hv_552 l (f8 ec he)) ck_RX12_165_552 (ft2_nil)
noncomputable def cu_556 : List CUT2 := []
theorem ch_556 : staG tb_X12_takes 1 bt_RX12 ft_556 ct_556 [] [] cu_556 12 con_556 = true := by decide +kernel
theorem cto_556 (l : Launch) : CTOK2 l RX12 vwCl gTbl ct_556 := ct2_cons (vl_317 l) ck_RX12_169_317 (ct2_nil)
theorem hv_556 (l : Launch) {es : List va_E} (f8 : isFact 8 1 [0, 1] es) : VldE l vwCl gTbl con_556 es := conE_ok3 gT_all (hd_556) rfl pn_RX12 tk_X12_takes bo_RX12 xo_RX12 (fto_556 l f8) (cto_556 l) ch_556 cut_nil
/-- RookHustingModel is -/
noncomputable def con_557 : Con2 := ((yX12_is, cX12_is, 4, (some .boolean)), (8, 200), ([(6, 0, 0), (13, 3, 0)], gi_154, [ac_112, am_3], []), [((0, 0, 0), gi_155, hq_121, [], [1]), ((0, 1, 0), gi_156, hq_121, [], [1])])
theorem hd_557 : con_557.1 = (yX12_is, cX12_is, 4, (some .boolean)) := rfl
noncomputable def cu_557 : List CUT2 := [((39, [lq 0 6 0, lq 1 13 3, lq 2 0 1, lq 3 1 50], [], gi_157, hq_121), [([(10, 1), (11, (-1))], (-7))], ([(50, (-1))], 7)), ((39, [lq 0 6 0, lq 1 13 3, lq 2 0 0, lq 3 1 50], [], gi_158, hq_121), [], ([(50, (-1))], 7))]
theorem ch_557 : staG tb_X12_is 1 bt_RX12 [] ct_319 [(55, [(0, (2, 0, 9), 0, 693)])] [23, 28] cu_557 25 con_557 = true := by decide +kernel
theorem cc_557 : cu_557.all (cutG tb_X12_is 1 bt_RX12 [] ct_319 [(55, [(0, (2, 0, 9), 0, 693)])] [23, 28] cu_557 25 con_557) = true := by decide +kernel
theorem vl_557 (l : Launch) : Vld2 l vwCl gTbl con_557 := conR_ok3 gT_all (hd_557) rfl pn_RX12 tk_X12_is bo_RX12 xo_RX12 (cto_319 l) ch_557 (cut_all cc_557)
/-- RookHustingModel takes -/
noncomputable def con_558 : Con2 := ((yX12_takes, cX12_takes, 3, (some .boolean)), (9, 223), ([(6, 0, 0), (13, 3, 0)], gi_159, [ac_113, am_3], []), [((0, 0, 0), gi_160, hq_122, [], [1]), ((0, 1, 0), gi_161, hq_123, [], tg_1)])
theorem hd_558 : con_558.1 = (yX12_takes, cX12_takes, 3, (some .boolean)) := rfl
theorem ck_RX12_165_557 : COK2 RX12 vwCl gTbl 165 0 con_557 := ⟨wd_1603, wd_137, mh_X12_is, .inr (.inr ⟨rfl, wd_1600, wd_1602, wd_58, ⟨_, rfl, pd_X12_is⟩, 12, _, TX12, 45, rfl, rfl⟩)⟩
noncomputable def ct_558 : CTB2 := [(2, 165, 0, con_557, [0, 1]), (11, 169, 0, con_317, [0, 1])]
noncomputable def cu_558 : List CUT2 := []
theorem ch_558 : staG tb_X12_takes 1 bt_RX12 [] ct_558 [] [] cu_558 12 con_558 = true := by decide +kernel
theorem cto_558 (l : Launch) : CTOK2 l RX12 vwCl gTbl ct_558 := ct2_cons (vl_557 l) ck_RX12_165_557 (ct2_cons (vl_317 l) ck_RX12_169_317 (ct2_nil))
theorem vl_558 (l : Launch) : Vld2 l vwCl gTbl con_558 := conR_ok3 gT_all (hd_558) rfl pn_RX12 tk_X12_takes bo_RX12 xo_RX12 (cto_558 l) ch_558 cut_nil
/-- RookHustingModel expects -/
noncomputable def con_559 : Con2 := ((yX12_expects, cX12_expects, 2, none), (10, 245), ([(6, 0, 0), (13, 3, 0)], gi_164, [ac_117, am_3], []), [((9, 0, 0), gi_165, hq_124, [], tg_10), ((9, 0, 0), gi_166, hq_125, [], tg_10)])
theorem hd_559 : con_559.1 = (yX12_expects, cX12_expects, 2, none) := rfl
theorem ck_RX12_172_558 : COK2 RX12 vwCl gTbl 172 0 con_558 := ⟨wd_1599, wd_137, mh_X12_takes, .inr (.inr ⟨rfl, wd_1596, wd_1598, wd_57, ⟨_, rfl, pd_X12_takes⟩, 12, _, TX12, 45, rfl, rfl⟩)⟩
noncomputable def ct_559 : CTB2 := [(2, 172, 0, con_558, [0, 1]), (10, 175, 0, con_321, [0])]
noncomputable def cu_559 : List CUT2 := []
theorem ch_559 : staG tb_X12_expects 1 bt_RX12 [] ct_559 [] [] cu_559 10 con_559 = true := by decide +kernel
theorem cto_559 (l : Launch) : CTOK2 l RX12 vwCl gTbl ct_559 := ct2_cons (vl_558 l) ck_RX12_172_558 (ct2_cons (vl_321 l) ck_RX12_175_321 (ct2_nil))
theorem vl_559 (l : Launch) : Vld2 l vwCl gTbl con_559 := conR_ok3 gT_all (hd_559) rfl pn_RX12 tk_X12_expects bo_RX12 xo_RX12 (cto_559 l) ch_559 cut_nil
/-- RookHustingModel in -/
noncomputable def con_560 : Con2 := ((yX12_in, cX12_in, 6, (some .boolean)), (0, 0), ([(4, 0, 0), (3, 0, 0), (3, 40, 0)], gi_145, [], []), [((0, 0, 0), gi_146, [], [], [1]), ((0, 1, 0), [(0, 40), (0, 0), (0, 0), (0, 0)], [], [], [1])])
theorem hd_560 : con_560.1 = (yX12_in, cX12_in, 6, (some .boolean)) := rfl
noncomputable def cu_560 : List CUT2 := []
theorem ch_560 : staG tb_X12_in 1 bt_RX12 [] ct_2 [] [] cu_560 11 con_560 = true := by decide +kernel
theorem vl_560 (l : Launch) : Vld2 l vwCl gTbl con_560 := conR_ok3 gT_all (hd_560) rfl pn_RX12 tk_X12_in bo_RX12 xo_RX12 (cto_2 l) ch_560 cut_nil
/-- RookHustingModel number -/
noncomputable def gi_236 : GI := jl_n [gp_98, jl_i 0 40, gp_100]
noncomputable def con_561 : Con2 := ((yX12_number, cX12_number, 4, (some .int)), (2, 46), ([(6, 0, 0), (0, 0, 0), (0, 40, 0)], gi_169, [ac_123, am_3], []), [((0, 0, 0), gi_170, hq_126, [], tg_1), ((1, 14, 0), gi_236, hq_127, [], tg_1)])
theorem hd_561 : con_561.1 = (yX12_number, cX12_number, 4, (some .int)) := rfl
theorem ck_RX12_91_560 : COK2 RX12 vwCl gTbl 91 1 con_560 := ⟨wd_1544, wd_137, mh_X12_in, .inl ⟨rfl, wd_1542, wd_1543, pd_X12_in⟩⟩
noncomputable def ct_561 : CTB2 := [(1, 153, 0, con_318, [0]), (17, 175, 0, con_321, [0]), (21, 153, 0, con_326, [0]), (21, 153, 0, con_318, [0]), (36, 91, 1, con_560, []), (44, 175, 0, con_328, [0]), (48, 153, 0, con_326, [0]), (48, 153, 0, con_318, [0]), (48, 153, 0, con_329, [0]), (62, 169, 0, con_317, [0, 1])]
noncomputable def cu_561 : List CUT2 := []
theorem ch_561 : staG tb_X12_number 1 bt_RX12 [] ct_561 [] [] cu_561 31 con_561 = true := by decide +kernel
theorem cto_561 (l : Launch) : CTOK2 l RX12 vwCl gTbl ct_561 := ct2_cons (vl_318 l) ck_RX12_153_318 (ct2_cons (vl_321 l) ck_RX12_175_321 (ct2_cons (vl_326 l) ck_RX12_153_326 (ct2_cons (vl_318 l) ck_RX12_153_318 (ct2_cons (vl_560 l) ck_RX12_91_560 (ct2_cons (vl_328 l) ck_RX12_175_328 (ct2_cons (vl_326 l) ck_RX12_153_326 (ct2_cons (vl_318 l) ck_RX12_153_318 (ct2_cons (vl_329 l) ck_RX12_153_329 (ct2_cons (vl_317 l) ck_RX12_169_317 (ct2_nil))))))))))
theorem vl_561 (l : Launch) : Vld2 l vwCl gTbl con_561 := conR_ok3 gT_all (hd_561) rfl pn_RX12 tk_X12_number bo_RX12 xo_RX12 (cto_561 l) ch_561 cut_nil
/-- RookHustingModel number -/
noncomputable def con_562 : Con2 := ((yX12_number, cX12_number, 4, (some .int)), (1, 20), ([(6, 0, 0), (0, 0, 0), (0, 40, 0)], gi_169, [ac_126, am_3], []), [((0, 0, 0), gi_172, hq_128, [], [1])])
theorem hd_562 : con_562.1 = (yX12_number, cX12_number, 4, (some .int)) := rfl
noncomputable def cu_562 : List CUT2 := []
theorem ch_562 : staG tb_X12_number 1 bt_RX12 [] ct_331 [] [] cu_562 13 con_562 = true := by decide +kernel
theorem vl_562 (l : Launch) : Vld2 l vwCl gTbl con_562 := conR_ok3 gT_all (hd_562) rfl pn_RX12 tk_X12_number bo_RX12 xo_RX12 (cto_331 l) ch_562 cut_nil
/-- RookHustingModel told -/
noncomputable def gi_237 : GI := jl_n [gp_105, jl_i 0 40, gp_106]
noncomputable def con_563 : Con2 := ((yX12_told, cX12_told, 4, (some .int)), (11, 266), ([(6, 0, 0), (13, 3, 0), (0, 0, 0), (0, 40, 0)], gi_173, [ac_127, am_3], []), [((0, 0, 0), gi_174, hq_129, [], tg_1), ((1, 49, 0), gi_237, hq_130, [], tg_1)])
theorem hd_563 : con_563.1 = (yX12_told, cX12_told, 4, (some .int)) := rfl
theorem ck_RX12_183_562 : COK2 RX12 vwCl gTbl 183 0 con_562 := ⟨wd_1618, wd_137, mh_X12_number, .inr (.inr ⟨rfl, wd_1615, wd_1617, wd_61, ⟨_, rfl, pd_X12_number⟩, 12, _, TX12, 45, rfl, rfl⟩)⟩
theorem ck_RX12_183_561 : COK2 RX12 vwCl gTbl 183 0 con_561 := ⟨wd_1618, wd_137, mh_X12_number, .inr (.inr ⟨rfl, wd_1615, wd_1617, wd_61, ⟨_, rfl, pd_X12_number⟩, 12, _, TX12, 45, rfl, rfl⟩)⟩
theorem ck_RX12_179_559 : COK2 RX12 vwCl gTbl 179 0 con_559 := ⟨wd_1595, wd_137, mh_X12_expects, .inr (.inr ⟨rfl, wd_1592, wd_1594, wd_56, ⟨_, rfl, pd_X12_expects⟩, 12, _, TX12, 45, rfl, rfl⟩)⟩
noncomputable def ct_563 : CTB2 := [(2, 179, 0, con_559, [0, 1]), (8, 183, 0, con_561, [0, 1]), (8, 183, 0, con_562, [0, 1])]
noncomputable def cu_563 : List CUT2 := []
theorem ch_563 : staG tb_X12_told 1 bt_RX12 [] ct_563 [] [] cu_563 10 con_563 = true := by decide +kernel
theorem cto_563 (l : Launch) : CTOK2 l RX12 vwCl gTbl ct_563 := ct2_cons (vl_559 l) ck_RX12_179_559 (ct2_cons (vl_561 l) ck_RX12_183_561 (ct2_cons (vl_562 l) ck_RX12_183_562 (ct2_nil)))
theorem vl_563 (l : Launch) : Vld2 l vwCl gTbl con_563 := conR_ok3 gT_all (hd_563) rfl pn_RX12 tk_X12_told bo_RX12 xo_RX12 (cto_563 l) ch_563 cut_nil
/-- RookHustingModel is -/
noncomputable def con_564 : Con2 := ((yX12_is, cX12_is, 4, (some .boolean)), (8, 200), ([(6, 0, 0), (13, 11, 0)], gi_154, [ac_112, am_3], []), [((0, 0, 0), gi_155, hq_121, [], [1]), ((0, 1, 0), gi_156, hq_121, [], [1])])
theorem hd_564 : con_564.1 = (yX12_is, cX12_is, 4, (some .boolean)) := rfl
noncomputable def gi_238 : GI := jl_n [gp_87, jl_i 0 5]
noncomputable def gi_239 : GI := jl_n [gp_88, jl_i 0 5]
noncomputable def cu_564 : List CUT2 := [((39, [lq 0 6 0, lq 1 13 11, lq 2 0 1, lq 3 1 50], [], gi_238, hq_121), [([(10, 1), (11, (-1))], (-5))], ([(50, (-1))], 5)), ((39, [lq 0 6 0, lq 1 13 11, lq 2 0 0, lq 3 1 50], [], gi_239, hq_121), [], ([(50, (-1))], 5))]
theorem ch_564 : staG tb_X12_is 1 bt_RX12 [] ct_319 [(55, [(0, (2, 0, 9), 0, 695)])] [23, 28] cu_564 25 con_564 = true := by decide +kernel
theorem cc_564 : cu_564.all (cutG tb_X12_is 1 bt_RX12 [] ct_319 [(55, [(0, (2, 0, 9), 0, 695)])] [23, 28] cu_564 25 con_564) = true := by decide +kernel
theorem vl_564 (l : Launch) : Vld2 l vwCl gTbl con_564 := conR_ok3 gT_all (hd_564) rfl pn_RX12 tk_X12_is bo_RX12 xo_RX12 (cto_319 l) ch_564 (cut_all cc_564)
/-- RookHustingModel takes -/
noncomputable def con_565 : Con2 := ((yX12_takes, cX12_takes, 3, (some .boolean)), (9, 223), ([(6, 0, 0), (13, 11, 0)], gi_159, [ac_113, am_3], []), [((0, 0, 0), gi_160, hq_122, [], [1]), ((0, 1, 0), gi_161, hq_123, [], tg_1)])
theorem hd_565 : con_565.1 = (yX12_takes, cX12_takes, 3, (some .boolean)) := rfl
theorem ck_RX12_165_564 : COK2 RX12 vwCl gTbl 165 0 con_564 := ⟨wd_1603, wd_137, mh_X12_is, .inr (.inr ⟨rfl, wd_1600, wd_1602, wd_58, ⟨_, rfl, pd_X12_is⟩, 12, _, TX12, 45, rfl, rfl⟩)⟩
noncomputable def ct_565 : CTB2 := [(2, 165, 0, con_564, [0, 1]), (11, 169, 0, con_317, [0, 1])]
noncomputable def cu_565 : List CUT2 := []
theorem ch_565 : staG tb_X12_takes 1 bt_RX12 [] ct_565 [] [] cu_565 12 con_565 = true := by decide +kernel
theorem cto_565 (l : Launch) : CTOK2 l RX12 vwCl gTbl ct_565 := ct2_cons (vl_564 l) ck_RX12_165_564 (ct2_cons (vl_317 l) ck_RX12_169_317 (ct2_nil))
theorem vl_565 (l : Launch) : Vld2 l vwCl gTbl con_565 := conR_ok3 gT_all (hd_565) rfl pn_RX12 tk_X12_takes bo_RX12 xo_RX12 (cto_565 l) ch_565 cut_nil
/-- RookHustingModel expects -/
noncomputable def con_566 : Con2 := ((yX12_expects, cX12_expects, 2, none), (10, 245), ([(6, 0, 0), (13, 11, 0)], gi_164, [ac_117, am_3], []), [((9, 0, 0), gi_165, hq_124, [], tg_10), ((9, 0, 0), gi_166, hq_125, [], tg_10)])
theorem hd_566 : con_566.1 = (yX12_expects, cX12_expects, 2, none) := rfl
theorem ck_RX12_172_565 : COK2 RX12 vwCl gTbl 172 0 con_565 := ⟨wd_1599, wd_137, mh_X12_takes, .inr (.inr ⟨rfl, wd_1596, wd_1598, wd_57, ⟨_, rfl, pd_X12_takes⟩, 12, _, TX12, 45, rfl, rfl⟩)⟩
noncomputable def ct_566 : CTB2 := [(2, 172, 0, con_565, [0, 1]), (10, 175, 0, con_321, [0])]
noncomputable def cu_566 : List CUT2 := []
theorem ch_566 : staG tb_X12_expects 1 bt_RX12 [] ct_566 [] [] cu_566 10 con_566 = true := by decide +kernel
theorem cto_566 (l : Launch) : CTOK2 l RX12 vwCl gTbl ct_566 := ct2_cons (vl_565 l) ck_RX12_172_565 (ct2_cons (vl_321 l) ck_RX12_175_321 (ct2_nil))
theorem vl_566 (l : Launch) : Vld2 l vwCl gTbl con_566 := conR_ok3 gT_all (hd_566) rfl pn_RX12 tk_X12_expects bo_RX12 xo_RX12 (cto_566 l) ch_566 cut_nil
/-- RookHustingModel in -/
noncomputable def con_567 : Con2 := ((yX12_in, cX12_in, 6, (some .boolean)), (0, 0), ([(4, 0, 0), (3, 0, 0), (3, 9, 0)], gi_145, [], []), [((0, 0, 0), gi_146, [], [], [1]), ((0, 1, 0), [(0, 9), (0, 0), (0, 0), (0, 0)], [], [], [1])])
theorem hd_567 : con_567.1 = (yX12_in, cX12_in, 6, (some .boolean)) := rfl
noncomputable def cu_567 : List CUT2 := []
theorem ch_567 : staG tb_X12_in 1 bt_RX12 [] ct_2 [] [] cu_567 11 con_567 = true := by decide +kernel
theorem vl_567 (l : Launch) : Vld2 l vwCl gTbl con_567 := conR_ok3 gT_all (hd_567) rfl pn_RX12 tk_X12_in bo_RX12 xo_RX12 (cto_2 l) ch_567 cut_nil
/-- RookHustingModel number -/
noncomputable def gi_240 : GI := jl_n [gp_98, jl_i 0 9, gp_100]
noncomputable def con_568 : Con2 := ((yX12_number, cX12_number, 4, (some .int)), (2, 46), ([(6, 0, 0), (0, 0, 0), (0, 9, 0)], gi_169, [ac_123, am_3], []), [((0, 0, 0), gi_170, hq_126, [], tg_1), ((1, 14, 0), gi_240, hq_127, [], tg_1)])
theorem hd_568 : con_568.1 = (yX12_number, cX12_number, 4, (some .int)) := rfl
theorem ck_RX12_91_567 : COK2 RX12 vwCl gTbl 91 1 con_567 := ⟨wd_1544, wd_137, mh_X12_in, .inl ⟨rfl, wd_1542, wd_1543, pd_X12_in⟩⟩
noncomputable def ct_568 : CTB2 := [(1, 153, 0, con_318, [0]), (17, 175, 0, con_321, [0]), (21, 153, 0, con_326, [0]), (21, 153, 0, con_318, [0]), (36, 91, 1, con_567, []), (44, 175, 0, con_328, [0]), (48, 153, 0, con_326, [0]), (48, 153, 0, con_318, [0]), (48, 153, 0, con_329, [0]), (62, 169, 0, con_317, [0, 1])]
noncomputable def cu_568 : List CUT2 := []
theorem ch_568 : staG tb_X12_number 1 bt_RX12 [] ct_568 [] [] cu_568 31 con_568 = true := by decide +kernel
theorem cto_568 (l : Launch) : CTOK2 l RX12 vwCl gTbl ct_568 := ct2_cons (vl_318 l) ck_RX12_153_318 (ct2_cons (vl_321 l) ck_RX12_175_321 (ct2_cons (vl_326 l) ck_RX12_153_326 (ct2_cons (vl_318 l) ck_RX12_153_318 (ct2_cons (vl_567 l) ck_RX12_91_567 (ct2_cons (vl_328 l) ck_RX12_175_328 (ct2_cons (vl_326 l) ck_RX12_153_326 (ct2_cons (vl_318 l) ck_RX12_153_318 (ct2_cons (vl_329 l) ck_RX12_153_329 (ct2_cons (vl_317 l) ck_RX12_169_317 (ct2_nil))))))))))
theorem vl_568 (l : Launch) : Vld2 l vwCl gTbl con_568 := conR_ok3 gT_all (hd_568) rfl pn_RX12 tk_X12_number bo_RX12 xo_RX12 (cto_568 l) ch_568 cut_nil
/-- RookHustingModel number -/
noncomputable def con_569 : Con2 := ((yX12_number, cX12_number, 4, (some .int)), (1, 20), ([(6, 0, 0), (0, 0, 0), (0, 9, 0)], gi_169, [ac_126, am_3], []), [((0, 0, 0), gi_172, hq_128, [], [1])])
theorem hd_569 : con_569.1 = (yX12_number, cX12_number, 4, (some .int)) := rfl
noncomputable def cu_569 : List CUT2 := []
theorem ch_569 : staG tb_X12_number 1 bt_RX12 [] ct_331 [] [] cu_569 13 con_569 = true := by decide +kernel
theorem vl_569 (l : Launch) : Vld2 l vwCl gTbl con_569 := conR_ok3 gT_all (hd_569) rfl pn_RX12 tk_X12_number bo_RX12 xo_RX12 (cto_331 l) ch_569 cut_nil
/-- RookHustingModel told -/
noncomputable def gi_241 : GI := jl_n [gp_105, jl_i 0 9, gp_106]
noncomputable def con_570 : Con2 := ((yX12_told, cX12_told, 4, (some .int)), (11, 266), ([(6, 0, 0), (13, 11, 0), (0, 0, 0), (0, 9, 0)], gi_173, [ac_127, am_3], []), [((0, 0, 0), gi_174, hq_129, [], tg_1), ((1, 49, 0), gi_241, hq_130, [], tg_1)])
theorem hd_570 : con_570.1 = (yX12_told, cX12_told, 4, (some .int)) := rfl
theorem ck_RX12_183_569 : COK2 RX12 vwCl gTbl 183 0 con_569 := ⟨wd_1618, wd_137, mh_X12_number, .inr (.inr ⟨rfl, wd_1615, wd_1617, wd_61, ⟨_, rfl, pd_X12_number⟩, 12, _, TX12, 45, rfl, rfl⟩)⟩
theorem ck_RX12_183_568 : COK2 RX12 vwCl gTbl 183 0 con_568 := ⟨wd_1618, wd_137, mh_X12_number, .inr (.inr ⟨rfl, wd_1615, wd_1617, wd_61, ⟨_, rfl, pd_X12_number⟩, 12, _, TX12, 45, rfl, rfl⟩)⟩
theorem ck_RX12_179_566 : COK2 RX12 vwCl gTbl 179 0 con_566 := ⟨wd_1595, wd_137, mh_X12_expects, .inr (.inr ⟨rfl, wd_1592, wd_1594, wd_56, ⟨_, rfl, pd_X12_expects⟩, 12, _, TX12, 45, rfl, rfl⟩)⟩
noncomputable def ct_570 : CTB2 := [(2, 179, 0, con_566, [0, 1]), (8, 183, 0, con_568, [0, 1]), (8, 183, 0, con_569, [0, 1])]
noncomputable def cu_570 : List CUT2 := []
theorem ch_570 : staG tb_X12_told 1 bt_RX12 [] ct_570 [] [] cu_570 10 con_570 = true := by decide +kernel
theorem cto_570 (l : Launch) : CTOK2 l RX12 vwCl gTbl ct_570 := ct2_cons (vl_566 l) ck_RX12_179_566 (ct2_cons (vl_568 l) ck_RX12_183_568 (ct2_cons (vl_569 l) ck_RX12_183_569 (ct2_nil)))
theorem vl_570 (l : Launch) : Vld2 l vwCl gTbl con_570 := conR_ok3 gT_all (hd_570) rfl pn_RX12 tk_X12_told bo_RX12 xo_RX12 (cto_570 l) ch_570 cut_nil
/-- RookHustingModel is -/
noncomputable def con_571 : Con2 := ((yX12_is, cX12_is, 4, (some .boolean)), (8, 200), ([(6, 0, 0), (13, 11, 0)], gi_184, [ac_131, am_3], []), [((0, 0, 0), gi_185, hq_131, [], [1])])
theorem hd_571 : con_571.1 = (yX12_is, cX12_is, 4, (some .boolean)) := rfl
noncomputable def cu_571 : List CUT2 := [((39, [lq 0 6 0, lq 1 13 11, lq 2 0 0, lq 3 0 0], [], gi_186, hq_131), [], ([], 0))]
theorem ch_571 : staG tb_X12_is 1 bt_RX12 [] ct_348 [(55, [(0, (2, 0, 9), 0, 695)])] [23, 28] cu_571 10 con_571 = true := by decide +kernel
theorem cc_571 : cu_571.all (cutG tb_X12_is 1 bt_RX12 [] ct_348 [(55, [(0, (2, 0, 9), 0, 695)])] [23, 28] cu_571 10 con_571) = true := by decide +kernel
theorem vl_571 (l : Launch) : Vld2 l vwCl gTbl con_571 := conR_ok3 gT_all (hd_571) rfl pn_RX12 tk_X12_is bo_RX12 xo_RX12 (cto_348 l) ch_571 (cut_all cc_571)
/-- RookHustingModel takes -/
noncomputable def con_572 : Con2 := ((yX12_takes, cX12_takes, 3, (some .boolean)), (9, 223), ([(6, 0, 0), (13, 11, 0)], gi_187, [ac_132, am_3], []), [((0, 0, 0), gi_188, hq_132, [], [1])])
theorem hd_572 : con_572.1 = (yX12_takes, cX12_takes, 3, (some .boolean)) := rfl
theorem ck_RX12_165_571 : COK2 RX12 vwCl gTbl 165 0 con_571 := ⟨wd_1603, wd_137, mh_X12_is, .inr (.inr ⟨rfl, wd_1600, wd_1602, wd_58, ⟨_, rfl, pd_X12_is⟩, 12, _, TX12, 45, rfl, rfl⟩)⟩
noncomputable def ct_572 : CTB2 := [(2, 165, 0, con_571, [0, 1])]
noncomputable def cu_572 : List CUT2 := []
theorem ch_572 : staG tb_X12_takes 1 bt_RX12 [] ct_572 [] [] cu_572 10 con_572 = true := by decide +kernel
theorem cto_572 (l : Launch) : CTOK2 l RX12 vwCl gTbl ct_572 := ct2_cons (vl_571 l) ck_RX12_165_571 (ct2_nil)
theorem vl_572 (l : Launch) : Vld2 l vwCl gTbl con_572 := conR_ok3 gT_all (hd_572) rfl pn_RX12 tk_X12_takes bo_RX12 xo_RX12 (cto_572 l) ch_572 cut_nil
/-- RookHustingModel expects -/
noncomputable def con_573 : Con2 := ((yX12_expects, cX12_expects, 2, none), (10, 245), ([(6, 0, 0), (13, 11, 0)], gi_190, [ac_134, am_3], []), [((9, 0, 0), gi_190, hq_133, [], [])])
theorem hd_573 : con_573.1 = (yX12_expects, cX12_expects, 2, none) := rfl
theorem ck_RX12_172_572 : COK2 RX12 vwCl gTbl 172 0 con_572 := ⟨wd_1599, wd_137, mh_X12_takes, .inr (.inr ⟨rfl, wd_1596, wd_1598, wd_57, ⟨_, rfl, pd_X12_takes⟩, 12, _, TX12, 45, rfl, rfl⟩)⟩
noncomputable def ct_573 : CTB2 := [(2, 172, 0, con_572, [0, 1]), (10, 175, 0, con_350, [0])]
noncomputable def cu_573 : List CUT2 := []
theorem ch_573 : staG tb_X12_expects 1 bt_RX12 [] ct_573 [] [] cu_573 10 con_573 = true := by decide +kernel
theorem cto_573 (l : Launch) : CTOK2 l RX12 vwCl gTbl ct_573 := ct2_cons (vl_572 l) ck_RX12_172_572 (ct2_cons (vl_350 l) ck_RX12_175_350 (ct2_nil))
theorem vl_573 (l : Launch) : Vld2 l vwCl gTbl con_573 := conR_ok3 gT_all (hd_573) rfl pn_RX12 tk_X12_expects bo_RX12 xo_RX12 (cto_573 l) ch_573 cut_nil
/-- RookHustingModel number -/
noncomputable def con_574 : Con2 := ((yX12_number, cX12_number, 4, (some .int)), (1, 20), ([(6, 0, 0), (0, 0, 0), (0, 9, 0)], gi_191, [ac_135, am_3], []), [((0, 0, 0), gi_192, hq_134, [], [1])])
theorem hd_574 : con_574.1 = (yX12_number, cX12_number, 4, (some .int)) := rfl
noncomputable def cu_574 : List CUT2 := []
theorem ch_574 : staG tb_X12_number 1 bt_RX12 [] ct_352 [] [] cu_574 13 con_574 = true := by decide +kernel
theorem vl_574 (l : Launch) : Vld2 l vwCl gTbl con_574 := conR_ok3 gT_all (hd_574) rfl pn_RX12 tk_X12_number bo_RX12 xo_RX12 (cto_352 l) ch_574 cut_nil
/-- RookHustingModel told -/
noncomputable def con_575 : Con2 := ((yX12_told, cX12_told, 4, (some .int)), (11, 266), ([(6, 0, 0), (13, 11, 0), (0, 0, 0), (0, 9, 0)], gi_193, [ac_136, am_3], []), [((0, 0, 0), gi_194, hq_135, [], [1])])
theorem hd_575 : con_575.1 = (yX12_told, cX12_told, 4, (some .int)) := rfl
theorem ck_RX12_183_574 : COK2 RX12 vwCl gTbl 183 0 con_574 := ⟨wd_1618, wd_137, mh_X12_number, .inr (.inr ⟨rfl, wd_1615, wd_1617, wd_61, ⟨_, rfl, pd_X12_number⟩, 12, _, TX12, 45, rfl, rfl⟩)⟩
theorem ck_RX12_179_573 : COK2 RX12 vwCl gTbl 179 0 con_573 := ⟨wd_1595, wd_137, mh_X12_expects, .inr (.inr ⟨rfl, wd_1592, wd_1594, wd_56, ⟨_, rfl, pd_X12_expects⟩, 12, _, TX12, 45, rfl, rfl⟩)⟩
noncomputable def ct_575 : CTB2 := [(2, 179, 0, con_573, [0, 1]), (8, 183, 0, con_574, [0, 1])]
noncomputable def cu_575 : List CUT2 := []
theorem ch_575 : staG tb_X12_told 1 bt_RX12 [] ct_575 [] [] cu_575 10 con_575 = true := by decide +kernel
theorem cto_575 (l : Launch) : CTOK2 l RX12 vwCl gTbl ct_575 := ct2_cons (vl_573 l) ck_RX12_179_573 (ct2_cons (vl_574 l) ck_RX12_183_574 (ct2_nil))
theorem vl_575 (l : Launch) : Vld2 l vwCl gTbl con_575 := conR_ok3 gT_all (hd_575) rfl pn_RX12 tk_X12_told bo_RX12 xo_RX12 (cto_575 l) ch_575 cut_nil
/-- RookHustingModel isFull -/
noncomputable def gi_242 : GI := jl_n [gp_120, gp_111, gp_148]
noncomputable def con_576 : Con2 := ((yX12_isFull, cX12_isFull, 1, (some .boolean)), (9, 223), ([(6, 0, 0)], gi_201, [ac_154, am_3, ac_153], []), [((0, 0, 0), gi_242, hq_145, [], [1]), ((0, 1, 0), gi_202, hq_145, [], [1])])
theorem hd_576 : con_576.1 = (yX12_isFull, cX12_isFull, 1, (some .boolean)) := rfl
noncomputable def ft_576 : CTB2 := [(3, 165, 0, con_366, [0, 1]), (22, 165, 0, con_367, [0, 1]), (44, 165, 0, con_552, [0, 1]), (63, 165, 0, con_375, [0, 1])]
theorem fto_576 (l : Launch) {es : List va_E} (f2 : isFact 2 0 [0, 1] es) (f5 : isFact 5 0 [0, 1] es) (f8 : isFact 8 1 [0, 1] es) (f12 : isFact 12 1 [0, 1] es) : FTOK2 l RX12 vwCl gTbl es ft_576 := ft2_cons (fun ec he => hv_366 l (f2 ec he)) ck_RX12_165_366 (ft2_cons (fun ec he => hv_367 l (f5 ec he)) ck_RX12_165_367 (ft2_cons (fun ec he => hv_552 l (f8 ec he)) ck_RX12_165_552 (ft2_cons (fun ec he => hv_375 l (f12 ec he)) ck_RX12_165_375 (ft2_nil))))
noncomputable def cu_576 : List CUT2 := []
theorem ch_576 : staG tb_X12_isFull 1 bt_RX12 ft_576 ct_2 [] [] cu_576 33 con_576 = true := by decide +kernel
theorem hv_576 (l : Launch) {es : List va_E} (f2 : isFact 2 0 [0, 1] es) (f5 : isFact 5 0 [0, 1] es) (f8 : isFact 8 1 [0, 1] es) (f12 : isFact 12 1 [0, 1] es) : VldE l vwCl gTbl con_576 es := conE_ok3 gT_all (hd_576) rfl pn_RX12 tk_X12_isFull bo_RX12 xo_RX12 (fto_576 l f2 f5 f8 f12) (cto_2 l) ch_576 cut_nil
noncomputable def gh_577 : GI := [(0, 0), (0, 0), (0, 0), (0, 0), (0, 0), (0, 0), (0, 0), (0, 0), (0, 0), (0, 0), (0, 700), (0, 700), (0, 4), (0, 0), (0, 0), (0, 0), (0, 0), (0, 0), (0, 0), (0, 0), (0, 0), (0, 0), (0, 0), (0, 0), (0, 0), (0, 0), (0, 0), (0, 0), (0, 0), (0, 0), (0, 0), (0, 0), (0, 0), (0, 0), (0, 0), (0, 0), (0, 0), (0, 0), (0, 0), (0, 0), (0, 0), (0, 0), (0, 0), (0, 0), (0, 0), (0, 0), (0, 0)]
noncomputable def fh_577 : List AV := [(8, 2, 0), (8, 3, 0), (8, 4, 0), (8, 5, 0), (6, 1, 0), (8, 7, 0), (8, 8, 0), (8, 9, 0), (1, 10, 0), (1, 11, 0), (1, 12, 0), (8, 13, 0), (0, 0, 0), (8, 15, 0), (8, 16, 0), (8, 17, 0), (8, 18, 0), (8, 19, 0), (8, 20, 0), (8, 21, 0), (8, 22, 0), (8, 23, 0), (8, 24, 0), (8, 25, 0), (8, 26, 0), (8, 27, 0), (8, 28, 0), (8, 29, 0), (8, 30, 0), (8, 31, 0), (8, 32, 0), (8, 33, 0), (8, 34, 0), (8, 35, 0), (8, 36, 0), (8, 37, 0), (8, 38, 0), (8, 39, 0), (8, 40, 0), (8, 41, 0), (8, 42, 0), (8, 43, 0), (8, 44, 0), (8, 45, 0), (8, 46, 0)]
noncomputable def con_577 : Con2 := ((yX12_is, cX12_is, 4, some .boolean), (8, 200), ([(6, 0, 0), (13, 5, 0)], gh_577, [.inl (12, fh_577), am_3], []), [((0, 1, 0), gh_577 ++ [(0, 0)], [(false, .inl (12, fh_577)), (false, am_3)], [], [1])])
theorem hv_577 (l : Launch) {ec : List va_E} (h : ((1 = 1 → isE 5 ec) ∧ (1 ≠ 1 → ¬ isE 5 ec))) : VldE l vwCl gTbl con_577 ec := is_vld (i := 5) (v := 1) (G := gh_577) (fsA := fh_577) (sg := [(700, (2, (-128), 127))]) (by decide) (by decide +kernel) (a12 := (0, 0, 0)) (a10 := (1, 12, 0)) (a8 := (1, 10, 0)) (a9 := (1, 11, 0)) rfl rfl rfl rfl rfl (q12 := (0, 0)) (q10 := (0, 4)) (q8 := (0, 700)) (q9 := (0, 700)) rfl rfl rfl rfl (by decide +kernel) (by decide +kernel) (Or.inl ⟨h.1 rfl, rfl⟩)
/-- RookHustingModel isFull -/
noncomputable def gi_243 : GI := jl_n [gp_150, gp_12, gp_127]
noncomputable def gi_244 : GI := jl_n [gp_120, gp_110, jl_i 8 8, gp_12, gp_127]
noncomputable def con_578 : Con2 := ((yX12_isFull, cX12_isFull, 1, (some .boolean)), (9, 223), ([(6, 0, 0)], gi_201, [ac_154, am_3, ac_153], []), [((0, 0, 0), gi_243, hq_145, [], [1]), ((0, 1, 0), gi_244, hq_145, [], [1])])
theorem hd_578 : con_578.1 = (yX12_isFull, cX12_isFull, 1, (some .boolean)) := rfl
noncomputable def ft_578 : CTB2 := [(3, 165, 0, con_366, [0, 1]), (22, 165, 0, con_577, [0, 1]), (44, 165, 0, con_368, [0, 1]), (63, 165, 0, con_369, [0, 1])]
theorem ck_RX12_165_577 : COK2 RX12 vwCl gTbl 165 0 con_577 := ⟨wd_1603, wd_137, mh_X12_is, .inr (.inr ⟨rfl, wd_1600, wd_1602, wd_58, ⟨_, rfl, pd_X12_is⟩, 12, _, TX12, 45, rfl, rfl⟩)⟩
theorem fto_578 (l : Launch) {es : List va_E} (f2 : isFact 2 0 [0, 1] es) (f5 : isFact 5 1 [0, 1] es) (f8 : isFact 8 0 [0, 1] es) (f12 : isFact 12 0 [0, 1] es) : FTOK2 l RX12 vwCl gTbl es ft_578 := ft2_cons (fun ec he => hv_366 l (f2 ec he)) ck_RX12_165_366 (ft2_cons (fun ec he => hv_577 l (f5 ec he)) ck_RX12_165_577 (ft2_cons (fun ec he => hv_368 l (f8 ec he)) ck_RX12_165_368 (ft2_cons (fun ec he => hv_369 l (f12 ec he)) ck_RX12_165_369 (ft2_nil))))
noncomputable def cu_578 : List CUT2 := []
theorem ch_578 : staG tb_X12_isFull 1 bt_RX12 ft_578 ct_2 [] [] cu_578 26 con_578 = true := by decide +kernel
theorem hv_578 (l : Launch) {es : List va_E} (f2 : isFact 2 0 [0, 1] es) (f5 : isFact 5 1 [0, 1] es) (f8 : isFact 8 0 [0, 1] es) (f12 : isFact 12 0 [0, 1] es) : VldE l vwCl gTbl con_578 es := conE_ok3 gT_all (hd_578) rfl pn_RX12 tk_X12_isFull bo_RX12 xo_RX12 (fto_578 l f2 f5 f8 f12) (cto_2 l) ch_578 cut_nil
/-- RookHustingModel takes -/
noncomputable def con_579 : Con2 := ((yX12_takes, cX12_takes, 3, (some .boolean)), (9, 223), ([(6, 0, 0), (13, 5, 0)], gi_159, [ac_113, am_3], []), [((0, 1, 0), gi_235, hq_123, [], tg_1)])
theorem hd_579 : con_579.1 = (yX12_takes, cX12_takes, 3, (some .boolean)) := rfl
noncomputable def ft_579 : CTB2 := [(2, 165, 0, con_577, [0, 1])]
theorem fto_579 (l : Launch) {es : List va_E} (f5 : isFact 5 1 [0, 1] es) : FTOK2 l RX12 vwCl gTbl es ft_579 := ft2_cons (fun ec he => hv_577 l (f5 ec he)) ck_RX12_165_577 (ft2_nil)
noncomputable def cu_579 : List CUT2 := []
theorem ch_579 : staG tb_X12_takes 1 bt_RX12 ft_579 ct_556 [] [] cu_579 12 con_579 = true := by decide +kernel
theorem hv_579 (l : Launch) {es : List va_E} (f5 : isFact 5 1 [0, 1] es) : VldE l vwCl gTbl con_579 es := conE_ok3 gT_all (hd_579) rfl pn_RX12 tk_X12_takes bo_RX12 xo_RX12 (fto_579 l f5) (cto_556 l) ch_579 cut_nil
/-- RookHustingModel number -/
noncomputable def gi_245 : GI := jl_n [gp_131, gp_93]
noncomputable def gi_246 : GI := jl_n [gp_131, gp_101]
noncomputable def con_580 : Con2 := ((yX12_number, cX12_number, 4, (some .int)), (1, 20), ([(6, 0, 0), (0, 0, 0), (1, 2, 0)], gi_245, [ac_155, am_3], []), [((0, 0, 0), gi_246, hq_146, [], [1])])
theorem hd_580 : con_580.1 = (yX12_number, cX12_number, 4, (some .int)) := rfl
noncomputable def cu_580 : List CUT2 := []
theorem ch_580 : staG tb_X12_number 1 bt_RX12 [] ct_395 [] [] cu_580 13 con_580 = true := by decide +kernel
theorem vl_580 (l : Launch) : Vld2 l vwCl gTbl con_580 := conR_ok3 gT_all (hd_580) rfl pn_RX12 tk_X12_number bo_RX12 xo_RX12 (cto_395 l) ch_580 cut_nil
/-- RookHustingModel in -/
noncomputable def gi_247 : GI := jl_n [jl_u, gp_52]
noncomputable def gi_248 : GI := jl_n [jl_u, gp_151]
noncomputable def con_581 : Con2 := ((yX12_in, cX12_in, 6, (some .boolean)), (0, 0), ([(4, 0, 0), (3, 0, 0), (4, 2, 0)], gi_247, [], []), [((0, 0, 0), gi_248, [], [], [1]), ((0, 1, 0), [(0, 4), (0, 0), (0, 4), (0, 0)], [], [], [1])])
theorem hd_581 : con_581.1 = (yX12_in, cX12_in, 6, (some .boolean)) := rfl
noncomputable def cu_581 : List CUT2 := []
theorem ch_581 : staG tb_X12_in 1 bt_RX12 [] ct_2 [] [] cu_581 11 con_581 = true := by decide +kernel
theorem vl_581 (l : Launch) : Vld2 l vwCl gTbl con_581 := conR_ok3 gT_all (hd_581) rfl pn_RX12 tk_X12_in bo_RX12 xo_RX12 (cto_2 l) ch_581 cut_nil
/-- RookHustingModel number -/
noncomputable def gi_249 : GI := jl_n [gp_131, gp_94, jl_z 42, gp_95, gp_96]
noncomputable def con_582 : Con2 := ((yX12_number, cX12_number, 4, (some .int)), (2, 46), ([(6, 0, 0), (0, 0, 0), (1, 2, 0)], gi_245, [ac_123, am_3], []), [((0, 0, 0), gi_249, hq_126, [], tg_1), ((1, 14, 0), gi_211, hq_127, [], tg_1)])
theorem hd_582 : con_582.1 = (yX12_number, cX12_number, 4, (some .int)) := rfl
theorem ck_RX12_91_581 : COK2 RX12 vwCl gTbl 91 1 con_581 := ⟨wd_1544, wd_137, mh_X12_in, .inl ⟨rfl, wd_1542, wd_1543, pd_X12_in⟩⟩
noncomputable def ct_582 : CTB2 := [(1, 153, 0, con_318, [0]), (17, 175, 0, con_321, [0]), (21, 153, 0, con_326, [0]), (21, 153, 0, con_318, [0]), (36, 91, 1, con_581, []), (44, 175, 0, con_328, [0]), (48, 153, 0, con_326, [0]), (48, 153, 0, con_318, [0]), (48, 153, 0, con_329, [0]), (62, 169, 0, con_317, [0, 1])]
noncomputable def cu_582 : List CUT2 := []
theorem ch_582 : staG tb_X12_number 1 bt_RX12 [] ct_582 [] [] cu_582 31 con_582 = true := by decide +kernel
theorem cto_582 (l : Launch) : CTOK2 l RX12 vwCl gTbl ct_582 := ct2_cons (vl_318 l) ck_RX12_153_318 (ct2_cons (vl_321 l) ck_RX12_175_321 (ct2_cons (vl_326 l) ck_RX12_153_326 (ct2_cons (vl_318 l) ck_RX12_153_318 (ct2_cons (vl_581 l) ck_RX12_91_581 (ct2_cons (vl_328 l) ck_RX12_175_328 (ct2_cons (vl_326 l) ck_RX12_153_326 (ct2_cons (vl_318 l) ck_RX12_153_318 (ct2_cons (vl_329 l) ck_RX12_153_329 (ct2_cons (vl_317 l) ck_RX12_169_317 (ct2_nil))))))))))
theorem vl_582 (l : Launch) : Vld2 l vwCl gTbl con_582 := conR_ok3 gT_all (hd_582) rfl pn_RX12 tk_X12_number bo_RX12 xo_RX12 (cto_582 l) ch_582 cut_nil
/-- RookHustingModel number -/
noncomputable def gi_250 : GI := jl_n [gp_130, gp_108]
noncomputable def gi_251 : GI := jl_n [gp_130, gp_107, jl_m 0 700, jl_z 32]
noncomputable def con_583 : Con2 := ((yX12_number, cX12_number, 4, (some .int)), (1, 20), ([(6, 0, 0), (0, 0, 0), (1, 2, 0)], gi_250, [ac_135, am_3], []), [((0, 0, 0), gi_251, hq_134, [], [1])])
theorem hd_583 : con_583.1 = (yX12_number, cX12_number, 4, (some .int)) := rfl
noncomputable def cu_583 : List CUT2 := []
theorem ch_583 : staG tb_X12_number 1 bt_RX12 [] ct_352 [] [] cu_583 13 con_583 = true := by decide +kernel
theorem vl_583 (l : Launch) : Vld2 l vwCl gTbl con_583 := conR_ok3 gT_all (hd_583) rfl pn_RX12 tk_X12_number bo_RX12 xo_RX12 (cto_352 l) ch_583 cut_nil
/-- RookHustingModel readHedge -/
noncomputable def gi_252 : GI := jl_n [gp_137, jl_z 54]
noncomputable def ac_191 : AC := .inr (1, jl_n [sp_46, sp_22, sp_10])
noncomputable def hq_176 : HP := [(true, ac_149), (true, ac_191), (false, am_3)]
noncomputable def gi_253 : GI := jl_n [jl_z 8, gp_97, gp_95, gp_90, gp_153, gp_112, gp_132, gp_135, jl_z 56]
noncomputable def hq_177 : HP := [(true, ac_151), (true, ac_191), (false, am_3)]
noncomputable def con_584 : Con2 := ((yX12_readHedge, cX12_readHedge, 2, none), (3, 69), ([(6, 0, 0)], gi_214, [ac_148, ac_156, am_3], []), [((9, 0, 0), gi_252, hq_176, [], tg_11), ((9, 0, 0), gi_253, hq_177, [], tg_11)])
theorem hd_584 : con_584.1 = (yX12_readHedge, cX12_readHedge, 2, none) := rfl
theorem ck_RX12_183_583 : COK2 RX12 vwCl gTbl 183 0 con_583 := ⟨wd_1618, wd_137, mh_X12_number, .inr (.inr ⟨rfl, wd_1615, wd_1617, wd_61, ⟨_, rfl, pd_X12_number⟩, 12, _, TX12, 45, rfl, rfl⟩)⟩
theorem ck_RX12_183_582 : COK2 RX12 vwCl gTbl 183 0 con_582 := ⟨wd_1618, wd_137, mh_X12_number, .inr (.inr ⟨rfl, wd_1615, wd_1617, wd_61, ⟨_, rfl, pd_X12_number⟩, 12, _, TX12, 45, rfl, rfl⟩)⟩
theorem ck_RX12_183_580 : COK2 RX12 vwCl gTbl 183 0 con_580 := ⟨wd_1618, wd_137, mh_X12_number, .inr (.inr ⟨rfl, wd_1615, wd_1617, wd_61, ⟨_, rfl, pd_X12_number⟩, 12, _, TX12, 45, rfl, rfl⟩)⟩
noncomputable def ct_584 : CTB2 := [(27, 183, 0, con_389, [0, 2]), (32, 153, 0, con_318, [0]), (32, 153, 0, con_347, [0]), (61, 175, 0, con_328, [0]), (81, 183, 0, con_580, [0, 2]), (81, 183, 0, con_582, [0, 2]), (81, 183, 0, con_583, [0, 2])]
noncomputable def cu_584 : List CUT2 := []
theorem ch_584 : staG tb_X12_readHedge 1 bt_RX12 [] ct_584 [] [] cu_584 65 con_584 = true := by decide +kernel
theorem cto_584 (l : Launch) : CTOK2 l RX12 vwCl gTbl ct_584 := ct2_cons (vl_389 l) ck_RX12_183_389 (ct2_cons (vl_318 l) ck_RX12_153_318 (ct2_cons (vl_347 l) ck_RX12_153_347 (ct2_cons (vl_328 l) ck_RX12_175_328 (ct2_cons (vl_580 l) ck_RX12_183_580 (ct2_cons (vl_582 l) ck_RX12_183_582 (ct2_cons (vl_583 l) ck_RX12_183_583 (ct2_nil)))))))
theorem vl_584 (l : Launch) : Vld2 l vwCl gTbl con_584 := conR_ok3 gT_all (hd_584) rfl pn_RX12 tk_X12_readHedge bo_RX12 xo_RX12 (cto_584 l) ch_584 cut_nil
/-- RookHustingModel isFull -/
noncomputable def gi_254 : GI := jl_n [gp_150, jl_i 0 5, gp_128]
noncomputable def con_585 : Con2 := ((yX12_isFull, cX12_isFull, 1, (some .boolean)), (9, 223), ([(6, 0, 0)], gi_201, [ac_154, am_3, ac_153], []), [((0, 0, 0), gi_254, hq_145, [], [1]), ((0, 1, 0), gi_202, hq_145, [], [1])])
theorem hd_585 : con_585.1 = (yX12_isFull, cX12_isFull, 1, (some .boolean)) := rfl
noncomputable def ft_585 : CTB2 := [(3, 165, 0, con_366, [0, 1]), (22, 165, 0, con_577, [0, 1]), (44, 165, 0, con_368, [0, 1]), (63, 165, 0, con_375, [0, 1])]
theorem fto_585 (l : Launch) {es : List va_E} (f2 : isFact 2 0 [0, 1] es) (f5 : isFact 5 1 [0, 1] es) (f8 : isFact 8 0 [0, 1] es) (f12 : isFact 12 1 [0, 1] es) : FTOK2 l RX12 vwCl gTbl es ft_585 := ft2_cons (fun ec he => hv_366 l (f2 ec he)) ck_RX12_165_366 (ft2_cons (fun ec he => hv_577 l (f5 ec he)) ck_RX12_165_577 (ft2_cons (fun ec he => hv_368 l (f8 ec he)) ck_RX12_165_368 (ft2_cons (fun ec he => hv_375 l (f12 ec he)) ck_RX12_165_375 (ft2_nil))))
noncomputable def cu_585 : List CUT2 := []
theorem ch_585 : staG tb_X12_isFull 1 bt_RX12 ft_585 ct_2 [] [] cu_585 33 con_585 = true := by decide +kernel
theorem hv_585 (l : Launch) {es : List va_E} (f2 : isFact 2 0 [0, 1] es) (f5 : isFact 5 1 [0, 1] es) (f8 : isFact 8 0 [0, 1] es) (f12 : isFact 12 1 [0, 1] es) : VldE l vwCl gTbl con_585 es := conE_ok3 gT_all (hd_585) rfl pn_RX12 tk_X12_isFull bo_RX12 xo_RX12 (fto_585 l f2 f5 f8 f12) (cto_2 l) ch_585 cut_nil
/-- RookHustingModel isFull -/
noncomputable def gi_255 : GI := jl_n [gp_150, gp_147]
noncomputable def con_586 : Con2 := ((yX12_isFull, cX12_isFull, 1, (some .boolean)), (9, 223), ([(6, 0, 0)], gi_201, [ac_154, am_3, ac_153], []), [((0, 0, 0), gi_255, hq_145, [], [1]), ((0, 1, 0), gi_202, hq_145, [], [1])])
theorem hd_586 : con_586.1 = (yX12_isFull, cX12_isFull, 1, (some .boolean)) := rfl
noncomputable def ft_586 : CTB2 := [(3, 165, 0, con_366, [0, 1]), (22, 165, 0, con_577, [0, 1]), (44, 165, 0, con_552, [0, 1]), (63, 165, 0, con_369, [0, 1])]
theorem fto_586 (l : Launch) {es : List va_E} (f2 : isFact 2 0 [0, 1] es) (f5 : isFact 5 1 [0, 1] es) (f8 : isFact 8 1 [0, 1] es) (f12 : isFact 12 0 [0, 1] es) : FTOK2 l RX12 vwCl gTbl es ft_586 := ft2_cons (fun ec he => hv_366 l (f2 ec he)) ck_RX12_165_366 (ft2_cons (fun ec he => hv_577 l (f5 ec he)) ck_RX12_165_577 (ft2_cons (fun ec he => hv_552 l (f8 ec he)) ck_RX12_165_552 (ft2_cons (fun ec he => hv_369 l (f12 ec he)) ck_RX12_165_369 (ft2_nil))))
noncomputable def cu_586 : List CUT2 := []
theorem ch_586 : staG tb_X12_isFull 1 bt_RX12 ft_586 ct_2 [] [] cu_586 32 con_586 = true := by decide +kernel
theorem hv_586 (l : Launch) {es : List va_E} (f2 : isFact 2 0 [0, 1] es) (f5 : isFact 5 1 [0, 1] es) (f8 : isFact 8 1 [0, 1] es) (f12 : isFact 12 0 [0, 1] es) : VldE l vwCl gTbl con_586 es := conE_ok3 gT_all (hd_586) rfl pn_RX12 tk_X12_isFull bo_RX12 xo_RX12 (fto_586 l f2 f5 f8 f12) (cto_2 l) ch_586 cut_nil
/-- RookHustingModel isFull -/
noncomputable def gi_256 : GI := jl_n [gp_150, gp_148]
noncomputable def con_587 : Con2 := ((yX12_isFull, cX12_isFull, 1, (some .boolean)), (9, 223), ([(6, 0, 0)], gi_201, [ac_154, am_3, ac_153], []), [((0, 0, 0), gi_256, hq_145, [], [1]), ((0, 1, 0), gi_202, hq_145, [], [1])])
theorem hd_587 : con_587.1 = (yX12_isFull, cX12_isFull, 1, (some .boolean)) := rfl
noncomputable def ft_587 : CTB2 := [(3, 165, 0, con_366, [0, 1]), (22, 165, 0, con_577, [0, 1]), (44, 165, 0, con_552, [0, 1]), (63, 165, 0, con_375, [0, 1])]
theorem fto_587 (l : Launch) {es : List va_E} (f2 : isFact 2 0 [0, 1] es) (f5 : isFact 5 1 [0, 1] es) (f8 : isFact 8 1 [0, 1] es) (f12 : isFact 12 1 [0, 1] es) : FTOK2 l RX12 vwCl gTbl es ft_587 := ft2_cons (fun ec he => hv_366 l (f2 ec he)) ck_RX12_165_366 (ft2_cons (fun ec he => hv_577 l (f5 ec he)) ck_RX12_165_577 (ft2_cons (fun ec he => hv_552 l (f8 ec he)) ck_RX12_165_552 (ft2_cons (fun ec he => hv_375 l (f12 ec he)) ck_RX12_165_375 (ft2_nil))))
noncomputable def cu_587 : List CUT2 := []
theorem ch_587 : staG tb_X12_isFull 1 bt_RX12 ft_587 ct_2 [] [] cu_587 39 con_587 = true := by decide +kernel
theorem hv_587 (l : Launch) {es : List va_E} (f2 : isFact 2 0 [0, 1] es) (f5 : isFact 5 1 [0, 1] es) (f8 : isFact 8 1 [0, 1] es) (f12 : isFact 12 1 [0, 1] es) : VldE l vwCl gTbl con_587 es := conE_ok3 gT_all (hd_587) rfl pn_RX12 tk_X12_isFull bo_RX12 xo_RX12 (fto_587 l f2 f5 f8 f12) (cto_2 l) ch_587 cut_nil
noncomputable def gh_588 : GI := [(0, 0), (0, 0), (0, 0), (0, 0), (0, 0), (0, 0), (0, 0), (0, 0), (0, 0), (0, 0), (0, 700), (0, 700), (0, 4), (0, 0), (0, 0), (0, 0), (0, 0), (0, 0), (0, 0), (0, 0), (0, 0), (0, 0), (0, 0), (0, 0), (0, 0), (0, 0), (0, 0), (0, 0), (0, 0), (0, 0), (0, 0), (0, 0), (0, 0), (0, 0), (0, 0), (0, 0), (0, 0), (0, 0), (0, 0), (0, 0), (0, 0), (0, 0), (0, 0), (0, 0), (0, 0), (0, 0), (0, 0)]
noncomputable def fh_588 : List AV := [(8, 2, 0), (8, 3, 0), (8, 4, 0), (8, 5, 0), (6, 1, 0), (8, 7, 0), (8, 8, 0), (8, 9, 0), (1, 10, 0), (1, 11, 0), (1, 12, 0), (8, 13, 0), (0, 0, 0), (8, 15, 0), (8, 16, 0), (8, 17, 0), (8, 18, 0), (8, 19, 0), (8, 20, 0), (8, 21, 0), (8, 22, 0), (8, 23, 0), (8, 24, 0), (8, 25, 0), (8, 26, 0), (8, 27, 0), (8, 28, 0), (8, 29, 0), (8, 30, 0), (8, 31, 0), (8, 32, 0), (8, 33, 0), (8, 34, 0), (8, 35, 0), (8, 36, 0), (8, 37, 0), (8, 38, 0), (8, 39, 0), (8, 40, 0), (8, 41, 0), (8, 42, 0), (8, 43, 0), (8, 44, 0), (8, 45, 0), (8, 46, 0)]
noncomputable def con_588 : Con2 := ((yX12_is, cX12_is, 4, some .boolean), (8, 200), ([(6, 0, 0), (13, 2, 0)], gh_588, [.inl (12, fh_588), am_3], []), [((0, 1, 0), gh_588 ++ [(0, 0)], [(false, .inl (12, fh_588)), (false, am_3)], [], [1])])
theorem hv_588 (l : Launch) {ec : List va_E} (h : ((1 = 1 → isE 2 ec) ∧ (1 ≠ 1 → ¬ isE 2 ec))) : VldE l vwCl gTbl con_588 ec := is_vld (i := 2) (v := 1) (G := gh_588) (fsA := fh_588) (sg := [(700, (2, (-128), 127))]) (by decide) (by decide +kernel) (a12 := (0, 0, 0)) (a10 := (1, 12, 0)) (a8 := (1, 10, 0)) (a9 := (1, 11, 0)) rfl rfl rfl rfl rfl (q12 := (0, 0)) (q10 := (0, 4)) (q8 := (0, 700)) (q9 := (0, 700)) rfl rfl rfl rfl (by decide +kernel) (by decide +kernel) (Or.inl ⟨h.1 rfl, rfl⟩)
/-- RookHustingModel isFull -/
noncomputable def gi_257 : GI := jl_n [gp_154, gp_13, gp_127]
noncomputable def gi_258 : GI := jl_n [gp_149, jl_i 5 5, gp_13, gp_127]
noncomputable def con_589 : Con2 := ((yX12_isFull, cX12_isFull, 1, (some .boolean)), (9, 223), ([(6, 0, 0)], gi_201, [ac_154, am_3, ac_153], []), [((0, 0, 0), gi_257, hq_145, [], [1]), ((0, 1, 0), gi_258, hq_145, [], [1])])
theorem hd_589 : con_589.1 = (yX12_isFull, cX12_isFull, 1, (some .boolean)) := rfl
noncomputable def ft_589 : CTB2 := [(3, 165, 0, con_588, [0, 1]), (22, 165, 0, con_367, [0, 1]), (44, 165, 0, con_368, [0, 1]), (63, 165, 0, con_369, [0, 1])]
theorem ck_RX12_165_588 : COK2 RX12 vwCl gTbl 165 0 con_588 := ⟨wd_1603, wd_137, mh_X12_is, .inr (.inr ⟨rfl, wd_1600, wd_1602, wd_58, ⟨_, rfl, pd_X12_is⟩, 12, _, TX12, 45, rfl, rfl⟩)⟩
theorem fto_589 (l : Launch) {es : List va_E} (f2 : isFact 2 1 [0, 1] es) (f5 : isFact 5 0 [0, 1] es) (f8 : isFact 8 0 [0, 1] es) (f12 : isFact 12 0 [0, 1] es) : FTOK2 l RX12 vwCl gTbl es ft_589 := ft2_cons (fun ec he => hv_588 l (f2 ec he)) ck_RX12_165_588 (ft2_cons (fun ec he => hv_367 l (f5 ec he)) ck_RX12_165_367 (ft2_cons (fun ec he => hv_368 l (f8 ec he)) ck_RX12_165_368 (ft2_cons (fun ec he => hv_369 l (f12 ec he)) ck_RX12_165_369 (ft2_nil))))
noncomputable def cu_589 : List CUT2 := []
theorem ch_589 : staG tb_X12_isFull 1 bt_RX12 ft_589 ct_2 [] [] cu_589 26 con_589 = true := by decide +kernel
theorem hv_589 (l : Launch) {es : List va_E} (f2 : isFact 2 1 [0, 1] es) (f5 : isFact 5 0 [0, 1] es) (f8 : isFact 8 0 [0, 1] es) (f12 : isFact 12 0 [0, 1] es) : VldE l vwCl gTbl con_589 es := conE_ok3 gT_all (hd_589) rfl pn_RX12 tk_X12_isFull bo_RX12 xo_RX12 (fto_589 l f2 f5 f8 f12) (cto_2 l) ch_589 cut_nil
/-- RookHustingModel takes -/
noncomputable def con_590 : Con2 := ((yX12_takes, cX12_takes, 3, (some .boolean)), (9, 223), ([(6, 0, 0), (13, 2, 0)], gi_159, [ac_113, am_3], []), [((0, 1, 0), gi_235, hq_123, [], tg_1)])
theorem hd_590 : con_590.1 = (yX12_takes, cX12_takes, 3, (some .boolean)) := rfl
noncomputable def ft_590 : CTB2 := [(2, 165, 0, con_588, [0, 1])]
theorem fto_590 (l : Launch) {es : List va_E} (f2 : isFact 2 1 [0, 1] es) : FTOK2 l RX12 vwCl gTbl es ft_590 := ft2_cons (fun ec he => hv_588 l (f2 ec he)) ck_RX12_165_588 (ft2_nil)
noncomputable def cu_590 : List CUT2 := []
theorem ch_590 : staG tb_X12_takes 1 bt_RX12 ft_590 ct_556 [] [] cu_590 12 con_590 = true := by decide +kernel
theorem hv_590 (l : Launch) {es : List va_E} (f2 : isFact 2 1 [0, 1] es) : VldE l vwCl gTbl con_590 es := conE_ok3 gT_all (hd_590) rfl pn_RX12 tk_X12_takes bo_RX12 xo_RX12 (fto_590 l f2) (cto_556 l) ch_590 cut_nil
/-- RookHustingModel is -/
noncomputable def con_591 : Con2 := ((yX12_is, cX12_is, 4, (some .boolean)), (8, 200), ([(6, 0, 0), (13, 0, 0)], gi_154, [ac_112, am_3], []), [((0, 0, 0), gi_155, hq_121, [], [1]), ((0, 1, 0), gi_156, hq_121, [], [1])])
theorem hd_591 : con_591.1 = (yX12_is, cX12_is, 4, (some .boolean)) := rfl
noncomputable def cu_591 : List CUT2 := [((39, [lq 0 6 0, lq 1 13 0, lq 2 0 1, lq 3 1 50], [], gi_167, hq_121), [([(10, 1), (11, (-1))], (-4))], ([(50, (-1))], 4)), ((39, [lq 0 6 0, lq 1 13 0, lq 2 0 0, lq 3 1 50], [], gi_168, hq_121), [], ([(50, (-1))], 4))]
theorem ch_591 : staG tb_X12_is 1 bt_RX12 [] ct_319 [(55, [(0, (2, 0, 9), 0, 696)])] [23, 28] cu_591 25 con_591 = true := by decide +kernel
theorem cc_591 : cu_591.all (cutG tb_X12_is 1 bt_RX12 [] ct_319 [(55, [(0, (2, 0, 9), 0, 696)])] [23, 28] cu_591 25 con_591) = true := by decide +kernel
theorem vl_591 (l : Launch) : Vld2 l vwCl gTbl con_591 := conR_ok3 gT_all (hd_591) rfl pn_RX12 tk_X12_is bo_RX12 xo_RX12 (cto_319 l) ch_591 (cut_all cc_591)
/-- RookHustingModel takes -/
noncomputable def con_592 : Con2 := ((yX12_takes, cX12_takes, 3, (some .boolean)), (9, 223), ([(6, 0, 0), (13, 0, 0)], gi_159, [ac_113, am_3], []), [((0, 0, 0), gi_160, hq_122, [], [1]), ((0, 1, 0), gi_161, hq_123, [], tg_1)])
theorem hd_592 : con_592.1 = (yX12_takes, cX12_takes, 3, (some .boolean)) := rfl
theorem ck_RX12_165_591 : COK2 RX12 vwCl gTbl 165 0 con_591 := ⟨wd_1603, wd_137, mh_X12_is, .inr (.inr ⟨rfl, wd_1600, wd_1602, wd_58, ⟨_, rfl, pd_X12_is⟩, 12, _, TX12, 45, rfl, rfl⟩)⟩
noncomputable def ct_592 : CTB2 := [(2, 165, 0, con_591, [0, 1]), (11, 169, 0, con_317, [0, 1])]
noncomputable def cu_592 : List CUT2 := []
theorem ch_592 : staG tb_X12_takes 1 bt_RX12 [] ct_592 [] [] cu_592 12 con_592 = true := by decide +kernel
theorem cto_592 (l : Launch) : CTOK2 l RX12 vwCl gTbl ct_592 := ct2_cons (vl_591 l) ck_RX12_165_591 (ct2_cons (vl_317 l) ck_RX12_169_317 (ct2_nil))
theorem vl_592 (l : Launch) : Vld2 l vwCl gTbl con_592 := conR_ok3 gT_all (hd_592) rfl pn_RX12 tk_X12_takes bo_RX12 xo_RX12 (cto_592 l) ch_592 cut_nil
/-- RookHustingModel expects -/
noncomputable def con_593 : Con2 := ((yX12_expects, cX12_expects, 2, none), (10, 245), ([(6, 0, 0), (13, 0, 0)], gi_164, [ac_117, am_3], []), [((9, 0, 0), gi_165, hq_124, [], tg_10), ((9, 0, 0), gi_166, hq_125, [], tg_10)])
theorem hd_593 : con_593.1 = (yX12_expects, cX12_expects, 2, none) := rfl
theorem ck_RX12_172_592 : COK2 RX12 vwCl gTbl 172 0 con_592 := ⟨wd_1599, wd_137, mh_X12_takes, .inr (.inr ⟨rfl, wd_1596, wd_1598, wd_57, ⟨_, rfl, pd_X12_takes⟩, 12, _, TX12, 45, rfl, rfl⟩)⟩
noncomputable def ct_593 : CTB2 := [(2, 172, 0, con_592, [0, 1]), (10, 175, 0, con_321, [0])]
noncomputable def cu_593 : List CUT2 := []
theorem ch_593 : staG tb_X12_expects 1 bt_RX12 [] ct_593 [] [] cu_593 10 con_593 = true := by decide +kernel
theorem cto_593 (l : Launch) : CTOK2 l RX12 vwCl gTbl ct_593 := ct2_cons (vl_592 l) ck_RX12_172_592 (ct2_cons (vl_321 l) ck_RX12_175_321 (ct2_nil))
theorem vl_593 (l : Launch) : Vld2 l vwCl gTbl con_593 := conR_ok3 gT_all (hd_593) rfl pn_RX12 tk_X12_expects bo_RX12 xo_RX12 (cto_593 l) ch_593 cut_nil
/-- RookHustingModel in -/
noncomputable def con_594 : Con2 := ((yX12_in, cX12_in, 6, (some .boolean)), (0, 0), ([(4, 0, 0), (3, 0, 0), (3, 300, 0)], gi_145, [], []), [((0, 0, 0), gi_146, [], [], [1]), ((0, 1, 0), [(0, 300), (0, 0), (0, 0), (0, 0)], [], [], [1])])
theorem hd_594 : con_594.1 = (yX12_in, cX12_in, 6, (some .boolean)) := rfl
noncomputable def cu_594 : List CUT2 := []
theorem ch_594 : staG tb_X12_in 1 bt_RX12 [] ct_2 [] [] cu_594 11 con_594 = true := by decide +kernel
theorem vl_594 (l : Launch) : Vld2 l vwCl gTbl con_594 := conR_ok3 gT_all (hd_594) rfl pn_RX12 tk_X12_in bo_RX12 xo_RX12 (cto_2 l) ch_594 cut_nil
/-- RookHustingModel number -/
noncomputable def gi_259 : GI := jl_n [gp_98, jl_i 0 300, gp_100]
noncomputable def con_595 : Con2 := ((yX12_number, cX12_number, 4, (some .int)), (2, 46), ([(6, 0, 0), (0, 0, 0), (0, 300, 0)], gi_169, [ac_123, am_3], []), [((0, 0, 0), gi_170, hq_126, [], tg_1), ((1, 14, 0), gi_259, hq_127, [], tg_1)])
theorem hd_595 : con_595.1 = (yX12_number, cX12_number, 4, (some .int)) := rfl
theorem ck_RX12_91_594 : COK2 RX12 vwCl gTbl 91 1 con_594 := ⟨wd_1544, wd_137, mh_X12_in, .inl ⟨rfl, wd_1542, wd_1543, pd_X12_in⟩⟩
noncomputable def ct_595 : CTB2 := [(1, 153, 0, con_318, [0]), (17, 175, 0, con_321, [0]), (21, 153, 0, con_326, [0]), (21, 153, 0, con_318, [0]), (36, 91, 1, con_594, []), (44, 175, 0, con_328, [0]), (48, 153, 0, con_326, [0]), (48, 153, 0, con_318, [0]), (48, 153, 0, con_329, [0]), (62, 169, 0, con_317, [0, 1])]
noncomputable def cu_595 : List CUT2 := []
theorem ch_595 : staG tb_X12_number 1 bt_RX12 [] ct_595 [] [] cu_595 31 con_595 = true := by decide +kernel
theorem cto_595 (l : Launch) : CTOK2 l RX12 vwCl gTbl ct_595 := ct2_cons (vl_318 l) ck_RX12_153_318 (ct2_cons (vl_321 l) ck_RX12_175_321 (ct2_cons (vl_326 l) ck_RX12_153_326 (ct2_cons (vl_318 l) ck_RX12_153_318 (ct2_cons (vl_594 l) ck_RX12_91_594 (ct2_cons (vl_328 l) ck_RX12_175_328 (ct2_cons (vl_326 l) ck_RX12_153_326 (ct2_cons (vl_318 l) ck_RX12_153_318 (ct2_cons (vl_329 l) ck_RX12_153_329 (ct2_cons (vl_317 l) ck_RX12_169_317 (ct2_nil))))))))))
theorem vl_595 (l : Launch) : Vld2 l vwCl gTbl con_595 := conR_ok3 gT_all (hd_595) rfl pn_RX12 tk_X12_number bo_RX12 xo_RX12 (cto_595 l) ch_595 cut_nil
/-- RookHustingModel number -/
noncomputable def con_596 : Con2 := ((yX12_number, cX12_number, 4, (some .int)), (1, 20), ([(6, 0, 0), (0, 0, 0), (0, 300, 0)], gi_169, [ac_126, am_3], []), [((0, 0, 0), gi_172, hq_128, [], [1])])
theorem hd_596 : con_596.1 = (yX12_number, cX12_number, 4, (some .int)) := rfl
noncomputable def cu_596 : List CUT2 := []
theorem ch_596 : staG tb_X12_number 1 bt_RX12 [] ct_331 [] [] cu_596 13 con_596 = true := by decide +kernel
theorem vl_596 (l : Launch) : Vld2 l vwCl gTbl con_596 := conR_ok3 gT_all (hd_596) rfl pn_RX12 tk_X12_number bo_RX12 xo_RX12 (cto_331 l) ch_596 cut_nil
/-- RookHustingModel told -/
noncomputable def gi_260 : GI := jl_n [gp_105, jl_i 0 300, gp_106]
noncomputable def con_597 : Con2 := ((yX12_told, cX12_told, 4, (some .int)), (11, 266), ([(6, 0, 0), (13, 0, 0), (0, 0, 0), (0, 300, 0)], gi_173, [ac_127, am_3], []), [((0, 0, 0), gi_174, hq_129, [], tg_1), ((1, 49, 0), gi_260, hq_130, [], tg_1)])
theorem hd_597 : con_597.1 = (yX12_told, cX12_told, 4, (some .int)) := rfl
theorem ck_RX12_183_596 : COK2 RX12 vwCl gTbl 183 0 con_596 := ⟨wd_1618, wd_137, mh_X12_number, .inr (.inr ⟨rfl, wd_1615, wd_1617, wd_61, ⟨_, rfl, pd_X12_number⟩, 12, _, TX12, 45, rfl, rfl⟩)⟩
theorem ck_RX12_183_595 : COK2 RX12 vwCl gTbl 183 0 con_595 := ⟨wd_1618, wd_137, mh_X12_number, .inr (.inr ⟨rfl, wd_1615, wd_1617, wd_61, ⟨_, rfl, pd_X12_number⟩, 12, _, TX12, 45, rfl, rfl⟩)⟩
theorem ck_RX12_179_593 : COK2 RX12 vwCl gTbl 179 0 con_593 := ⟨wd_1595, wd_137, mh_X12_expects, .inr (.inr ⟨rfl, wd_1592, wd_1594, wd_56, ⟨_, rfl, pd_X12_expects⟩, 12, _, TX12, 45, rfl, rfl⟩)⟩
noncomputable def ct_597 : CTB2 := [(2, 179, 0, con_593, [0, 1]), (8, 183, 0, con_595, [0, 1]), (8, 183, 0, con_596, [0, 1])]
noncomputable def cu_597 : List CUT2 := []
theorem ch_597 : staG tb_X12_told 1 bt_RX12 [] ct_597 [] [] cu_597 10 con_597 = true := by decide +kernel
theorem cto_597 (l : Launch) : CTOK2 l RX12 vwCl gTbl ct_597 := ct2_cons (vl_593 l) ck_RX12_179_593 (ct2_cons (vl_595 l) ck_RX12_183_595 (ct2_cons (vl_596 l) ck_RX12_183_596 (ct2_nil)))
theorem vl_597 (l : Launch) : Vld2 l vwCl gTbl con_597 := conR_ok3 gT_all (hd_597) rfl pn_RX12 tk_X12_told bo_RX12 xo_RX12 (cto_597 l) ch_597 cut_nil
/-- RookHustingModel is -/
noncomputable def con_598 : Con2 := ((yX12_is, cX12_is, 4, (some .boolean)), (8, 200), ([(6, 0, 0), (13, 10, 0)], gi_154, [ac_112, am_3], []), [((0, 0, 0), gi_155, hq_121, [], [1]), ((0, 1, 0), gi_156, hq_121, [], [1])])
theorem hd_598 : con_598.1 = (yX12_is, cX12_is, 4, (some .boolean)) := rfl
noncomputable def cu_598 : List CUT2 := [((39, [lq 0 6 0, lq 1 13 10, lq 2 0 1, lq 3 1 50], [], gi_238, hq_121), [([(10, 1), (11, (-1))], (-5))], ([(50, (-1))], 5)), ((39, [lq 0 6 0, lq 1 13 10, lq 2 0 0, lq 3 1 50], [], gi_239, hq_121), [], ([(50, (-1))], 5))]
theorem ch_598 : staG tb_X12_is 1 bt_RX12 [] ct_319 [(55, [(0, (2, 0, 9), 0, 695)])] [23, 28] cu_598 25 con_598 = true := by decide +kernel
theorem cc_598 : cu_598.all (cutG tb_X12_is 1 bt_RX12 [] ct_319 [(55, [(0, (2, 0, 9), 0, 695)])] [23, 28] cu_598 25 con_598) = true := by decide +kernel
theorem vl_598 (l : Launch) : Vld2 l vwCl gTbl con_598 := conR_ok3 gT_all (hd_598) rfl pn_RX12 tk_X12_is bo_RX12 xo_RX12 (cto_319 l) ch_598 (cut_all cc_598)
/-- RookHustingModel takes -/
noncomputable def con_599 : Con2 := ((yX12_takes, cX12_takes, 3, (some .boolean)), (9, 223), ([(6, 0, 0), (13, 10, 0)], gi_159, [ac_113, am_3], []), [((0, 0, 0), gi_160, hq_122, [], [1]), ((0, 1, 0), gi_161, hq_123, [], tg_1)])
theorem hd_599 : con_599.1 = (yX12_takes, cX12_takes, 3, (some .boolean)) := rfl
theorem ck_RX12_165_598 : COK2 RX12 vwCl gTbl 165 0 con_598 := ⟨wd_1603, wd_137, mh_X12_is, .inr (.inr ⟨rfl, wd_1600, wd_1602, wd_58, ⟨_, rfl, pd_X12_is⟩, 12, _, TX12, 45, rfl, rfl⟩)⟩
noncomputable def ct_599 : CTB2 := [(2, 165, 0, con_598, [0, 1]), (11, 169, 0, con_317, [0, 1])]
noncomputable def cu_599 : List CUT2 := []
theorem ch_599 : staG tb_X12_takes 1 bt_RX12 [] ct_599 [] [] cu_599 12 con_599 = true := by decide +kernel
theorem cto_599 (l : Launch) : CTOK2 l RX12 vwCl gTbl ct_599 := ct2_cons (vl_598 l) ck_RX12_165_598 (ct2_cons (vl_317 l) ck_RX12_169_317 (ct2_nil))
theorem vl_599 (l : Launch) : Vld2 l vwCl gTbl con_599 := conR_ok3 gT_all (hd_599) rfl pn_RX12 tk_X12_takes bo_RX12 xo_RX12 (cto_599 l) ch_599 cut_nil
/-- RookHustingModel expects -/
noncomputable def con_600 : Con2 := ((yX12_expects, cX12_expects, 2, none), (10, 245), ([(6, 0, 0), (13, 10, 0)], gi_164, [ac_117, am_3], []), [((9, 0, 0), gi_165, hq_124, [], tg_10), ((9, 0, 0), gi_166, hq_125, [], tg_10)])
theorem hd_600 : con_600.1 = (yX12_expects, cX12_expects, 2, none) := rfl
theorem ck_RX12_172_599 : COK2 RX12 vwCl gTbl 172 0 con_599 := ⟨wd_1599, wd_137, mh_X12_takes, .inr (.inr ⟨rfl, wd_1596, wd_1598, wd_57, ⟨_, rfl, pd_X12_takes⟩, 12, _, TX12, 45, rfl, rfl⟩)⟩
noncomputable def ct_600 : CTB2 := [(2, 172, 0, con_599, [0, 1]), (10, 175, 0, con_321, [0])]
noncomputable def cu_600 : List CUT2 := []
theorem ch_600 : staG tb_X12_expects 1 bt_RX12 [] ct_600 [] [] cu_600 10 con_600 = true := by decide +kernel
theorem cto_600 (l : Launch) : CTOK2 l RX12 vwCl gTbl ct_600 := ct2_cons (vl_599 l) ck_RX12_172_599 (ct2_cons (vl_321 l) ck_RX12_175_321 (ct2_nil))
theorem vl_600 (l : Launch) : Vld2 l vwCl gTbl con_600 := conR_ok3 gT_all (hd_600) rfl pn_RX12 tk_X12_expects bo_RX12 xo_RX12 (cto_600 l) ch_600 cut_nil
/-- RookHustingModel told -/
noncomputable def con_601 : Con2 := ((yX12_told, cX12_told, 4, (some .int)), (11, 266), ([(6, 0, 0), (13, 10, 0), (0, 0, 0), (0, 40, 0)], gi_173, [ac_127, am_3], []), [((0, 0, 0), gi_174, hq_129, [], tg_1), ((1, 49, 0), gi_237, hq_130, [], tg_1)])
theorem hd_601 : con_601.1 = (yX12_told, cX12_told, 4, (some .int)) := rfl
theorem ck_RX12_179_600 : COK2 RX12 vwCl gTbl 179 0 con_600 := ⟨wd_1595, wd_137, mh_X12_expects, .inr (.inr ⟨rfl, wd_1592, wd_1594, wd_56, ⟨_, rfl, pd_X12_expects⟩, 12, _, TX12, 45, rfl, rfl⟩)⟩
noncomputable def ct_601 : CTB2 := [(2, 179, 0, con_600, [0, 1]), (8, 183, 0, con_561, [0, 1]), (8, 183, 0, con_562, [0, 1])]
noncomputable def cu_601 : List CUT2 := []
theorem ch_601 : staG tb_X12_told 1 bt_RX12 [] ct_601 [] [] cu_601 10 con_601 = true := by decide +kernel
theorem cto_601 (l : Launch) : CTOK2 l RX12 vwCl gTbl ct_601 := ct2_cons (vl_600 l) ck_RX12_179_600 (ct2_cons (vl_561 l) ck_RX12_183_561 (ct2_cons (vl_562 l) ck_RX12_183_562 (ct2_nil)))
theorem vl_601 (l : Launch) : Vld2 l vwCl gTbl con_601 := conR_ok3 gT_all (hd_601) rfl pn_RX12 tk_X12_told bo_RX12 xo_RX12 (cto_601 l) ch_601 cut_nil
/-- RookHustingModel is -/
noncomputable def con_602 : Con2 := ((yX12_is, cX12_is, 4, (some .boolean)), (8, 200), ([(6, 0, 0), (13, 10, 0)], gi_184, [ac_131, am_3], []), [((0, 0, 0), gi_185, hq_131, [], [1])])
theorem hd_602 : con_602.1 = (yX12_is, cX12_is, 4, (some .boolean)) := rfl
noncomputable def cu_602 : List CUT2 := [((39, [lq 0 6 0, lq 1 13 10, lq 2 0 0, lq 3 0 0], [], gi_186, hq_131), [], ([], 0))]
theorem ch_602 : staG tb_X12_is 1 bt_RX12 [] ct_348 [(55, [(0, (2, 0, 9), 0, 695)])] [23, 28] cu_602 10 con_602 = true := by decide +kernel
theorem cc_602 : cu_602.all (cutG tb_X12_is 1 bt_RX12 [] ct_348 [(55, [(0, (2, 0, 9), 0, 695)])] [23, 28] cu_602 10 con_602) = true := by decide +kernel
theorem vl_602 (l : Launch) : Vld2 l vwCl gTbl con_602 := conR_ok3 gT_all (hd_602) rfl pn_RX12 tk_X12_is bo_RX12 xo_RX12 (cto_348 l) ch_602 (cut_all cc_602)
/-- RookHustingModel takes -/
noncomputable def con_603 : Con2 := ((yX12_takes, cX12_takes, 3, (some .boolean)), (9, 223), ([(6, 0, 0), (13, 10, 0)], gi_187, [ac_132, am_3], []), [((0, 0, 0), gi_188, hq_132, [], [1])])
theorem hd_603 : con_603.1 = (yX12_takes, cX12_takes, 3, (some .boolean)) := rfl
theorem ck_RX12_165_602 : COK2 RX12 vwCl gTbl 165 0 con_602 := ⟨wd_1603, wd_137, mh_X12_is, .inr (.inr ⟨rfl, wd_1600, wd_1602, wd_58, ⟨_, rfl, pd_X12_is⟩, 12, _, TX12, 45, rfl, rfl⟩)⟩
noncomputable def ct_603 : CTB2 := [(2, 165, 0, con_602, [0, 1])]
noncomputable def cu_603 : List CUT2 := []
theorem ch_603 : staG tb_X12_takes 1 bt_RX12 [] ct_603 [] [] cu_603 10 con_603 = true := by decide +kernel
theorem cto_603 (l : Launch) : CTOK2 l RX12 vwCl gTbl ct_603 := ct2_cons (vl_602 l) ck_RX12_165_602 (ct2_nil)
theorem vl_603 (l : Launch) : Vld2 l vwCl gTbl con_603 := conR_ok3 gT_all (hd_603) rfl pn_RX12 tk_X12_takes bo_RX12 xo_RX12 (cto_603 l) ch_603 cut_nil
/-- RookHustingModel expects -/
noncomputable def con_604 : Con2 := ((yX12_expects, cX12_expects, 2, none), (10, 245), ([(6, 0, 0), (13, 10, 0)], gi_190, [ac_134, am_3], []), [((9, 0, 0), gi_190, hq_133, [], [])])
theorem hd_604 : con_604.1 = (yX12_expects, cX12_expects, 2, none) := rfl
theorem ck_RX12_172_603 : COK2 RX12 vwCl gTbl 172 0 con_603 := ⟨wd_1599, wd_137, mh_X12_takes, .inr (.inr ⟨rfl, wd_1596, wd_1598, wd_57, ⟨_, rfl, pd_X12_takes⟩, 12, _, TX12, 45, rfl, rfl⟩)⟩
noncomputable def ct_604 : CTB2 := [(2, 172, 0, con_603, [0, 1]), (10, 175, 0, con_350, [0])]
noncomputable def cu_604 : List CUT2 := []
theorem ch_604 : staG tb_X12_expects 1 bt_RX12 [] ct_604 [] [] cu_604 10 con_604 = true := by decide +kernel
theorem cto_604 (l : Launch) : CTOK2 l RX12 vwCl gTbl ct_604 := ct2_cons (vl_603 l) ck_RX12_172_603 (ct2_cons (vl_350 l) ck_RX12_175_350 (ct2_nil))
theorem vl_604 (l : Launch) : Vld2 l vwCl gTbl con_604 := conR_ok3 gT_all (hd_604) rfl pn_RX12 tk_X12_expects bo_RX12 xo_RX12 (cto_604 l) ch_604 cut_nil
/-- RookHustingModel number -/
noncomputable def con_605 : Con2 := ((yX12_number, cX12_number, 4, (some .int)), (1, 20), ([(6, 0, 0), (0, 0, 0), (0, 40, 0)], gi_191, [ac_135, am_3], []), [((0, 0, 0), gi_192, hq_134, [], [1])])
theorem hd_605 : con_605.1 = (yX12_number, cX12_number, 4, (some .int)) := rfl
noncomputable def cu_605 : List CUT2 := []
theorem ch_605 : staG tb_X12_number 1 bt_RX12 [] ct_352 [] [] cu_605 13 con_605 = true := by decide +kernel
theorem vl_605 (l : Launch) : Vld2 l vwCl gTbl con_605 := conR_ok3 gT_all (hd_605) rfl pn_RX12 tk_X12_number bo_RX12 xo_RX12 (cto_352 l) ch_605 cut_nil
/-- RookHustingModel told -/
noncomputable def con_606 : Con2 := ((yX12_told, cX12_told, 4, (some .int)), (11, 266), ([(6, 0, 0), (13, 10, 0), (0, 0, 0), (0, 40, 0)], gi_193, [ac_136, am_3], []), [((0, 0, 0), gi_194, hq_135, [], [1])])
theorem hd_606 : con_606.1 = (yX12_told, cX12_told, 4, (some .int)) := rfl
theorem ck_RX12_183_605 : COK2 RX12 vwCl gTbl 183 0 con_605 := ⟨wd_1618, wd_137, mh_X12_number, .inr (.inr ⟨rfl, wd_1615, wd_1617, wd_61, ⟨_, rfl, pd_X12_number⟩, 12, _, TX12, 45, rfl, rfl⟩)⟩
theorem ck_RX12_179_604 : COK2 RX12 vwCl gTbl 179 0 con_604 := ⟨wd_1595, wd_137, mh_X12_expects, .inr (.inr ⟨rfl, wd_1592, wd_1594, wd_56, ⟨_, rfl, pd_X12_expects⟩, 12, _, TX12, 45, rfl, rfl⟩)⟩
noncomputable def ct_606 : CTB2 := [(2, 179, 0, con_604, [0, 1]), (8, 183, 0, con_605, [0, 1])]
noncomputable def cu_606 : List CUT2 := []
theorem ch_606 : staG tb_X12_told 1 bt_RX12 [] ct_606 [] [] cu_606 10 con_606 = true := by decide +kernel
theorem cto_606 (l : Launch) : CTOK2 l RX12 vwCl gTbl ct_606 := ct2_cons (vl_604 l) ck_RX12_179_604 (ct2_cons (vl_605 l) ck_RX12_183_605 (ct2_nil))
theorem vl_606 (l : Launch) : Vld2 l vwCl gTbl con_606 := conR_ok3 gT_all (hd_606) rfl pn_RX12 tk_X12_told bo_RX12 xo_RX12 (cto_606 l) ch_606 cut_nil
/-- RookHustingModel isFull -/
noncomputable def gi_261 : GI := jl_n [gp_154, jl_i 0 8, jl_i 0 5, gp_128]
noncomputable def con_607 : Con2 := ((yX12_isFull, cX12_isFull, 1, (some .boolean)), (9, 223), ([(6, 0, 0)], gi_201, [ac_154, am_3, ac_153], []), [((0, 0, 0), gi_261, hq_145, [], [1]), ((0, 1, 0), gi_202, hq_145, [], [1])])
theorem hd_607 : con_607.1 = (yX12_isFull, cX12_isFull, 1, (some .boolean)) := rfl
noncomputable def ft_607 : CTB2 := [(3, 165, 0, con_588, [0, 1]), (22, 165, 0, con_367, [0, 1]), (44, 165, 0, con_368, [0, 1]), (63, 165, 0, con_375, [0, 1])]
theorem fto_607 (l : Launch) {es : List va_E} (f2 : isFact 2 1 [0, 1] es) (f5 : isFact 5 0 [0, 1] es) (f8 : isFact 8 0 [0, 1] es) (f12 : isFact 12 1 [0, 1] es) : FTOK2 l RX12 vwCl gTbl es ft_607 := ft2_cons (fun ec he => hv_588 l (f2 ec he)) ck_RX12_165_588 (ft2_cons (fun ec he => hv_367 l (f5 ec he)) ck_RX12_165_367 (ft2_cons (fun ec he => hv_368 l (f8 ec he)) ck_RX12_165_368 (ft2_cons (fun ec he => hv_375 l (f12 ec he)) ck_RX12_165_375 (ft2_nil))))
noncomputable def cu_607 : List CUT2 := []
theorem ch_607 : staG tb_X12_isFull 1 bt_RX12 ft_607 ct_2 [] [] cu_607 33 con_607 = true := by decide +kernel
theorem hv_607 (l : Launch) {es : List va_E} (f2 : isFact 2 1 [0, 1] es) (f5 : isFact 5 0 [0, 1] es) (f8 : isFact 8 0 [0, 1] es) (f12 : isFact 12 1 [0, 1] es) : VldE l vwCl gTbl con_607 es := conE_ok3 gT_all (hd_607) rfl pn_RX12 tk_X12_isFull bo_RX12 xo_RX12 (fto_607 l f2 f5 f8 f12) (cto_2 l) ch_607 cut_nil
/-- RookHustingModel isFull -/
noncomputable def gi_262 : GI := jl_n [gp_154, jl_i 0 8, gp_147]
noncomputable def con_608 : Con2 := ((yX12_isFull, cX12_isFull, 1, (some .boolean)), (9, 223), ([(6, 0, 0)], gi_201, [ac_154, am_3, ac_153], []), [((0, 0, 0), gi_262, hq_145, [], [1]), ((0, 1, 0), gi_202, hq_145, [], [1])])
theorem hd_608 : con_608.1 = (yX12_isFull, cX12_isFull, 1, (some .boolean)) := rfl
noncomputable def ft_608 : CTB2 := [(3, 165, 0, con_588, [0, 1]), (22, 165, 0, con_367, [0, 1]), (44, 165, 0, con_552, [0, 1]), (63, 165, 0, con_369, [0, 1])]
theorem fto_608 (l : Launch) {es : List va_E} (f2 : isFact 2 1 [0, 1] es) (f5 : isFact 5 0 [0, 1] es) (f8 : isFact 8 1 [0, 1] es) (f12 : isFact 12 0 [0, 1] es) : FTOK2 l RX12 vwCl gTbl es ft_608 := ft2_cons (fun ec he => hv_588 l (f2 ec he)) ck_RX12_165_588 (ft2_cons (fun ec he => hv_367 l (f5 ec he)) ck_RX12_165_367 (ft2_cons (fun ec he => hv_552 l (f8 ec he)) ck_RX12_165_552 (ft2_cons (fun ec he => hv_369 l (f12 ec he)) ck_RX12_165_369 (ft2_nil))))
noncomputable def cu_608 : List CUT2 := []
theorem ch_608 : staG tb_X12_isFull 1 bt_RX12 ft_608 ct_2 [] [] cu_608 32 con_608 = true := by decide +kernel
theorem hv_608 (l : Launch) {es : List va_E} (f2 : isFact 2 1 [0, 1] es) (f5 : isFact 5 0 [0, 1] es) (f8 : isFact 8 1 [0, 1] es) (f12 : isFact 12 0 [0, 1] es) : VldE l vwCl gTbl con_608 es := conE_ok3 gT_all (hd_608) rfl pn_RX12 tk_X12_isFull bo_RX12 xo_RX12 (fto_608 l f2 f5 f8 f12) (cto_2 l) ch_608 cut_nil
/-- RookHustingModel isFull -/
noncomputable def gi_263 : GI := jl_n [gp_154, jl_i 0 8, gp_148]
noncomputable def con_609 : Con2 := ((yX12_isFull, cX12_isFull, 1, (some .boolean)), (9, 223), ([(6, 0, 0)], gi_201, [ac_154, am_3, ac_153], []), [((0, 0, 0), gi_263, hq_145, [], [1]), ((0, 1, 0), gi_202, hq_145, [], [1])])
theorem hd_609 : con_609.1 = (yX12_isFull, cX12_isFull, 1, (some .boolean)) := rfl
noncomputable def ft_609 : CTB2 := [(3, 165, 0, con_588, [0, 1]), (22, 165, 0, con_367, [0, 1]), (44, 165, 0, con_552, [0, 1]), (63, 165, 0, con_375, [0, 1])]
theorem fto_609 (l : Launch) {es : List va_E} (f2 : isFact 2 1 [0, 1] es) (f5 : isFact 5 0 [0, 1] es) (f8 : isFact 8 1 [0, 1] es) (f12 : isFact 12 1 [0, 1] es) : FTOK2 l RX12 vwCl gTbl es ft_609 := ft2_cons (fun ec he => hv_588 l (f2 ec he)) ck_RX12_165_588 (ft2_cons (fun ec he => hv_367 l (f5 ec he)) ck_RX12_165_367 (ft2_cons (fun ec he => hv_552 l (f8 ec he)) ck_RX12_165_552 (ft2_cons (fun ec he => hv_375 l (f12 ec he)) ck_RX12_165_375 (ft2_nil))))
noncomputable def cu_609 : List CUT2 := []
theorem ch_609 : staG tb_X12_isFull 1 bt_RX12 ft_609 ct_2 [] [] cu_609 39 con_609 = true := by decide +kernel
theorem hv_609 (l : Launch) {es : List va_E} (f2 : isFact 2 1 [0, 1] es) (f5 : isFact 5 0 [0, 1] es) (f8 : isFact 8 1 [0, 1] es) (f12 : isFact 12 1 [0, 1] es) : VldE l vwCl gTbl con_609 es := conE_ok3 gT_all (hd_609) rfl pn_RX12 tk_X12_isFull bo_RX12 xo_RX12 (fto_609 l f2 f5 f8 f12) (cto_2 l) ch_609 cut_nil
/-- RookHustingModel isFull -/
noncomputable def gi_264 : GI := jl_n [gp_155, gp_12, gp_127]
noncomputable def con_610 : Con2 := ((yX12_isFull, cX12_isFull, 1, (some .boolean)), (9, 223), ([(6, 0, 0)], gi_201, [ac_154, am_3, ac_153], []), [((0, 0, 0), gi_264, hq_145, [], [1]), ((0, 1, 0), gi_202, hq_145, [], [1])])
theorem hd_610 : con_610.1 = (yX12_isFull, cX12_isFull, 1, (some .boolean)) := rfl
noncomputable def ft_610 : CTB2 := [(3, 165, 0, con_588, [0, 1]), (22, 165, 0, con_577, [0, 1]), (44, 165, 0, con_368, [0, 1]), (63, 165, 0, con_369, [0, 1])]
theorem fto_610 (l : Launch) {es : List va_E} (f2 : isFact 2 1 [0, 1] es) (f5 : isFact 5 1 [0, 1] es) (f8 : isFact 8 0 [0, 1] es) (f12 : isFact 12 0 [0, 1] es) : FTOK2 l RX12 vwCl gTbl es ft_610 := ft2_cons (fun ec he => hv_588 l (f2 ec he)) ck_RX12_165_588 (ft2_cons (fun ec he => hv_577 l (f5 ec he)) ck_RX12_165_577 (ft2_cons (fun ec he => hv_368 l (f8 ec he)) ck_RX12_165_368 (ft2_cons (fun ec he => hv_369 l (f12 ec he)) ck_RX12_165_369 (ft2_nil))))
noncomputable def cu_610 : List CUT2 := []
theorem ch_610 : staG tb_X12_isFull 1 bt_RX12 ft_610 ct_2 [] [] cu_610 32 con_610 = true := by decide +kernel
theorem hv_610 (l : Launch) {es : List va_E} (f2 : isFact 2 1 [0, 1] es) (f5 : isFact 5 1 [0, 1] es) (f8 : isFact 8 0 [0, 1] es) (f12 : isFact 12 0 [0, 1] es) : VldE l vwCl gTbl con_610 es := conE_ok3 gT_all (hd_610) rfl pn_RX12 tk_X12_isFull bo_RX12 xo_RX12 (fto_610 l f2 f5 f8 f12) (cto_2 l) ch_610 cut_nil
/-- RookHustingModel isFull -/
noncomputable def gi_265 : GI := jl_n [gp_155, jl_i 0 5, gp_128]
noncomputable def con_611 : Con2 := ((yX12_isFull, cX12_isFull, 1, (some .boolean)), (9, 223), ([(6, 0, 0)], gi_201, [ac_154, am_3, ac_153], []), [((0, 0, 0), gi_265, hq_145, [], [1]), ((0, 1, 0), gi_202, hq_145, [], [1])])
theorem hd_611 : con_611.1 = (yX12_isFull, cX12_isFull, 1, (some .boolean)) := rfl
noncomputable def ft_611 : CTB2 := [(3, 165, 0, con_588, [0, 1]), (22, 165, 0, con_577, [0, 1]), (44, 165, 0, con_368, [0, 1]), (63, 165, 0, con_375, [0, 1])]
theorem fto_611 (l : Launch) {es : List va_E} (f2 : isFact 2 1 [0, 1] es) (f5 : isFact 5 1 [0, 1] es) (f8 : isFact 8 0 [0, 1] es) (f12 : isFact 12 1 [0, 1] es) : FTOK2 l RX12 vwCl gTbl es ft_611 := ft2_cons (fun ec he => hv_588 l (f2 ec he)) ck_RX12_165_588 (ft2_cons (fun ec he => hv_577 l (f5 ec he)) ck_RX12_165_577 (ft2_cons (fun ec he => hv_368 l (f8 ec he)) ck_RX12_165_368 (ft2_cons (fun ec he => hv_375 l (f12 ec he)) ck_RX12_165_375 (ft2_nil))))
noncomputable def cu_611 : List CUT2 := []
theorem ch_611 : staG tb_X12_isFull 1 bt_RX12 ft_611 ct_2 [] [] cu_611 39 con_611 = true := by decide +kernel
theorem hv_611 (l : Launch) {es : List va_E} (f2 : isFact 2 1 [0, 1] es) (f5 : isFact 5 1 [0, 1] es) (f8 : isFact 8 0 [0, 1] es) (f12 : isFact 12 1 [0, 1] es) : VldE l vwCl gTbl con_611 es := conE_ok3 gT_all (hd_611) rfl pn_RX12 tk_X12_isFull bo_RX12 xo_RX12 (fto_611 l f2 f5 f8 f12) (cto_2 l) ch_611 cut_nil
/-- RookHustingModel isFull -/
noncomputable def gi_266 : GI := jl_n [gp_155, gp_147]
noncomputable def con_612 : Con2 := ((yX12_isFull, cX12_isFull, 1, (some .boolean)), (9, 223), ([(6, 0, 0)], gi_201, [ac_154, am_3, ac_153], []), [((0, 0, 0), gi_266, hq_145, [], [1]), ((0, 1, 0), gi_202, hq_145, [], [1])])
theorem hd_612 : con_612.1 = (yX12_isFull, cX12_isFull, 1, (some .boolean)) := rfl
noncomputable def ft_612 : CTB2 := [(3, 165, 0, con_588, [0, 1]), (22, 165, 0, con_577, [0, 1]), (44, 165, 0, con_552, [0, 1]), (63, 165, 0, con_369, [0, 1])]
theorem fto_612 (l : Launch) {es : List va_E} (f2 : isFact 2 1 [0, 1] es) (f5 : isFact 5 1 [0, 1] es) (f8 : isFact 8 1 [0, 1] es) (f12 : isFact 12 0 [0, 1] es) : FTOK2 l RX12 vwCl gTbl es ft_612 := ft2_cons (fun ec he => hv_588 l (f2 ec he)) ck_RX12_165_588 (ft2_cons (fun ec he => hv_577 l (f5 ec he)) ck_RX12_165_577 (ft2_cons (fun ec he => hv_552 l (f8 ec he)) ck_RX12_165_552 (ft2_cons (fun ec he => hv_369 l (f12 ec he)) ck_RX12_165_369 (ft2_nil))))
noncomputable def cu_612 : List CUT2 := []
theorem ch_612 : staG tb_X12_isFull 1 bt_RX12 ft_612 ct_2 [] [] cu_612 38 con_612 = true := by decide +kernel
theorem hv_612 (l : Launch) {es : List va_E} (f2 : isFact 2 1 [0, 1] es) (f5 : isFact 5 1 [0, 1] es) (f8 : isFact 8 1 [0, 1] es) (f12 : isFact 12 0 [0, 1] es) : VldE l vwCl gTbl con_612 es := conE_ok3 gT_all (hd_612) rfl pn_RX12 tk_X12_isFull bo_RX12 xo_RX12 (fto_612 l f2 f5 f8 f12) (cto_2 l) ch_612 cut_nil
/-- RookHustingModel isFull -/
noncomputable def gi_267 : GI := jl_n [gp_155, gp_148]
noncomputable def con_613 : Con2 := ((yX12_isFull, cX12_isFull, 1, (some .boolean)), (9, 223), ([(6, 0, 0)], gi_201, [ac_154, am_3, ac_153], []), [((0, 0, 0), gi_267, hq_145, [], [1]), ((0, 1, 0), gi_202, hq_145, [], [1])])
theorem hd_613 : con_613.1 = (yX12_isFull, cX12_isFull, 1, (some .boolean)) := rfl
noncomputable def ft_613 : CTB2 := [(3, 165, 0, con_588, [0, 1]), (22, 165, 0, con_577, [0, 1]), (44, 165, 0, con_552, [0, 1]), (63, 165, 0, con_375, [0, 1])]
theorem fto_613 (l : Launch) {es : List va_E} (f2 : isFact 2 1 [0, 1] es) (f5 : isFact 5 1 [0, 1] es) (f8 : isFact 8 1 [0, 1] es) (f12 : isFact 12 1 [0, 1] es) : FTOK2 l RX12 vwCl gTbl es ft_613 := ft2_cons (fun ec he => hv_588 l (f2 ec he)) ck_RX12_165_588 (ft2_cons (fun ec he => hv_577 l (f5 ec he)) ck_RX12_165_577 (ft2_cons (fun ec he => hv_552 l (f8 ec he)) ck_RX12_165_552 (ft2_cons (fun ec he => hv_375 l (f12 ec he)) ck_RX12_165_375 (ft2_nil))))
noncomputable def cu_613 : List CUT2 := []
theorem ch_613 : staG tb_X12_isFull 1 bt_RX12 ft_613 ct_2 [] [] cu_613 45 con_613 = true := by decide +kernel
theorem hv_613 (l : Launch) {es : List va_E} (f2 : isFact 2 1 [0, 1] es) (f5 : isFact 5 1 [0, 1] es) (f8 : isFact 8 1 [0, 1] es) (f12 : isFact 12 1 [0, 1] es) : VldE l vwCl gTbl con_613 es := conE_ok3 gT_all (hd_613) rfl pn_RX12 tk_X12_isFull bo_RX12 xo_RX12 (fto_613 l f2 f5 f8 f12) (cto_2 l) ch_613 cut_nil
/-- RookHustingModel readNext -/
noncomputable def gi_268 : GI := jl_n [gp_136, jl_i 1 3, jl_i 0 700, jl_z 34, gp_53, gp_156]
noncomputable def ac_192 : AC := .inr (1, jl_n [js_1 49 3, js_1 120 3, sp_22, sp_10])
noncomputable def hq_178 : HP := [(true, ac_144), (false, am_3), (true, ac_192)]
noncomputable def hq_179 : HP := [(true, ac_144), (false, am_3), (true, ac_157)]
noncomputable def gi_269 : GI := jl_n [gp_136, jl_z 36, gp_53, gp_156]
noncomputable def hq_180 : HP := [(true, ac_146), (false, am_3), (true, ac_192)]
noncomputable def rq_0 : RLs := [([(49, (-1)), (50, (-1)), (51, (-1)), (117, 1), (118, 1), (119, 1)], (-1))]
noncomputable def gi_270 : GI := jl_n [gp_136, jl_z 56]
noncomputable def hq_181 : HP := [(true, ac_146), (false, am_3), (true, ac_158)]
noncomputable def con_614 : Con2 := ((yX12_readNext, cX12_readNext, 3, none), (13, 312), ([(6, 0, 0)], gi_214, [ac_142, am_3, ac_156], []), [((9, 0, 0), gi_268, hq_178, [], tg_11), ((9, 0, 0), gi_215, hq_179, [], tg_11), ((9, 0, 0), gi_269, hq_180, rq_0, tg_11), ((9, 0, 0), gi_270, hq_181, [], tg_11)])
theorem hd_614 : con_614.1 = (yX12_readNext, cX12_readNext, 3, none) := rfl
theorem ck_RX12_210_374 : COK2 RX12 vwCl gTbl 210 0 con_374 := ⟨wd_1632, wd_137, mh_X12_isFull, .inr (.inr ⟨rfl, wd_1629, wd_1631, wd_63, ⟨_, rfl, pd_X12_isFull⟩, 12, _, TX12, 45, rfl, rfl⟩)⟩
noncomputable def ct_614_0 : CTB2 := [(67, 175, 0, con_321, [0]), (71, 210, 0, con_374, [0, 1, 2]), (83, 153, 0, con_326, [0])]
noncomputable def ft_614_0 : CTB2 := [(3, 165, 0, con_366, [0, 1]), (12, 165, 0, con_367, [0, 1]), (21, 165, 0, con_368, [0, 1]), (30, 165, 0, con_369, [0, 1])]
theorem fto_614_0 (l : Launch) {es : List va_E} (f2 : isFact 2 0 [0, 1] es) (f5 : isFact 5 0 [0, 1] es) (f8 : isFact 8 0 [0, 1] es) (f12 : isFact 12 0 [0, 1] es) : FTOK2 l RX12 vwCl gTbl es ft_614_0 := ft2_cons (fun ec he => hv_366 l (f2 ec he)) ck_RX12_165_366 (ft2_cons (fun ec he => hv_367 l (f5 ec he)) ck_RX12_165_367 (ft2_cons (fun ec he => hv_368 l (f8 ec he)) ck_RX12_165_368 (ft2_cons (fun ec he => hv_369 l (f12 ec he)) ck_RX12_165_369 (ft2_nil))))
noncomputable def cu_614_0 : List CUT2 := []
theorem ch_614_0 : staG tb_X12_readNext 1 bt_RX12 ft_614_0 ct_614_0 [] [] cu_614_0 32 con_614 = true := by decide +kernel
theorem cto_614_0 (l : Launch) : CTOK2 l RX12 vwCl gTbl ct_614_0 := ct2_cons (vl_321 l) ck_RX12_175_321 (ct2_cons (vl_374 l) ck_RX12_210_374 (ct2_cons (vl_326 l) ck_RX12_153_326 (ct2_nil)))
theorem ck_RX12_224_551 : COK2 RX12 vwCl gTbl 224 0 con_551 := ⟨wd_1644, wd_137, mh_X12_readVoter, .inr (.inr ⟨rfl, wd_1641, wd_1643, wd_65, ⟨_, rfl, pd_X12_readVoter⟩, 12, _, TX12, 45, rfl, rfl⟩)⟩
noncomputable def ct_614_1 : CTB2 := [(83, 153, 0, con_318, [0]), (240, 169, 0, con_317, [0, 1]), (244, 224, 0, con_551, [0, 2, 1])]
noncomputable def ft_614_1 : CTB2 := [(3, 165, 0, con_366, [0, 1]), (12, 165, 0, con_367, [0, 1]), (21, 165, 0, con_368, [0, 1]), (30, 165, 0, con_375, [0, 1]), (49, 165, 0, con_368, [0, 1]), (71, 210, 0, con_376, [0, 1, 2]), (93, 172, 0, con_377, [0, 1]), (160, 172, 0, con_378, [0, 1]), (176, 172, 0, con_379, [0, 1])]
theorem ck_RX12_172_379 : COK2 RX12 vwCl gTbl 172 0 con_379 := ⟨wd_1599, wd_137, mh_X12_takes, .inr (.inr ⟨rfl, wd_1596, wd_1598, wd_57, ⟨_, rfl, pd_X12_takes⟩, 12, _, TX12, 45, rfl, rfl⟩)⟩
theorem ck_RX12_172_378 : COK2 RX12 vwCl gTbl 172 0 con_378 := ⟨wd_1599, wd_137, mh_X12_takes, .inr (.inr ⟨rfl, wd_1596, wd_1598, wd_57, ⟨_, rfl, pd_X12_takes⟩, 12, _, TX12, 45, rfl, rfl⟩)⟩
theorem ck_RX12_172_377 : COK2 RX12 vwCl gTbl 172 0 con_377 := ⟨wd_1599, wd_137, mh_X12_takes, .inr (.inr ⟨rfl, wd_1596, wd_1598, wd_57, ⟨_, rfl, pd_X12_takes⟩, 12, _, TX12, 45, rfl, rfl⟩)⟩
theorem ck_RX12_210_376 : COK2 RX12 vwCl gTbl 210 0 con_376 := ⟨wd_1632, wd_137, mh_X12_isFull, .inr (.inr ⟨rfl, wd_1629, wd_1631, wd_63, ⟨_, rfl, pd_X12_isFull⟩, 12, _, TX12, 45, rfl, rfl⟩)⟩
theorem fto_614_1 (l : Launch) {es : List va_E} (f2 : isFact 2 0 [0, 1] es) (f5 : isFact 5 0 [0, 1] es) (f8 : isFact 8 0 [0, 1] es) (f12 : isFact 12 1 [0, 1] es) : FTOK2 l RX12 vwCl gTbl es ft_614_1 := ft2_cons (fun ec he => hv_366 l (f2 ec he)) ck_RX12_165_366 (ft2_cons (fun ec he => hv_367 l (f5 ec he)) ck_RX12_165_367 (ft2_cons (fun ec he => hv_368 l (f8 ec he)) ck_RX12_165_368 (ft2_cons (fun ec he => hv_375 l (f12 ec he)) ck_RX12_165_375 (ft2_cons (fun ec he => hv_368 l (f8 ec he)) ck_RX12_165_368 (ft2_cons (fun ec he => hv_376 l (fact_at f2 he (τ := [0, 1]) (by decide) (by decide)) (fact_at f5 he (τ := [0, 1]) (by decide) (by decide)) (fact_at f8 he (τ := [0, 1]) (by decide) (by decide)) (fact_at f12 he (τ := [0, 1]) (by decide) (by decide))) ck_RX12_210_376 (ft2_cons (fun ec he => hv_377 l (fact_at f2 he (τ := [0, 1]) (by decide) (by decide))) ck_RX12_172_377 (ft2_cons (fun ec he => hv_378 l (fact_at f5 he (τ := [0, 1]) (by decide) (by decide))) ck_RX12_172_378 (ft2_cons (fun ec he => hv_379 l (fact_at f8 he (τ := [0, 1]) (by decide) (by decide))) ck_RX12_172_379 (ft2_nil)))))))))
noncomputable def cu_614_1 : List CUT2 := []
theorem ch_614_1 : staG tb_X12_readNext 1 bt_RX12 ft_614_1 ct_614_1 [] [] cu_614_1 50 con_614 = true := by decide +kernel
theorem cto_614_1 (l : Launch) : CTOK2 l RX12 vwCl gTbl ct_614_1 := ct2_cons (vl_318 l) ck_RX12_153_318 (ct2_cons (vl_317 l) ck_RX12_169_317 (ct2_cons (vl_551 l) ck_RX12_224_551 (ct2_nil)))
theorem ck_RX12_189_575 : COK2 RX12 vwCl gTbl 189 0 con_575 := ⟨wd_1614, wd_137, mh_X12_told, .inr (.inr ⟨rfl, wd_1611, wd_1613, wd_60, ⟨_, rfl, pd_X12_told⟩, 12, _, TX12, 45, rfl, rfl⟩)⟩
theorem ck_RX12_189_570 : COK2 RX12 vwCl gTbl 189 0 con_570 := ⟨wd_1614, wd_137, mh_X12_told, .inr (.inr ⟨rfl, wd_1611, wd_1613, wd_60, ⟨_, rfl, pd_X12_told⟩, 12, _, TX12, 45, rfl, rfl⟩)⟩
theorem ck_RX12_189_563 : COK2 RX12 vwCl gTbl 189 0 con_563 := ⟨wd_1614, wd_137, mh_X12_told, .inr (.inr ⟨rfl, wd_1611, wd_1613, wd_60, ⟨_, rfl, pd_X12_told⟩, 12, _, TX12, 45, rfl, rfl⟩)⟩
theorem ck_RX12_153_555 : COK2 RX12 vwCl gTbl 153 0 con_555 := ⟨wd_1582, wd_137, mh_X12_good, .inr (.inr ⟨rfl, wd_1579, wd_1581, wd_53, ⟨_, rfl, pd_X12_good⟩, 12, _, TX12, 45, rfl, rfl⟩)⟩
theorem ck_RX12_175_554 : COK2 RX12 vwCl gTbl 175 0 con_554 := ⟨wd_1609, wd_137, mh_X12_errs, .inr (.inr ⟨rfl, wd_1606, wd_1608, wd_59, ⟨_, rfl, pd_X12_errs⟩, 12, _, TX12, 45, rfl, rfl⟩)⟩
noncomputable def ct_614_2 : CTB2 := [(79, 175, 0, con_554, [0]), (83, 153, 0, con_555, [0]), (83, 153, 0, con_318, [0]), (205, 189, 0, con_563, [0, 1]), (222, 189, 0, con_570, [0, 1]), (222, 189, 0, con_575, [0, 1])]
noncomputable def ft_614_2 : CTB2 := [(3, 165, 0, con_366, [0, 1]), (12, 165, 0, con_367, [0, 1]), (21, 165, 0, con_552, [0, 1]), (49, 165, 0, con_552, [0, 1]), (71, 210, 0, con_553, [0, 1, 2]), (93, 172, 0, con_377, [0, 1]), (160, 172, 0, con_378, [0, 1]), (176, 172, 0, con_556, [0, 1])]
theorem ck_RX12_172_556 : COK2 RX12 vwCl gTbl 172 0 con_556 := ⟨wd_1599, wd_137, mh_X12_takes, .inr (.inr ⟨rfl, wd_1596, wd_1598, wd_57, ⟨_, rfl, pd_X12_takes⟩, 12, _, TX12, 45, rfl, rfl⟩)⟩
theorem ck_RX12_210_553 : COK2 RX12 vwCl gTbl 210 0 con_553 := ⟨wd_1632, wd_137, mh_X12_isFull, .inr (.inr ⟨rfl, wd_1629, wd_1631, wd_63, ⟨_, rfl, pd_X12_isFull⟩, 12, _, TX12, 45, rfl, rfl⟩)⟩
theorem fto_614_2 (l : Launch) {es : List va_E} (f2 : isFact 2 0 [0, 1] es) (f5 : isFact 5 0 [0, 1] es) (f8 : isFact 8 1 [0, 1] es) (f12 : isFact 12 0 [0, 1] es) : FTOK2 l RX12 vwCl gTbl es ft_614_2 := ft2_cons (fun ec he => hv_366 l (f2 ec he)) ck_RX12_165_366 (ft2_cons (fun ec he => hv_367 l (f5 ec he)) ck_RX12_165_367 (ft2_cons (fun ec he => hv_552 l (f8 ec he)) ck_RX12_165_552 (ft2_cons (fun ec he => hv_552 l (f8 ec he)) ck_RX12_165_552 (ft2_cons (fun ec he => hv_553 l (fact_at f2 he (τ := [0, 1]) (by decide) (by decide)) (fact_at f5 he (τ := [0, 1]) (by decide) (by decide)) (fact_at f8 he (τ := [0, 1]) (by decide) (by decide)) (fact_at f12 he (τ := [0, 1]) (by decide) (by decide))) ck_RX12_210_553 (ft2_cons (fun ec he => hv_377 l (fact_at f2 he (τ := [0, 1]) (by decide) (by decide))) ck_RX12_172_377 (ft2_cons (fun ec he => hv_378 l (fact_at f5 he (τ := [0, 1]) (by decide) (by decide))) ck_RX12_172_378 (ft2_cons (fun ec he => hv_556 l (fact_at f8 he (τ := [0, 1]) (by decide) (by decide))) ck_RX12_172_556 (ft2_nil))))))))
noncomputable def cu_614_2 : List CUT2 := []
theorem ch_614_2 : staG tb_X12_readNext 1 bt_RX12 ft_614_2 ct_614_2 [] [] cu_614_2 85 con_614 = true := by decide +kernel
theorem cto_614_2 (l : Launch) : CTOK2 l RX12 vwCl gTbl ct_614_2 := ct2_cons (vl_554 l) ck_RX12_175_554 (ct2_cons (vl_555 l) ck_RX12_153_555 (ct2_cons (vl_318 l) ck_RX12_153_318 (ct2_cons (vl_563 l) ck_RX12_189_563 (ct2_cons (vl_570 l) ck_RX12_189_570 (ct2_cons (vl_575 l) ck_RX12_189_575 (ct2_nil))))))
noncomputable def ft_614_3 : CTB2 := [(3, 165, 0, con_366, [0, 1]), (12, 165, 0, con_367, [0, 1]), (21, 165, 0, con_552, [0, 1]), (49, 165, 0, con_552, [0, 1]), (71, 210, 0, con_576, [0, 1, 2]), (93, 172, 0, con_377, [0, 1]), (160, 172, 0, con_378, [0, 1]), (176, 172, 0, con_556, [0, 1])]
theorem ck_RX12_210_576 : COK2 RX12 vwCl gTbl 210 0 con_576 := ⟨wd_1632, wd_137, mh_X12_isFull, .inr (.inr ⟨rfl, wd_1629, wd_1631, wd_63, ⟨_, rfl, pd_X12_isFull⟩, 12, _, TX12, 45, rfl, rfl⟩)⟩
theorem fto_614_3 (l : Launch) {es : List va_E} (f2 : isFact 2 0 [0, 1] es) (f5 : isFact 5 0 [0, 1] es) (f8 : isFact 8 1 [0, 1] es) (f12 : isFact 12 1 [0, 1] es) : FTOK2 l RX12 vwCl gTbl es ft_614_3 := ft2_cons (fun ec he => hv_366 l (f2 ec he)) ck_RX12_165_366 (ft2_cons (fun ec he => hv_367 l (f5 ec he)) ck_RX12_165_367 (ft2_cons (fun ec he => hv_552 l (f8 ec he)) ck_RX12_165_552 (ft2_cons (fun ec he => hv_552 l (f8 ec he)) ck_RX12_165_552 (ft2_cons (fun ec he => hv_576 l (fact_at f2 he (τ := [0, 1]) (by decide) (by decide)) (fact_at f5 he (τ := [0, 1]) (by decide) (by decide)) (fact_at f8 he (τ := [0, 1]) (by decide) (by decide)) (fact_at f12 he (τ := [0, 1]) (by decide) (by decide))) ck_RX12_210_576 (ft2_cons (fun ec he => hv_377 l (fact_at f2 he (τ := [0, 1]) (by decide) (by decide))) ck_RX12_172_377 (ft2_cons (fun ec he => hv_378 l (fact_at f5 he (τ := [0, 1]) (by decide) (by decide))) ck_RX12_172_378 (ft2_cons (fun ec he => hv_556 l (fact_at f8 he (τ := [0, 1]) (by decide) (by decide))) ck_RX12_172_556 (ft2_nil))))))))
noncomputable def cu_614_3 : List CUT2 := []
theorem ch_614_3 : staG tb_X12_readNext 1 bt_RX12 ft_614_3 ct_614_2 [] [] cu_614_3 85 con_614 = true := by decide +kernel
theorem ck_RX12_217_584 : COK2 RX12 vwCl gTbl 217 0 con_584 := ⟨wd_1638, wd_137, mh_X12_readHedge, .inr (.inr ⟨rfl, wd_1635, wd_1637, wd_64, ⟨_, rfl, pd_X12_readHedge⟩, 12, _, TX12, 45, rfl, rfl⟩)⟩
noncomputable def ct_614_4 : CTB2 := [(79, 175, 0, con_554, [0]), (83, 153, 0, con_555, [0]), (83, 153, 0, con_318, [0]), (167, 217, 0, con_584, [0, 2, 1])]
noncomputable def ft_614_4 : CTB2 := [(3, 165, 0, con_366, [0, 1]), (12, 165, 0, con_577, [0, 1]), (49, 165, 0, con_368, [0, 1]), (71, 210, 0, con_578, [0, 1, 2]), (93, 172, 0, con_377, [0, 1]), (160, 172, 0, con_579, [0, 1])]
theorem ck_RX12_172_579 : COK2 RX12 vwCl gTbl 172 0 con_579 := ⟨wd_1599, wd_137, mh_X12_takes, .inr (.inr ⟨rfl, wd_1596, wd_1598, wd_57, ⟨_, rfl, pd_X12_takes⟩, 12, _, TX12, 45, rfl, rfl⟩)⟩
theorem ck_RX12_210_578 : COK2 RX12 vwCl gTbl 210 0 con_578 := ⟨wd_1632, wd_137, mh_X12_isFull, .inr (.inr ⟨rfl, wd_1629, wd_1631, wd_63, ⟨_, rfl, pd_X12_isFull⟩, 12, _, TX12, 45, rfl, rfl⟩)⟩
theorem fto_614_4 (l : Launch) {es : List va_E} (f2 : isFact 2 0 [0, 1] es) (f5 : isFact 5 1 [0, 1] es) (f8 : isFact 8 0 [0, 1] es) (f12 : isFact 12 0 [0, 1] es) : FTOK2 l RX12 vwCl gTbl es ft_614_4 := ft2_cons (fun ec he => hv_366 l (f2 ec he)) ck_RX12_165_366 (ft2_cons (fun ec he => hv_577 l (f5 ec he)) ck_RX12_165_577 (ft2_cons (fun ec he => hv_368 l (f8 ec he)) ck_RX12_165_368 (ft2_cons (fun ec he => hv_578 l (fact_at f2 he (τ := [0, 1]) (by decide) (by decide)) (fact_at f5 he (τ := [0, 1]) (by decide) (by decide)) (fact_at f8 he (τ := [0, 1]) (by decide) (by decide)) (fact_at f12 he (τ := [0, 1]) (by decide) (by decide))) ck_RX12_210_578 (ft2_cons (fun ec he => hv_377 l (fact_at f2 he (τ := [0, 1]) (by decide) (by decide))) ck_RX12_172_377 (ft2_cons (fun ec he => hv_579 l (fact_at f5 he (τ := [0, 1]) (by decide) (by decide))) ck_RX12_172_579 (ft2_nil))))))
noncomputable def cu_614_4 : List CUT2 := []
theorem ch_614_4 : staG tb_X12_readNext 1 bt_RX12 ft_614_4 ct_614_4 [] [] cu_614_4 37 con_614 = true := by decide +kernel
theorem cto_614_4 (l : Launch) : CTOK2 l RX12 vwCl gTbl ct_614_4 := ct2_cons (vl_554 l) ck_RX12_175_554 (ct2_cons (vl_555 l) ck_RX12_153_555 (ct2_cons (vl_318 l) ck_RX12_153_318 (ct2_cons (vl_584 l) ck_RX12_217_584 (ct2_nil))))
noncomputable def ft_614_5 : CTB2 := [(3, 165, 0, con_366, [0, 1]), (12, 165, 0, con_577, [0, 1]), (49, 165, 0, con_368, [0, 1]), (71, 210, 0, con_585, [0, 1, 2]), (93, 172, 0, con_377, [0, 1]), (160, 172, 0, con_579, [0, 1])]
theorem ck_RX12_210_585 : COK2 RX12 vwCl gTbl 210 0 con_585 := ⟨wd_1632, wd_137, mh_X12_isFull, .inr (.inr ⟨rfl, wd_1629, wd_1631, wd_63, ⟨_, rfl, pd_X12_isFull⟩, 12, _, TX12, 45, rfl, rfl⟩)⟩
theorem fto_614_5 (l : Launch) {es : List va_E} (f2 : isFact 2 0 [0, 1] es) (f5 : isFact 5 1 [0, 1] es) (f8 : isFact 8 0 [0, 1] es) (f12 : isFact 12 1 [0, 1] es) : FTOK2 l RX12 vwCl gTbl es ft_614_5 := ft2_cons (fun ec he => hv_366 l (f2 ec he)) ck_RX12_165_366 (ft2_cons (fun ec he => hv_577 l (f5 ec he)) ck_RX12_165_577 (ft2_cons (fun ec he => hv_368 l (f8 ec he)) ck_RX12_165_368 (ft2_cons (fun ec he => hv_585 l (fact_at f2 he (τ := [0, 1]) (by decide) (by decide)) (fact_at f5 he (τ := [0, 1]) (by decide) (by decide)) (fact_at f8 he (τ := [0, 1]) (by decide) (by decide)) (fact_at f12 he (τ := [0, 1]) (by decide) (by decide))) ck_RX12_210_585 (ft2_cons (fun ec he => hv_377 l (fact_at f2 he (τ := [0, 1]) (by decide) (by decide))) ck_RX12_172_377 (ft2_cons (fun ec he => hv_579 l (fact_at f5 he (τ := [0, 1]) (by decide) (by decide))) ck_RX12_172_579 (ft2_nil))))))
noncomputable def cu_614_5 : List CUT2 := []
theorem ch_614_5 : staG tb_X12_readNext 1 bt_RX12 ft_614_5 ct_614_4 [] [] cu_614_5 37 con_614 = true := by decide +kernel
noncomputable def ft_614_6 : CTB2 := [(3, 165, 0, con_366, [0, 1]), (12, 165, 0, con_577, [0, 1]), (49, 165, 0, con_552, [0, 1]), (71, 210, 0, con_586, [0, 1, 2]), (93, 172, 0, con_377, [0, 1]), (160, 172, 0, con_579, [0, 1])]
theorem ck_RX12_210_586 : COK2 RX12 vwCl gTbl 210 0 con_586 := ⟨wd_1632, wd_137, mh_X12_isFull, .inr (.inr ⟨rfl, wd_1629, wd_1631, wd_63, ⟨_, rfl, pd_X12_isFull⟩, 12, _, TX12, 45, rfl, rfl⟩)⟩
theorem fto_614_6 (l : Launch) {es : List va_E} (f2 : isFact 2 0 [0, 1] es) (f5 : isFact 5 1 [0, 1] es) (f8 : isFact 8 1 [0, 1] es) (f12 : isFact 12 0 [0, 1] es) : FTOK2 l RX12 vwCl gTbl es ft_614_6 := ft2_cons (fun ec he => hv_366 l (f2 ec he)) ck_RX12_165_366 (ft2_cons (fun ec he => hv_577 l (f5 ec he)) ck_RX12_165_577 (ft2_cons (fun ec he => hv_552 l (f8 ec he)) ck_RX12_165_552 (ft2_cons (fun ec he => hv_586 l (fact_at f2 he (τ := [0, 1]) (by decide) (by decide)) (fact_at f5 he (τ := [0, 1]) (by decide) (by decide)) (fact_at f8 he (τ := [0, 1]) (by decide) (by decide)) (fact_at f12 he (τ := [0, 1]) (by decide) (by decide))) ck_RX12_210_586 (ft2_cons (fun ec he => hv_377 l (fact_at f2 he (τ := [0, 1]) (by decide) (by decide))) ck_RX12_172_377 (ft2_cons (fun ec he => hv_579 l (fact_at f5 he (τ := [0, 1]) (by decide) (by decide))) ck_RX12_172_579 (ft2_nil))))))
noncomputable def cu_614_6 : List CUT2 := []
theorem ch_614_6 : staG tb_X12_readNext 1 bt_RX12 ft_614_6 ct_614_4 [] [] cu_614_6 42 con_614 = true := by decide +kernel
noncomputable def ft_614_7 : CTB2 := [(3, 165, 0, con_366, [0, 1]), (12, 165, 0, con_577, [0, 1]), (49, 165, 0, con_552, [0, 1]), (71, 210, 0, con_587, [0, 1, 2]), (93, 172, 0, con_377, [0, 1]), (160, 172, 0, con_579, [0, 1])]
theorem ck_RX12_210_587 : COK2 RX12 vwCl gTbl 210 0 con_587 := ⟨wd_1632, wd_137, mh_X12_isFull, .inr (.inr ⟨rfl, wd_1629, wd_1631, wd_63, ⟨_, rfl, pd_X12_isFull⟩, 12, _, TX12, 45, rfl, rfl⟩)⟩
theorem fto_614_7 (l : Launch) {es : List va_E} (f2 : isFact 2 0 [0, 1] es) (f5 : isFact 5 1 [0, 1] es) (f8 : isFact 8 1 [0, 1] es) (f12 : isFact 12 1 [0, 1] es) : FTOK2 l RX12 vwCl gTbl es ft_614_7 := ft2_cons (fun ec he => hv_366 l (f2 ec he)) ck_RX12_165_366 (ft2_cons (fun ec he => hv_577 l (f5 ec he)) ck_RX12_165_577 (ft2_cons (fun ec he => hv_552 l (f8 ec he)) ck_RX12_165_552 (ft2_cons (fun ec he => hv_587 l (fact_at f2 he (τ := [0, 1]) (by decide) (by decide)) (fact_at f5 he (τ := [0, 1]) (by decide) (by decide)) (fact_at f8 he (τ := [0, 1]) (by decide) (by decide)) (fact_at f12 he (τ := [0, 1]) (by decide) (by decide))) ck_RX12_210_587 (ft2_cons (fun ec he => hv_377 l (fact_at f2 he (τ := [0, 1]) (by decide) (by decide))) ck_RX12_172_377 (ft2_cons (fun ec he => hv_579 l (fact_at f5 he (τ := [0, 1]) (by decide) (by decide))) ck_RX12_172_579 (ft2_nil))))))
noncomputable def cu_614_7 : List CUT2 := []
theorem ch_614_7 : staG tb_X12_readNext 1 bt_RX12 ft_614_7 ct_614_4 [] [] cu_614_7 42 con_614 = true := by decide +kernel
theorem ck_RX12_189_606 : COK2 RX12 vwCl gTbl 189 0 con_606 := ⟨wd_1614, wd_137, mh_X12_told, .inr (.inr ⟨rfl, wd_1611, wd_1613, wd_60, ⟨_, rfl, pd_X12_told⟩, 12, _, TX12, 45, rfl, rfl⟩)⟩
theorem ck_RX12_189_601 : COK2 RX12 vwCl gTbl 189 0 con_601 := ⟨wd_1614, wd_137, mh_X12_told, .inr (.inr ⟨rfl, wd_1611, wd_1613, wd_60, ⟨_, rfl, pd_X12_told⟩, 12, _, TX12, 45, rfl, rfl⟩)⟩
theorem ck_RX12_189_597 : COK2 RX12 vwCl gTbl 189 0 con_597 := ⟨wd_1614, wd_137, mh_X12_told, .inr (.inr ⟨rfl, wd_1611, wd_1613, wd_60, ⟨_, rfl, pd_X12_told⟩, 12, _, TX12, 45, rfl, rfl⟩)⟩
noncomputable def ct_614_8 : CTB2 := [(79, 175, 0, con_554, [0]), (83, 153, 0, con_555, [0]), (83, 153, 0, con_318, [0]), (123, 189, 0, con_597, [0, 1]), (140, 189, 0, con_601, [0, 1]), (140, 189, 0, con_606, [0, 1])]
noncomputable def ft_614_8 : CTB2 := [(3, 165, 0, con_588, [0, 1]), (49, 165, 0, con_368, [0, 1]), (71, 210, 0, con_589, [0, 1, 2]), (93, 172, 0, con_590, [0, 1])]
theorem ck_RX12_172_590 : COK2 RX12 vwCl gTbl 172 0 con_590 := ⟨wd_1599, wd_137, mh_X12_takes, .inr (.inr ⟨rfl, wd_1596, wd_1598, wd_57, ⟨_, rfl, pd_X12_takes⟩, 12, _, TX12, 45, rfl, rfl⟩)⟩
theorem ck_RX12_210_589 : COK2 RX12 vwCl gTbl 210 0 con_589 := ⟨wd_1632, wd_137, mh_X12_isFull, .inr (.inr ⟨rfl, wd_1629, wd_1631, wd_63, ⟨_, rfl, pd_X12_isFull⟩, 12, _, TX12, 45, rfl, rfl⟩)⟩
theorem fto_614_8 (l : Launch) {es : List va_E} (f2 : isFact 2 1 [0, 1] es) (f5 : isFact 5 0 [0, 1] es) (f8 : isFact 8 0 [0, 1] es) (f12 : isFact 12 0 [0, 1] es) : FTOK2 l RX12 vwCl gTbl es ft_614_8 := ft2_cons (fun ec he => hv_588 l (f2 ec he)) ck_RX12_165_588 (ft2_cons (fun ec he => hv_368 l (f8 ec he)) ck_RX12_165_368 (ft2_cons (fun ec he => hv_589 l (fact_at f2 he (τ := [0, 1]) (by decide) (by decide)) (fact_at f5 he (τ := [0, 1]) (by decide) (by decide)) (fact_at f8 he (τ := [0, 1]) (by decide) (by decide)) (fact_at f12 he (τ := [0, 1]) (by decide) (by decide))) ck_RX12_210_589 (ft2_cons (fun ec he => hv_590 l (fact_at f2 he (τ := [0, 1]) (by decide) (by decide))) ck_RX12_172_590 (ft2_nil))))
noncomputable def cu_614_8 : List CUT2 := []
theorem ch_614_8 : staG tb_X12_readNext 1 bt_RX12 ft_614_8 ct_614_8 [] [] cu_614_8 64 con_614 = true := by decide +kernel
theorem cto_614_8 (l : Launch) : CTOK2 l RX12 vwCl gTbl ct_614_8 := ct2_cons (vl_554 l) ck_RX12_175_554 (ct2_cons (vl_555 l) ck_RX12_153_555 (ct2_cons (vl_318 l) ck_RX12_153_318 (ct2_cons (vl_597 l) ck_RX12_189_597 (ct2_cons (vl_601 l) ck_RX12_189_601 (ct2_cons (vl_606 l) ck_RX12_189_606 (ct2_nil))))))
noncomputable def ft_614_9 : CTB2 := [(3, 165, 0, con_588, [0, 1]), (49, 165, 0, con_368, [0, 1]), (71, 210, 0, con_607, [0, 1, 2]), (93, 172, 0, con_590, [0, 1])]
theorem ck_RX12_210_607 : COK2 RX12 vwCl gTbl 210 0 con_607 := ⟨wd_1632, wd_137, mh_X12_isFull, .inr (.inr ⟨rfl, wd_1629, wd_1631, wd_63, ⟨_, rfl, pd_X12_isFull⟩, 12, _, TX12, 45, rfl, rfl⟩)⟩
theorem fto_614_9 (l : Launch) {es : List va_E} (f2 : isFact 2 1 [0, 1] es) (f5 : isFact 5 0 [0, 1] es) (f8 : isFact 8 0 [0, 1] es) (f12 : isFact 12 1 [0, 1] es) : FTOK2 l RX12 vwCl gTbl es ft_614_9 := ft2_cons (fun ec he => hv_588 l (f2 ec he)) ck_RX12_165_588 (ft2_cons (fun ec he => hv_368 l (f8 ec he)) ck_RX12_165_368 (ft2_cons (fun ec he => hv_607 l (fact_at f2 he (τ := [0, 1]) (by decide) (by decide)) (fact_at f5 he (τ := [0, 1]) (by decide) (by decide)) (fact_at f8 he (τ := [0, 1]) (by decide) (by decide)) (fact_at f12 he (τ := [0, 1]) (by decide) (by decide))) ck_RX12_210_607 (ft2_cons (fun ec he => hv_590 l (fact_at f2 he (τ := [0, 1]) (by decide) (by decide))) ck_RX12_172_590 (ft2_nil))))
noncomputable def cu_614_9 : List CUT2 := []
theorem ch_614_9 : staG tb_X12_readNext 1 bt_RX12 ft_614_9 ct_614_8 [] [] cu_614_9 64 con_614 = true := by decide +kernel
noncomputable def ft_614_10 : CTB2 := [(3, 165, 0, con_588, [0, 1]), (49, 165, 0, con_552, [0, 1]), (71, 210, 0, con_608, [0, 1, 2]), (93, 172, 0, con_590, [0, 1])]
theorem ck_RX12_210_608 : COK2 RX12 vwCl gTbl 210 0 con_608 := ⟨wd_1632, wd_137, mh_X12_isFull, .inr (.inr ⟨rfl, wd_1629, wd_1631, wd_63, ⟨_, rfl, pd_X12_isFull⟩, 12, _, TX12, 45, rfl, rfl⟩)⟩
theorem fto_614_10 (l : Launch) {es : List va_E} (f2 : isFact 2 1 [0, 1] es) (f5 : isFact 5 0 [0, 1] es) (f8 : isFact 8 1 [0, 1] es) (f12 : isFact 12 0 [0, 1] es) : FTOK2 l RX12 vwCl gTbl es ft_614_10 := ft2_cons (fun ec he => hv_588 l (f2 ec he)) ck_RX12_165_588 (ft2_cons (fun ec he => hv_552 l (f8 ec he)) ck_RX12_165_552 (ft2_cons (fun ec he => hv_608 l (fact_at f2 he (τ := [0, 1]) (by decide) (by decide)) (fact_at f5 he (τ := [0, 1]) (by decide) (by decide)) (fact_at f8 he (τ := [0, 1]) (by decide) (by decide)) (fact_at f12 he (τ := [0, 1]) (by decide) (by decide))) ck_RX12_210_608 (ft2_cons (fun ec he => hv_590 l (fact_at f2 he (τ := [0, 1]) (by decide) (by decide))) ck_RX12_172_590 (ft2_nil))))
noncomputable def cu_614_10 : List CUT2 := []
theorem ch_614_10 : staG tb_X12_readNext 1 bt_RX12 ft_614_10 ct_614_8 [] [] cu_614_10 69 con_614 = true := by decide +kernel
noncomputable def ft_614_11 : CTB2 := [(3, 165, 0, con_588, [0, 1]), (49, 165, 0, con_552, [0, 1]), (71, 210, 0, con_609, [0, 1, 2]), (93, 172, 0, con_590, [0, 1])]
theorem ck_RX12_210_609 : COK2 RX12 vwCl gTbl 210 0 con_609 := ⟨wd_1632, wd_137, mh_X12_isFull, .inr (.inr ⟨rfl, wd_1629, wd_1631, wd_63, ⟨_, rfl, pd_X12_isFull⟩, 12, _, TX12, 45, rfl, rfl⟩)⟩
theorem fto_614_11 (l : Launch) {es : List va_E} (f2 : isFact 2 1 [0, 1] es) (f5 : isFact 5 0 [0, 1] es) (f8 : isFact 8 1 [0, 1] es) (f12 : isFact 12 1 [0, 1] es) : FTOK2 l RX12 vwCl gTbl es ft_614_11 := ft2_cons (fun ec he => hv_588 l (f2 ec he)) ck_RX12_165_588 (ft2_cons (fun ec he => hv_552 l (f8 ec he)) ck_RX12_165_552 (ft2_cons (fun ec he => hv_609 l (fact_at f2 he (τ := [0, 1]) (by decide) (by decide)) (fact_at f5 he (τ := [0, 1]) (by decide) (by decide)) (fact_at f8 he (τ := [0, 1]) (by decide) (by decide)) (fact_at f12 he (τ := [0, 1]) (by decide) (by decide))) ck_RX12_210_609 (ft2_cons (fun ec he => hv_590 l (fact_at f2 he (τ := [0, 1]) (by decide) (by decide))) ck_RX12_172_590 (ft2_nil))))
noncomputable def cu_614_11 : List CUT2 := []
theorem ch_614_11 : staG tb_X12_readNext 1 bt_RX12 ft_614_11 ct_614_8 [] [] cu_614_11 69 con_614 = true := by decide +kernel
noncomputable def ft_614_12 : CTB2 := [(3, 165, 0, con_588, [0, 1]), (49, 165, 0, con_368, [0, 1]), (71, 210, 0, con_610, [0, 1, 2]), (93, 172, 0, con_590, [0, 1])]
theorem ck_RX12_210_610 : COK2 RX12 vwCl gTbl 210 0 con_610 := ⟨wd_1632, wd_137, mh_X12_isFull, .inr (.inr ⟨rfl, wd_1629, wd_1631, wd_63, ⟨_, rfl, pd_X12_isFull⟩, 12, _, TX12, 45, rfl, rfl⟩)⟩
theorem fto_614_12 (l : Launch) {es : List va_E} (f2 : isFact 2 1 [0, 1] es) (f5 : isFact 5 1 [0, 1] es) (f8 : isFact 8 0 [0, 1] es) (f12 : isFact 12 0 [0, 1] es) : FTOK2 l RX12 vwCl gTbl es ft_614_12 := ft2_cons (fun ec he => hv_588 l (f2 ec he)) ck_RX12_165_588 (ft2_cons (fun ec he => hv_368 l (f8 ec he)) ck_RX12_165_368 (ft2_cons (fun ec he => hv_610 l (fact_at f2 he (τ := [0, 1]) (by decide) (by decide)) (fact_at f5 he (τ := [0, 1]) (by decide) (by decide)) (fact_at f8 he (τ := [0, 1]) (by decide) (by decide)) (fact_at f12 he (τ := [0, 1]) (by decide) (by decide))) ck_RX12_210_610 (ft2_cons (fun ec he => hv_590 l (fact_at f2 he (τ := [0, 1]) (by decide) (by decide))) ck_RX12_172_590 (ft2_nil))))
noncomputable def cu_614_12 : List CUT2 := []
theorem ch_614_12 : staG tb_X12_readNext 1 bt_RX12 ft_614_12 ct_614_8 [] [] cu_614_12 64 con_614 = true := by decide +kernel
noncomputable def ft_614_13 : CTB2 := [(3, 165, 0, con_588, [0, 1]), (49, 165, 0, con_368, [0, 1]), (71, 210, 0, con_611, [0, 1, 2]), (93, 172, 0, con_590, [0, 1])]
theorem ck_RX12_210_611 : COK2 RX12 vwCl gTbl 210 0 con_611 := ⟨wd_1632, wd_137, mh_X12_isFull, .inr (.inr ⟨rfl, wd_1629, wd_1631, wd_63, ⟨_, rfl, pd_X12_isFull⟩, 12, _, TX12, 45, rfl, rfl⟩)⟩
theorem fto_614_13 (l : Launch) {es : List va_E} (f2 : isFact 2 1 [0, 1] es) (f5 : isFact 5 1 [0, 1] es) (f8 : isFact 8 0 [0, 1] es) (f12 : isFact 12 1 [0, 1] es) : FTOK2 l RX12 vwCl gTbl es ft_614_13 := ft2_cons (fun ec he => hv_588 l (f2 ec he)) ck_RX12_165_588 (ft2_cons (fun ec he => hv_368 l (f8 ec he)) ck_RX12_165_368 (ft2_cons (fun ec he => hv_611 l (fact_at f2 he (τ := [0, 1]) (by decide) (by decide)) (fact_at f5 he (τ := [0, 1]) (by decide) (by decide)) (fact_at f8 he (τ := [0, 1]) (by decide) (by decide)) (fact_at f12 he (τ := [0, 1]) (by decide) (by decide))) ck_RX12_210_611 (ft2_cons (fun ec he => hv_590 l (fact_at f2 he (τ := [0, 1]) (by decide) (by decide))) ck_RX12_172_590 (ft2_nil))))
noncomputable def cu_614_13 : List CUT2 := []
theorem ch_614_13 : staG tb_X12_readNext 1 bt_RX12 ft_614_13 ct_614_8 [] [] cu_614_13 64 con_614 = true := by decide +kernel
noncomputable def ft_614_14 : CTB2 := [(3, 165, 0, con_588, [0, 1]), (49, 165, 0, con_552, [0, 1]), (71, 210, 0, con_612, [0, 1, 2]), (93, 172, 0, con_590, [0, 1])]
theorem ck_RX12_210_612 : COK2 RX12 vwCl gTbl 210 0 con_612 := ⟨wd_1632, wd_137, mh_X12_isFull, .inr (.inr ⟨rfl, wd_1629, wd_1631, wd_63, ⟨_, rfl, pd_X12_isFull⟩, 12, _, TX12, 45, rfl, rfl⟩)⟩
theorem fto_614_14 (l : Launch) {es : List va_E} (f2 : isFact 2 1 [0, 1] es) (f5 : isFact 5 1 [0, 1] es) (f8 : isFact 8 1 [0, 1] es) (f12 : isFact 12 0 [0, 1] es) : FTOK2 l RX12 vwCl gTbl es ft_614_14 := ft2_cons (fun ec he => hv_588 l (f2 ec he)) ck_RX12_165_588 (ft2_cons (fun ec he => hv_552 l (f8 ec he)) ck_RX12_165_552 (ft2_cons (fun ec he => hv_612 l (fact_at f2 he (τ := [0, 1]) (by decide) (by decide)) (fact_at f5 he (τ := [0, 1]) (by decide) (by decide)) (fact_at f8 he (τ := [0, 1]) (by decide) (by decide)) (fact_at f12 he (τ := [0, 1]) (by decide) (by decide))) ck_RX12_210_612 (ft2_cons (fun ec he => hv_590 l (fact_at f2 he (τ := [0, 1]) (by decide) (by decide))) ck_RX12_172_590 (ft2_nil))))
noncomputable def cu_614_14 : List CUT2 := []
theorem ch_614_14 : staG tb_X12_readNext 1 bt_RX12 ft_614_14 ct_614_8 [] [] cu_614_14 69 con_614 = true := by decide +kernel
noncomputable def ft_614_15 : CTB2 := [(3, 165, 0, con_588, [0, 1]), (49, 165, 0, con_552, [0, 1]), (71, 210, 0, con_613, [0, 1, 2]), (93, 172, 0, con_590, [0, 1])]
theorem ck_RX12_210_613 : COK2 RX12 vwCl gTbl 210 0 con_613 := ⟨wd_1632, wd_137, mh_X12_isFull, .inr (.inr ⟨rfl, wd_1629, wd_1631, wd_63, ⟨_, rfl, pd_X12_isFull⟩, 12, _, TX12, 45, rfl, rfl⟩)⟩
theorem fto_614_15 (l : Launch) {es : List va_E} (f2 : isFact 2 1 [0, 1] es) (f5 : isFact 5 1 [0, 1] es) (f8 : isFact 8 1 [0, 1] es) (f12 : isFact 12 1 [0, 1] es) : FTOK2 l RX12 vwCl gTbl es ft_614_15 := ft2_cons (fun ec he => hv_588 l (f2 ec he)) ck_RX12_165_588 (ft2_cons (fun ec he => hv_552 l (f8 ec he)) ck_RX12_165_552 (ft2_cons (fun ec he => hv_613 l (fact_at f2 he (τ := [0, 1]) (by decide) (by decide)) (fact_at f5 he (τ := [0, 1]) (by decide) (by decide)) (fact_at f8 he (τ := [0, 1]) (by decide) (by decide)) (fact_at f12 he (τ := [0, 1]) (by decide) (by decide))) ck_RX12_210_613 (ft2_cons (fun ec he => hv_590 l (fact_at f2 he (τ := [0, 1]) (by decide) (by decide))) ck_RX12_172_590 (ft2_nil))))
noncomputable def cu_614_15 : List CUT2 := []
theorem ch_614_15 : staG tb_X12_readNext 1 bt_RX12 ft_614_15 ct_614_8 [] [] cu_614_15 69 con_614 = true := by decide +kernel
theorem vl_614 (l : Launch) : Vld2 l vwCl gTbl con_614 := fun es => by
  rcases fact_or 2 [0, 1] es with f2 | f2 <;> rcases fact_or 5 [0, 1] es with f5 | f5 <;> rcases fact_or 8 [0, 1] es with f8 | f8 <;> rcases fact_or 12 [0, 1] es with f12 | f12
  · exact conE_ok3 gT_all (hd_614) rfl pn_RX12 tk_X12_readNext bo_RX12 xo_RX12 (fto_614_0 l f2 f5 f8 f12) (cto_614_0 l) ch_614_0 cut_nil
  · exact conE_ok3 gT_all (hd_614) rfl pn_RX12 tk_X12_readNext bo_RX12 xo_RX12 (fto_614_1 l f2 f5 f8 f12) (cto_614_1 l) ch_614_1 cut_nil
  · exact conE_ok3 gT_all (hd_614) rfl pn_RX12 tk_X12_readNext bo_RX12 xo_RX12 (fto_614_2 l f2 f5 f8 f12) (cto_614_2 l) ch_614_2 cut_nil
  · exact conE_ok3 gT_all (hd_614) rfl pn_RX12 tk_X12_readNext bo_RX12 xo_RX12 (fto_614_3 l f2 f5 f8 f12) (cto_614_2 l) ch_614_3 cut_nil
  · exact conE_ok3 gT_all (hd_614) rfl pn_RX12 tk_X12_readNext bo_RX12 xo_RX12 (fto_614_4 l f2 f5 f8 f12) (cto_614_4 l) ch_614_4 cut_nil
  · exact conE_ok3 gT_all (hd_614) rfl pn_RX12 tk_X12_readNext bo_RX12 xo_RX12 (fto_614_5 l f2 f5 f8 f12) (cto_614_4 l) ch_614_5 cut_nil
  · exact conE_ok3 gT_all (hd_614) rfl pn_RX12 tk_X12_readNext bo_RX12 xo_RX12 (fto_614_6 l f2 f5 f8 f12) (cto_614_4 l) ch_614_6 cut_nil
  · exact conE_ok3 gT_all (hd_614) rfl pn_RX12 tk_X12_readNext bo_RX12 xo_RX12 (fto_614_7 l f2 f5 f8 f12) (cto_614_4 l) ch_614_7 cut_nil
  · exact conE_ok3 gT_all (hd_614) rfl pn_RX12 tk_X12_readNext bo_RX12 xo_RX12 (fto_614_8 l f2 f5 f8 f12) (cto_614_8 l) ch_614_8 cut_nil
  · exact conE_ok3 gT_all (hd_614) rfl pn_RX12 tk_X12_readNext bo_RX12 xo_RX12 (fto_614_9 l f2 f5 f8 f12) (cto_614_8 l) ch_614_9 cut_nil
  · exact conE_ok3 gT_all (hd_614) rfl pn_RX12 tk_X12_readNext bo_RX12 xo_RX12 (fto_614_10 l f2 f5 f8 f12) (cto_614_8 l) ch_614_10 cut_nil
  · exact conE_ok3 gT_all (hd_614) rfl pn_RX12 tk_X12_readNext bo_RX12 xo_RX12 (fto_614_11 l f2 f5 f8 f12) (cto_614_8 l) ch_614_11 cut_nil
  · exact conE_ok3 gT_all (hd_614) rfl pn_RX12 tk_X12_readNext bo_RX12 xo_RX12 (fto_614_12 l f2 f5 f8 f12) (cto_614_8 l) ch_614_12 cut_nil
  · exact conE_ok3 gT_all (hd_614) rfl pn_RX12 tk_X12_readNext bo_RX12 xo_RX12 (fto_614_13 l f2 f5 f8 f12) (cto_614_8 l) ch_614_13 cut_nil
  · exact conE_ok3 gT_all (hd_614) rfl pn_RX12 tk_X12_readNext bo_RX12 xo_RX12 (fto_614_14 l f2 f5 f8 f12) (cto_614_8 l) ch_614_14 cut_nil
  · exact conE_ok3 gT_all (hd_614) rfl pn_RX12 tk_X12_readNext bo_RX12 xo_RX12 (fto_614_15 l f2 f5 f8 f12) (cto_614_8 l) ch_614_15 cut_nil
/-- RookHustingModel good -/
noncomputable def gi_271 : GI := jl_n [jl_z 13, jl_i 1 3, jl_z 32]
noncomputable def gi_272 : GI := jl_n [jl_z 13, jl_i 1 3, jl_z 33]
noncomputable def con_615 : Con2 := ((yX12_good, cX12_good, 1, (some .boolean)), (0, 0), ([(6, 0, 0)], gi_271, [ac_130], []), [((0, 0, 0), gi_272, [(false, ac_130)], [], [1])])
theorem hd_615 : con_615.1 = (yX12_good, cX12_good, 1, (some .boolean)) := rfl
noncomputable def cu_615 : List CUT2 := []
theorem ch_615 : staG tb_X12_good 1 bt_RX12 [] ct_2 [] [] cu_615 7 con_615 = true := by decide +kernel
theorem vl_615 (l : Launch) : Vld2 l vwCl gTbl con_615 := conR_ok3 gT_all (hd_615) rfl pn_RX12 tk_X12_good bo_RX12 xo_RX12 (cto_2 l) ch_615 cut_nil
/-- RookHustingModel readLine -/
noncomputable def ac_193 : AC := .inr (1, jl_n [js_1 49 3, js_1 120 3, jl_x (1, (0, 0, 0)), sp_48, sp_10])
noncomputable def hq_182 : HP := [(true, ac_149), (true, ac_193), (false, am_3)]
noncomputable def gi_273 : GI := jl_n [gp_134, jl_z 22, gp_80, gp_0, jl_i 0 700, jl_z 54]
noncomputable def ac_194 : AC := .inl (12, jl_n [vp_32, jl_1 81 4, jl_c 1, jl_1 83 1, vp_30])
noncomputable def ac_195 : AC := .inr (1, jl_n [sp_30, sp_48, js_2 1 1 9, sp_29])
noncomputable def hq_183 : HP := [(true, ac_194), (true, ac_195), (false, am_3)]
noncomputable def ac_196 : AC := .inr (1, jl_n [sp_23, sp_49, sp_29])
noncomputable def hq_184 : HP := [(true, ac_149), (true, ac_196), (false, am_3)]
noncomputable def hq_185 : HP := [(true, ac_151), (true, ac_193), (false, am_3)]
noncomputable def hq_186 : HP := [(true, ac_151), (true, ac_195), (false, am_3)]
noncomputable def con_616 : Con2 := ((yX12_readLine, cX12_readLine, 1, none), (14, 334), ([(6, 0, 0)], gi_214, [ac_148, ac_156, am_3], []), [((9, 0, 0), gi_268, hq_182, [], tg_11), ((9, 0, 0), gi_273, hq_183, [], tg_11), ((9, 0, 0), gi_215, hq_184, [], tg_11), ((9, 0, 0), gi_269, hq_185, rq_0, tg_11), ((9, 0, 0), gi_270, hq_186, [], tg_11)])
theorem hd_616 : con_616.1 = (yX12_readLine, cX12_readLine, 1, none) := rfl
theorem ck_RX12_153_615 : COK2 RX12 vwCl gTbl 153 0 con_615 := ⟨wd_1582, wd_137, mh_X12_good, .inr (.inr ⟨rfl, wd_1579, wd_1581, wd_53, ⟨_, rfl, pd_X12_good⟩, 12, _, TX12, 45, rfl, rfl⟩)⟩
theorem ck_RX12_230_614 : COK2 RX12 vwCl gTbl 230 0 con_614 := ⟨wd_1624, wd_137, mh_X12_readNext, .inr (.inr ⟨rfl, wd_1621, wd_1623, wd_62, ⟨_, rfl, pd_X12_readNext⟩, 12, _, TX12, 45, rfl, rfl⟩)⟩
noncomputable def ct_616 : CTB2 := [(18, 230, 0, con_614, [0, 2, 1]), (22, 153, 0, con_318, [0]), (22, 153, 0, con_347, [0]), (22, 153, 0, con_615, [0]), (38, 175, 0, con_321, [0]), (42, 153, 0, con_326, [0]), (42, 153, 0, con_318, [0]), (42, 153, 0, con_347, [0]), (42, 153, 0, con_615, [0]), (49, 169, 0, con_317, [0, 2])]
noncomputable def cu_616 : List CUT2 := []
theorem ch_616 : staG tb_X12_readLine 1 bt_RX12 [] ct_616 [] [] cu_616 31 con_616 = true := by decide +kernel
theorem cto_616 (l : Launch) : CTOK2 l RX12 vwCl gTbl ct_616 := ct2_cons (vl_614 l) ck_RX12_230_614 (ct2_cons (vl_318 l) ck_RX12_153_318 (ct2_cons (vl_347 l) ck_RX12_153_347 (ct2_cons (vl_615 l) ck_RX12_153_615 (ct2_cons (vl_321 l) ck_RX12_175_321 (ct2_cons (vl_326 l) ck_RX12_153_326 (ct2_cons (vl_318 l) ck_RX12_153_318 (ct2_cons (vl_347 l) ck_RX12_153_347 (ct2_cons (vl_615 l) ck_RX12_153_615 (ct2_cons (vl_317 l) ck_RX12_169_317 (ct2_nil))))))))))
theorem vl_616 (l : Launch) : Vld2 l vwCl gTbl con_616 := conR_ok3 gT_all (hd_616) rfl pn_RX12 tk_X12_readLine bo_RX12 xo_RX12 (cto_616 l) ch_616 cut_nil
