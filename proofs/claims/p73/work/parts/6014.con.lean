/-! ===== contracts, 14 ===== -/
/-- RookHustingModel readHedge -/
noncomputable def ac_332 : AC := .inr (1, jl_n [sp_46, jl_x (1, (0, 4, 0)), sp_82, sp_84])
noncomputable def hq_336 : HP := [(true, ac_149), (true, ac_332), (false, am_2)]
noncomputable def hq_337 : HP := [(true, ac_151), (true, ac_332), (false, am_2)]
noncomputable def con_626 : Con2 := ((yX12_readHedge, cX12_readHedge, 2, none), (3, 69), ([(6, 0, 0)], gi_215, [ac_148, ac_302, am_2], []), [((9, 0, 0), gi_253, hq_336, [], tg_11), ((9, 0, 0), gi_254, hq_337, [], tg_11)])
theorem hd_626 : con_626.1 = (yX12_readHedge, cX12_readHedge, 2, none) := rfl
noncomputable def cu_626 : List CUT2 := []
theorem ch_626 : staG tb_X12_readHedge 1 bt_RX12 [] ct_580 [] [] cu_626 65 con_626 = true := by decide +kernel
theorem vl_626 (l : Launch) : Vld2 l vwCl gTbl con_626 := conR_ok3 gT_all (hd_626) rfl pn_RX12 tk_X12_readHedge bo_RX12 xo_RX12 (cto_580 l) ch_626 cut_nil
/-- RookHustingModel readNext -/
noncomputable def ac_333 : AC := .inr (1, jl_n [sp_68, jl_x (1, (0, 4, 0)), sp_82, sp_84])
noncomputable def hq_338 : HP := [(true, ac_144), (false, am_2), (true, ac_333)]
noncomputable def hq_339 : HP := [(true, ac_144), (false, am_2), (true, ac_303)]
noncomputable def hq_340 : HP := [(true, ac_146), (false, am_2), (true, ac_333)]
noncomputable def hq_341 : HP := [(true, ac_146), (false, am_2), (true, ac_304)]
noncomputable def con_627 : Con2 := ((yX12_readNext, cX12_readNext, 3, none), (13, 312), ([(6, 0, 0)], gi_215, [ac_142, am_2, ac_302], []), [((9, 0, 0), gi_276, hq_338, [], tg_11), ((9, 0, 0), gi_280, hq_339, [], tg_11), ((9, 0, 0), gi_277, hq_340, [([(49, (-1)), (50, (-1)), (117, 1), (118, 1)], (-1))], tg_11), ((9, 0, 0), gi_271, hq_341, [], tg_11)])
theorem hd_627 : con_627.1 = (yX12_readNext, cX12_readNext, 3, none) := rfl
noncomputable def ft_627_0 : CTB2 := [(3, 165, 0, con_362, [0, 1]), (12, 165, 0, con_363, [0, 1]), (21, 165, 0, con_364, [0, 1]), (30, 165, 0, con_365, [0, 1])]
theorem fto_627_0 (l : Launch) {es : List va_E} (f2 : isFact 2 0 [0, 1] es) (f5 : isFact 5 0 [0, 1] es) (f8 : isFact 8 0 [0, 1] es) (f12 : isFact 12 0 [0, 1] es) : FTOK2 l RX12 vwCl gTbl es ft_627_0 := ft2_cons (fun ec he => hv_362 l (f2 ec he)) ck_RX12_165_362 (ft2_cons (fun ec he => hv_363 l (f5 ec he)) ck_RX12_165_363 (ft2_cons (fun ec he => hv_364 l (f8 ec he)) ck_RX12_165_364 (ft2_cons (fun ec he => hv_365 l (f12 ec he)) ck_RX12_165_365 (ft2_nil))))
noncomputable def cu_627_0 : List CUT2 := []
theorem ch_627_0 : staG tb_X12_readNext 1 bt_RX12 ft_627_0 ct_610_0 [] [] cu_627_0 32 con_627 = true := by decide +kernel
theorem ck_RX12_224_625 : COK2 RX12 vwCl gTbl 224 0 con_625 := ⟨wd_1644, wd_137, mh_X12_readVoter, .inr (.inr ⟨rfl, wd_1641, wd_1643, wd_65, ⟨_, rfl, pd_X12_readVoter⟩, 12, _, TX12, 45, rfl, rfl⟩)⟩
noncomputable def ct_627_1 : CTB2 := [(83, 153, 0, con_314, [0]), (240, 169, 0, con_313, [0, 1]), (244, 224, 0, con_625, [0, 2, 1])]
noncomputable def ft_627_1 : CTB2 := [(3, 165, 0, con_362, [0, 1]), (12, 165, 0, con_363, [0, 1]), (21, 165, 0, con_364, [0, 1]), (30, 165, 0, con_371, [0, 1]), (49, 165, 0, con_364, [0, 1]), (71, 210, 0, con_372, [0, 1, 2]), (93, 172, 0, con_373, [0, 1]), (160, 172, 0, con_374, [0, 1]), (176, 172, 0, con_375, [0, 1])]
theorem fto_627_1 (l : Launch) {es : List va_E} (f2 : isFact 2 0 [0, 1] es) (f5 : isFact 5 0 [0, 1] es) (f8 : isFact 8 0 [0, 1] es) (f12 : isFact 12 1 [0, 1] es) : FTOK2 l RX12 vwCl gTbl es ft_627_1 := ft2_cons (fun ec he => hv_362 l (f2 ec he)) ck_RX12_165_362 (ft2_cons (fun ec he => hv_363 l (f5 ec he)) ck_RX12_165_363 (ft2_cons (fun ec he => hv_364 l (f8 ec he)) ck_RX12_165_364 (ft2_cons (fun ec he => hv_371 l (f12 ec he)) ck_RX12_165_371 (ft2_cons (fun ec he => hv_364 l (f8 ec he)) ck_RX12_165_364 (ft2_cons (fun ec he => hv_372 l (fact_at f2 he (τ := [0, 1]) (by decide) (by decide)) (fact_at f5 he (τ := [0, 1]) (by decide) (by decide)) (fact_at f8 he (τ := [0, 1]) (by decide) (by decide)) (fact_at f12 he (τ := [0, 1]) (by decide) (by decide))) ck_RX12_210_372 (ft2_cons (fun ec he => hv_373 l (fact_at f2 he (τ := [0, 1]) (by decide) (by decide))) ck_RX12_172_373 (ft2_cons (fun ec he => hv_374 l (fact_at f5 he (τ := [0, 1]) (by decide) (by decide))) ck_RX12_172_374 (ft2_cons (fun ec he => hv_375 l (fact_at f8 he (τ := [0, 1]) (by decide) (by decide))) ck_RX12_172_375 (ft2_nil)))))))))
noncomputable def cu_627_1 : List CUT2 := []
theorem ch_627_1 : staG tb_X12_readNext 1 bt_RX12 ft_627_1 ct_627_1 [] [] cu_627_1 50 con_627 = true := by decide +kernel
theorem cto_627_1 (l : Launch) : CTOK2 l RX12 vwCl gTbl ct_627_1 := ct2_cons (vl_314 l) ck_RX12_153_314 (ct2_cons (vl_313 l) ck_RX12_169_313 (ct2_cons (vl_625 l) ck_RX12_224_625 (ct2_nil)))
noncomputable def ft_627_2 : CTB2 := [(3, 165, 0, con_362, [0, 1]), (12, 165, 0, con_363, [0, 1]), (21, 165, 0, con_548, [0, 1]), (49, 165, 0, con_548, [0, 1])]
theorem fto_627_2 (l : Launch) {es : List va_E} (f2 : isFact 2 0 [0, 1] es) (f5 : isFact 5 0 [0, 1] es) (f8 : isFact 8 1 [0, 1] es) (f12 : isFact 12 0 [0, 1] es) : FTOK2 l RX12 vwCl gTbl es ft_627_2 := ft2_cons (fun ec he => hv_362 l (f2 ec he)) ck_RX12_165_362 (ft2_cons (fun ec he => hv_363 l (f5 ec he)) ck_RX12_165_363 (ft2_cons (fun ec he => hv_548 l (f8 ec he)) ck_RX12_165_548 (ft2_cons (fun ec he => hv_548 l (f8 ec he)) ck_RX12_165_548 (ft2_nil))))
noncomputable def cu_627_2 : List CUT2 := []
theorem ch_627_2 : staG tb_X12_readNext 1 bt_RX12 ft_627_2 ct_610_0 [] [] cu_627_2 38 con_627 = true := by decide +kernel
noncomputable def ft_627_3 : CTB2 := [(3, 165, 0, con_362, [0, 1]), (12, 165, 0, con_363, [0, 1]), (21, 165, 0, con_548, [0, 1]), (49, 165, 0, con_548, [0, 1])]
theorem fto_627_3 (l : Launch) {es : List va_E} (f2 : isFact 2 0 [0, 1] es) (f5 : isFact 5 0 [0, 1] es) (f8 : isFact 8 1 [0, 1] es) (f12 : isFact 12 1 [0, 1] es) : FTOK2 l RX12 vwCl gTbl es ft_627_3 := ft2_cons (fun ec he => hv_362 l (f2 ec he)) ck_RX12_165_362 (ft2_cons (fun ec he => hv_363 l (f5 ec he)) ck_RX12_165_363 (ft2_cons (fun ec he => hv_548 l (f8 ec he)) ck_RX12_165_548 (ft2_cons (fun ec he => hv_548 l (f8 ec he)) ck_RX12_165_548 (ft2_nil))))
noncomputable def cu_627_3 : List CUT2 := []
theorem ch_627_3 : staG tb_X12_readNext 1 bt_RX12 ft_627_3 ct_610_0 [] [] cu_627_3 38 con_627 = true := by decide +kernel
theorem ck_RX12_217_626 : COK2 RX12 vwCl gTbl 217 0 con_626 := ⟨wd_1638, wd_137, mh_X12_readHedge, .inr (.inr ⟨rfl, wd_1635, wd_1637, wd_64, ⟨_, rfl, pd_X12_readHedge⟩, 12, _, TX12, 45, rfl, rfl⟩)⟩
noncomputable def ct_627_4 : CTB2 := [(79, 175, 0, con_550, [0]), (83, 153, 0, con_551, [0]), (83, 153, 0, con_314, [0]), (167, 217, 0, con_626, [0, 2, 1])]
noncomputable def ft_627_4 : CTB2 := [(3, 165, 0, con_362, [0, 1]), (12, 165, 0, con_573, [0, 1]), (49, 165, 0, con_364, [0, 1]), (71, 210, 0, con_574, [0, 1, 2]), (93, 172, 0, con_373, [0, 1]), (160, 172, 0, con_575, [0, 1])]
theorem fto_627_4 (l : Launch) {es : List va_E} (f2 : isFact 2 0 [0, 1] es) (f5 : isFact 5 1 [0, 1] es) (f8 : isFact 8 0 [0, 1] es) (f12 : isFact 12 0 [0, 1] es) : FTOK2 l RX12 vwCl gTbl es ft_627_4 := ft2_cons (fun ec he => hv_362 l (f2 ec he)) ck_RX12_165_362 (ft2_cons (fun ec he => hv_573 l (f5 ec he)) ck_RX12_165_573 (ft2_cons (fun ec he => hv_364 l (f8 ec he)) ck_RX12_165_364 (ft2_cons (fun ec he => hv_574 l (fact_at f2 he (τ := [0, 1]) (by decide) (by decide)) (fact_at f5 he (τ := [0, 1]) (by decide) (by decide)) (fact_at f8 he (τ := [0, 1]) (by decide) (by decide)) (fact_at f12 he (τ := [0, 1]) (by decide) (by decide))) ck_RX12_210_574 (ft2_cons (fun ec he => hv_373 l (fact_at f2 he (τ := [0, 1]) (by decide) (by decide))) ck_RX12_172_373 (ft2_cons (fun ec he => hv_575 l (fact_at f5 he (τ := [0, 1]) (by decide) (by decide))) ck_RX12_172_575 (ft2_nil))))))
noncomputable def cu_627_4 : List CUT2 := []
theorem ch_627_4 : staG tb_X12_readNext 1 bt_RX12 ft_627_4 ct_627_4 [] [] cu_627_4 37 con_627 = true := by decide +kernel
theorem cto_627_4 (l : Launch) : CTOK2 l RX12 vwCl gTbl ct_627_4 := ct2_cons (vl_550 l) ck_RX12_175_550 (ct2_cons (vl_551 l) ck_RX12_153_551 (ct2_cons (vl_314 l) ck_RX12_153_314 (ct2_cons (vl_626 l) ck_RX12_217_626 (ct2_nil))))
noncomputable def ft_627_5 : CTB2 := [(3, 165, 0, con_362, [0, 1]), (12, 165, 0, con_573, [0, 1]), (49, 165, 0, con_364, [0, 1]), (71, 210, 0, con_581, [0, 1, 2]), (93, 172, 0, con_373, [0, 1]), (160, 172, 0, con_575, [0, 1])]
theorem fto_627_5 (l : Launch) {es : List va_E} (f2 : isFact 2 0 [0, 1] es) (f5 : isFact 5 1 [0, 1] es) (f8 : isFact 8 0 [0, 1] es) (f12 : isFact 12 1 [0, 1] es) : FTOK2 l RX12 vwCl gTbl es ft_627_5 := ft2_cons (fun ec he => hv_362 l (f2 ec he)) ck_RX12_165_362 (ft2_cons (fun ec he => hv_573 l (f5 ec he)) ck_RX12_165_573 (ft2_cons (fun ec he => hv_364 l (f8 ec he)) ck_RX12_165_364 (ft2_cons (fun ec he => hv_581 l (fact_at f2 he (τ := [0, 1]) (by decide) (by decide)) (fact_at f5 he (τ := [0, 1]) (by decide) (by decide)) (fact_at f8 he (τ := [0, 1]) (by decide) (by decide)) (fact_at f12 he (τ := [0, 1]) (by decide) (by decide))) ck_RX12_210_581 (ft2_cons (fun ec he => hv_373 l (fact_at f2 he (τ := [0, 1]) (by decide) (by decide))) ck_RX12_172_373 (ft2_cons (fun ec he => hv_575 l (fact_at f5 he (τ := [0, 1]) (by decide) (by decide))) ck_RX12_172_575 (ft2_nil))))))
noncomputable def cu_627_5 : List CUT2 := []
theorem ch_627_5 : staG tb_X12_readNext 1 bt_RX12 ft_627_5 ct_627_4 [] [] cu_627_5 37 con_627 = true := by decide +kernel
noncomputable def ft_627_6 : CTB2 := [(3, 165, 0, con_362, [0, 1]), (12, 165, 0, con_573, [0, 1]), (49, 165, 0, con_548, [0, 1])]
theorem fto_627_6 (l : Launch) {es : List va_E} (f2 : isFact 2 0 [0, 1] es) (f5 : isFact 5 1 [0, 1] es) (f8 : isFact 8 1 [0, 1] es) (f12 : isFact 12 0 [0, 1] es) : FTOK2 l RX12 vwCl gTbl es ft_627_6 := ft2_cons (fun ec he => hv_362 l (f2 ec he)) ck_RX12_165_362 (ft2_cons (fun ec he => hv_573 l (f5 ec he)) ck_RX12_165_573 (ft2_cons (fun ec he => hv_548 l (f8 ec he)) ck_RX12_165_548 (ft2_nil)))
noncomputable def cu_627_6 : List CUT2 := []
theorem ch_627_6 : staG tb_X12_readNext 1 bt_RX12 ft_627_6 ct_610_0 [] [] cu_627_6 34 con_627 = true := by decide +kernel
noncomputable def ft_627_7 : CTB2 := [(3, 165, 0, con_362, [0, 1]), (12, 165, 0, con_573, [0, 1]), (49, 165, 0, con_548, [0, 1])]
theorem fto_627_7 (l : Launch) {es : List va_E} (f2 : isFact 2 0 [0, 1] es) (f5 : isFact 5 1 [0, 1] es) (f8 : isFact 8 1 [0, 1] es) (f12 : isFact 12 1 [0, 1] es) : FTOK2 l RX12 vwCl gTbl es ft_627_7 := ft2_cons (fun ec he => hv_362 l (f2 ec he)) ck_RX12_165_362 (ft2_cons (fun ec he => hv_573 l (f5 ec he)) ck_RX12_165_573 (ft2_cons (fun ec he => hv_548 l (f8 ec he)) ck_RX12_165_548 (ft2_nil)))
noncomputable def cu_627_7 : List CUT2 := []
theorem ch_627_7 : staG tb_X12_readNext 1 bt_RX12 ft_627_7 ct_610_0 [] [] cu_627_7 34 con_627 = true := by decide +kernel
noncomputable def ft_627_8 : CTB2 := [(3, 165, 0, con_584, [0, 1]), (49, 165, 0, con_364, [0, 1]), (71, 210, 0, con_585, [0, 1, 2]), (93, 172, 0, con_586, [0, 1])]
theorem fto_627_8 (l : Launch) {es : List va_E} (f2 : isFact 2 1 [0, 1] es) (f5 : isFact 5 0 [0, 1] es) (f8 : isFact 8 0 [0, 1] es) (f12 : isFact 12 0 [0, 1] es) : FTOK2 l RX12 vwCl gTbl es ft_627_8 := ft2_cons (fun ec he => hv_584 l (f2 ec he)) ck_RX12_165_584 (ft2_cons (fun ec he => hv_364 l (f8 ec he)) ck_RX12_165_364 (ft2_cons (fun ec he => hv_585 l (fact_at f2 he (τ := [0, 1]) (by decide) (by decide)) (fact_at f5 he (τ := [0, 1]) (by decide) (by decide)) (fact_at f8 he (τ := [0, 1]) (by decide) (by decide)) (fact_at f12 he (τ := [0, 1]) (by decide) (by decide))) ck_RX12_210_585 (ft2_cons (fun ec he => hv_586 l (fact_at f2 he (τ := [0, 1]) (by decide) (by decide))) ck_RX12_172_586 (ft2_nil))))
noncomputable def cu_627_8 : List CUT2 := []
theorem ch_627_8 : staG tb_X12_readNext 1 bt_RX12 ft_627_8 ct_610_8 [] [] cu_627_8 64 con_627 = true := by decide +kernel
noncomputable def ft_627_9 : CTB2 := [(3, 165, 0, con_584, [0, 1]), (49, 165, 0, con_364, [0, 1]), (71, 210, 0, con_603, [0, 1, 2]), (93, 172, 0, con_586, [0, 1])]
theorem fto_627_9 (l : Launch) {es : List va_E} (f2 : isFact 2 1 [0, 1] es) (f5 : isFact 5 0 [0, 1] es) (f8 : isFact 8 0 [0, 1] es) (f12 : isFact 12 1 [0, 1] es) : FTOK2 l RX12 vwCl gTbl es ft_627_9 := ft2_cons (fun ec he => hv_584 l (f2 ec he)) ck_RX12_165_584 (ft2_cons (fun ec he => hv_364 l (f8 ec he)) ck_RX12_165_364 (ft2_cons (fun ec he => hv_603 l (fact_at f2 he (τ := [0, 1]) (by decide) (by decide)) (fact_at f5 he (τ := [0, 1]) (by decide) (by decide)) (fact_at f8 he (τ := [0, 1]) (by decide) (by decide)) (fact_at f12 he (τ := [0, 1]) (by decide) (by decide))) ck_RX12_210_603 (ft2_cons (fun ec he => hv_586 l (fact_at f2 he (τ := [0, 1]) (by decide) (by decide))) ck_RX12_172_586 (ft2_nil))))
noncomputable def cu_627_9 : List CUT2 := []
theorem ch_627_9 : staG tb_X12_readNext 1 bt_RX12 ft_627_9 ct_610_8 [] [] cu_627_9 64 con_627 = true := by decide +kernel
noncomputable def ft_627_10 : CTB2 := [(3, 165, 0, con_584, [0, 1]), (49, 165, 0, con_548, [0, 1])]
theorem fto_627_10 (l : Launch) {es : List va_E} (f2 : isFact 2 1 [0, 1] es) (f5 : isFact 5 0 [0, 1] es) (f8 : isFact 8 1 [0, 1] es) (f12 : isFact 12 0 [0, 1] es) : FTOK2 l RX12 vwCl gTbl es ft_627_10 := ft2_cons (fun ec he => hv_584 l (f2 ec he)) ck_RX12_165_584 (ft2_cons (fun ec he => hv_548 l (f8 ec he)) ck_RX12_165_548 (ft2_nil))
noncomputable def cu_627_10 : List CUT2 := []
theorem ch_627_10 : staG tb_X12_readNext 1 bt_RX12 ft_627_10 ct_610_0 [] [] cu_627_10 30 con_627 = true := by decide +kernel
noncomputable def ft_627_11 : CTB2 := [(3, 165, 0, con_584, [0, 1]), (49, 165, 0, con_548, [0, 1])]
theorem fto_627_11 (l : Launch) {es : List va_E} (f2 : isFact 2 1 [0, 1] es) (f5 : isFact 5 0 [0, 1] es) (f8 : isFact 8 1 [0, 1] es) (f12 : isFact 12 1 [0, 1] es) : FTOK2 l RX12 vwCl gTbl es ft_627_11 := ft2_cons (fun ec he => hv_584 l (f2 ec he)) ck_RX12_165_584 (ft2_cons (fun ec he => hv_548 l (f8 ec he)) ck_RX12_165_548 (ft2_nil))
noncomputable def cu_627_11 : List CUT2 := []
theorem ch_627_11 : staG tb_X12_readNext 1 bt_RX12 ft_627_11 ct_610_0 [] [] cu_627_11 30 con_627 = true := by decide +kernel
noncomputable def ft_627_12 : CTB2 := [(3, 165, 0, con_584, [0, 1]), (49, 165, 0, con_364, [0, 1]), (71, 210, 0, con_606, [0, 1, 2]), (93, 172, 0, con_586, [0, 1])]
theorem fto_627_12 (l : Launch) {es : List va_E} (f2 : isFact 2 1 [0, 1] es) (f5 : isFact 5 1 [0, 1] es) (f8 : isFact 8 0 [0, 1] es) (f12 : isFact 12 0 [0, 1] es) : FTOK2 l RX12 vwCl gTbl es ft_627_12 := ft2_cons (fun ec he => hv_584 l (f2 ec he)) ck_RX12_165_584 (ft2_cons (fun ec he => hv_364 l (f8 ec he)) ck_RX12_165_364 (ft2_cons (fun ec he => hv_606 l (fact_at f2 he (τ := [0, 1]) (by decide) (by decide)) (fact_at f5 he (τ := [0, 1]) (by decide) (by decide)) (fact_at f8 he (τ := [0, 1]) (by decide) (by decide)) (fact_at f12 he (τ := [0, 1]) (by decide) (by decide))) ck_RX12_210_606 (ft2_cons (fun ec he => hv_586 l (fact_at f2 he (τ := [0, 1]) (by decide) (by decide))) ck_RX12_172_586 (ft2_nil))))
noncomputable def cu_627_12 : List CUT2 := []
theorem ch_627_12 : staG tb_X12_readNext 1 bt_RX12 ft_627_12 ct_610_8 [] [] cu_627_12 64 con_627 = true := by decide +kernel
noncomputable def ft_627_13 : CTB2 := [(3, 165, 0, con_584, [0, 1]), (49, 165, 0, con_364, [0, 1]), (71, 210, 0, con_607, [0, 1, 2]), (93, 172, 0, con_586, [0, 1])]
theorem fto_627_13 (l : Launch) {es : List va_E} (f2 : isFact 2 1 [0, 1] es) (f5 : isFact 5 1 [0, 1] es) (f8 : isFact 8 0 [0, 1] es) (f12 : isFact 12 1 [0, 1] es) : FTOK2 l RX12 vwCl gTbl es ft_627_13 := ft2_cons (fun ec he => hv_584 l (f2 ec he)) ck_RX12_165_584 (ft2_cons (fun ec he => hv_364 l (f8 ec he)) ck_RX12_165_364 (ft2_cons (fun ec he => hv_607 l (fact_at f2 he (τ := [0, 1]) (by decide) (by decide)) (fact_at f5 he (τ := [0, 1]) (by decide) (by decide)) (fact_at f8 he (τ := [0, 1]) (by decide) (by decide)) (fact_at f12 he (τ := [0, 1]) (by decide) (by decide))) ck_RX12_210_607 (ft2_cons (fun ec he => hv_586 l (fact_at f2 he (τ := [0, 1]) (by decide) (by decide))) ck_RX12_172_586 (ft2_nil))))
noncomputable def cu_627_13 : List CUT2 := []
theorem ch_627_13 : staG tb_X12_readNext 1 bt_RX12 ft_627_13 ct_610_8 [] [] cu_627_13 64 con_627 = true := by decide +kernel
noncomputable def ft_627_14 : CTB2 := [(3, 165, 0, con_584, [0, 1]), (49, 165, 0, con_548, [0, 1])]
theorem fto_627_14 (l : Launch) {es : List va_E} (f2 : isFact 2 1 [0, 1] es) (f5 : isFact 5 1 [0, 1] es) (f8 : isFact 8 1 [0, 1] es) (f12 : isFact 12 0 [0, 1] es) : FTOK2 l RX12 vwCl gTbl es ft_627_14 := ft2_cons (fun ec he => hv_584 l (f2 ec he)) ck_RX12_165_584 (ft2_cons (fun ec he => hv_548 l (f8 ec he)) ck_RX12_165_548 (ft2_nil))
noncomputable def cu_627_14 : List CUT2 := []
theorem ch_627_14 : staG tb_X12_readNext 1 bt_RX12 ft_627_14 ct_610_0 [] [] cu_627_14 30 con_627 = true := by decide +kernel
noncomputable def ft_627_15 : CTB2 := [(3, 165, 0, con_584, [0, 1]), (49, 165, 0, con_548, [0, 1])]
theorem fto_627_15 (l : Launch) {es : List va_E} (f2 : isFact 2 1 [0, 1] es) (f5 : isFact 5 1 [0, 1] es) (f8 : isFact 8 1 [0, 1] es) (f12 : isFact 12 1 [0, 1] es) : FTOK2 l RX12 vwCl gTbl es ft_627_15 := ft2_cons (fun ec he => hv_584 l (f2 ec he)) ck_RX12_165_584 (ft2_cons (fun ec he => hv_548 l (f8 ec he)) ck_RX12_165_548 (ft2_nil))
noncomputable def cu_627_15 : List CUT2 := []
theorem ch_627_15 : staG tb_X12_readNext 1 bt_RX12 ft_627_15 ct_610_0 [] [] cu_627_15 30 con_627 = true := by decide +kernel
theorem vl_627 (l : Launch) : Vld2 l vwCl gTbl con_627 := fun es => by
  rcases fact_or 2 [0, 1] es with f2 | f2 <;> rcases fact_or 5 [0, 1] es with f5 | f5 <;> rcases fact_or 8 [0, 1] es with f8 | f8 <;> rcases fact_or 12 [0, 1] es with f12 | f12
  · exact conE_ok3 gT_all (hd_627) rfl pn_RX12 tk_X12_readNext bo_RX12 xo_RX12 (fto_627_0 l f2 f5 f8 f12) (cto_610_0 l) ch_627_0 cut_nil
  · exact conE_ok3 gT_all (hd_627) rfl pn_RX12 tk_X12_readNext bo_RX12 xo_RX12 (fto_627_1 l f2 f5 f8 f12) (cto_627_1 l) ch_627_1 cut_nil
  · exact conE_ok3 gT_all (hd_627) rfl pn_RX12 tk_X12_readNext bo_RX12 xo_RX12 (fto_627_2 l f2 f5 f8 f12) (cto_610_0 l) ch_627_2 cut_nil
  · exact conE_ok3 gT_all (hd_627) rfl pn_RX12 tk_X12_readNext bo_RX12 xo_RX12 (fto_627_3 l f2 f5 f8 f12) (cto_610_0 l) ch_627_3 cut_nil
  · exact conE_ok3 gT_all (hd_627) rfl pn_RX12 tk_X12_readNext bo_RX12 xo_RX12 (fto_627_4 l f2 f5 f8 f12) (cto_627_4 l) ch_627_4 cut_nil
  · exact conE_ok3 gT_all (hd_627) rfl pn_RX12 tk_X12_readNext bo_RX12 xo_RX12 (fto_627_5 l f2 f5 f8 f12) (cto_627_4 l) ch_627_5 cut_nil
  · exact conE_ok3 gT_all (hd_627) rfl pn_RX12 tk_X12_readNext bo_RX12 xo_RX12 (fto_627_6 l f2 f5 f8 f12) (cto_610_0 l) ch_627_6 cut_nil
  · exact conE_ok3 gT_all (hd_627) rfl pn_RX12 tk_X12_readNext bo_RX12 xo_RX12 (fto_627_7 l f2 f5 f8 f12) (cto_610_0 l) ch_627_7 cut_nil
  · exact conE_ok3 gT_all (hd_627) rfl pn_RX12 tk_X12_readNext bo_RX12 xo_RX12 (fto_627_8 l f2 f5 f8 f12) (cto_610_8 l) ch_627_8 cut_nil
  · exact conE_ok3 gT_all (hd_627) rfl pn_RX12 tk_X12_readNext bo_RX12 xo_RX12 (fto_627_9 l f2 f5 f8 f12) (cto_610_8 l) ch_627_9 cut_nil
  · exact conE_ok3 gT_all (hd_627) rfl pn_RX12 tk_X12_readNext bo_RX12 xo_RX12 (fto_627_10 l f2 f5 f8 f12) (cto_610_0 l) ch_627_10 cut_nil
  · exact conE_ok3 gT_all (hd_627) rfl pn_RX12 tk_X12_readNext bo_RX12 xo_RX12 (fto_627_11 l f2 f5 f8 f12) (cto_610_0 l) ch_627_11 cut_nil
  · exact conE_ok3 gT_all (hd_627) rfl pn_RX12 tk_X12_readNext bo_RX12 xo_RX12 (fto_627_12 l f2 f5 f8 f12) (cto_610_8 l) ch_627_12 cut_nil
  · exact conE_ok3 gT_all (hd_627) rfl pn_RX12 tk_X12_readNext bo_RX12 xo_RX12 (fto_627_13 l f2 f5 f8 f12) (cto_610_8 l) ch_627_13 cut_nil
  · exact conE_ok3 gT_all (hd_627) rfl pn_RX12 tk_X12_readNext bo_RX12 xo_RX12 (fto_627_14 l f2 f5 f8 f12) (cto_610_0 l) ch_627_14 cut_nil
  · exact conE_ok3 gT_all (hd_627) rfl pn_RX12 tk_X12_readNext bo_RX12 xo_RX12 (fto_627_15 l f2 f5 f8 f12) (cto_610_0 l) ch_627_15 cut_nil
/-- RookHustingModel readLine -/
noncomputable def ac_334 : AC := .inr (1, jl_n [sp_68, jl_x (1, (0, 4, 0)), sp_93, sp_84])
noncomputable def hq_342 : HP := [(true, ac_149), (true, ac_334), (false, am_2)]
noncomputable def ac_335 : AC := .inr (1, jl_n [js_1 52 6, jl_x (1, (0, 5, 0)), sp_69, sp_71, sp_94])
noncomputable def hq_343 : HP := [(true, ac_194), (true, ac_335), (false, am_2)]
noncomputable def ac_336 : AC := .inr (1, jl_n [sp_23, sp_93, sp_94])
noncomputable def hq_344 : HP := [(true, ac_149), (true, ac_336), (false, am_2)]
noncomputable def hq_345 : HP := [(true, ac_151), (true, ac_334), (false, am_2)]
noncomputable def hq_346 : HP := [(true, ac_151), (true, ac_335), (false, am_2)]
noncomputable def con_628 : Con2 := ((yX12_readLine, cX12_readLine, 1, none), (14, 334), ([(6, 0, 0)], gi_215, [ac_148, ac_302, am_2], []), [((9, 0, 0), gi_276, hq_342, [], tg_11), ((9, 0, 0), gi_274, hq_343, [], tg_11), ((9, 0, 0), gi_280, hq_344, [], tg_11), ((9, 0, 0), gi_277, hq_345, [([(49, (-1)), (50, (-1)), (117, 1), (118, 1)], (-1))], tg_11), ((9, 0, 0), gi_271, hq_346, [], tg_11)])
theorem hd_628 : con_628.1 = (yX12_readLine, cX12_readLine, 1, none) := rfl
theorem ck_RX12_230_627 : COK2 RX12 vwCl gTbl 230 0 con_627 := ⟨wd_1624, wd_137, mh_X12_readNext, .inr (.inr ⟨rfl, wd_1621, wd_1623, wd_62, ⟨_, rfl, pd_X12_readNext⟩, 12, _, TX12, 45, rfl, rfl⟩)⟩
noncomputable def ct_628 : CTB2 := [(18, 230, 0, con_627, [0, 2, 1]), (22, 153, 0, con_314, [0]), (22, 153, 0, con_343, [0]), (22, 153, 0, con_611, [0]), (38, 175, 0, con_317, [0]), (42, 153, 0, con_322, [0]), (42, 153, 0, con_314, [0]), (42, 153, 0, con_343, [0]), (42, 153, 0, con_611, [0]), (49, 169, 0, con_313, [0, 2])]
noncomputable def cu_628 : List CUT2 := []
theorem ch_628 : staG tb_X12_readLine 1 bt_RX12 [] ct_628 [] [] cu_628 31 con_628 = true := by decide +kernel
theorem cto_628 (l : Launch) : CTOK2 l RX12 vwCl gTbl ct_628 := ct2_cons (vl_627 l) ck_RX12_230_627 (ct2_cons (vl_314 l) ck_RX12_153_314 (ct2_cons (vl_343 l) ck_RX12_153_343 (ct2_cons (vl_611 l) ck_RX12_153_611 (ct2_cons (vl_317 l) ck_RX12_175_317 (ct2_cons (vl_322 l) ck_RX12_153_322 (ct2_cons (vl_314 l) ck_RX12_153_314 (ct2_cons (vl_343 l) ck_RX12_153_343 (ct2_cons (vl_611 l) ck_RX12_153_611 (ct2_cons (vl_313 l) ck_RX12_169_313 (ct2_nil))))))))))
theorem vl_628 (l : Launch) : Vld2 l vwCl gTbl con_628 := conR_ok3 gT_all (hd_628) rfl pn_RX12 tk_X12_readLine bo_RX12 xo_RX12 (cto_628 l) ch_628 cut_nil
