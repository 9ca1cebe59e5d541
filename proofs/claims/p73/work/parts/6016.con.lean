/-! ===== contracts, 16 ===== -/
/-- RookHustingModel readHedge -/
noncomputable def ac_367 : AC := .inr (1, jl_n [sp_46, sp_103, sp_94])
noncomputable def hq_376 : HP := [(true, ac_149), (true, ac_367), (false, am_2)]
noncomputable def hq_377 : HP := [(true, ac_151), (true, ac_367), (false, am_2)]
noncomputable def con_630 : Con2 := ((yX12_readHedge, cX12_readHedge, 2, none), (3, 69), ([(6, 0, 0)], gi_215, [ac_148, ac_337, am_2], []), [((9, 0, 0), gi_253, hq_376, [], tg_11), ((9, 0, 0), gi_254, hq_377, [], tg_11)])
theorem hd_630 : con_630.1 = (yX12_readHedge, cX12_readHedge, 2, none) := rfl
noncomputable def cu_630 : List CUT2 := []
theorem ch_630 : staG tb_X12_readHedge 1 bt_RX12 [] ct_580 [] [] cu_630 65 con_630 = true := by decide +kernel
theorem vl_630 (l : Launch) : Vld2 l vwCl gTbl con_630 := conR_ok3 gT_all (hd_630) rfl pn_RX12 tk_X12_readHedge bo_RX12 xo_RX12 (cto_580 l) ch_630 cut_nil
/-- RookHustingModel readNext -/
noncomputable def ac_368 : AC := .inr (1, jl_n [sp_68, sp_103, sp_94])
noncomputable def hq_378 : HP := [(true, ac_144), (false, am_2), (true, ac_368)]
noncomputable def hq_379 : HP := [(true, ac_144), (false, am_2), (true, ac_338)]
noncomputable def hq_380 : HP := [(true, ac_146), (false, am_2), (true, ac_368)]
noncomputable def hq_381 : HP := [(true, ac_146), (false, am_2), (true, ac_339)]
noncomputable def con_631 : Con2 := ((yX12_readNext, cX12_readNext, 3, none), (13, 312), ([(6, 0, 0)], gi_215, [ac_142, am_2, ac_337], []), [((9, 0, 0), gi_276, hq_378, [], tg_11), ((9, 0, 0), gi_281, hq_379, [], tg_11), ((9, 0, 0), gi_277, hq_380, [([(49, (-1)), (50, (-1)), (117, 1), (118, 1)], (-1))], tg_11), ((9, 0, 0), gi_271, hq_381, [], tg_11)])
theorem hd_631 : con_631.1 = (yX12_readNext, cX12_readNext, 3, none) := rfl
noncomputable def ft_631_0 : CTB2 := [(3, 165, 0, con_362, [0, 1]), (12, 165, 0, con_363, [0, 1]), (21, 165, 0, con_364, [0, 1]), (30, 165, 0, con_365, [0, 1])]
theorem fto_631_0 (l : Launch) {es : List va_E} (f2 : isFact 2 0 [0, 1] es) (f5 : isFact 5 0 [0, 1] es) (f8 : isFact 8 0 [0, 1] es) (f12 : isFact 12 0 [0, 1] es) : FTOK2 l RX12 vwCl gTbl es ft_631_0 := ft2_cons (fun ec he => hv_362 l (f2 ec he)) ck_RX12_165_362 (ft2_cons (fun ec he => hv_363 l (f5 ec he)) ck_RX12_165_363 (ft2_cons (fun ec he => hv_364 l (f8 ec he)) ck_RX12_165_364 (ft2_cons (fun ec he => hv_365 l (f12 ec he)) ck_RX12_165_365 (ft2_nil))))
noncomputable def cu_631_0 : List CUT2 := []
theorem ch_631_0 : staG tb_X12_readNext 1 bt_RX12 ft_631_0 ct_610_0 [] [] cu_631_0 32 con_631 = true := by decide +kernel
theorem ck_RX12_224_629 : COK2 RX12 vwCl gTbl 224 0 con_629 := ⟨wd_1644, wd_137, mh_X12_readVoter, .inr (.inr ⟨rfl, wd_1641, wd_1643, wd_65, ⟨_, rfl, pd_X12_readVoter⟩, 12, _, TX12, 45, rfl, rfl⟩)⟩
noncomputable def ct_631_1 : CTB2 := [(83, 153, 0, con_314, [0]), (240, 169, 0, con_313, [0, 1]), (244, 224, 0, con_629, [0, 2, 1])]
noncomputable def ft_631_1 : CTB2 := [(3, 165, 0, con_362, [0, 1]), (12, 165, 0, con_363, [0, 1]), (21, 165, 0, con_364, [0, 1]), (30, 165, 0, con_371, [0, 1]), (49, 165, 0, con_364, [0, 1]), (71, 210, 0, con_372, [0, 1, 2]), (93, 172, 0, con_373, [0, 1]), (160, 172, 0, con_374, [0, 1]), (176, 172, 0, con_375, [0, 1])]
theorem fto_631_1 (l : Launch) {es : List va_E} (f2 : isFact 2 0 [0, 1] es) (f5 : isFact 5 0 [0, 1] es) (f8 : isFact 8 0 [0, 1] es) (f12 : isFact 12 1 [0, 1] es) : FTOK2 l RX12 vwCl gTbl es ft_631_1 := ft2_cons (fun ec he => hv_362 l (f2 ec he)) ck_RX12_165_362 (ft2_cons (fun ec he => hv_363 l (f5 ec he)) ck_RX12_165_363 (ft2_cons (fun ec he => hv_364 l (f8 ec he)) ck_RX12_165_364 (ft2_cons (fun ec he => hv_371 l (f12 ec he)) ck_RX12_165_371 (ft2_cons (fun ec he => hv_364 l (f8 ec he)) ck_RX12_165_364 (ft2_cons (fun ec he => hv_372 l (fact_at f2 he (τ := [0, 1]) (by decide) (by decide)) (fact_at f5 he (τ := [0, 1]) (by decide) (by decide)) (fact_at f8 he (τ := [0, 1]) (by decide) (by decide)) (fact_at f12 he (τ := [0, 1]) (by decide) (by decide))) ck_RX12_210_372 (ft2_cons (fun ec he => hv_373 l (fact_at f2 he (τ := [0, 1]) (by decide) (by decide))) ck_RX12_172_373 (ft2_cons (fun ec he => hv_374 l (fact_at f5 he (τ := [0, 1]) (by decide) (by decide))) ck_RX12_172_374 (ft2_cons (fun ec he => hv_375 l (fact_at f8 he (τ := [0, 1]) (by decide) (by decide))) ck_RX12_172_375 (ft2_nil)))))))))
noncomputable def cu_631_1 : List CUT2 := []
theorem ch_631_1 : staG tb_X12_readNext 1 bt_RX12 ft_631_1 ct_631_1 [] [] cu_631_1 50 con_631 = true := by decide +kernel
theorem cto_631_1 (l : Launch) : CTOK2 l RX12 vwCl gTbl ct_631_1 := ct2_cons (vl_314 l) ck_RX12_153_314 (ct2_cons (vl_313 l) ck_RX12_169_313 (ct2_cons (vl_629 l) ck_RX12_224_629 (ct2_nil)))
noncomputable def ft_631_2 : CTB2 := [(3, 165, 0, con_362, [0, 1]), (12, 165, 0, con_363, [0, 1]), (21, 165, 0, con_548, [0, 1]), (49, 165, 0, con_548, [0, 1])]
theorem fto_631_2 (l : Launch) {es : List va_E} (f2 : isFact 2 0 [0, 1] es) (f5 : isFact 5 0 [0, 1] es) (f8 : isFact 8 1 [0, 1] es) (f12 : isFact 12 0 [0, 1] es) : FTOK2 l RX12 vwCl gTbl es ft_631_2 := ft2_cons (fun ec he => hv_362 l (f2 ec he)) ck_RX12_165_362 (ft2_cons (fun ec he => hv_363 l (f5 ec he)) ck_RX12_165_363 (ft2_cons (fun ec he => hv_548 l (f8 ec he)) ck_RX12_165_548 (ft2_cons (fun ec he => hv_548 l (f8 ec he)) ck_RX12_165_548 (ft2_nil))))
noncomputable def cu_631_2 : List CUT2 := []
theorem ch_631_2 : staG tb_X12_readNext 1 bt_RX12 ft_631_2 ct_610_0 [] [] cu_631_2 38 con_631 = true := by decide +kernel
noncomputable def ft_631_3 : CTB2 := [(3, 165, 0, con_362, [0, 1]), (12, 165, 0, con_363, [0, 1]), (21, 165, 0, con_548, [0, 1]), (49, 165, 0, con_548, [0, 1])]
theorem fto_631_3 (l : Launch) {es : List va_E} (f2 : isFact 2 0 [0, 1] es) (f5 : isFact 5 0 [0, 1] es) (f8 : isFact 8 1 [0, 1] es) (f12 : isFact 12 1 [0, 1] es) : FTOK2 l RX12 vwCl gTbl es ft_631_3 := ft2_cons (fun ec he => hv_362 l (f2 ec he)) ck_RX12_165_362 (ft2_cons (fun ec he => hv_363 l (f5 ec he)) ck_RX12_165_363 (ft2_cons (fun ec he => hv_548 l (f8 ec he)) ck_RX12_165_548 (ft2_cons (fun ec he => hv_548 l (f8 ec he)) ck_RX12_165_548 (ft2_nil))))
noncomputable def cu_631_3 : List CUT2 := []
theorem ch_631_3 : staG tb_X12_readNext 1 bt_RX12 ft_631_3 ct_610_0 [] [] cu_631_3 38 con_631 = true := by decide +kernel
theorem ck_RX12_217_630 : COK2 RX12 vwCl gTbl 217 0 con_630 := ⟨wd_1638, wd_137, mh_X12_readHedge, .inr (.inr ⟨rfl, wd_1635, wd_1637, wd_64, ⟨_, rfl, pd_X12_readHedge⟩, 12, _, TX12, 45, rfl, rfl⟩)⟩
noncomputable def ct_631_4 : CTB2 := [(79, 175, 0, con_550, [0]), (83, 153, 0, con_551, [0]), (83, 153, 0, con_314, [0]), (167, 217, 0, con_630, [0, 2, 1])]
noncomputable def ft_631_4 : CTB2 := [(3, 165, 0, con_362, [0, 1]), (12, 165, 0, con_573, [0, 1]), (49, 165, 0, con_364, [0, 1]), (71, 210, 0, con_574, [0, 1, 2]), (93, 172, 0, con_373, [0, 1]), (160, 172, 0, con_575, [0, 1])]
theorem fto_631_4 (l : Launch) {es : List va_E} (f2 : isFact 2 0 [0, 1] es) (f5 : isFact 5 1 [0, 1] es) (f8 : isFact 8 0 [0, 1] es) (f12 : isFact 12 0 [0, 1] es) : FTOK2 l RX12 vwCl gTbl es ft_631_4 := ft2_cons (fun ec he => hv_362 l (f2 ec he)) ck_RX12_165_362 (ft2_cons (fun ec he => hv_573 l (f5 ec he)) ck_RX12_165_573 (ft2_cons (fun ec he => hv_364 l (f8 ec he)) ck_RX12_165_364 (ft2_cons (fun ec he => hv_574 l (fact_at f2 he (τ := [0, 1]) (by decide) (by decide)) (fact_at f5 he (τ := [0, 1]) (by decide) (by decide)) (fact_at f8 he (τ := [0, 1]) (by decide) (by decide)) (fact_at f12 he (τ := [0, 1]) (by decide) (by decide))) ck_RX12_210_574 (ft2_cons (fun ec he => hv_373 l (fact_at f2 he (τ := [0, 1]) (by decide) (by decide))) ck_RX12_172_373 (ft2_cons (fun ec he => hv_575 l (fact_at f5 he (τ := [0, 1]) (by decide) (by decide))) ck_RX12_172_575 (ft2_nil))))))
noncomputable def cu_631_4 : List CUT2 := []
theorem ch_631_4 : staG tb_X12_readNext 1 bt_RX12 ft_631_4 ct_631_4 [] [] cu_631_4 37 con_631 = true := by decide +kernel
theorem cto_631_4 (l : Launch) : CTOK2 l RX12 vwCl gTbl ct_631_4 := ct2_cons (vl_550 l) ck_RX12_175_550 (ct2_cons (vl_551 l) ck_RX12_153_551 (ct2_cons (vl_314 l) ck_RX12_153_314 (ct2_cons (vl_630 l) ck_RX12_217_630 (ct2_nil))))
noncomputable def ft_631_5 : CTB2 := [(3, 165, 0, con_362, [0, 1]), (12, 165, 0, con_573, [0, 1]), (49, 165, 0, con_364, [0, 1]), (71, 210, 0, con_581, [0, 1, 2]), (93, 172, 0, con_373, [0, 1]), (160, 172, 0, con_575, [0, 1])]
theorem fto_631_5 (l : Launch) {es : List va_E} (f2 : isFact 2 0 [0, 1] es) (f5 : isFact 5 1 [0, 1] es) (f8 : isFact 8 0 [0, 1] es) (f12 : isFact 12 1 [0, 1] es) : FTOK2 l RX12 vwCl gTbl es ft_631_5 := ft2_cons (fun ec he => hv_362 l (f2 ec he)) ck_RX12_165_362 (ft2_cons (fun ec he => hv_573 l (f5 ec he)) ck_RX12_165_573 (ft2_cons (fun ec he => hv_364 l (f8 ec he)) ck_RX12_165_364 (ft2_cons (fun ec he => hv_581 l (fact_at f2 he (τ := [0, 1]) (by decide) (by decide)) (fact_at f5 he (τ := [0, 1]) (by decide) (by decide)) (fact_at f8 he (τ := [0, 1]) (by decide) (by decide)) (fact_at f12 he (τ := [0, 1]) (by decide) (by decide))) ck_RX12_210_581 (ft2_cons (fun ec he => hv_373 l (fact_at f2 he (τ := [0, 1]) (by decide) (by decide))) ck_RX12_172_373 (ft2_cons (fun ec he => hv_575 l (fact_at f5 he (τ := [0, 1]) (by decide) (by decide))) ck_RX12_172_575 (ft2_nil))))))
noncomputable def cu_631_5 : List CUT2 := []
theorem ch_631_5 : staG tb_X12_readNext 1 bt_RX12 ft_631_5 ct_631_4 [] [] cu_631_5 37 con_631 = true := by decide +kernel
noncomputable def ft_631_6 : CTB2 := [(3, 165, 0, con_362, [0, 1]), (12, 165, 0, con_573, [0, 1]), (49, 165, 0, con_548, [0, 1])]
theorem fto_631_6 (l : Launch) {es : List va_E} (f2 : isFact 2 0 [0, 1] es) (f5 : isFact 5 1 [0, 1] es) (f8 : isFact 8 1 [0, 1] es) (f12 : isFact 12 0 [0, 1] es) : FTOK2 l RX12 vwCl gTbl es ft_631_6 := ft2_cons (fun ec he => hv_362 l (f2 ec he)) ck_RX12_165_362 (ft2_cons (fun ec he => hv_573 l (f5 ec he)) ck_RX12_165_573 (ft2_cons (fun ec he => hv_548 l (f8 ec he)) ck_RX12_165_548 (ft2_nil)))
noncomputable def cu_631_6 : List CUT2 := []
theorem ch_631_6 : staG tb_X12_readNext 1 bt_RX12 ft_631_6 ct_610_0 [] [] cu_631_6 34 con_631 = true := by decide +kernel
noncomputable def ft_631_7 : CTB2 := [(3, 165, 0, con_362, [0, 1]), (12, 165, 0, con_573, [0, 1]), (49, 165, 0, con_548, [0, 1])]
theorem fto_631_7 (l : Launch) {es : List va_E} (f2 : isFact 2 0 [0, 1] es) (f5 : isFact 5 1 [0, 1] es) (f8 : isFact 8 1 [0, 1] es) (f12 : isFact 12 1 [0, 1] es) : FTOK2 l RX12 vwCl gTbl es ft_631_7 := ft2_cons (fun ec he => hv_362 l (f2 ec he)) ck_RX12_165_362 (ft2_cons (fun ec he => hv_573 l (f5 ec he)) ck_RX12_165_573 (ft2_cons (fun ec he => hv_548 l (f8 ec he)) ck_RX12_165_548 (ft2_nil)))
noncomputable def cu_631_7 : List CUT2 := []
theorem ch_631_7 : staG tb_X12_readNext 1 bt_RX12 ft_631_7 ct_610_0 [] [] cu_631_7 34 con_631 = true := by decide +kernel
noncomputable def ft_631_8 : CTB2 := [(3, 165, 0, con_584, [0, 1]), (49, 165, 0, con_364, [0, 1]), (71, 210, 0, con_585, [0, 1, 2]), (93, 172, 0, con_586, [0, 1])]
theorem fto_631_8 (l : Launch) {es : List va_E} (f2 : isFact 2 1 [0, 1] es) (f5 : isFact 5 0 [0, 1] es) (f8 : isFact 8 0 [0, 1] es) (f12 : isFact 12 0 [0, 1] es) : FTOK2 l RX12 vwCl gTbl es ft_631_8 := ft2_cons (fun ec he => hv_584 l (f2 ec he)) ck_RX12_165_584 (ft2_cons (fun ec he => hv_364 l (f8 ec he)) ck_RX12_165_364 (ft2_cons (fun ec he => hv_585 l (fact_at f2 he (τ := [0, 1]) (by decide) (by decide)) (fact_at f5 he (τ := [0, 1]) (by decide) (by decide)) (fact_at f8 he (τ := [0, 1]) (by decide) (by decide)) (fact_at f12 he (τ := [0, 1]) (by decide) (by decide))) ck_RX12_210_585 (ft2_cons (fun ec he => hv_586 l (fact_at f2 he (τ := [0, 1]) (by decide) (by decide))) ck_RX12_172_586 (ft2_nil))))
noncomputable def cu_631_8 : List CUT2 := []
theorem ch_631_8 : staG tb_X12_readNext 1 bt_RX12 ft_631_8 ct_610_8 [] [] cu_631_8 64 con_631 = true := by decide +kernel
noncomputable def ft_631_9 : CTB2 := [(3, 165, 0, con_584, [0, 1]), (49, 165, 0, con_364, [0, 1]), (71, 210, 0, con_603, [0, 1, 2]), (93, 172, 0, con_586, [0, 1])]
theorem fto_631_9 (l : Launch) {es : List va_E} (f2 : isFact 2 1 [0, 1] es) (f5 : isFact 5 0 [0, 1] es) (f8 : isFact 8 0 [0, 1] es) (f12 : isFact 12 1 [0, 1] es) : FTOK2 l RX12 vwCl gTbl es ft_631_9 := ft2_cons (fun ec he => hv_584 l (f2 ec he)) ck_RX12_165_584 (ft2_cons (fun ec he => hv_364 l (f8 ec he)) ck_RX12_165_364 (ft2_cons (fun ec he => hv_603 l (fact_at f2 he (τ := [0, 1]) (by decide) (by decide)) (fact_at f5 he (τ := [0, 1]) (by decide) (by decide)) (fact_at f8 he (τ := [0, 1]) (by decide) (by decide)) (fact_at f12 he (τ := [0, 1]) (by decide) (by decide))) ck_RX12_210_603 (ft2_cons (fun ec he => hv_586 l (fact_at f2 he (τ := [0, 1]) (by decide) (by decide))) ck_RX12_172_586 (ft2_nil))))
noncomputable def cu_631_9 : List CUT2 := []
theorem ch_631_9 : staG tb_X12_readNext 1 bt_RX12 ft_631_9 ct_610_8 [] [] cu_631_9 64 con_631 = true := by decide +kernel
noncomputable def ft_631_10 : CTB2 := [(3, 165, 0, con_584, [0, 1]), (49, 165, 0, con_548, [0, 1])]
theorem fto_631_10 (l : Launch) {es : List va_E} (f2 : isFact 2 1 [0, 1] es) (f5 : isFact 5 0 [0, 1] es) (f8 : isFact 8 1 [0, 1] es) (f12 : isFact 12 0 [0, 1] es) : FTOK2 l RX12 vwCl gTbl es ft_631_10 := ft2_cons (fun ec he => hv_584 l (f2 ec he)) ck_RX12_165_584 (ft2_cons (fun ec he => hv_548 l (f8 ec he)) ck_RX12_165_548 (ft2_nil))
noncomputable def cu_631_10 : List CUT2 := []
theorem ch_631_10 : staG tb_X12_readNext 1 bt_RX12 ft_631_10 ct_610_0 [] [] cu_631_10 30 con_631 = true := by decide +kernel
noncomputable def ft_631_11 : CTB2 := [(3, 165, 0, con_584, [0, 1]), (49, 165, 0, con_548, [0, 1])]
theorem fto_631_11 (l : Launch) {es : List va_E} (f2 : isFact 2 1 [0, 1] es) (f5 : isFact 5 0 [0, 1] es) (f8 : isFact 8 1 [0, 1] es) (f12 : isFact 12 1 [0, 1] es) : FTOK2 l RX12 vwCl gTbl es ft_631_11 := ft2_cons (fun ec he => hv_584 l (f2 ec he)) ck_RX12_165_584 (ft2_cons (fun ec he => hv_548 l (f8 ec he)) ck_RX12_165_548 (ft2_nil))
noncomputable def cu_631_11 : List CUT2 := []
theorem ch_631_11 : staG tb_X12_readNext 1 bt_RX12 ft_631_11 ct_610_0 [] [] cu_631_11 30 con_631 = true := by decide +kernel
noncomputable def ft_631_12 : CTB2 := [(3, 165, 0, con_584, [0, 1]), (49, 165, 0, con_364, [0, 1]), (71, 210, 0, con_606, [0, 1, 2]), (93, 172, 0, con_586, [0, 1])]
theorem fto_631_12 (l : Launch) {es : List va_E} (f2 : isFact 2 1 [0, 1] es) (f5 : isFact 5 1 [0, 1] es) (f8 : isFact 8 0 [0, 1] es) (f12 : isFact 12 0 [0, 1] es) : FTOK2 l RX12 vwCl gTbl es ft_631_12 := ft2_cons (fun ec he => hv_584 l (f2 ec he)) ck_RX12_165_584 (ft2_cons (fun ec he => hv_364 l (f8 ec he)) ck_RX12_165_364 (ft2_cons (fun ec he => hv_606 l (fact_at f2 he (τ := [0, 1]) (by decide) (by decide)) (fact_at f5 he (τ := [0, 1]) (by decide) (by decide)) (fact_at f8 he (τ := [0, 1]) (by decide) (by decide)) (fact_at f12 he (τ := [0, 1]) (by decide) (by decide))) ck_RX12_210_606 (ft2_cons (fun ec he => hv_586 l (fact_at f2 he (τ := [0, 1]) (by decide) (by decide))) ck_RX12_172_586 (ft2_nil))))
noncomputable def cu_631_12 : List CUT2 := []
theorem ch_631_12 : staG tb_X12_readNext 1 bt_RX12 ft_631_12 ct_610_8 [] [] cu_631_12 64 con_631 = true := by decide +kernel
noncomputable def ft_631_13 : CTB2 := [(3, 165, 0, con_584, [0, 1]), (49, 165, 0, con_364, [0, 1]), (71, 210, 0, con_607, [0, 1, 2]), (93, 172, 0, con_586, [0, 1])]
theorem fto_631_13 (l : Launch) {es : List va_E} (f2 : isFact 2 1 [0, 1] es) (f5 : isFact 5 1 [0, 1] es) (f8 : isFact 8 0 [0, 1] es) (f12 : isFact 12 1 [0, 1] es) : FTOK2 l RX12 vwCl gTbl es ft_631_13 := ft2_cons (fun ec he => hv_584 l (f2 ec he)) ck_RX12_165_584 (ft2_cons (fun ec he => hv_364 l (f8 ec he)) ck_RX12_165_364 (ft2_cons (fun ec he => hv_607 l (fact_at f2 he (τ := [0, 1]) (by decide) (by decide)) (fact_at f5 he (τ := [0, 1]) (by decide) (by decide)) (fact_at f8 he (τ := [0, 1]) (by decide) (by decide)) (fact_at f12 he (τ := [0, 1]) (by decide) (by decide))) ck_RX12_210_607 (ft2_cons (fun ec he => hv_586 l (fact_at f2 he (τ := [0, 1]) (by decide) (by decide))) ck_RX12_172_586 (ft2_nil))))
noncomputable def cu_631_13 : List CUT2 := []
theorem ch_631_13 : staG tb_X12_readNext 1 bt_RX12 ft_631_13 ct_610_8 [] [] cu_631_13 64 con_631 = true := by decide +kernel
noncomputable def ft_631_14 : CTB2 := [(3, 165, 0, con_584, [0, 1]), (49, 165, 0, con_548, [0, 1])]
theorem fto_631_14 (l : Launch) {es : List va_E} (f2 : isFact 2 1 [0, 1] es) (f5 : isFact 5 1 [0, 1] es) (f8 : isFact 8 1 [0, 1] es) (f12 : isFact 12 0 [0, 1] es) : FTOK2 l RX12 vwCl gTbl es ft_631_14 := ft2_cons (fun ec he => hv_584 l (f2 ec he)) ck_RX12_165_584 (ft2_cons (fun ec he => hv_548 l (f8 ec he)) ck_RX12_165_548 (ft2_nil))
noncomputable def cu_631_14 : List CUT2 := []
theorem ch_631_14 : staG tb_X12_readNext 1 bt_RX12 ft_631_14 ct_610_0 [] [] cu_631_14 30 con_631 = true := by decide +kernel
noncomputable def ft_631_15 : CTB2 := [(3, 165, 0, con_584, [0, 1]), (49, 165, 0, con_548, [0, 1])]
theorem fto_631_15 (l : Launch) {es : List va_E} (f2 : isFact 2 1 [0, 1] es) (f5 : isFact 5 1 [0, 1] es) (f8 : isFact 8 1 [0, 1] es) (f12 : isFact 12 1 [0, 1] es) : FTOK2 l RX12 vwCl gTbl es ft_631_15 := ft2_cons (fun ec he => hv_584 l (f2 ec he)) ck_RX12_165_584 (ft2_cons (fun ec he => hv_548 l (f8 ec he)) ck_RX12_165_548 (ft2_nil))
noncomputable def cu_631_15 : List CUT2 := []
theorem ch_631_15 : staG tb_X12_readNext 1 bt_RX12 ft_631_15 ct_610_0 [] [] cu_631_15 30 con_631 = true := by decide +kernel
theorem vl_631 (l : Launch) : Vld2 l vwCl gTbl con_631 := fun es => by
  rcases fact_or 2 [0, 1] es with f2 | f2 <;> rcases fact_or 5 [0, 1] es with f5 | f5 <;> rcases fact_or 8 [0, 1] es with f8 | f8 <;> rcases fact_or 12 [0, 1] es with f12 | f12
  · exact conE_ok3 gT_all (hd_631) rfl pn_RX12 tk_X12_readNext bo_RX12 xo_RX12 (fto_631_0 l f2 f5 f8 f12) (cto_610_0 l) ch_631_0 cut_nil
  · exact conE_ok3 gT_all (hd_631) rfl pn_RX12 tk_X12_readNext bo_RX12 xo_RX12 (fto_631_1 l f2 f5 f8 f12) (cto_631_1 l) ch_631_1 cut_nil
  · exact conE_ok3 gT_all (hd_631) rfl pn_RX12 tk_X12_readNext bo_RX12 xo_RX12 (fto_631_2 l f2 f5 f8 f12) (cto_610_0 l) ch_631_2 cut_nil
  · exact conE_ok3 gT_all (hd_631) rfl pn_RX12 tk_X12_readNext bo_RX12 xo_RX12 (fto_631_3 l f2 f5 f8 f12) (cto_610_0 l) ch_631_3 cut_nil
  · exact conE_ok3 gT_all (hd_631) rfl pn_RX12 tk_X12_readNext bo_RX12 xo_RX12 (fto_631_4 l f2 f5 f8 f12) (cto_631_4 l) ch_631_4 cut_nil
  · exact conE_ok3 gT_all (hd_631) rfl pn_RX12 tk_X12_readNext bo_RX12 xo_RX12 (fto_631_5 l f2 f5 f8 f12) (cto_631_4 l) ch_631_5 cut_nil
  · exact conE_ok3 gT_all (hd_631) rfl pn_RX12 tk_X12_readNext bo_RX12 xo_RX12 (fto_631_6 l f2 f5 f8 f12) (cto_610_0 l) ch_631_6 cut_nil
  · exact conE_ok3 gT_all (hd_631) rfl pn_RX12 tk_X12_readNext bo_RX12 xo_RX12 (fto_631_7 l f2 f5 f8 f12) (cto_610_0 l) ch_631_7 cut_nil
  · exact conE_ok3 gT_all (hd_631) rfl pn_RX12 tk_X12_readNext bo_RX12 xo_RX12 (fto_631_8 l f2 f5 f8 f12) (cto_610_8 l) ch_631_8 cut_nil
  · exact conE_ok3 gT_all (hd_631) rfl pn_RX12 tk_X12_readNext bo_RX12 xo_RX12 (fto_631_9 l f2 f5 f8 f12) (cto_610_8 l) ch_631_9 cut_nil
  · exact conE_ok3 gT_all (hd_631) rfl pn_RX12 tk_X12_readNext bo_RX12 xo_RX12 (fto_631_10 l f2 f5 f8 f12) (cto_610_0 l) ch_631_10 cut_nil
  · exact conE_ok3 gT_all (hd_631) rfl pn_RX12 tk_X12_readNext bo_RX12 xo_RX12 (fto_631_11 l f2 f5 f8 f12) (cto_610_0 l) ch_631_11 cut_nil
  · exact conE_ok3 gT_all (hd_631) rfl pn_RX12 tk_X12_readNext bo_RX12 xo_RX12 (fto_631_12 l f2 f5 f8 f12) (cto_610_8 l) ch_631_12 cut_nil
  · exact conE_ok3 gT_all (hd_631) rfl pn_RX12 tk_X12_readNext bo_RX12 xo_RX12 (fto_631_13 l f2 f5 f8 f12) (cto_610_8 l) ch_631_13 cut_nil
  · exact conE_ok3 gT_all (hd_631) rfl pn_RX12 tk_X12_readNext bo_RX12 xo_RX12 (fto_631_14 l f2 f5 f8 f12) (cto_610_0 l) ch_631_14 cut_nil
  · exact conE_ok3 gT_all (hd_631) rfl pn_RX12 tk_X12_readNext bo_RX12 xo_RX12 (fto_631_15 l f2 f5 f8 f12) (cto_610_0 l) ch_631_15 cut_nil
/-- RookHustingModel readLine -/
noncomputable def ac_369 : AC := .inr (1, jl_n [sp_68, jl_x (1, (0, 5, 0)), sp_93, sp_94])
noncomputable def hq_382 : HP := [(true, ac_149), (true, ac_369), (false, am_2)]
noncomputable def ac_370 : AC := .inr (1, jl_n [js_1 52 6, jl_x (1, (0, 6, 0)), sp_93, sp_56, sp_7])
noncomputable def hq_383 : HP := [(true, ac_194), (true, ac_370), (false, am_2)]
noncomputable def ac_371 : AC := .inr (1, jl_n [sp_23, sp_93, sp_105])
noncomputable def hq_384 : HP := [(true, ac_149), (true, ac_371), (false, am_2)]
noncomputable def hq_385 : HP := [(true, ac_151), (true, ac_369), (false, am_2)]
noncomputable def hq_386 : HP := [(true, ac_151), (true, ac_370), (false, am_2)]
noncomputable def con_632 : Con2 := ((yX12_readLine, cX12_readLine, 1, none), (14, 334), ([(6, 0, 0)], gi_215, [ac_148, ac_337, am_2], []), [((9, 0, 0), gi_276, hq_382, [], tg_11), ((9, 0, 0), gi_274, hq_383, [], tg_11), ((9, 0, 0), gi_281, hq_384, [], tg_11), ((9, 0, 0), gi_277, hq_385, [([(49, (-1)), (50, (-1)), (117, 1), (118, 1)], (-1))], tg_11), ((9, 0, 0), gi_271, hq_386, [], tg_11)])
theorem hd_632 : con_632.1 = (yX12_readLine, cX12_readLine, 1, none) := rfl
theorem ck_RX12_230_631 : COK2 RX12 vwCl gTbl 230 0 con_631 := ⟨wd_1624, wd_137, mh_X12_readNext, .inr (.inr ⟨rfl, wd_1621, wd_1623, wd_62, ⟨_, rfl, pd_X12_readNext⟩, 12, _, TX12, 45, rfl, rfl⟩)⟩
noncomputable def ct_632 : CTB2 := [(18, 230, 0, con_631, [0, 2, 1]), (22, 153, 0, con_314, [0]), (22, 153, 0, con_343, [0]), (22, 153, 0, con_611, [0]), (38, 175, 0, con_317, [0]), (42, 153, 0, con_322, [0]), (42, 153, 0, con_314, [0]), (42, 153, 0, con_343, [0]), (42, 153, 0, con_611, [0]), (49, 169, 0, con_313, [0, 2])]
noncomputable def cu_632 : List CUT2 := []
theorem ch_632 : staG tb_X12_readLine 1 bt_RX12 [] ct_632 [] [] cu_632 31 con_632 = true := by decide +kernel
theorem cto_632 (l : Launch) : CTOK2 l RX12 vwCl gTbl ct_632 := ct2_cons (vl_631 l) ck_RX12_230_631 (ct2_cons (vl_314 l) ck_RX12_153_314 (ct2_cons (vl_343 l) ck_RX12_153_343 (ct2_cons (vl_611 l) ck_RX12_153_611 (ct2_cons (vl_317 l) ck_RX12_175_317 (ct2_cons (vl_322 l) ck_RX12_153_322 (ct2_cons (vl_314 l) ck_RX12_153_314 (ct2_cons (vl_343 l) ck_RX12_153_343 (ct2_cons (vl_611 l) ck_RX12_153_611 (ct2_cons (vl_313 l) ck_RX12_169_313 (ct2_nil))))))))))
theorem vl_632 (l : Launch) : Vld2 l vwCl gTbl con_632 := conR_ok3 gT_all (hd_632) rfl pn_RX12 tk_X12_readLine bo_RX12 xo_RX12 (cto_632 l) ch_632 cut_nil
