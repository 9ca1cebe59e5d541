/-! ===== contracts, 18 ===== -/
/-- RookHustingModel readHedge -/
noncomputable def ac_402 : AC := .inr (1, jl_n [sp_46, sp_106, sp_105])
noncomputable def hq_416 : HP := [(true, ac_149), (true, ac_402), (false, am_2)]
noncomputable def hq_417 : HP := [(true, ac_151), (true, ac_402), (false, am_2)]
noncomputable def con_634 : Con2 := ((yX12_readHedge, cX12_readHedge, 2, none), (3, 69), ([(6, 0, 0)], gi_215, [ac_148, ac_372, am_2], []), [((9, 0, 0), gi_253, hq_416, [], tg_11), ((9, 0, 0), gi_254, hq_417, [], tg_11)])
theorem hd_634 : con_634.1 = (yX12_readHedge, cX12_readHedge, 2, none) := rfl
noncomputable def cu_634 : List CUT2 := []
theorem ch_634 : staG tb_X12_readHedge 1 bt_RX12 [] ct_580 [] [] cu_634 65 con_634 = true := by decide +kernel
theorem vl_634 (l : Launch) : Vld2 l vwCl gTbl con_634 := conR_ok3 gT_all (hd_634) rfl pn_RX12 tk_X12_readHedge bo_RX12 xo_RX12 (cto_580 l) ch_634 cut_nil
/-- RookHustingModel readNext -/
noncomputable def ac_403 : AC := .inr (1, jl_n [sp_68, sp_106, sp_105])
noncomputable def hq_418 : HP := [(true, ac_144), (false, am_2), (true, ac_403)]
noncomputable def hq_419 : HP := [(true, ac_144), (false, am_2), (true, ac_373)]
noncomputable def hq_420 : HP := [(true, ac_146), (false, am_2), (true, ac_403)]
noncomputable def hq_421 : HP := [(true, ac_146), (false, am_2), (true, ac_374)]
noncomputable def con_635 : Con2 := ((yX12_readNext, cX12_readNext, 3, none), (13, 312), ([(6, 0, 0)], gi_215, [ac_142, am_2, ac_372], []), [((9, 0, 0), gi_276, hq_418, [], tg_11), ((9, 0, 0), gi_282, hq_419, [], tg_11), ((9, 0, 0), gi_277, hq_420, [([(49, (-1)), (50, (-1)), (117, 1), (118, 1)], (-1))], tg_11), ((9, 0, 0), gi_271, hq_421, [], tg_11)])
theorem hd_635 : con_635.1 = (yX12_readNext, cX12_readNext, 3, none) := rfl
noncomputable def ft_635_0 : CTB2 := [(3, 165, 0, con_362, [0, 1]), (12, 165, 0, con_363, [0, 1]), (21, 165, 0, con_364, [0, 1]), (30, 165, 0, con_365, [0, 1])]
theorem fto_635_0 (l : Launch) {es : List va_E} (f2 : isFact 2 0 [0, 1] es) (f5 : isFact 5 0 [0, 1] es) (f8 : isFact 8 0 [0, 1] es) (f12 : isFact 12 0 [0, 1] es) : FTOK2 l RX12 vwCl gTbl es ft_635_0 := ft2_cons (fun ec he => hv_362 l (f2 ec he)) ck_RX12_165_362 (ft2_cons (fun ec he => hv_363 l (f5 ec he)) ck_RX12_165_363 (ft2_cons (fun ec he => hv_364 l (f8 ec he)) ck_RX12_165_364 (ft2_cons (fun ec he => hv_365 l (f12 ec he)) ck_RX12_165_365 (ft2_nil))))
noncomputable def cu_635_0 : List CUT2 := []
theorem ch_635_0 : staG tb_X12_readNext 1 bt_RX12 ft_635_0 ct_610_0 [] [] cu_635_0 32 con_635 = true := by decide +kernel
theorem ck_RX12_224_633 : COK2 RX12 vwCl gTbl 224 0 con_633 := ⟨wd_1644, wd_137, mh_X12_readVoter, .inr (.inr ⟨rfl, wd_1641, wd_1643, wd_65, ⟨_, rfl, pd_X12_readVoter⟩, 12, _, TX12, 45, rfl, rfl⟩)⟩
noncomputable def ct_635_1 : CTB2 := [(83, 153, 0, con_314, [0]), (240, 169, 0, con_313, [0, 1]), (244, 224, 0, con_633, [0, 2, 1])]
noncomputable def ft_635_1 : CTB2 := [(3, 165, 0, con_362, [0, 1]), (12, 165, 0, con_363, [0, 1]), (21, 165, 0, con_364, [0, 1]), (30, 165, 0, con_371, [0, 1]), (49, 165, 0, con_364, [0, 1]), (71, 210, 0, con_372, [0, 1, 2]), (93, 172, 0, con_373, [0, 1]), (160, 172, 0, con_374, [0, 1]), (176, 172, 0, con_375, [0, 1])]
theorem fto_635_1 (l : Launch) {es : List va_E} (f2 : isFact 2 0 [0, 1] es) (f5 : isFact 5 0 [0, 1] es) (f8 : isFact 8 0 [0, 1] es) (f12 : isFact 12 1 [0, 1] es) : FTOK2 l RX12 vwCl gTbl es ft_635_1 := ft2_cons (fun ec he => hv_362 l (f2 ec he)) ck_RX12_165_362 (ft2_cons (fun ec he => hv_363 l (f5 ec he)) ck_RX12_165_363 (ft2_cons (fun ec he => hv_364 l (f8 ec he)) ck_RX12_165_364 (ft2_cons (fun ec he => hv_371 l (f12 ec he)) ck_RX12_165_371 (ft2_cons (fun ec he => hv_364 l (f8 ec he)) ck_RX12_165_364 (ft2_cons (fun ec he => hv_372 l (fact_at f2 he (τ := [0, 1]) (by decide) (by decide)) (fact_at f5 he (τ := [0, 1]) (by decide) (by decide)) (fact_at f8 he (τ := [0, 1]) (by decide) (by decide)) (fact_at f12 he (τ := [0, 1]) (by decide) (by decide))) ck_RX12_210_372 (ft2_cons (fun ec he => hv_373 l (fact_at f2 he (τ := [0, 1]) (by decide) (by decide))) ck_RX12_172_373 (ft2_cons (fun ec he => hv_374 l (fact_at f5 he (τ := [0, 1]) (by decide) (by decide))) ck_RX12_172_374 (ft2_cons (fun ec he => hv_375 l (fact_at f8 he (τ := [0, 1]) (by decide) (by decide))) ck_RX12_172_375 (ft2_nil)))))))))
noncomputable def cu_635_1 : List CUT2 := []
theorem ch_635_1 : staG tb_X12_readNext 1 bt_RX12 ft_635_1 ct_635_1 [] [] cu_635_1 50 con_635 = true := by decide +kernel
theorem cto_635_1 (l : Launch) : CTOK2 l RX12 vwCl gTbl ct_635_1 := ct2_cons (vl_314 l) ck_RX12_153_314 (ct2_cons (vl_313 l) ck_RX12_169_313 (ct2_cons (vl_633 l) ck_RX12_224_633 (ct2_nil)))
noncomputable def ft_635_2 : CTB2 := [(3, 165, 0, con_362, [0, 1]), (12, 165, 0, con_363, [0, 1]), (21, 165, 0, con_548, [0, 1]), (49, 165, 0, con_548, [0, 1])]
theorem fto_635_2 (l : Launch) {es : List va_E} (f2 : isFact 2 0 [0, 1] es) (f5 : isFact 5 0 [0, 1] es) (f8 : isFact 8 1 [0, 1] es) (f12 : isFact 12 0 [0, 1] es) : FTOK2 l RX12 vwCl gTbl es ft_635_2 := ft2_cons (fun ec he => hv_362 l (f2 ec he)) ck_RX12_165_362 (ft2_cons (fun ec he => hv_363 l (f5 ec he)) ck_RX12_165_363 (ft2_cons (fun ec he => hv_548 l (f8 ec he)) ck_RX12_165_548 (ft2_cons (fun ec he => hv_548 l (f8 ec he)) ck_RX12_165_548 (ft2_nil))))
noncomputable def cu_635_2 : List CUT2 := []
theorem ch_635_2 : staG tb_X12_readNext 1 bt_RX12 ft_635_2 ct_610_0 [] [] cu_635_2 38 con_635 = true := by decide +kernel
noncomputable def ft_635_3 : CTB2 := [(3, 165, 0, con_362, [0, 1]), (12, 165, 0, con_363, [0, 1]), (21, 165, 0, con_548, [0, 1]), (49, 165, 0, con_548, [0, 1])]
theorem fto_635_3 (l : Launch) {es : List va_E} (f2 : isFact 2 0 [0, 1] es) (f5 : isFact 5 0 [0, 1] es) (f8 : isFact 8 1 [0, 1] es) (f12 : isFact 12 1 [0, 1] es) : FTOK2 l RX12 vwCl gTbl es ft_635_3 := ft2_cons (fun ec he => hv_362 l (f2 ec he)) ck_RX12_165_362 (ft2_cons (fun ec he => hv_363 l (f5 ec he)) ck_RX12_165_363 (ft2_cons (fun ec he => hv_548 l (f8 ec he)) ck_RX12_165_548 (ft2_cons (fun ec he => hv_548 l (f8 ec he)) ck_RX12_165_548 (ft2_nil))))
noncomputable def cu_635_3 : List CUT2 := []
theorem ch_635_3 : staG tb_X12_readNext 1 bt_RX12 ft_635_3 ct_610_0 [] [] cu_635_3 38 con_635 = true := by decide +kernel
theorem ck_RX12_217_634 : COK2 RX12 vwCl gTbl 217 0 con_634 := ⟨wd_1638, wd_137, mh_X12_readHedge, .inr (.inr ⟨rfl, wd_1635, wd_1637, wd_64, ⟨_, rfl, pd_X12_readHedge⟩, 12, _, TX12, 45, rfl, rfl⟩)⟩
noncomputable def ct_635_4 : CTB2 := [(79, 175, 0, con_550, [0]), (83, 153, 0, con_551, [0]), (83, 153, 0, con_314, [0]), (167, 217, 0, con_634, [0, 2, 1])]
noncomputable def ft_635_4 : CTB2 := [(3, 165, 0, con_362, [0, 1]), (12, 165, 0, con_573, [0, 1]), (49, 165, 0, con_364, [0, 1]), (71, 210, 0, con_574, [0, 1, 2]), (93, 172, 0, con_373, [0, 1]), (160, 172, 0, con_575, [0, 1])]
theorem fto_635_4 (l : Launch) {es : List va_E} (f2 : isFact 2 0 [0, 1] es) (f5 : isFact 5 1 [0, 1] es) (f8 : isFact 8 0 [0, 1] es) (f12 : isFact 12 0 [0, 1] es) : FTOK2 l RX12 vwCl gTbl es ft_635_4 := ft2_cons (fun ec he => hv_362 l (f2 ec he)) ck_RX12_165_362 (ft2_cons (fun ec he => hv_573 l (f5 ec he)) ck_RX12_165_573 (ft2_cons (fun ec he => hv_364 l (f8 ec he)) ck_RX12_165_364 (ft2_cons (fun ec he => hv_574 l (fact_at f2 he (τ := [0, 1]) (by decide) (by decide)) (fact_at f5 he (τ := [0, 1]) (by decide) (by decide)) (fact_at f8 he (τ := [0, 1]) (by decide) (by decide)) (fact_at f12 he (τ := [0, 1]) (by decide) (by decide))) ck_RX12_210_574 (ft2_cons (fun ec he => hv_373 l (fact_at f2 he (τ := [0, 1]) (by decide) (by decide))) ck_RX12_172_373 (ft2_cons (fun ec he => hv_575 l (fact_at f5 he (τ := [0, 1]) (by decide) (by decide))) ck_RX12_172_575 (ft2_nil))))))
noncomputable def cu_635_4 : List CUT2 := []
theorem ch_635_4 : staG tb_X12_readNext 1 bt_RX12 ft_635_4 ct_635_4 [] [] cu_635_4 37 con_635 = true := by decide +kernel
theorem cto_635_4 (l : Launch) : CTOK2 l RX12 vwCl gTbl ct_635_4 := ct2_cons (vl_550 l) ck_RX12_175_550 (ct2_cons (vl_551 l) ck_RX12_153_551 (ct2_cons (vl_314 l) ck_RX12_153_314 (ct2_cons (vl_634 l) ck_RX12_217_634 (ct2_nil))))
noncomputable def ft_635_5 : CTB2 := [(3, 165, 0, con_362, [0, 1]), (12, 165, 0, con_573, [0, 1]), (49, 165, 0, con_364, [0, 1]), (71, 210, 0, con_581, [0, 1, 2]), (93, 172, 0, con_373, [0, 1]), (160, 172, 0, con_575, [0, 1])]
theorem fto_635_5 (l : Launch) {es : List va_E} (f2 : isFact 2 0 [0, 1] es) (f5 : isFact 5 1 [0, 1] es) (f8 : isFact 8 0 [0, 1] es) (f12 : isFact 12 1 [0, 1] es) : FTOK2 l RX12 vwCl gTbl es ft_635_5 := ft2_cons (fun ec he => hv_362 l (f2 ec he)) ck_RX12_165_362 (ft2_cons (fun ec he => hv_573 l (f5 ec he)) ck_RX12_165_573 (ft2_cons (fun ec he => hv_364 l (f8 ec he)) ck_RX12_165_364 (ft2_cons (fun ec he => hv_581 l (fact_at f2 he (τ := [0, 1]) (by decide) (by decide)) (fact_at f5 he (τ := [0, 1]) (by decide) (by decide)) (fact_at f8 he (τ := [0, 1]) (by decide) (by decide)) (fact_at f12 he (τ := [0, 1]) (by decide) (by decide))) ck_RX12_210_581 (ft2_cons (fun ec he => hv_373 l (fact_at f2 he (τ := [0, 1]) (by decide) (by decide))) ck_RX12_172_373 (ft2_cons (fun ec he => hv_575 l (fact_at f5 he (τ := [0, 1]) (by decide) (by decide))) ck_RX12_172_575 (ft2_nil))))))
noncomputable def cu_635_5 : List CUT2 := []
theorem ch_635_5 : staG tb_X12_readNext 1 bt_RX12 ft_635_5 ct_635_4 [] [] cu_635_5 37 con_635 = true := by decide +kernel
noncomputable def ft_635_6 : CTB2 := [(3, 165, 0, con_362, [0, 1]), (12, 165, 0, con_573, [0, 1]), (49, 165, 0, con_548, [0, 1])]
theorem fto_635_6 (l : Launch) {es : List va_E} (f2 : isFact 2 0 [0, 1] es) (f5 : isFact 5 1 [0, 1] es) (f8 : isFact 8 1 [0, 1] es) (f12 : isFact 12 0 [0, 1] es) : FTOK2 l RX12 vwCl gTbl es ft_635_6 := ft2_cons (fun ec he => hv_362 l (f2 ec he)) ck_RX12_165_362 (ft2_cons (fun ec he => hv_573 l (f5 ec he)) ck_RX12_165_573 (ft2_cons (fun ec he => hv_548 l (f8 ec he)) ck_RX12_165_548 (ft2_nil)))
noncomputable def cu_635_6 : List CUT2 := []
theorem ch_635_6 : staG tb_X12_readNext 1 bt_RX12 ft_635_6 ct_610_0 [] [] cu_635_6 34 con_635 = true := by decide +kernel
noncomputable def ft_635_7 : CTB2 := [(3, 165, 0, con_362, [0, 1]), (12, 165, 0, con_573, [0, 1]), (49, 165, 0, con_548, [0, 1])]
theorem fto_635_7 (l : Launch) {es : List va_E} (f2 : isFact 2 0 [0, 1] es) (f5 : isFact 5 1 [0, 1] es) (f8 : isFact 8 1 [0, 1] es) (f12 : isFact 12 1 [0, 1] es) : FTOK2 l RX12 vwCl gTbl es ft_635_7 := ft2_cons (fun ec he => hv_362 l (f2 ec he)) ck_RX12_165_362 (ft2_cons (fun ec he => hv_573 l (f5 ec he)) ck_RX12_165_573 (ft2_cons (fun ec he => hv_548 l (f8 ec he)) ck_RX12_165_548 (ft2_nil)))
noncomputable def cu_635_7 : List CUT2 := []
theorem ch_635_7 : staG tb_X12_readNext 1 bt_RX12 ft_635_7 ct_610_0 [] [] cu_635_7 34 con_635 = true := by decide +kernel
noncomputable def ft_635_8 : CTB2 := [(3, 165, 0, con_584, [0, 1]), (49, 165, 0, con_364, [0, 1]), (71, 210, 0, con_585, [0, 1, 2]), (93, 172, 0, con_586, [0, 1])]
theorem fto_635_8 (l : Launch) {es : List va_E} (f2 : isFact 2 1 [0, 1] es) (f5 : isFact 5 0 [0, 1] es) (f8 : isFact 8 0 [0, 1] es) (f12 : isFact 12 0 [0, 1] es) : FTOK2 l RX12 vwCl gTbl es ft_635_8 := ft2_cons (fun ec he => hv_584 l (f2 ec he)) ck_RX12_165_584 (ft2_cons (fun ec he => hv_364 l (f8 ec he)) ck_RX12_165_364 (ft2_cons (fun ec he => hv_585 l (fact_at f2 he (τ := [0, 1]) (by decide) (by decide)) (fact_at f5 he (τ := [0, 1]) (by decide) (by decide)) (fact_at f8 he (τ := [0, 1]) (by decide) (by decide)) (fact_at f12 he (τ := [0, 1]) (by decide) (by decide))) ck_RX12_210_585 (ft2_cons (fun ec he => hv_586 l (fact_at f2 he (τ := [0, 1]) (by decide) (by decide))) ck_RX12_172_586 (ft2_nil))))
noncomputable def cu_635_8 : List CUT2 := []
theorem ch_635_8 : staG tb_X12_readNext 1 bt_RX12 ft_635_8 ct_610_8 [] [] cu_635_8 64 con_635 = true := by decide +kernel
noncomputable def ft_635_9 : CTB2 := [(3, 165, 0, con_584, [0, 1]), (49, 165, 0, con_364, [0, 1]), (71, 210, 0, con_603, [0, 1, 2]), (93, 172, 0, con_586, [0, 1])]
theorem fto_635_9 (l : Launch) {es : List va_E} (f2 : isFact 2 1 [0, 1] es) (f5 : isFact 5 0 [0, 1] es) (f8 : isFact 8 0 [0, 1] es) (f12 : isFact 12 1 [0, 1] es) : FTOK2 l RX12 vwCl gTbl es ft_635_9 := ft2_cons (fun ec he => hv_584 l (f2 ec he)) ck_RX12_165_584 (ft2_cons (fun ec he => hv_364 l (f8 ec he)) ck_RX12_165_364 (ft2_cons (fun ec he => hv_603 l (fact_at f2 he (τ := [0, 1]) (by decide) (by decide)) (fact_at f5 he (τ := [0, 1]) (by decide) (by decide)) (fact_at f8 he (τ := [0, 1]) (by decide) (by decide)) (fact_at f12 he (τ := [0, 1]) (by decide) (by decide))) ck_RX12_210_603 (ft2_cons (fun ec he => hv_586 l (fact_at f2 he (τ := [0, 1]) (by decide) (by decide))) ck_RX12_172_586 (ft2_nil))))
noncomputable def cu_635_9 : List CUT2 := []
theorem ch_635_9 : staG tb_X12_readNext 1 bt_RX12 ft_635_9 ct_610_8 [] [] cu_635_9 64 con_635 = true := by decide +kernel
noncomputable def ft_635_10 : CTB2 := [(3, 165, 0, con_584, [0, 1]), (49, 165, 0, con_548, [0, 1])]
theorem fto_635_10 (l : Launch) {es : List va_E} (f2 : isFact 2 1 [0, 1] es) (f5 : isFact 5 0 [0, 1] es) (f8 : isFact 8 1 [0, 1] es) (f12 : isFact 12 0 [0, 1] es) : FTOK2 l RX12 vwCl gTbl es ft_635_10 := ft2_cons (fun ec he => hv_584 l (f2 ec he)) ck_RX12_165_584 (ft2_cons (fun ec he => hv_548 l (f8 ec he)) ck_RX12_165_548 (ft2_nil))
noncomputable def cu_635_10 : List CUT2 := []
theorem ch_635_10 : staG tb_X12_readNext 1 bt_RX12 ft_635_10 ct_610_0 [] [] cu_635_10 30 con_635 = true := by decide +kernel
noncomputable def ft_635_11 : CTB2 := [(3, 165, 0, con_584, [0, 1]), (49, 165, 0, con_548, [0, 1])]
theorem fto_635_11 (l : Launch) {es : List va_E} (f2 : isFact 2 1 [0, 1] es) (f5 : isFact 5 0 [0, 1] es) (f8 : isFact 8 1 [0, 1] es) (f12 : isFact 12 1 [0, 1] es) : FTOK2 l RX12 vwCl gTbl es ft_635_11 := ft2_cons (fun ec he => hv_584 l (f2 ec he)) ck_RX12_165_584 (ft2_cons (fun ec he => hv_548 l (f8 ec he)) ck_RX12_165_548 (ft2_nil))
noncomputable def cu_635_11 : List CUT2 := []
theorem ch_635_11 : staG tb_X12_readNext 1 bt_RX12 ft_635_11 ct_610_0 [] [] cu_635_11 30 con_635 = true := by decide +kernel
noncomputable def ft_635_12 : CTB2 := [(3, 165, 0, con_584, [0, 1]), (49, 165, 0, con_364, [0, 1]), (71, 210, 0, con_606, [0, 1, 2]), (93, 172, 0, con_586, [0, 1])]
theorem fto_635_12 (l : Launch) {es : List va_E} (f2 : isFact 2 1 [0, 1] es) (f5 : isFact 5 1 [0, 1] es) (f8 : isFact 8 0 [0, 1] es) (f12 : isFact 12 0 [0, 1] es) : FTOK2 l RX12 vwCl gTbl es ft_635_12 := ft2_cons (fun ec he => hv_584 l (f2 ec he)) ck_RX12_165_584 (ft2_cons (fun ec he => hv_364 l (f8 ec he)) ck_RX12_165_364 (ft2_cons (fun ec he => hv_606 l (fact_at f2 he (τ := [0, 1]) (by decide) (by decide)) (fact_at f5 he (τ := [0, 1]) (by decide) (by decide)) (fact_at f8 he (τ := [0, 1]) (by decide) (by decide)) (fact_at f12 he (τ := [0, 1]) (by decide) (by decide))) ck_RX12_210_606 (ft2_cons (fun ec he => hv_586 l (fact_at f2 he (τ := [0, 1]) (by decide) (by decide))) ck_RX12_172_586 (ft2_nil))))
noncomputable def cu_635_12 : List CUT2 := []
theorem ch_635_12 : staG tb_X12_readNext 1 bt_RX12 ft_635_12 ct_610_8 [] [] cu_635_12 64 con_635 = true := by decide +kernel
noncomputable def ft_635_13 : CTB2 := [(3, 165, 0, con_584, [0, 1]), (49, 165, 0, con_364, [0, 1]), (71, 210, 0, con_607, [0, 1, 2]), (93, 172, 0, con_586, [0, 1])]
theorem fto_635_13 (l : Launch) {es : List va_E} (f2 : isFact 2 1 [0, 1] es) (f5 : isFact 5 1 [0, 1] es) (f8 : isFact 8 0 [0, 1] es) (f12 : isFact 12 1 [0, 1] es) : FTOK2 l RX12 vwCl gTbl es ft_635_13 := ft2_cons (fun ec he => hv_584 l (f2 ec he)) ck_RX12_165_584 (ft2_cons (fun ec he => hv_364 l (f8 ec he)) ck_RX12_165_364 (ft2_cons (fun ec he => hv_607 l (fact_at f2 he (τ := [0, 1]) (by decide) (by decide)) (fact_at f5 he (τ := [0, 1]) (by decide) (by decide)) (fact_at f8 he (τ := [0, 1]) (by decide) (by decide)) (fact_at f12 he (τ := [0, 1]) (by decide) (by decide))) ck_RX12_210_607 (ft2_cons (fun ec he => hv_586 l (fact_at f2 he (τ := [0, 1]) (by decide) (by decide))) ck_RX12_172_586 (ft2_nil))))
noncomputable def cu_635_13 : List CUT2 := []
theorem ch_635_13 : staG tb_X12_readNext 1 bt_RX12 ft_635_13 ct_610_8 [] [] cu_635_13 64 con_635 = true := by decide +kernel
noncomputable def ft_635_14 : CTB2 := [(3, 165, 0, con_584, [0, 1]), (49, 165, 0, con_548, [0, 1])]
theorem fto_635_14 (l : Launch) {es : List va_E} (f2 : isFact 2 1 [0, 1] es) (f5 : isFact 5 1 [0, 1] es) (f8 : isFact 8 1 [0, 1] es) (f12 : isFact 12 0 [0, 1] es) : FTOK2 l RX12 vwCl gTbl es ft_635_14 := ft2_cons (fun ec he => hv_584 l (f2 ec he)) ck_RX12_165_584 (ft2_cons (fun ec he => hv_548 l (f8 ec he)) ck_RX12_165_548 (ft2_nil))
noncomputable def cu_635_14 : List CUT2 := []
theorem ch_635_14 : staG tb_X12_readNext 1 bt_RX12 ft_635_14 ct_610_0 [] [] cu_635_14 30 con_635 = true := by decide +kernel
noncomputable def ft_635_15 : CTB2 := [(3, 165, 0, con_584, [0, 1]), (49, 165, 0, con_548, [0, 1])]
theorem fto_635_15 (l : Launch) {es : List va_E} (f2 : isFact 2 1 [0, 1] es) (f5 : isFact 5 1 [0, 1] es) (f8 : isFact 8 1 [0, 1] es) (f12 : isFact 12 1 [0, 1] es) : FTOK2 l RX12 vwCl gTbl es ft_635_15 := ft2_cons (fun ec he => hv_584 l (f2 ec he)) ck_RX12_165_584 (ft2_cons (fun ec he => hv_548 l (f8 ec he)) ck_RX12_165_548 (ft2_nil))
noncomputable def cu_635_15 : List CUT2 := []
theorem ch_635_15 : staG tb_X12_readNext 1 bt_RX12 ft_635_15 ct_610_0 [] [] cu_635_15 30 con_635 = true := by decide +kernel
theorem vl_635 (l : Launch) : Vld2 l vwCl gTbl con_635 := fun es => by
  rcases fact_or 2 [0, 1] es with f2 | f2 <;> rcases fact_or 5 [0, 1] es with f5 | f5 <;> rcases fact_or 8 [0, 1] es with f8 | f8 <;> rcases fact_or 12 [0, 1] es with f12 | f12
  · exact conE_ok3 gT_all (hd_635) rfl pn_RX12 tk_X12_readNext bo_RX12 xo_RX12 (fto_635_0 l f2 f5 f8 f12) (cto_610_0 l) ch_635_0 cut_nil
  · exact conE_ok3 gT_all (hd_635) rfl pn_RX12 tk_X12_readNext bo_RX12 xo_RX12 (fto_635_1 l f2 f5 f8 f12) (cto_635_1 l) ch_635_1 cut_nil
  · exact conE_ok3 gT_all (hd_635) rfl pn_RX12 tk_X12_readNext bo_RX12 xo_RX12 (fto_635_2 l f2 f5 f8 f12) (cto_610_0 l) ch_635_2 cut_nil
  · exact conE_ok3 gT_all (hd_635) rfl pn_RX12 tk_X12_readNext bo_RX12 xo_RX12 (fto_635_3 l f2 f5 f8 f12) (cto_610_0 l) ch_635_3 cut_nil
  · exact conE_ok3 gT_all (hd_635) rfl pn_RX12 tk_X12_readNext bo_RX12 xo_RX12 (fto_635_4 l f2 f5 f8 f12) (cto_635_4 l) ch_635_4 cut_nil
  · exact conE_ok3 gT_all (hd_635) rfl pn_RX12 tk_X12_readNext bo_RX12 xo_RX12 (fto_635_5 l f2 f5 f8 f12) (cto_635_4 l) ch_635_5 cut_nil
  · exact conE_ok3 gT_all (hd_635) rfl pn_RX12 tk_X12_readNext bo_RX12 xo_RX12 (fto_635_6 l f2 f5 f8 f12) (cto_610_0 l) ch_635_6 cut_nil
  · exact conE_ok3 gT_all (hd_635) rfl pn_RX12 tk_X12_readNext bo_RX12 xo_RX12 (fto_635_7 l f2 f5 f8 f12) (cto_610_0 l) ch_635_7 cut_nil
  · exact conE_ok3 gT_all (hd_635) rfl pn_RX12 tk_X12_readNext bo_RX12 xo_RX12 (fto_635_8 l f2 f5 f8 f12) (cto_610_8 l) ch_635_8 cut_nil
  · exact conE_ok3 gT_all (hd_635) rfl pn_RX12 tk_X12_readNext bo_RX12 xo_RX12 (fto_635_9 l f2 f5 f8 f12) (cto_610_8 l) ch_635_9 cut_nil
  · exact conE_ok3 gT_all (hd_635) rfl pn_RX12 tk_X12_readNext bo_RX12 xo_RX12 (fto_635_10 l f2 f5 f8 f12) (cto_610_0 l) ch_635_10 cut_nil
  · exact conE_ok3 gT_all (hd_635) rfl pn_RX12 tk_X12_readNext bo_RX12 xo_RX12 (fto_635_11 l f2 f5 f8 f12) (cto_610_0 l) ch_635_11 cut_nil
  · exact conE_ok3 gT_all (hd_635) rfl pn_RX12 tk_X12_readNext bo_RX12 xo_RX12 (fto_635_12 l f2 f5 f8 f12) (cto_610_8 l) ch_635_12 cut_nil
  · exact conE_ok3 gT_all (hd_635) rfl pn_RX12 tk_X12_readNext bo_RX12 xo_RX12 (fto_635_13 l f2 f5 f8 f12) (cto_610_8 l) ch_635_13 cut_nil
  · exact conE_ok3 gT_all (hd_635) rfl pn_RX12 tk_X12_readNext bo_RX12 xo_RX12 (fto_635_14 l f2 f5 f8 f12) (cto_610_0 l) ch_635_14 cut_nil
  · exact conE_ok3 gT_all (hd_635) rfl pn_RX12 tk_X12_readNext bo_RX12 xo_RX12 (fto_635_15 l f2 f5 f8 f12) (cto_610_0 l) ch_635_15 cut_nil
/-- RookHustingModel readLine -/
noncomputable def ac_404 : AC := .inr (1, jl_n [sp_68, jl_x (1, (0, 6, 0)), sp_93, sp_105])
noncomputable def hq_422 : HP := [(true, ac_149), (true, ac_404), (false, am_2)]
noncomputable def ac_405 : AC := .inr (1, jl_n [js_1 52 6, jl_x (1, (0, 7, 0)), sp_93, sp_71, sp_17, jl_x (30, (0, 0, 0))])
noncomputable def hq_423 : HP := [(true, ac_194), (true, ac_405), (false, am_2)]
noncomputable def ac_406 : AC := .inr (1, jl_n [sp_23, sp_47, sp_20])
noncomputable def hq_424 : HP := [(true, ac_149), (true, ac_406), (false, am_2)]
noncomputable def hq_425 : HP := [(true, ac_151), (true, ac_404), (false, am_2)]
noncomputable def hq_426 : HP := [(true, ac_151), (true, ac_405), (false, am_2)]
noncomputable def con_636 : Con2 := ((yX12_readLine, cX12_readLine, 1, none), (14, 334), ([(6, 0, 0)], gi_215, [ac_148, ac_372, am_2], []), [((9, 0, 0), gi_276, hq_422, [], tg_11), ((9, 0, 0), gi_274, hq_423, [], tg_11), ((9, 0, 0), gi_282, hq_424, [], tg_11), ((9, 0, 0), gi_277, hq_425, [([(49, (-1)), (50, (-1)), (117, 1), (118, 1)], (-1))], tg_11), ((9, 0, 0), gi_271, hq_426, [], tg_11)])
theorem hd_636 : con_636.1 = (yX12_readLine, cX12_readLine, 1, none) := rfl
theorem ck_RX12_230_635 : COK2 RX12 vwCl gTbl 230 0 con_635 := ⟨wd_1624, wd_137, mh_X12_readNext, .inr (.inr ⟨rfl, wd_1621, wd_1623, wd_62, ⟨_, rfl, pd_X12_readNext⟩, 12, _, TX12, 45, rfl, rfl⟩)⟩
noncomputable def ct_636 : CTB2 := [(18, 230, 0, con_635, [0, 2, 1]), (22, 153, 0, con_314, [0]), (22, 153, 0, con_343, [0]), (22, 153, 0, con_611, [0]), (38, 175, 0, con_317, [0]), (42, 153, 0, con_322, [0]), (42, 153, 0, con_314, [0]), (42, 153, 0, con_343, [0]), (42, 153, 0, con_611, [0]), (49, 169, 0, con_313, [0, 2])]
noncomputable def cu_636 : List CUT2 := []
theorem ch_636 : staG tb_X12_readLine 1 bt_RX12 [] ct_636 [] [] cu_636 31 con_636 = true := by decide +kernel
theorem cto_636 (l : Launch) : CTOK2 l RX12 vwCl gTbl ct_636 := ct2_cons (vl_635 l) ck_RX12_230_635 (ct2_cons (vl_314 l) ck_RX12_153_314 (ct2_cons (vl_343 l) ck_RX12_153_343 (ct2_cons (vl_611 l) ck_RX12_153_611 (ct2_cons (vl_317 l) ck_RX12_175_317 (ct2_cons (vl_322 l) ck_RX12_153_322 (ct2_cons (vl_314 l) ck_RX12_153_314 (ct2_cons (vl_343 l) ck_RX12_153_343 (ct2_cons (vl_611 l) ck_RX12_153_611 (ct2_cons (vl_313 l) ck_RX12_169_313 (ct2_nil))))))))))
theorem vl_636 (l : Launch) : Vld2 l vwCl gTbl con_636 := conR_ok3 gT_all (hd_636) rfl pn_RX12 tk_X12_readLine bo_RX12 xo_RX12 (cto_636 l) ch_636 cut_nil
/-- RookHustingModel readHedge -/
noncomputable def ac_407 : AC := .inr (1, jl_n [js_1 52 6, sp_116, sp_115])
noncomputable def ac_408 : AC := .inr (1, jl_n [sp_46, sp_116, sp_115])
noncomputable def hq_427 : HP := [(true, ac_149), (true, ac_408), (false, am_2)]
noncomputable def hq_428 : HP := [(true, ac_151), (true, ac_408), (false, am_2)]
noncomputable def con_637 : Con2 := ((yX12_readHedge, cX12_readHedge, 2, none), (3, 69), ([(6, 0, 0)], gi_215, [ac_148, ac_407, am_2], []), [((9, 0, 0), gi_253, hq_427, [], tg_11), ((9, 0, 0), gi_254, hq_428, [], tg_11)])
theorem hd_637 : con_637.1 = (yX12_readHedge, cX12_readHedge, 2, none) := rfl
noncomputable def cu_637 : List CUT2 := []
theorem ch_637 : staG tb_X12_readHedge 1 bt_RX12 [] ct_580 [] [] cu_637 65 con_637 = true := by decide +kernel
theorem vl_637 (l : Launch) : Vld2 l vwCl gTbl con_637 := conR_ok3 gT_all (hd_637) rfl pn_RX12 tk_X12_readHedge bo_RX12 xo_RX12 (cto_580 l) ch_637 cut_nil
/-- RookHustingModel readNext -/
noncomputable def ac_409 : AC := .inr (1, jl_n [sp_68, sp_116, sp_115])
noncomputable def hq_429 : HP := [(true, ac_144), (false, am_2), (true, ac_409)]
noncomputable def hq_430 : HP := [(true, ac_146), (false, am_2), (true, ac_409)]
noncomputable def con_638 : Con2 := ((yX12_readNext, cX12_readNext, 3, none), (12, 289), ([(6, 0, 0)], gi_215, [ac_142, am_2, ac_407], []), [((9, 0, 0), gi_276, hq_429, [], tg_11), ((9, 0, 0), gi_277, hq_430, [([(49, (-1)), (50, (-1)), (117, 1), (118, 1)], (-1))], tg_11)])
theorem hd_638 : con_638.1 = (yX12_readNext, cX12_readNext, 3, none) := rfl
noncomputable def ft_638_0 : CTB2 := [(3, 165, 0, con_362, [0, 1]), (12, 165, 0, con_363, [0, 1]), (21, 165, 0, con_364, [0, 1]), (30, 165, 0, con_365, [0, 1])]
theorem fto_638_0 (l : Launch) {es : List va_E} (f2 : isFact 2 0 [0, 1] es) (f5 : isFact 5 0 [0, 1] es) (f8 : isFact 8 0 [0, 1] es) (f12 : isFact 12 0 [0, 1] es) : FTOK2 l RX12 vwCl gTbl es ft_638_0 := ft2_cons (fun ec he => hv_362 l (f2 ec he)) ck_RX12_165_362 (ft2_cons (fun ec he => hv_363 l (f5 ec he)) ck_RX12_165_363 (ft2_cons (fun ec he => hv_364 l (f8 ec he)) ck_RX12_165_364 (ft2_cons (fun ec he => hv_365 l (f12 ec he)) ck_RX12_165_365 (ft2_nil))))
noncomputable def cu_638_0 : List CUT2 := []
theorem ch_638_0 : staG tb_X12_readNext 1 bt_RX12 ft_638_0 ct_610_0 [] [] cu_638_0 32 con_638 = true := by decide +kernel
noncomputable def ct_638_1 : CTB2 := [(79, 175, 0, con_550, [0]), (83, 153, 0, con_551, [0])]
noncomputable def ft_638_1 : CTB2 := [(3, 165, 0, con_362, [0, 1]), (12, 165, 0, con_363, [0, 1]), (21, 165, 0, con_364, [0, 1]), (30, 165, 0, con_371, [0, 1]), (49, 165, 0, con_364, [0, 1]), (71, 210, 0, con_372, [0, 1, 2])]
theorem fto_638_1 (l : Launch) {es : List va_E} (f2 : isFact 2 0 [0, 1] es) (f5 : isFact 5 0 [0, 1] es) (f8 : isFact 8 0 [0, 1] es) (f12 : isFact 12 1 [0, 1] es) : FTOK2 l RX12 vwCl gTbl es ft_638_1 := ft2_cons (fun ec he => hv_362 l (f2 ec he)) ck_RX12_165_362 (ft2_cons (fun ec he => hv_363 l (f5 ec he)) ck_RX12_165_363 (ft2_cons (fun ec he => hv_364 l (f8 ec he)) ck_RX12_165_364 (ft2_cons (fun ec he => hv_371 l (f12 ec he)) ck_RX12_165_371 (ft2_cons (fun ec he => hv_364 l (f8 ec he)) ck_RX12_165_364 (ft2_cons (fun ec he => hv_372 l (fact_at f2 he (τ := [0, 1]) (by decide) (by decide)) (fact_at f5 he (τ := [0, 1]) (by decide) (by decide)) (fact_at f8 he (τ := [0, 1]) (by decide) (by decide)) (fact_at f12 he (τ := [0, 1]) (by decide) (by decide))) ck_RX12_210_372 (ft2_nil))))))
noncomputable def cu_638_1 : List CUT2 := []
theorem ch_638_1 : staG tb_X12_readNext 1 bt_RX12 ft_638_1 ct_638_1 [] [] cu_638_1 37 con_638 = true := by decide +kernel
theorem cto_638_1 (l : Launch) : CTOK2 l RX12 vwCl gTbl ct_638_1 := ct2_cons (vl_550 l) ck_RX12_175_550 (ct2_cons (vl_551 l) ck_RX12_153_551 (ct2_nil))
noncomputable def ft_638_2 : CTB2 := [(3, 165, 0, con_362, [0, 1]), (12, 165, 0, con_363, [0, 1]), (21, 165, 0, con_548, [0, 1]), (49, 165, 0, con_548, [0, 1])]
theorem fto_638_2 (l : Launch) {es : List va_E} (f2 : isFact 2 0 [0, 1] es) (f5 : isFact 5 0 [0, 1] es) (f8 : isFact 8 1 [0, 1] es) (f12 : isFact 12 0 [0, 1] es) : FTOK2 l RX12 vwCl gTbl es ft_638_2 := ft2_cons (fun ec he => hv_362 l (f2 ec he)) ck_RX12_165_362 (ft2_cons (fun ec he => hv_363 l (f5 ec he)) ck_RX12_165_363 (ft2_cons (fun ec he => hv_548 l (f8 ec he)) ck_RX12_165_548 (ft2_cons (fun ec he => hv_548 l (f8 ec he)) ck_RX12_165_548 (ft2_nil))))
noncomputable def cu_638_2 : List CUT2 := []
theorem ch_638_2 : staG tb_X12_readNext 1 bt_RX12 ft_638_2 ct_610_0 [] [] cu_638_2 38 con_638 = true := by decide +kernel
noncomputable def ft_638_3 : CTB2 := [(3, 165, 0, con_362, [0, 1]), (12, 165, 0, con_363, [0, 1]), (21, 165, 0, con_548, [0, 1]), (49, 165, 0, con_548, [0, 1])]
theorem fto_638_3 (l : Launch) {es : List va_E} (f2 : isFact 2 0 [0, 1] es) (f5 : isFact 5 0 [0, 1] es) (f8 : isFact 8 1 [0, 1] es) (f12 : isFact 12 1 [0, 1] es) : FTOK2 l RX12 vwCl gTbl es ft_638_3 := ft2_cons (fun ec he => hv_362 l (f2 ec he)) ck_RX12_165_362 (ft2_cons (fun ec he => hv_363 l (f5 ec he)) ck_RX12_165_363 (ft2_cons (fun ec he => hv_548 l (f8 ec he)) ck_RX12_165_548 (ft2_cons (fun ec he => hv_548 l (f8 ec he)) ck_RX12_165_548 (ft2_nil))))
noncomputable def cu_638_3 : List CUT2 := []
theorem ch_638_3 : staG tb_X12_readNext 1 bt_RX12 ft_638_3 ct_610_0 [] [] cu_638_3 38 con_638 = true := by decide +kernel
theorem ck_RX12_217_637 : COK2 RX12 vwCl gTbl 217 0 con_637 := ⟨wd_1638, wd_137, mh_X12_readHedge, .inr (.inr ⟨rfl, wd_1635, wd_1637, wd_64, ⟨_, rfl, pd_X12_readHedge⟩, 12, _, TX12, 45, rfl, rfl⟩)⟩
noncomputable def ct_638_4 : CTB2 := [(79, 175, 0, con_550, [0]), (83, 153, 0, con_551, [0]), (83, 153, 0, con_314, [0]), (167, 217, 0, con_637, [0, 2, 1])]
noncomputable def ft_638_4 : CTB2 := [(3, 165, 0, con_362, [0, 1]), (12, 165, 0, con_573, [0, 1]), (49, 165, 0, con_364, [0, 1]), (71, 210, 0, con_574, [0, 1, 2]), (93, 172, 0, con_373, [0, 1]), (160, 172, 0, con_575, [0, 1])]
theorem fto_638_4 (l : Launch) {es : List va_E} (f2 : isFact 2 0 [0, 1] es) (f5 : isFact 5 1 [0, 1] es) (f8 : isFact 8 0 [0, 1] es) (f12 : isFact 12 0 [0, 1] es) : FTOK2 l RX12 vwCl gTbl es ft_638_4 := ft2_cons (fun ec he => hv_362 l (f2 ec he)) ck_RX12_165_362 (ft2_cons (fun ec he => hv_573 l (f5 ec he)) ck_RX12_165_573 (ft2_cons (fun ec he => hv_364 l (f8 ec he)) ck_RX12_165_364 (ft2_cons (fun ec he => hv_574 l (fact_at f2 he (τ := [0, 1]) (by decide) (by decide)) (fact_at f5 he (τ := [0, 1]) (by decide) (by decide)) (fact_at f8 he (τ := [0, 1]) (by decide) (by decide)) (fact_at f12 he (τ := [0, 1]) (by decide) (by decide))) ck_RX12_210_574 (ft2_cons (fun ec he => hv_373 l (fact_at f2 he (τ := [0, 1]) (by decide) (by decide))) ck_RX12_172_373 (ft2_cons (fun ec he => hv_575 l (fact_at f5 he (τ := [0, 1]) (by decide) (by decide))) ck_RX12_172_575 (ft2_nil))))))
noncomputable def cu_638_4 : List CUT2 := []
theorem ch_638_4 : staG tb_X12_readNext 1 bt_RX12 ft_638_4 ct_638_4 [] [] cu_638_4 37 con_638 = true := by decide +kernel
theorem cto_638_4 (l : Launch) : CTOK2 l RX12 vwCl gTbl ct_638_4 := ct2_cons (vl_550 l) ck_RX12_175_550 (ct2_cons (vl_551 l) ck_RX12_153_551 (ct2_cons (vl_314 l) ck_RX12_153_314 (ct2_cons (vl_637 l) ck_RX12_217_637 (ct2_nil))))
noncomputable def ft_638_5 : CTB2 := [(3, 165, 0, con_362, [0, 1]), (12, 165, 0, con_573, [0, 1]), (49, 165, 0, con_364, [0, 1]), (71, 210, 0, con_581, [0, 1, 2])]
theorem fto_638_5 (l : Launch) {es : List va_E} (f2 : isFact 2 0 [0, 1] es) (f5 : isFact 5 1 [0, 1] es) (f8 : isFact 8 0 [0, 1] es) (f12 : isFact 12 1 [0, 1] es) : FTOK2 l RX12 vwCl gTbl es ft_638_5 := ft2_cons (fun ec he => hv_362 l (f2 ec he)) ck_RX12_165_362 (ft2_cons (fun ec he => hv_573 l (f5 ec he)) ck_RX12_165_573 (ft2_cons (fun ec he => hv_364 l (f8 ec he)) ck_RX12_165_364 (ft2_cons (fun ec he => hv_581 l (fact_at f2 he (τ := [0, 1]) (by decide) (by decide)) (fact_at f5 he (τ := [0, 1]) (by decide) (by decide)) (fact_at f8 he (τ := [0, 1]) (by decide) (by decide)) (fact_at f12 he (τ := [0, 1]) (by decide) (by decide))) ck_RX12_210_581 (ft2_nil))))
noncomputable def cu_638_5 : List CUT2 := []
theorem ch_638_5 : staG tb_X12_readNext 1 bt_RX12 ft_638_5 ct_638_1 [] [] cu_638_5 29 con_638 = true := by decide +kernel
noncomputable def ft_638_6 : CTB2 := [(3, 165, 0, con_362, [0, 1]), (12, 165, 0, con_573, [0, 1]), (49, 165, 0, con_548, [0, 1])]
theorem fto_638_6 (l : Launch) {es : List va_E} (f2 : isFact 2 0 [0, 1] es) (f5 : isFact 5 1 [0, 1] es) (f8 : isFact 8 1 [0, 1] es) (f12 : isFact 12 0 [0, 1] es) : FTOK2 l RX12 vwCl gTbl es ft_638_6 := ft2_cons (fun ec he => hv_362 l (f2 ec he)) ck_RX12_165_362 (ft2_cons (fun ec he => hv_573 l (f5 ec he)) ck_RX12_165_573 (ft2_cons (fun ec he => hv_548 l (f8 ec he)) ck_RX12_165_548 (ft2_nil)))
noncomputable def cu_638_6 : List CUT2 := []
theorem ch_638_6 : staG tb_X12_readNext 1 bt_RX12 ft_638_6 ct_610_0 [] [] cu_638_6 34 con_638 = true := by decide +kernel
noncomputable def ft_638_7 : CTB2 := [(3, 165, 0, con_362, [0, 1]), (12, 165, 0, con_573, [0, 1]), (49, 165, 0, con_548, [0, 1])]
theorem fto_638_7 (l : Launch) {es : List va_E} (f2 : isFact 2 0 [0, 1] es) (f5 : isFact 5 1 [0, 1] es) (f8 : isFact 8 1 [0, 1] es) (f12 : isFact 12 1 [0, 1] es) : FTOK2 l RX12 vwCl gTbl es ft_638_7 := ft2_cons (fun ec he => hv_362 l (f2 ec he)) ck_RX12_165_362 (ft2_cons (fun ec he => hv_573 l (f5 ec he)) ck_RX12_165_573 (ft2_cons (fun ec he => hv_548 l (f8 ec he)) ck_RX12_165_548 (ft2_nil)))
noncomputable def cu_638_7 : List CUT2 := []
theorem ch_638_7 : staG tb_X12_readNext 1 bt_RX12 ft_638_7 ct_610_0 [] [] cu_638_7 34 con_638 = true := by decide +kernel
noncomputable def ft_638_8 : CTB2 := [(3, 165, 0, con_584, [0, 1]), (49, 165, 0, con_364, [0, 1]), (71, 210, 0, con_585, [0, 1, 2]), (93, 172, 0, con_586, [0, 1])]
theorem fto_638_8 (l : Launch) {es : List va_E} (f2 : isFact 2 1 [0, 1] es) (f5 : isFact 5 0 [0, 1] es) (f8 : isFact 8 0 [0, 1] es) (f12 : isFact 12 0 [0, 1] es) : FTOK2 l RX12 vwCl gTbl es ft_638_8 := ft2_cons (fun ec he => hv_584 l (f2 ec he)) ck_RX12_165_584 (ft2_cons (fun ec he => hv_364 l (f8 ec he)) ck_RX12_165_364 (ft2_cons (fun ec he => hv_585 l (fact_at f2 he (τ := [0, 1]) (by decide) (by decide)) (fact_at f5 he (τ := [0, 1]) (by decide) (by decide)) (fact_at f8 he (τ := [0, 1]) (by decide) (by decide)) (fact_at f12 he (τ := [0, 1]) (by decide) (by decide))) ck_RX12_210_585 (ft2_cons (fun ec he => hv_586 l (fact_at f2 he (τ := [0, 1]) (by decide) (by decide))) ck_RX12_172_586 (ft2_nil))))
noncomputable def cu_638_8 : List CUT2 := []
theorem ch_638_8 : staG tb_X12_readNext 1 bt_RX12 ft_638_8 ct_610_8 [] [] cu_638_8 64 con_638 = true := by decide +kernel
noncomputable def ft_638_9 : CTB2 := [(3, 165, 0, con_584, [0, 1]), (49, 165, 0, con_364, [0, 1]), (71, 210, 0, con_603, [0, 1, 2])]
theorem fto_638_9 (l : Launch) {es : List va_E} (f2 : isFact 2 1 [0, 1] es) (f5 : isFact 5 0 [0, 1] es) (f8 : isFact 8 0 [0, 1] es) (f12 : isFact 12 1 [0, 1] es) : FTOK2 l RX12 vwCl gTbl es ft_638_9 := ft2_cons (fun ec he => hv_584 l (f2 ec he)) ck_RX12_165_584 (ft2_cons (fun ec he => hv_364 l (f8 ec he)) ck_RX12_165_364 (ft2_cons (fun ec he => hv_603 l (fact_at f2 he (τ := [0, 1]) (by decide) (by decide)) (fact_at f5 he (τ := [0, 1]) (by decide) (by decide)) (fact_at f8 he (τ := [0, 1]) (by decide) (by decide)) (fact_at f12 he (τ := [0, 1]) (by decide) (by decide))) ck_RX12_210_603 (ft2_nil)))
noncomputable def cu_638_9 : List CUT2 := []
theorem ch_638_9 : staG tb_X12_readNext 1 bt_RX12 ft_638_9 ct_638_1 [] [] cu_638_9 25 con_638 = true := by decide +kernel
noncomputable def ft_638_10 : CTB2 := [(3, 165, 0, con_584, [0, 1]), (49, 165, 0, con_548, [0, 1])]
theorem fto_638_10 (l : Launch) {es : List va_E} (f2 : isFact 2 1 [0, 1] es) (f5 : isFact 5 0 [0, 1] es) (f8 : isFact 8 1 [0, 1] es) (f12 : isFact 12 0 [0, 1] es) : FTOK2 l RX12 vwCl gTbl es ft_638_10 := ft2_cons (fun ec he => hv_584 l (f2 ec he)) ck_RX12_165_584 (ft2_cons (fun ec he => hv_548 l (f8 ec he)) ck_RX12_165_548 (ft2_nil))
noncomputable def cu_638_10 : List CUT2 := []
theorem ch_638_10 : staG tb_X12_readNext 1 bt_RX12 ft_638_10 ct_610_0 [] [] cu_638_10 30 con_638 = true := by decide +kernel
noncomputable def ft_638_11 : CTB2 := [(3, 165, 0, con_584, [0, 1]), (49, 165, 0, con_548, [0, 1])]
theorem fto_638_11 (l : Launch) {es : List va_E} (f2 : isFact 2 1 [0, 1] es) (f5 : isFact 5 0 [0, 1] es) (f8 : isFact 8 1 [0, 1] es) (f12 : isFact 12 1 [0, 1] es) : FTOK2 l RX12 vwCl gTbl es ft_638_11 := ft2_cons (fun ec he => hv_584 l (f2 ec he)) ck_RX12_165_584 (ft2_cons (fun ec he => hv_548 l (f8 ec he)) ck_RX12_165_548 (ft2_nil))
noncomputable def cu_638_11 : List CUT2 := []
theorem ch_638_11 : staG tb_X12_readNext 1 bt_RX12 ft_638_11 ct_610_0 [] [] cu_638_11 30 con_638 = true := by decide +kernel
noncomputable def ft_638_12 : CTB2 := [(3, 165, 0, con_584, [0, 1]), (49, 165, 0, con_364, [0, 1]), (71, 210, 0, con_606, [0, 1, 2]), (93, 172, 0, con_586, [0, 1])]
theorem fto_638_12 (l : Launch) {es : List va_E} (f2 : isFact 2 1 [0, 1] es) (f5 : isFact 5 1 [0, 1] es) (f8 : isFact 8 0 [0, 1] es) (f12 : isFact 12 0 [0, 1] es) : FTOK2 l RX12 vwCl gTbl es ft_638_12 := ft2_cons (fun ec he => hv_584 l (f2 ec he)) ck_RX12_165_584 (ft2_cons (fun ec he => hv_364 l (f8 ec he)) ck_RX12_165_364 (ft2_cons (fun ec he => hv_606 l (fact_at f2 he (τ := [0, 1]) (by decide) (by decide)) (fact_at f5 he (τ := [0, 1]) (by decide) (by decide)) (fact_at f8 he (τ := [0, 1]) (by decide) (by decide)) (fact_at f12 he (τ := [0, 1]) (by decide) (by decide))) ck_RX12_210_606 (ft2_cons (fun ec he => hv_586 l (fact_at f2 he (τ := [0, 1]) (by decide) (by decide))) ck_RX12_172_586 (ft2_nil))))
noncomputable def cu_638_12 : List CUT2 := []
theorem ch_638_12 : staG tb_X12_readNext 1 bt_RX12 ft_638_12 ct_610_8 [] [] cu_638_12 64 con_638 = true := by decide +kernel
noncomputable def ft_638_13 : CTB2 := [(3, 165, 0, con_584, [0, 1]), (49, 165, 0, con_364, [0, 1]), (71, 210, 0, con_607, [0, 1, 2])]
theorem fto_638_13 (l : Launch) {es : List va_E} (f2 : isFact 2 1 [0, 1] es) (f5 : isFact 5 1 [0, 1] es) (f8 : isFact 8 0 [0, 1] es) (f12 : isFact 12 1 [0, 1] es) : FTOK2 l RX12 vwCl gTbl es ft_638_13 := ft2_cons (fun ec he => hv_584 l (f2 ec he)) ck_RX12_165_584 (ft2_cons (fun ec he => hv_364 l (f8 ec he)) ck_RX12_165_364 (ft2_cons (fun ec he => hv_607 l (fact_at f2 he (τ := [0, 1]) (by decide) (by decide)) (fact_at f5 he (τ := [0, 1]) (by decide) (by decide)) (fact_at f8 he (τ := [0, 1]) (by decide) (by decide)) (fact_at f12 he (τ := [0, 1]) (by decide) (by decide))) ck_RX12_210_607 (ft2_nil)))
noncomputable def cu_638_13 : List CUT2 := []
theorem ch_638_13 : staG tb_X12_readNext 1 bt_RX12 ft_638_13 ct_638_1 [] [] cu_638_13 25 con_638 = true := by decide +kernel
noncomputable def ft_638_14 : CTB2 := [(3, 165, 0, con_584, [0, 1]), (49, 165, 0, con_548, [0, 1])]
theorem fto_638_14 (l : Launch) {es : List va_E} (f2 : isFact 2 1 [0, 1] es) (f5 : isFact 5 1 [0, 1] es) (f8 : isFact 8 1 [0, 1] es) (f12 : isFact 12 0 [0, 1] es) : FTOK2 l RX12 vwCl gTbl es ft_638_14 := ft2_cons (fun ec he => hv_584 l (f2 ec he)) ck_RX12_165_584 (ft2_cons (fun ec he => hv_548 l (f8 ec he)) ck_RX12_165_548 (ft2_nil))
noncomputable def cu_638_14 : List CUT2 := []
theorem ch_638_14 : staG tb_X12_readNext 1 bt_RX12 ft_638_14 ct_610_0 [] [] cu_638_14 30 con_638 = true := by decide +kernel
noncomputable def ft_638_15 : CTB2 := [(3, 165, 0, con_584, [0, 1]), (49, 165, 0, con_548, [0, 1])]
theorem fto_638_15 (l : Launch) {es : List va_E} (f2 : isFact 2 1 [0, 1] es) (f5 : isFact 5 1 [0, 1] es) (f8 : isFact 8 1 [0, 1] es) (f12 : isFact 12 1 [0, 1] es) : FTOK2 l RX12 vwCl gTbl es ft_638_15 := ft2_cons (fun ec he => hv_584 l (f2 ec he)) ck_RX12_165_584 (ft2_cons (fun ec he => hv_548 l (f8 ec he)) ck_RX12_165_548 (ft2_nil))
noncomputable def cu_638_15 : List CUT2 := []
theorem ch_638_15 : staG tb_X12_readNext 1 bt_RX12 ft_638_15 ct_610_0 [] [] cu_638_15 30 con_638 = true := by decide +kernel
theorem vl_638 (l : Launch) : Vld2 l vwCl gTbl con_638 := fun es => by
  rcases fact_or 2 [0, 1] es with f2 | f2 <;> rcases fact_or 5 [0, 1] es with f5 | f5 <;> rcases fact_or 8 [0, 1] es with f8 | f8 <;> rcases fact_or 12 [0, 1] es with f12 | f12
  · exact conE_ok3 gT_all (hd_638) rfl pn_RX12 tk_X12_readNext bo_RX12 xo_RX12 (fto_638_0 l f2 f5 f8 f12) (cto_610_0 l) ch_638_0 cut_nil
  · exact conE_ok3 gT_all (hd_638) rfl pn_RX12 tk_X12_readNext bo_RX12 xo_RX12 (fto_638_1 l f2 f5 f8 f12) (cto_638_1 l) ch_638_1 cut_nil
  · exact conE_ok3 gT_all (hd_638) rfl pn_RX12 tk_X12_readNext bo_RX12 xo_RX12 (fto_638_2 l f2 f5 f8 f12) (cto_610_0 l) ch_638_2 cut_nil
  · exact conE_ok3 gT_all (hd_638) rfl pn_RX12 tk_X12_readNext bo_RX12 xo_RX12 (fto_638_3 l f2 f5 f8 f12) (cto_610_0 l) ch_638_3 cut_nil
  · exact conE_ok3 gT_all (hd_638) rfl pn_RX12 tk_X12_readNext bo_RX12 xo_RX12 (fto_638_4 l f2 f5 f8 f12) (cto_638_4 l) ch_638_4 cut_nil
  · exact conE_ok3 gT_all (hd_638) rfl pn_RX12 tk_X12_readNext bo_RX12 xo_RX12 (fto_638_5 l f2 f5 f8 f12) (cto_638_1 l) ch_638_5 cut_nil
  · exact conE_ok3 gT_all (hd_638) rfl pn_RX12 tk_X12_readNext bo_RX12 xo_RX12 (fto_638_6 l f2 f5 f8 f12) (cto_610_0 l) ch_638_6 cut_nil
  · exact conE_ok3 gT_all (hd_638) rfl pn_RX12 tk_X12_readNext bo_RX12 xo_RX12 (fto_638_7 l f2 f5 f8 f12) (cto_610_0 l) ch_638_7 cut_nil
  · exact conE_ok3 gT_all (hd_638) rfl pn_RX12 tk_X12_readNext bo_RX12 xo_RX12 (fto_638_8 l f2 f5 f8 f12) (cto_610_8 l) ch_638_8 cut_nil
  · exact conE_ok3 gT_all (hd_638) rfl pn_RX12 tk_X12_readNext bo_RX12 xo_RX12 (fto_638_9 l f2 f5 f8 f12) (cto_638_1 l) ch_638_9 cut_nil
  · exact conE_ok3 gT_all (hd_638) rfl pn_RX12 tk_X12_readNext bo_RX12 xo_RX12 (fto_638_10 l f2 f5 f8 f12) (cto_610_0 l) ch_638_10 cut_nil
  · exact conE_ok3 gT_all (hd_638) rfl pn_RX12 tk_X12_readNext bo_RX12 xo_RX12 (fto_638_11 l f2 f5 f8 f12) (cto_610_0 l) ch_638_11 cut_nil
  · exact conE_ok3 gT_all (hd_638) rfl pn_RX12 tk_X12_readNext bo_RX12 xo_RX12 (fto_638_12 l f2 f5 f8 f12) (cto_610_8 l) ch_638_12 cut_nil
  · exact conE_ok3 gT_all (hd_638) rfl pn_RX12 tk_X12_readNext bo_RX12 xo_RX12 (fto_638_13 l f2 f5 f8 f12) (cto_638_1 l) ch_638_13 cut_nil
  · exact conE_ok3 gT_all (hd_638) rfl pn_RX12 tk_X12_readNext bo_RX12 xo_RX12 (fto_638_14 l f2 f5 f8 f12) (cto_610_0 l) ch_638_14 cut_nil
  · exact conE_ok3 gT_all (hd_638) rfl pn_RX12 tk_X12_readNext bo_RX12 xo_RX12 (fto_638_15 l f2 f5 f8 f12) (cto_610_0 l) ch_638_15 cut_nil
/-- RookHustingModel readLine -/
noncomputable def ac_410 : AC := .inr (1, jl_n [sp_68, jl_x (1, (0, 7, 0)), sp_47, sp_20])
noncomputable def hq_431 : HP := [(true, ac_149), (true, ac_410), (false, am_2)]
noncomputable def hq_432 : HP := [(true, ac_151), (true, ac_410), (false, am_2)]
noncomputable def con_639 : Con2 := ((yX12_readLine, cX12_readLine, 1, none), (13, 311), ([(6, 0, 0)], gi_215, [ac_148, ac_407, am_2], []), [((9, 0, 0), gi_276, hq_431, [], tg_11), ((9, 0, 0), gi_277, hq_432, [([(49, (-1)), (50, (-1)), (117, 1), (118, 1)], (-1))], tg_11)])
theorem hd_639 : con_639.1 = (yX12_readLine, cX12_readLine, 1, none) := rfl
theorem ck_RX12_230_638 : COK2 RX12 vwCl gTbl 230 0 con_638 := ⟨wd_1624, wd_137, mh_X12_readNext, .inr (.inr ⟨rfl, wd_1621, wd_1623, wd_62, ⟨_, rfl, pd_X12_readNext⟩, 12, _, TX12, 45, rfl, rfl⟩)⟩
noncomputable def ct_639 : CTB2 := [(18, 230, 0, con_638, [0, 2, 1]), (22, 153, 0, con_314, [0]), (22, 153, 0, con_611, [0]), (38, 175, 0, con_317, [0]), (42, 153, 0, con_322, [0]), (42, 153, 0, con_314, [0]), (42, 153, 0, con_611, [0]), (49, 169, 0, con_313, [0, 2])]
noncomputable def cu_639 : List CUT2 := []
theorem ch_639 : staG tb_X12_readLine 1 bt_RX12 [] ct_639 [] [] cu_639 31 con_639 = true := by decide +kernel
theorem cto_639 (l : Launch) : CTOK2 l RX12 vwCl gTbl ct_639 := ct2_cons (vl_638 l) ck_RX12_230_638 (ct2_cons (vl_314 l) ck_RX12_153_314 (ct2_cons (vl_611 l) ck_RX12_153_611 (ct2_cons (vl_317 l) ck_RX12_175_317 (ct2_cons (vl_322 l) ck_RX12_153_322 (ct2_cons (vl_314 l) ck_RX12_153_314 (ct2_cons (vl_611 l) ck_RX12_153_611 (ct2_cons (vl_313 l) ck_RX12_169_313 (ct2_nil))))))))
theorem vl_639 (l : Launch) : Vld2 l vwCl gTbl con_639 := conR_ok3 gT_all (hd_639) rfl pn_RX12 tk_X12_readLine bo_RX12 xo_RX12 (cto_639 l) ch_639 cut_nil
/-- RookHustingModel hundred -/
noncomputable def gi_283 : GI := jl_n [gp_157, gp_159, gp_124]
noncomputable def ac_411 : AC := .inl (12, jl_n [vp_35, jl_1 7 1, jl_8 8 1, jl_1 15 7, vp_31])
noncomputable def ac_412 : AC := .inr (1, jl_n [js_1 78 9, sp_124])
noncomputable def hc_66 : List AC := [ac_411, ac_153, am_2, ac_412]
noncomputable def gi_284 : GI := jl_n [gp_157, gp_159, gp_124, jl_m 3 27, gp_143, gp_158, gp_15, jl_z 1, jl_i 0 27, jl_z 14, gp_124]
noncomputable def ac_413 : AC := .inl (12, jl_n [vp_36, jl_1 107 6, vp_31])
noncomputable def ac_414 : AC := .inr (1, jl_n [js_1 145 7, jl_x (1, (0, 0, 0)), js_1 147 1, sp_20])
noncomputable def ac_415 : AC := .inr (1, jl_n [js_1 170 9, sp_124])
noncomputable def hq_433 : HP := [(true, ac_413), (true, ac_414), (false, am_2), (true, ac_415)]
noncomputable def con_640 : Con2 := ((yX12_hundred, cX12_hundred, 2, (some .int)), (15, 354), ([(6, 0, 0)], gi_283, hc_66, []), [((1, 92, 0), gi_284, hq_433, [], tg_12)])
theorem hd_640 : con_640.1 = (yX12_hundred, cX12_hundred, 2, (some .int)) := rfl
theorem ck_RX12_233_639 : COK2 RX12 vwCl gTbl 233 0 con_639 := ⟨wd_1586, wd_137, mh_X12_readLine, .inr (.inr ⟨rfl, wd_1583, wd_1585, wd_54, ⟨_, rfl, pd_X12_readLine⟩, 12, _, TX12, 45, rfl, rfl⟩)⟩
theorem ck_RX12_233_636 : COK2 RX12 vwCl gTbl 233 0 con_636 := ⟨wd_1586, wd_137, mh_X12_readLine, .inr (.inr ⟨rfl, wd_1583, wd_1585, wd_54, ⟨_, rfl, pd_X12_readLine⟩, 12, _, TX12, 45, rfl, rfl⟩)⟩
theorem ck_RX12_233_632 : COK2 RX12 vwCl gTbl 233 0 con_632 := ⟨wd_1586, wd_137, mh_X12_readLine, .inr (.inr ⟨rfl, wd_1583, wd_1585, wd_54, ⟨_, rfl, pd_X12_readLine⟩, 12, _, TX12, 45, rfl, rfl⟩)⟩
theorem ck_RX12_233_628 : COK2 RX12 vwCl gTbl 233 0 con_628 := ⟨wd_1586, wd_137, mh_X12_readLine, .inr (.inr ⟨rfl, wd_1583, wd_1585, wd_54, ⟨_, rfl, pd_X12_readLine⟩, 12, _, TX12, 45, rfl, rfl⟩)⟩
theorem ck_RX12_233_624 : COK2 RX12 vwCl gTbl 233 0 con_624 := ⟨wd_1586, wd_137, mh_X12_readLine, .inr (.inr ⟨rfl, wd_1583, wd_1585, wd_54, ⟨_, rfl, pd_X12_readLine⟩, 12, _, TX12, 45, rfl, rfl⟩)⟩
theorem ck_RX12_233_620 : COK2 RX12 vwCl gTbl 233 0 con_620 := ⟨wd_1586, wd_137, mh_X12_readLine, .inr (.inr ⟨rfl, wd_1583, wd_1585, wd_54, ⟨_, rfl, pd_X12_readLine⟩, 12, _, TX12, 45, rfl, rfl⟩)⟩
theorem ck_RX12_233_616 : COK2 RX12 vwCl gTbl 233 0 con_616 := ⟨wd_1586, wd_137, mh_X12_readLine, .inr (.inr ⟨rfl, wd_1583, wd_1585, wd_54, ⟨_, rfl, pd_X12_readLine⟩, 12, _, TX12, 45, rfl, rfl⟩)⟩
theorem ck_RX12_233_612 : COK2 RX12 vwCl gTbl 233 0 con_612 := ⟨wd_1586, wd_137, mh_X12_readLine, .inr (.inr ⟨rfl, wd_1583, wd_1585, wd_54, ⟨_, rfl, pd_X12_readLine⟩, 12, _, TX12, 45, rfl, rfl⟩)⟩
theorem ck_RX12_233_361 : COK2 RX12 vwCl gTbl 233 0 con_361 := ⟨wd_1586, wd_137, mh_X12_readLine, .inr (.inr ⟨rfl, wd_1583, wd_1585, wd_54, ⟨_, rfl, pd_X12_readLine⟩, 12, _, TX12, 45, rfl, rfl⟩)⟩
noncomputable def ct_640 : CTB2 := [(50, 169, 0, con_313, [0, 2]), (54, 153, 0, con_314, [0]), (54, 153, 0, con_611, [0]), (68, 233, 0, con_361, [0, 1, 2]), (68, 233, 0, con_612, [0, 1, 2]), (68, 233, 0, con_616, [0, 1, 2]), (68, 233, 0, con_620, [0, 1, 2]), (68, 233, 0, con_624, [0, 1, 2]), (68, 233, 0, con_628, [0, 1, 2]), (68, 233, 0, con_632, [0, 1, 2]), (68, 233, 0, con_636, [0, 1, 2]), (68, 233, 0, con_639, [0, 1, 2]), (75, 153, 0, con_314, [0]), (75, 153, 0, con_611, [0])]
noncomputable def gi_285 : GI := jl_n [gp_160, gp_80, jl_z 42]
noncomputable def ac_416 : AC := .inl (12, jl_n [vp_36, jl_1 106 4, jl_c 0, jl_x (0, (-1), 0), vp_31])
noncomputable def ac_417 : AC := .inr (1, jl_n [sp_125, sp_125, sp_125, sp_125, jl_x (1, (0, 0, 0)), jl_x (115, (0, 0, 0))])
noncomputable def hq_434 : HP := [(true, ac_416), (true, ac_417), (false, am_2), (false, ac_412)]
noncomputable def gi_286 : GI := jl_n [gp_160, gp_81, gp_118, gp_53, jl_i 0 5, jl_z 2, jl_i 1 27, jl_z 14]
noncomputable def ac_418 : AC := .inr (1, jl_n [js_1 145 6, jl_x (1, (0, 0, 0)), sp_126, sp_11])
noncomputable def hq_435 : HP := [(true, ac_416), (true, ac_418), (false, am_2), (false, ac_412)]
noncomputable def gi_287 : GI := jl_n [gp_160, gp_80, jl_i 1 3, jl_i 0 700, jl_z 31, gp_15, jl_z 1, jl_i 1 27, jl_z 14]
noncomputable def ac_419 : AC := .inl (12, jl_n [vp_36, jl_1 108 6, vp_31])
noncomputable def ac_420 : AC := .inr (1, jl_n [js_1 146 7, sp_126, sp_20])
noncomputable def hq_436 : HP := [(true, ac_419), (true, ac_420), (false, am_2), (false, ac_412)]
noncomputable def gi_288 : GI := jl_n [gp_160, jl_r 2 (jl_i 0 700), gp_7, jl_z 33, gp_15, jl_z 1, jl_i 0 27, jl_z 14]
noncomputable def ac_421 : AC := .inl (12, jl_n [vp_36, jl_1 104 2, jl_c 0, jl_1 106 1, jl_c 0, jl_x (0, (-1), 0), vp_31])
noncomputable def hq_437 : HP := [(true, ac_421), (true, ac_420), (false, am_2), (false, ac_412)]
noncomputable def gi_289 : GI := jl_n [gp_160, gp_81, gp_118, gp_53, jl_i 0 5, jl_z 2, jl_i 2 27, jl_z 14]
noncomputable def ac_422 : AC := .inr (1, jl_n [js_1 145 6, jl_x (1, (0, 1, 0)), sp_126, sp_1, js_2 1 0 9, sp_29])
noncomputable def hq_438 : HP := [(true, ac_416), (true, ac_422), (false, am_2), (false, ac_412)]
noncomputable def ac_423 : AC := .inr (1, jl_n [js_1 145 6, jl_x (1, (0, 2, 0)), sp_126, sp_1, sp_14, sp_52])
noncomputable def hq_439 : HP := [(true, ac_416), (true, ac_423), (false, am_2), (false, ac_412)]
noncomputable def ac_424 : AC := .inr (1, jl_n [js_1 145 6, jl_x (1, (0, 3, 0)), sp_126, sp_1, sp_14, sp_70])
noncomputable def hq_440 : HP := [(true, ac_416), (true, ac_424), (false, am_2), (false, ac_412)]
noncomputable def ac_425 : AC := .inr (1, jl_n [js_1 145 6, jl_x (1, (0, 4, 0)), sp_126, sp_16, sp_84])
noncomputable def hq_441 : HP := [(true, ac_416), (true, ac_425), (false, am_2), (false, ac_412)]
noncomputable def ac_426 : AC := .inr (1, jl_n [js_1 145 6, jl_x (1, (0, 5, 0)), sp_126, sp_16, sp_94])
noncomputable def hq_442 : HP := [(true, ac_416), (true, ac_426), (false, am_2), (false, ac_412)]
noncomputable def ac_427 : AC := .inr (1, jl_n [js_1 145 6, jl_x (1, (0, 6, 0)), sp_126, sp_16, sp_105])
noncomputable def hq_443 : HP := [(true, ac_416), (true, ac_427), (false, am_2), (false, ac_412)]
noncomputable def ac_428 : AC := .inr (1, jl_n [js_1 145 6, jl_x (1, (0, 7, 0)), sp_126, sp_20])
noncomputable def hq_444 : HP := [(true, ac_416), (true, ac_428), (false, am_2), (false, ac_412)]
noncomputable def cu_640_0 : List CUT2 := [((53, [lq 0 6 0, lq 1 0 124], [], gi_285, hq_434), [], ([], 201)), ((53, [lq 0 6 0, lq 1 0 124], [], gi_286, hq_435), [([(142, 1), (143, 1), (144, 1), (147, (-1))], 1)], ([(142, (-1)), (143, (-1)), (144, (-1))], 200)), ((53, [lq 0 6 0, lq 1 0 124], [], gi_287, hq_436), [], ([], 0))]
noncomputable def cu_640_1 : List CUT2 := [((84, [lq 0 6 0, lq 1 0 124], [], gi_288, hq_437), [], ([], 0))]
noncomputable def cu_640_2 : List CUT2 := [((53, [lq 0 6 0, lq 1 0 124], [], gi_289, hq_438), [([(142, 1), (143, 1), (144, 1), (147, (-1))], 2)], ([(142, (-1)), (143, (-1)), (144, (-1))], 199)), ((53, [lq 0 6 0, lq 1 0 124], [], gi_289, hq_439), [([(142, 1), (143, 1), (144, 1), (147, (-1))], 3)], ([(142, (-1)), (143, (-1)), (144, (-1))], 198)), ((53, [lq 0 6 0, lq 1 0 124], [], gi_289, hq_440), [([(142, 1), (143, 1), (144, 1), (147, (-1))], 4)], ([(142, (-1)), (143, (-1)), (144, (-1))], 197)), ((53, [lq 0 6 0, lq 1 0 124], [], gi_289, hq_441), [([(142, 1), (143, 1), (144, 1), (147, (-1))], 5)], ([(142, (-1)), (143, (-1)), (144, (-1))], 196)), ((53, [lq 0 6 0, lq 1 0 124], [], gi_289, hq_442), [([(142, 1), (143, 1), (144, 1), (147, (-1))], 6)], ([(142, (-1)), (143, (-1)), (144, (-1))], 195)), ((53, [lq 0 6 0, lq 1 0 124], [], gi_289, hq_443), [([(142, 1), (143, 1), (144, 1), (147, (-1))], 7)], ([(142, (-1)), (143, (-1)), (144, (-1))], 194)), ((53, [lq 0 6 0, lq 1 0 124], [], gi_289, hq_444), [([(142, 1), (143, 1), (144, 1), (147, (-1))], 8)], ([(142, (-1)), (143, (-1)), (144, (-1))], 193))]
noncomputable def cu_640 : List CUT2 := cu_640_0 ++ (cu_640_1 ++ (cu_640_2))
theorem ch_640 : staG tb_X12_hundred 2 bt_RX12 [] ct_640 [(67, [(0, (2, 1, 8), 1, 26)])] [] cu_640 1624 con_640 = true := by decide +kernel
theorem cc_640_0 : cu_640_0.all (cutG tb_X12_hundred 2 bt_RX12 [] ct_640 [(67, [(0, (2, 1, 8), 1, 26)])] [] cu_640 1624 con_640) = true := by decide +kernel
theorem cc_640_1 : cu_640_1.all (cutG tb_X12_hundred 2 bt_RX12 [] ct_640 [(67, [(0, (2, 1, 8), 1, 26)])] [] cu_640 1624 con_640) = true := by decide +kernel
theorem cc_640_2 : cu_640_2.all (cutG tb_X12_hundred 2 bt_RX12 [] ct_640 [(67, [(0, (2, 1, 8), 1, 26)])] [] cu_640 1624 con_640) = true := by decide +kernel
theorem cto_640 (l : Launch) : CTOK2 l RX12 vwCl gTbl ct_640 := ct2_cons (vl_313 l) ck_RX12_169_313 (ct2_cons (vl_314 l) ck_RX12_153_314 (ct2_cons (vl_611 l) ck_RX12_153_611 (ct2_cons (vl_361 l) ck_RX12_233_361 (ct2_cons (vl_612 l) ck_RX12_233_612 (ct2_cons (vl_616 l) ck_RX12_233_616 (ct2_cons (vl_620 l) ck_RX12_233_620 (ct2_cons (vl_624 l) ck_RX12_233_624 (ct2_cons (vl_628 l) ck_RX12_233_628 (ct2_cons (vl_632 l) ck_RX12_233_632 (ct2_cons (vl_636 l) ck_RX12_233_636 (ct2_cons (vl_639 l) ck_RX12_233_639 (ct2_cons (vl_314 l) ck_RX12_153_314 (ct2_cons (vl_611 l) ck_RX12_153_611 (ct2_nil))))))))))))))
theorem vl_640 (l : Launch) : Vld2 l vwCl gTbl con_640 := conR_ok3 gT_all (hd_640) rfl pn_RX12 tk_X12_hundred bo_RX12 xo_RX12 (cto_640 l) ch_640 (cut_app (cut_all cc_640_0) (cut_app (cut_all cc_640_1) (cut_all cc_640_2)))
/-- RookHusting fault -/
noncomputable def gi_290 : GI := jl_n [gp_7, jl_z 17, gp_24, jl_z 1]
noncomputable def ac_429 : AC := .inl (11, jl_n [vp_37, jl_8 18 14])
noncomputable def hc_67 : List AC := [ac_429, .inl (6, [(8, 18, 0), (1, 19, 0), (1, 20, 0), (8, 21, 0)])]
noncomputable def gi_291 : GI := jl_n [gp_7, jl_z 17, gp_24, jl_z 1, jl_m 0 700]
noncomputable def hq_445 : HP := [(false, ac_429), (false, .inl (6, [(8, 18, 0), (1, 19, 0), (1, 20, 0), (8, 21, 0)]))]
noncomputable def con_641 : Con2 := ((yX11_fault, cX11_fault, 2, (some .int)), (0, 0), ([(6, 0, 0), (1, 1, 0)], gi_290, hc_67, []), [((1, 22, 0), gi_291, hq_445, [], [1])])
theorem hd_641 : con_641.1 = (yX11_fault, cX11_fault, 2, (some .int)) := rfl
noncomputable def cu_641 : List CUT2 := []
theorem ch_641 : staG tb_X11_fault 1 bt_RX11 [] ct_3 [] [] cu_641 12 con_641 = true := by decide +kernel
theorem vl_641 (l : Launch) : Vld2 l vwCl gTbl con_641 := conR_ok3 gT_all (hd_641) rfl pn_RX11 tk_X11_fault bo_RX11 xo_RX11 (cto_3 l) ch_641 cut_nil
/-- RookHustingModel fault -/
noncomputable def gi_292 : GI := jl_n [gp_7, jl_z 12, gp_158]
noncomputable def ac_430 : AC := .inl (12, jl_n [jl_8 14 12, jl_1 16 2, jl_8 47 31])
noncomputable def gi_293 : GI := jl_n [gp_7, jl_z 12, gp_158, jl_m 0 700]
noncomputable def con_642 : Con2 := ((yX12_fault, cX12_fault, 2, (some .int)), (0, 0), ([(6, 0, 0), (1, 1, 0)], gi_292, [ac_430], []), [((1, 47, 0), gi_293, [(false, ac_430)], [], [1])])
theorem hd_642 : con_642.1 = (yX12_fault, cX12_fault, 2, (some .int)) := rfl
noncomputable def cu_642 : List CUT2 := []
theorem ch_642 : staG tb_X12_fault 1 bt_RX12 [] ct_2 [] [] cu_642 11 con_642 = true := by decide +kernel
theorem vl_642 (l : Launch) : Vld2 l vwCl gTbl con_642 := conR_ok3 gT_all (hd_642) rfl pn_RX12 tk_X12_fault bo_RX12 xo_RX12 (cto_2 l) ch_642 cut_nil
/-- RookHusting isField -/
noncomputable def gi_294 : GI := jl_n [gp_7, gp_161, jl_z 12]
noncomputable def ac_431 : AC := .inl (11, jl_n [vp_38, jl_8 18 13])
noncomputable def ac_432 : AC := .inl (4, jl_n [jl_8 24 4, jl_1 25 1, jl_8 37 12])
noncomputable def gi_295 : GI := jl_n [gp_7, gp_161, jl_z 13]
noncomputable def hq_446 : HP := [(false, ac_431), (false, .inl (9, [(6, 2, 0), (8, 19, 0)])), (false, ac_432)]
noncomputable def gi_296 : GI := jl_n [gp_52, jl_z 22, jl_i 1 5, jl_z 13]
noncomputable def con_643 : Con2 := ((yX11_isField, cX11_isField, 2, (some .boolean)), (0, 0), ([(6, 0, 0), (1, 1, 0)], gi_294, [ac_431, .inl (9, [(6, 2, 0), (8, 19, 0)]), ac_432], []), [((0, 0, 0), gi_295, hq_446, [], [1]), ((0, 1, 0), gi_296, hq_446, [], [1])])
theorem hd_643 : con_643.1 = (yX11_isField, cX11_isField, 2, (some .boolean)) := rfl
noncomputable def cu_643 : List CUT2 := []
theorem ch_643 : staG tb_X11_isField 1 bt_RX11 [] ct_3 [] [] cu_643 13 con_643 = true := by decide +kernel
theorem vl_643 (l : Launch) : Vld2 l vwCl gTbl con_643 := conR_ok3 gT_all (hd_643) rfl pn_RX11 tk_X11_isField bo_RX11 xo_RX11 (cto_3 l) ch_643 cut_nil
/-- RookHusting isPair -/
noncomputable def con_644 : Con2 := ((yX11_isPair, cX11_isPair, 1, (some .boolean)), (0, 0), ([(1, 0, 0)], [((-2147483648), 2147483647)], [], []), [((0, 0, 0), [((-2147483648), 2147483647), (0, 0)], [], [], [1]), ((0, 1, 0), [(0, 1), (0, 0)], [], [], [1])])
theorem hd_644 : con_644.1 = (yX11_isPair, cX11_isPair, 1, (some .boolean)) := rfl
noncomputable def cu_644 : List CUT2 := []
theorem ch_644 : staG tb_X11_isPair 1 bt_RX11 [] ct_3 [] [] cu_644 10 con_644 = true := by decide +kernel
theorem vl_644 (l : Launch) : Vld2 l vwCl gTbl con_644 := conR_ok3 gT_all (hd_644) rfl pn_RX11 tk_X11_isPair bo_RX11 xo_RX11 (cto_3 l) ch_644 cut_nil
/-- RookHusting field -/
noncomputable def gi_297 : GI := jl_n [gp_162, gp_161, jl_z 12]
noncomputable def ac_433 : AC := .inl (11, jl_n [vp_39, jl_8 19 13])
noncomputable def ac_434 : AC := .inl (4, jl_n [jl_8 25 4, jl_1 26 1, jl_8 29 3, jl_6 5 2, jl_8 38 7])
noncomputable def hc_68 : List AC := [ac_433, .inl (9, [(6, 2, 0), (8, 20, 0)]), ac_434, am_11, am_4]
noncomputable def gi_298 : GI := jl_n [gp_162, gp_161, jl_z 12, jl_m 1 300]
noncomputable def hq_447 : HP := [(false, ac_433), (false, .inl (9, [(6, 2, 0), (8, 20, 0)])), (false, ac_434), (false, am_11), (false, am_4)]
noncomputable def con_645 : Con2 := ((yX11_field, cX11_field, 3, (some .int)), (1, 21), ([(6, 0, 0), (1, 1, 0), (1, 2, 0)], gi_297, hc_68, []), [((1, 38, 0), gi_298, hq_447, [], [1])])
theorem hd_645 : con_645.1 = (yX11_field, cX11_field, 3, (some .int)) := rfl
theorem ck_RX11_143_644 : COK2 RX11 vwCl gTbl 143 1 con_644 := ⟨wd_759, wd_125, mh_X11_isPair, .inl ⟨rfl, wd_757, wd_758, pd_X11_isPair⟩⟩
theorem ck_RX11_139_643 : COK2 RX11 vwCl gTbl 139 0 con_643 := ⟨wd_756, wd_125, mh_X11_isField, .inr (.inr ⟨rfl, wd_753, wd_755, wd_11, ⟨_, rfl, pd_X11_isField⟩, 11, _, TX11, 16, rfl, rfl⟩)⟩
noncomputable def ct_645 : CTB2 := [(2, 139, 0, con_643, [0, 1, 2]), (9, 143, 1, con_644, [])]
noncomputable def cu_645 : List CUT2 := []
theorem ch_645 : staG tb_X11_field 1 bt_RX11 [] ct_645 [] [] cu_645 19 con_645 = true := by decide +kernel
theorem cto_645 (l : Launch) : CTOK2 l RX11 vwCl gTbl ct_645 := ct2_cons (vl_643 l) ck_RX11_139_643 (ct2_cons (vl_644 l) ck_RX11_143_644 (ct2_nil))
theorem vl_645 (l : Launch) : Vld2 l vwCl gTbl con_645 := conR_ok3 gT_all (hd_645) rfl pn_RX11 tk_X11_field bo_RX11 xo_RX11 (cto_645 l) ch_645 cut_nil
/-- RookHustingModel fields -/
noncomputable def gi_299 : GI := jl_n [gp_163]
noncomputable def ac_435 : AC := .inl (12, jl_n [vp_40, jl_8 46 43])
noncomputable def ac_436 : AC := .inr (1, jl_n [js_1 55 9, sp_124])
noncomputable def gi_300 : GI := jl_n [jl_z 46, gp_125]
noncomputable def con_646 : Con2 := ((yX12_fields, cX12_fields, 1, (some .int)), (0, 0), ([(6, 0, 0)], gi_299, [ac_435, ac_436], []), [((1, 49, 0), gi_300, [(false, ac_435), (false, ac_436)], [], [1])])
theorem hd_646 : con_646.1 = (yX12_fields, cX12_fields, 1, (some .int)) := rfl
noncomputable def cu_646 : List CUT2 := []
theorem ch_646 : staG tb_X12_fields 1 bt_RX12 [] ct_2 [] [] cu_646 7 con_646 = true := by decide +kernel
theorem vl_646 (l : Launch) : Vld2 l vwCl gTbl con_646 := conR_ok3 gT_all (hd_646) rfl pn_RX12 tk_X12_fields bo_RX12 xo_RX12 (cto_2 l) ch_646 cut_nil
/-- RookHustingModel isField -/
noncomputable def gi_301 : GI := jl_n [jl_z 1, jl_m 9223372036854775807 25600000000, gp_164]
noncomputable def ac_437 : AC := .inl (12, jl_n [vp_37, jl_8 47 43])
noncomputable def ac_438 : AC := .inr (1, jl_n [js_1 56 9, sp_124])
noncomputable def gi_302 : GI := jl_n [jl_z 1, jl_m 9223372036854775807 25600000000, gp_166]
noncomputable def gi_303 : GI := jl_n [gp_52, jl_z 45, gp_169]
noncomputable def con_647 : Con2 := ((yX12_isField, cX12_isField, 3, (some .boolean)), (1, 25), ([(6, 0, 0), (4, 1, 0)], gi_301, [ac_437, ac_438], []), [((0, 0, 0), gi_302, [(false, ac_437), (false, ac_438)], [], [1]), ((0, 1, 0), gi_303, [(false, ac_437), (false, ac_438)], [], [1])])
theorem hd_647 : con_647.1 = (yX12_isField, cX12_isField, 3, (some .boolean)) := rfl
theorem ck_RX12_106_646 : COK2 RX12 vwCl gTbl 106 0 con_646 := ⟨wd_1660, wd_137, mh_X12_fields, .inr (.inr ⟨rfl, wd_1657, wd_1659, wd_67, ⟨_, rfl, pd_X12_fields⟩, 12, _, TX12, 45, rfl, rfl⟩)⟩
noncomputable def ct_647 : CTB2 := [(3, 106, 0, con_646, [0, 1]), (9, 91, 1, con_384, [])]
noncomputable def cu_647 : List CUT2 := []
theorem ch_647 : staG tb_X12_isField 1 bt_RX12 [] ct_647 [] [] cu_647 11 con_647 = true := by decide +kernel
theorem cto_647 (l : Launch) : CTOK2 l RX12 vwCl gTbl ct_647 := ct2_cons (vl_646 l) ck_RX12_106_646 (ct2_cons (vl_384 l) ck_RX12_91_384 (ct2_nil))
theorem vl_647 (l : Launch) : Vld2 l vwCl gTbl con_647 := conR_ok3 gT_all (hd_647) rfl pn_RX12 tk_X12_isField bo_RX12 xo_RX12 (cto_647 l) ch_647 cut_nil
/-- RookHustingModel in -/
noncomputable def con_648 : Con2 := ((yX12_in, cX12_in, 6, (some .boolean)), (0, 0), ([(4, 0, 0), (3, 0, 0), (3, 1, 0)], gi_146, [], []), [((0, 0, 0), gi_147, [], [], [1]), ((0, 1, 0), [(0, 1), (0, 0), (0, 0), (0, 0)], [], [], [1])])
theorem hd_648 : con_648.1 = (yX12_in, cX12_in, 6, (some .boolean)) := rfl
noncomputable def cu_648 : List CUT2 := []
theorem ch_648 : staG tb_X12_in 1 bt_RX12 [] ct_2 [] [] cu_648 11 con_648 = true := by decide +kernel
theorem vl_648 (l : Launch) : Vld2 l vwCl gTbl con_648 := conR_ok3 gT_all (hd_648) rfl pn_RX12 tk_X12_in bo_RX12 xo_RX12 (cto_2 l) ch_648 cut_nil
/-- RookHustingModel field -/
noncomputable def gi_304 : GI := jl_n [gp_170]
noncomputable def ac_439 : AC := .inl (12, jl_n [vp_41, jl_8 48 43])
noncomputable def ac_440 : AC := .inr (1, jl_n [js_1 57 9, sp_124])
noncomputable def gi_305 : GI := jl_n [gp_170, jl_m 1 300]
noncomputable def con_649 : Con2 := ((yX12_field, cX12_field, 3, (some .int)), (2, 47), ([(6, 0, 0), (1, 1, 0), (1, 2, 0)], gi_304, [ac_439, ac_440], []), [((1, 71, 0), gi_305, [(false, ac_439), (false, ac_440)], [], [1])])
theorem hd_649 : con_649.1 = (yX12_field, cX12_field, 3, (some .int)) := rfl
theorem ck_RX12_91_648 : COK2 RX12 vwCl gTbl 91 1 con_648 := ⟨wd_1544, wd_137, mh_X12_in, .inl ⟨rfl, wd_1542, wd_1543, pd_X12_in⟩⟩
theorem ck_RX12_109_647 : COK2 RX12 vwCl gTbl 109 0 con_647 := ⟨wd_1656, wd_137, mh_X12_isField, .inr (.inr ⟨rfl, wd_1653, wd_1655, wd_66, ⟨_, rfl, pd_X12_isField⟩, 12, _, TX12, 45, rfl, rfl⟩)⟩
noncomputable def ct_649 : CTB2 := [(3, 109, 0, con_647, [0, 1]), (13, 91, 1, con_648, [])]
noncomputable def cu_649 : List CUT2 := []
theorem ch_649 : staG tb_X12_field 1 bt_RX12 [] ct_649 [] [] cu_649 25 con_649 = true := by decide +kernel
theorem cto_649 (l : Launch) : CTOK2 l RX12 vwCl gTbl ct_649 := ct2_cons (vl_647 l) ck_RX12_109_647 (ct2_cons (vl_648 l) ck_RX12_91_648 (ct2_nil))
theorem vl_649 (l : Launch) : Vld2 l vwCl gTbl con_649 := conR_ok3 gT_all (hd_649) rfl pn_RX12 tk_X12_field bo_RX12 xo_RX12 (cto_649 l) ch_649 cut_nil
/-- RookHusting hedges -/
noncomputable def ac_441 : AC := .inl (4, jl_n [jl_8 24 4, jl_1 25 1, jl_8 30 5, jl_6 4 1, jl_8 37 6])
noncomputable def hc_69 : List AC := [ac_431, .inl (9, [(6, 2, 0), (8, 19, 0)]), ac_441, am_1]
noncomputable def gi_306 : GI := jl_n [gp_7, gp_161, gp_171]
noncomputable def hq_448 : HP := [(false, ac_431), (false, .inl (9, [(6, 2, 0), (8, 19, 0)])), (false, ac_441), (false, am_1)]
noncomputable def con_650 : Con2 := ((yX11_hedges, cX11_hedges, 2, (some .int)), (1, 21), ([(6, 0, 0), (1, 1, 0)], gi_294, hc_69, []), [((1, 37, 0), gi_306, hq_448, [], [1])])
theorem hd_650 : con_650.1 = (yX11_hedges, cX11_hedges, 2, (some .int)) := rfl
noncomputable def ct_650 : CTB2 := [(2, 139, 0, con_643, [0, 1, 2])]
noncomputable def cu_650 : List CUT2 := []
theorem ch_650 : staG tb_X11_hedges 1 bt_RX11 [] ct_650 [] [] cu_650 14 con_650 = true := by decide +kernel
theorem cto_650 (l : Launch) : CTOK2 l RX11 vwCl gTbl ct_650 := ct2_cons (vl_643 l) ck_RX11_139_643 (ct2_nil)
theorem vl_650 (l : Launch) : Vld2 l vwCl gTbl con_650 := conR_ok3 gT_all (hd_650) rfl pn_RX11 tk_X11_hedges bo_RX11 xo_RX11 (cto_650 l) ch_650 cut_nil
