/-! ===== contracts, 16 ===== -/
/-- RookHustingModel readHedge -/
noncomputable def ac_367 : AC := .inr (1, jl_n [sp_46, sp_103, sp_94])
noncomputable def hq_376 : HP := [(true, ac_149), (true, ac_367), (false, am_3)]
noncomputable def hq_377 : HP := [(true, ac_151), (true, ac_367), (false, am_3)]
noncomputable def con_634 : Con2 := ((yX12_readHedge, cX12_readHedge, 2, none), (3, 69), ([(6, 0, 0)], gi_214, [ac_148, ac_337, am_3], []), [((9, 0, 0), gi_252, hq_376, [], tg_11), ((9, 0, 0), gi_253, hq_377, [], tg_11)])
theorem hd_634 : con_634.1 = (yX12_readHedge, cX12_readHedge, 2, none) := rfl
noncomputable def cu_634 : List CUT2 := []
theorem ch_634 : staG tb_X12_readHedge 1 bt_RX12 [] ct_584 [] [] cu_634 65 con_634 = true := by decide +kernel
theorem vl_634 (l : Launch) : Vld2 l vwCl gTbl con_634 := conR_ok3 gT_all (hd_634) rfl pn_RX12 tk_X12_readHedge bo_RX12 xo_RX12 (cto_584 l) ch_634 cut_nil
/-- RookHustingModel readNext -/
noncomputable def ac_368 : AC := .inr (1, jl_n [sp_68, sp_103, sp_94])
noncomputable def hq_378 : HP := [(true, ac_144), (false, am_3), (true, ac_368)]
noncomputable def hq_379 : HP := [(true, ac_144), (false, am_3), (true, ac_338)]
noncomputable def hq_380 : HP := [(true, ac_146), (false, am_3), (true, ac_368)]
noncomputable def hq_381 : HP := [(true, ac_146), (false, am_3), (true, ac_339)]
noncomputable def con_635 : Con2 := ((yX12_readNext, cX12_readNext, 3, none), (13, 312), ([(6, 0, 0)], gi_214, [ac_142, am_3, ac_337], []), [((9, 0, 0), gi_275, hq_378, [], tg_11), ((9, 0, 0), gi_280, hq_379, [], tg_11), ((9, 0, 0), gi_276, hq_380, [([(49, (-1)), (50, (-1)), (117, 1), (118, 1)], (-1))], tg_11), ((9, 0, 0), gi_270, hq_381, [], tg_11)])
theorem hd_635 : con_635.1 = (yX12_readNext, cX12_readNext, 3, none) := rfl
noncomputable def ft_635_0 : CTB2 := [(3, 165, 0, con_366, [0, 1]), (12, 165, 0, con_367, [0, 1]), (21, 165, 0, con_368, [0, 1]), (30, 165, 0, con_369, [0, 1])]
theorem fto_635_0 (l : Launch) {es : List va_E} (f2 : isFact 2 0 [0, 1] es) (f5 : isFact 5 0 [0, 1] es) (f8 : isFact 8 0 [0, 1] es) (f12 : isFact 12 0 [0, 1] es) : FTOK2 l RX12 vwCl gTbl es ft_635_0 := ft2_cons (fun ec he => hv_366 l (f2 ec he)) ck_RX12_165_366 (ft2_cons (fun ec he => hv_367 l (f5 ec he)) ck_RX12_165_367 (ft2_cons (fun ec he => hv_368 l (f8 ec he)) ck_RX12_165_368 (ft2_cons (fun ec he => hv_369 l (f12 ec he)) ck_RX12_165_369 (ft2_nil))))
noncomputable def cu_635_0 : List CUT2 := []
theorem ch_635_0 : staG tb_X12_readNext 1 bt_RX12 ft_635_0 ct_614_0 [] [] cu_635_0 32 con_635 = true := by decide +kernel
theorem ck_RX12_224_633 : COK2 RX12 vwCl gTbl 224 0 con_633 := ⟨wd_1644, wd_137, mh_X12_readVoter, .inr (.inr ⟨rfl, wd_1641, wd_1643, wd_65, ⟨_, rfl, pd_X12_readVoter⟩, 12, _, TX12, 45, rfl, rfl⟩)⟩
noncomputable def ct_635_1 : CTB2 := [(83, 153, 0, con_318, [0]), (240, 169, 0, con_317, [0, 1]), (244, 224, 0, con_633, [0, 2, 1])]
noncomputable def ft_635_1 : CTB2 := [(3, 165, 0, con_366, [0, 1]), (12, 165, 0, con_367, [0, 1]), (21, 165, 0, con_368, [0, 1]), (30, 165, 0, con_375, [0, 1]), (49, 165, 0, con_368, [0, 1]), (71, 210, 0, con_376, [0, 1, 2]), (93, 172, 0, con_377, [0, 1]), (160, 172, 0, con_378, [0, 1]), (176, 172, 0, con_379, [0, 1])]
theorem fto_635_1 (l : Launch) {es : List va_E} (f2 : isFact 2 0 [0, 1] es) (f5 : isFact 5 0 [0, 1] es) (f8 : isFact 8 0 [0, 1] es) (f12 : isFact 12 1 [0, 1] es) : FTOK2 l RX12 vwCl gTbl es ft_635_1 := ft2_cons (fun ec he => hv_366 l (f2 ec he)) ck_RX12_165_366 (ft2_cons (fun ec he => hv_367 l (f5 ec he)) ck_RX12_165_367 (ft2_cons (fun ec he => hv_368 l (f8 ec he)) ck_RX12_165_368 (ft2_cons (fun ec he => hv_375 l (f12 ec he)) ck_RX12_165_375 (ft2_cons (fun ec he => hv_368 l (f8 ec he)) ck_RX12_165_368 (ft2_cons (fun ec he => hv_376 l (fact_at f2 he (τ := [0, 1]) (by decide) (by decide)) (fact_at f5 he (τ := [0, 1]) (by decide) (by decide)) (fact_at f8 he (τ := [0, 1]) (by decide) (by decide)) (fact_at f12 he (τ := [0, 1]) (by decide) (by decide))) ck_RX12_210_376 (ft2_cons (fun ec he => hv_377 l (fact_at f2 he (τ := [0, 1]) (by decide) (by decide))) ck_RX12_172_377 (ft2_cons (fun ec he => hv_378 l (fact_at f5 he (τ := [0, 1]) (by decide) (by decide))) ck_RX12_172_378 (ft2_cons (fun ec he => hv_379 l (fact_at f8 he (τ := [0, 1]) (by decide) (by decide))) ck_RX12_172_379 (ft2_nil)))))))))
noncomputable def cu_635_1 : List CUT2 := []
theorem ch_635_1 : staG tb_X12_readNext 1 bt_RX12 ft_635_1 ct_635_1 [] [] cu_635_1 50 con_635 = true := by decide +kernel
theorem cto_635_1 (l : Launch) : CTOK2 l RX12 vwCl gTbl ct_635_1 := ct2_cons (vl_318 l) ck_RX12_153_318 (ct2_cons (vl_317 l) ck_RX12_169_317 (ct2_cons (vl_633 l) ck_RX12_224_633 (ct2_nil)))
noncomputable def ft_635_2 : CTB2 := [(3, 165, 0, con_366, [0, 1]), (12, 165, 0, con_367, [0, 1]), (21, 165, 0, con_552, [0, 1]), (49, 165, 0, con_552, [0, 1])]
theorem fto_635_2 (l : Launch) {es : List va_E} (f2 : isFact 2 0 [0, 1] es) (f5 : isFact 5 0 [0, 1] es) (f8 : isFact 8 1 [0, 1] es) (f12 : isFact 12 0 [0, 1] es) : FTOK2 l RX12 vwCl gTbl es ft_635_2 := ft2_cons (fun ec he => hv_366 l (f2 ec he)) ck_RX12_165_366 (ft2_cons (fun ec he => hv_367 l (f5 ec he)) ck_RX12_165_367 (ft2_cons (fun ec he => hv_552 l (f8 ec he)) ck_RX12_165_552 (ft2_cons (fun ec he => hv_552 l (f8 ec he)) ck_RX12_165_552 (ft2_nil))))
noncomputable def cu_635_2 : List CUT2 := []
theorem ch_635_2 : staG tb_X12_readNext 1 bt_RX12 ft_635_2 ct_614_0 [] [] cu_635_2 38 con_635 = true := by decide +kernel
noncomputable def ft_635_3 : CTB2 := [(3, 165, 0, con_366, [0, 1]), (12, 165, 0, con_367, [0, 1]), (21, 165, 0, con_552, [0, 1]), (49, 165, 0, con_552, [0, 1])]
theorem fto_635_3 (l : Launch) {es : List va_E} (f2 : isFact 2 0 [0, 1] es) (f5 : isFact 5 0 [0, 1] es) (f8 : isFact 8 1 [0, 1] es) (f12 : isFact 12 1 [0, 1] es) : FTOK2 l RX12 vwCl gTbl es ft_635_3 := ft2_cons (fun ec he => hv_366 l (f2 ec he)) ck_RX12_165_366 (ft2_cons (fun ec he => hv_367 l (f5 ec he)) ck_RX12_165_367 (ft2_cons (fun ec he => hv_552 l (f8 ec he)) ck_RX12_165_552 (ft2_cons (fun ec he => hv_552 l (f8 ec he)) ck_RX12_165_552 (ft2_nil))))
noncomputable def cu_635_3 : List CUT2 := []
theorem ch_635_3 : staG tb_X12_readNext 1 bt_RX12 ft_635_3 ct_614_0 [] [] cu_635_3 38 con_635 = true := by decide +kernel
theorem ck_RX12_217_634 : COK2 RX12 vwCl gTbl 217 0 con_634 := ⟨wd_1638, wd_137, mh_X12_readHedge, .inr (.inr ⟨rfl, wd_1635, wd_1637, wd_64, ⟨_, rfl, pd_X12_readHedge⟩, 12, _, TX12, 45, rfl, rfl⟩)⟩
noncomputable def ct_635_4 : CTB2 := [(79, 175, 0, con_554, [0]), (83, 153, 0, con_555, [0]), (83, 153, 0, con_318, [0]), (167, 217, 0, con_634, [0, 2, 1])]
noncomputable def ft_635_4 : CTB2 := [(3, 165, 0, con_366, [0, 1]), (12, 165, 0, con_577, [0, 1]), (49, 165, 0, con_368, [0, 1]), (71, 210, 0, con_578, [0, 1, 2]), (93, 172, 0, con_377, [0, 1]), (160, 172, 0, con_579, [0, 1])]
theorem fto_635_4 (l : Launch) {es : List va_E} (f2 : isFact 2 0 [0, 1] es) (f5 : isFact 5 1 [0, 1] es) (f8 : isFact 8 0 [0, 1] es) (f12 : isFact 12 0 [0, 1] es) : FTOK2 l RX12 vwCl gTbl es ft_635_4 := ft2_cons (fun ec he => hv_366 l (f2 ec he)) ck_RX12_165_366 (ft2_cons (fun ec he => hv_577 l (f5 ec he)) ck_RX12_165_577 (ft2_cons (fun ec he => hv_368 l (f8 ec he)) ck_RX12_165_368 (ft2_cons (fun ec he => hv_578 l (fact_at f2 he (τ := [0, 1]) (by decide) (by decide)) (fact_at f5 he (τ := [0, 1]) (by decide) (by decide)) (fact_at f8 he (τ := [0, 1]) (by decide) (by decide)) (fact_at f12 he (τ := [0, 1]) (by decide) (by decide))) ck_RX12_210_578 (ft2_cons (fun ec he => hv_377 l (fact_at f2 he (τ := [0, 1]) (by decide) (by decide))) ck_RX12_172_377 (ft2_cons (fun ec he => hv_579 l (fact_at f5 he (τ := [0, 1]) (by decide) (by decide))) ck_RX12_172_579 (ft2_nil))))))
noncomputable def cu_635_4 : List CUT2 := []
theorem ch_635_4 : staG tb_X12_readNext 1 bt_RX12 ft_635_4 ct_635_4 [] [] cu_635_4 37 con_635 = true := by decide +kernel
theorem cto_635_4 (l : Launch) : CTOK2 l RX12 vwCl gTbl ct_635_4 := ct2_cons (vl_554 l) ck_RX12_175_554 (ct2_cons (vl_555 l) ck_RX12_153_555 (ct2_cons (vl_318 l) ck_RX12_153_318 (ct2_cons (vl_634 l) ck_RX12_217_634 (ct2_nil))))
noncomputable def ft_635_5 : CTB2 := [(3, 165, 0, con_366, [0, 1]), (12, 165, 0, con_577, [0, 1]), (49, 165, 0, con_368, [0, 1]), (71, 210, 0, con_585, [0, 1, 2]), (93, 172, 0, con_377, [0, 1]), (160, 172, 0, con_579, [0, 1])]
theorem fto_635_5 (l : Launch) {es : List va_E} (f2 : isFact 2 0 [0, 1] es) (f5 : isFact 5 1 [0, 1] es) (f8 : isFact 8 0 [0, 1] es) (f12 : isFact 12 1 [0, 1] es) : FTOK2 l RX12 vwCl gTbl es ft_635_5 := ft2_cons (fun ec he => hv_366 l (f2 ec he)) ck_RX12_165_366 (ft2_cons (fun ec he => hv_577 l (f5 ec he)) ck_RX12_165_577 (ft2_cons (fun ec he => hv_368 l (f8 ec he)) ck_RX12_165_368 (ft2_cons (fun ec he => hv_585 l (fact_at f2 he (τ := [0, 1]) (by decide) (by decide)) (fact_at f5 he (τ := [0, 1]) (by decide) (by decide)) (fact_at f8 he (τ := [0, 1]) (by decide) (by decide)) (fact_at f12 he (τ := [0, 1]) (by decide) (by decide))) ck_RX12_210_585 (ft2_cons (fun ec he => hv_377 l (fact_at f2 he (τ := [0, 1]) (by decide) (by decide))) ck_RX12_172_377 (ft2_cons (fun ec he => hv_579 l (fact_at f5 he (τ := [0, 1]) (by decide) (by decide))) ck_RX12_172_579 (ft2_nil))))))
noncomputable def cu_635_5 : List CUT2 := []
theorem ch_635_5 : staG tb_X12_readNext 1 bt_RX12 ft_635_5 ct_635_4 [] [] cu_635_5 37 con_635 = true := by decide +kernel
noncomputable def ft_635_6 : CTB2 := [(3, 165, 0, con_366, [0, 1]), (12, 165, 0, con_577, [0, 1]), (49, 165, 0, con_552, [0, 1])]
theorem fto_635_6 (l : Launch) {es : List va_E} (f2 : isFact 2 0 [0, 1] es) (f5 : isFact 5 1 [0, 1] es) (f8 : isFact 8 1 [0, 1] es) (f12 : isFact 12 0 [0, 1] es) : FTOK2 l RX12 vwCl gTbl es ft_635_6 := ft2_cons (fun ec he => hv_366 l (f2 ec he)) ck_RX12_165_366 (ft2_cons (fun ec he => hv_577 l (f5 ec he)) ck_RX12_165_577 (ft2_cons (fun ec he => hv_552 l (f8 ec he)) ck_RX12_165_552 (ft2_nil)))
noncomputable def cu_635_6 : List CUT2 := []
theorem ch_635_6 : staG tb_X12_readNext 1 bt_RX12 ft_635_6 ct_614_0 [] [] cu_635_6 34 con_635 = true := by decide +kernel
noncomputable def ft_635_7 : CTB2 := [(3, 165, 0, con_366, [0, 1]), (12, 165, 0, con_577, [0, 1]), (49, 165, 0, con_552, [0, 1])]
theorem fto_635_7 (l : Launch) {es : List va_E} (f2 : isFact 2 0 [0, 1] es) (f5 : isFact 5 1 [0, 1] es) (f8 : isFact 8 1 [0, 1] es) (f12 : isFact 12 1 [0, 1] es) : FTOK2 l RX12 vwCl gTbl es ft_635_7 := ft2_cons (fun ec he => hv_366 l (f2 ec he)) ck_RX12_165_366 (ft2_cons (fun ec he => hv_577 l (f5 ec he)) ck_RX12_165_577 (ft2_cons (fun ec he => hv_552 l (f8 ec he)) ck_RX12_165_552 (ft2_nil)))
noncomputable def cu_635_7 : List CUT2 := []
theorem ch_635_7 : staG tb_X12_readNext 1 bt_RX12 ft_635_7 ct_614_0 [] [] cu_635_7 34 con_635 = true := by decide +kernel
noncomputable def ft_635_8 : CTB2 := [(3, 165, 0, con_588, [0, 1]), (49, 165, 0, con_368, [0, 1]), (71, 210, 0, con_589, [0, 1, 2]), (93, 172, 0, con_590, [0, 1])]
theorem fto_635_8 (l : Launch) {es : List va_E} (f2 : isFact 2 1 [0, 1] es) (f5 : isFact 5 0 [0, 1] es) (f8 : isFact 8 0 [0, 1] es) (f12 : isFact 12 0 [0, 1] es) : FTOK2 l RX12 vwCl gTbl es ft_635_8 := ft2_cons (fun ec he => hv_588 l (f2 ec he)) ck_RX12_165_588 (ft2_cons (fun ec he => hv_368 l (f8 ec he)) ck_RX12_165_368 (ft2_cons (fun ec he => hv_589 l (fact_at f2 he (τ := [0, 1]) (by decide) (by decide)) (fact_at f5 he (τ := [0, 1]) (by decide) (by decide)) (fact_at f8 he (τ := [0, 1]) (by decide) (by decide)) (fact_at f12 he (τ := [0, 1]) (by decide) (by decide))) ck_RX12_210_589 (ft2_cons (fun ec he => hv_590 l (fact_at f2 he (τ := [0, 1]) (by decide) (by decide))) ck_RX12_172_590 (ft2_nil))))
noncomputable def cu_635_8 : List CUT2 := []
theorem ch_635_8 : staG tb_X12_readNext 1 bt_RX12 ft_635_8 ct_614_8 [] [] cu_635_8 64 con_635 = true := by decide +kernel
noncomputable def ft_635_9 : CTB2 := [(3, 165, 0, con_588, [0, 1]), (49, 165, 0, con_368, [0, 1]), (71, 210, 0, con_607, [0, 1, 2]), (93, 172, 0, con_590, [0, 1])]
theorem fto_635_9 (l : Launch) {es : List va_E} (f2 : isFact 2 1 [0, 1] es) (f5 : isFact 5 0 [0, 1] es) (f8 : isFact 8 0 [0, 1] es) (f12 : isFact 12 1 [0, 1] es) : FTOK2 l RX12 vwCl gTbl es ft_635_9 := ft2_cons (fun ec he => hv_588 l (f2 ec he)) ck_RX12_165_588 (ft2_cons (fun ec he => hv_368 l (f8 ec he)) ck_RX12_165_368 (ft2_cons (fun ec he => hv_607 l (fact_at f2 he (τ := [0, 1]) (by decide) (by decide)) (fact_at f5 he (τ := [0, 1]) (by decide) (by decide)) (fact_at f8 he (τ := [0, 1]) (by decide) (by decide)) (fact_at f12 he (τ := [0, 1]) (by decide) (by decide))) ck_RX12_210_607 (ft2_cons (fun ec he => hv_590 l (fact_at f2 he (τ := [0, 1]) (by decide) (by decide))) ck_RX12_172_590 (ft2_nil))))
noncomputable def cu_635_9 : List CUT2 := []
theorem ch_635_9 : staG tb_X12_readNext 1 bt_RX12 ft_635_9 ct_614_8 [] [] cu_635_9 64 con_635 = true := by decide +kernel
noncomputable def ft_635_10 : CTB2 := [(3, 165, 0, con_588, [0, 1]), (49, 165, 0, con_552, [0, 1])]
theorem fto_635_10 (l : Launch) {es : List va_E} (f2 : isFact 2 1 [0, 1] es) (f5 : isFact 5 0 [0, 1] es) (f8 : isFact 8 1 [0, 1] es) (f12 : isFact 12 0 [0, 1] es) : FTOK2 l RX12 vwCl gTbl es ft_635_10 := ft2_cons (fun ec he => hv_588 l (f2 ec he)) ck_RX12_165_588 (ft2_cons (fun ec he => hv_552 l (f8 ec he)) ck_RX12_165_552 (ft2_nil))
noncomputable def cu_635_10 : List CUT2 := []
theorem ch_635_10 : staG tb_X12_readNext 1 bt_RX12 ft_635_10 ct_614_0 [] [] cu_635_10 30 con_635 = true := by decide +kernel
noncomputable def ft_635_11 : CTB2 := [(3, 165, 0, con_588, [0, 1]), (49, 165, 0, con_552, [0, 1])]
theorem fto_635_11 (l : Launch) {es : List va_E} (f2 : isFact 2 1 [0, 1] es) (f5 : isFact 5 0 [0, 1] es) (f8 : isFact 8 1 [0, 1] es) (f12 : isFact 12 1 [0, 1] es) : FTOK2 l RX12 vwCl gTbl es ft_635_11 := ft2_cons (fun ec he => hv_588 l (f2 ec he)) ck_RX12_165_588 (ft2_cons (fun ec he => hv_552 l (f8 ec he)) ck_RX12_165_552 (ft2_nil))
noncomputable def cu_635_11 : List CUT2 := []
theorem ch_635_11 : staG tb_X12_readNext 1 bt_RX12 ft_635_11 ct_614_0 [] [] cu_635_11 30 con_635 = true := by decide +kernel
noncomputable def ft_635_12 : CTB2 := [(3, 165, 0, con_588, [0, 1]), (49, 165, 0, con_368, [0, 1]), (71, 210, 0, con_610, [0, 1, 2]), (93, 172, 0, con_590, [0, 1])]
theorem fto_635_12 (l : Launch) {es : List va_E} (f2 : isFact 2 1 [0, 1] es) (f5 : isFact 5 1 [0, 1] es) (f8 : isFact 8 0 [0, 1] es) (f12 : isFact 12 0 [0, 1] es) : FTOK2 l RX12 vwCl gTbl es ft_635_12 := ft2_cons (fun ec he => hv_588 l (f2 ec he)) ck_RX12_165_588 (ft2_cons (fun ec he => hv_368 l (f8 ec he)) ck_RX12_165_368 (ft2_cons (fun ec he => hv_610 l (fact_at f2 he (τ := [0, 1]) (by decide) (by decide)) (fact_at f5 he (τ := [0, 1]) (by decide) (by decide)) (fact_at f8 he (τ := [0, 1]) (by decide) (by decide)) (fact_at f12 he (τ := [0, 1]) (by decide) (by decide))) ck_RX12_210_610 (ft2_cons (fun ec he => hv_590 l (fact_at f2 he (τ := [0, 1]) (by decide) (by decide))) ck_RX12_172_590 (ft2_nil))))
noncomputable def cu_635_12 : List CUT2 := []
theorem ch_635_12 : staG tb_X12_readNext 1 bt_RX12 ft_635_12 ct_614_8 [] [] cu_635_12 64 con_635 = true := by decide +kernel
noncomputable def ft_635_13 : CTB2 := [(3, 165, 0, con_588, [0, 1]), (49, 165, 0, con_368, [0, 1]), (71, 210, 0, con_611, [0, 1, 2]), (93, 172, 0, con_590, [0, 1])]
theorem fto_635_13 (l : Launch) {es : List va_E} (f2 : isFact 2 1 [0, 1] es) (f5 : isFact 5 1 [0, 1] es) (f8 : isFact 8 0 [0, 1] es) (f12 : isFact 12 1 [0, 1] es) : FTOK2 l RX12 vwCl gTbl es ft_635_13 := ft2_cons (fun ec he => hv_588 l (f2 ec he)) ck_RX12_165_588 (ft2_cons (fun ec he => hv_368 l (f8 ec he)) ck_RX12_165_368 (ft2_cons (fun ec he => hv_611 l (fact_at f2 he (τ := [0, 1]) (by decide) (by decide)) (fact_at f5 he (τ := [0, 1]) (by decide) (by decide)) (fact_at f8 he (τ := [0, 1]) (by decide) (by decide)) (fact_at f12 he (τ := [0, 1]) (by decide) (by decide))) ck_RX12_210_611 (ft2_cons (fun ec he => hv_590 l (fact_at f2 he (τ := [0, 1]) (by decide) (by decide))) ck_RX12_172_590 (ft2_nil))))
noncomputable def cu_635_13 : List CUT2 := []
theorem ch_635_13 : staG tb_X12_readNext 1 bt_RX12 ft_635_13 ct_614_8 [] [] cu_635_13 64 con_635 = true := by decide +kernel
noncomputable def ft_635_14 : CTB2 := [(3, 165, 0, con_588, [0, 1]), (49, 165, 0, con_552, [0, 1])]
theorem fto_635_14 (l : Launch) {es : List va_E} (f2 : isFact 2 1 [0, 1] es) (f5 : isFact 5 1 [0, 1] es) (f8 : isFact 8 1 [0, 1] es) (f12 : isFact 12 0 [0, 1] es) : FTOK2 l RX12 vwCl gTbl es ft_635_14 := ft2_cons (fun ec he => hv_588 l (f2 ec he)) ck_RX12_165_588 (ft2_cons (fun ec he => hv_552 l (f8 ec he)) ck_RX12_165_552 (ft2_nil))
noncomputable def cu_635_14 : List CUT2 := []
theorem ch_635_14 : staG tb_X12_readNext 1 bt_RX12 ft_635_14 ct_614_0 [] [] cu_635_14 30 con_635 = true := by decide +kernel
noncomputable def ft_635_15 : CTB2 := [(3, 165, 0, con_588, [0, 1]), (49, 165, 0, con_552, [0, 1])]
theorem fto_635_15 (l : Launch) {es : List va_E} (f2 : isFact 2 1 [0, 1] es) (f5 : isFact 5 1 [0, 1] es) (f8 : isFact 8 1 [0, 1] es) (f12 : isFact 12 1 [0, 1] es) : FTOK2 l RX12 vwCl gTbl es ft_635_15 := ft2_cons (fun ec he => hv_588 l (f2 ec he)) ck_RX12_165_588 (ft2_cons (fun ec he => hv_552 l (f8 ec he)) ck_RX12_165_552 (ft2_nil))
noncomputable def cu_635_15 : List CUT2 := []
theorem ch_635_15 : staG tb_X12_readNext 1 bt_RX12 ft_635_15 ct_614_0 [] [] cu_635_15 30 con_635 = true := by decide +kernel
theorem vl_635 (l : Launch) : Vld2 l vwCl gTbl con_635 := fun es => by
  rcases fact_or 2 [0, 1] es with f2 | f2 <;> rcases fact_or 5 [0, 1] es with f5 | f5 <;> rcases fact_or 8 [0, 1] es with f8 | f8 <;> rcases fact_or 12 [0, 1] es with f12 | f12
  · exact conE_ok3 gT_all (hd_635) rfl pn_RX12 tk_X12_readNext bo_RX12 xo_RX12 (fto_635_0 l f2 f5 f8 f12) (cto_614_0 l) ch_635_0 cut_nil
  · exact conE_ok3 gT_all (hd_635) rfl pn_RX12 tk_X12_readNext bo_RX12 xo_RX12 (fto_635_1 l f2 f5 f8 f12) (cto_635_1 l) ch_635_1 cut_nil
  · exact conE_ok3 gT_all (hd_635) rfl pn_RX12 tk_X12_readNext bo_RX12 xo_RX12 (fto_635_2 l f2 f5 f8 f12) (cto_614_0 l) ch_635_2 cut_nil
  · exact conE_ok3 gT_all (hd_635) rfl pn_RX12 tk_X12_readNext bo_RX12 xo_RX12 (fto_635_3 l f2 f5 f8 f12) (cto_614_0 l) ch_635_3 cut_nil
  · exact conE_ok3 gT_all (hd_635) rfl pn_RX12 tk_X12_readNext bo_RX12 xo_RX12 (fto_635_4 l f2 f5 f8 f12) (cto_635_4 l) ch_635_4 cut_nil
  · exact conE_ok3 gT_all (hd_635) rfl pn_RX12 tk_X12_readNext bo_RX12 xo_RX12 (fto_635_5 l f2 f5 f8 f12) (cto_635_4 l) ch_635_5 cut_nil
  · exact conE_ok3 gT_all (hd_635) rfl pn_RX12 tk_X12_readNext bo_RX12 xo_RX12 (fto_635_6 l f2 f5 f8 f12) (cto_614_0 l) ch_635_6 cut_nil
  · exact conE_ok3 gT_all (hd_635) rfl pn_RX12 tk_X12_readNext bo_RX12 xo_RX12 (fto_635_7 l f2 f5 f8 f12) (cto_614_0 l) ch_635_7 cut_nil
  · exact conE_ok3 gT_all (hd_635) rfl pn_RX12 tk_X12_readNext bo_RX12 xo_RX12 (fto_635_8 l f2 f5 f8 f12) (cto_614_8 l) ch_635_8 cut_nil
  · exact conE_ok3 gT_all (hd_635) rfl pn_RX12 tk_X12_readNext bo_RX12 xo_RX12 (fto_635_9 l f2 f5 f8 f12) (cto_614_8 l) ch_635_9 cut_nil
  · exact conE_ok3 gT_all (hd_635) rfl pn_RX12 tk_X12_readNext bo_RX12 xo_RX12 (fto_635_10 l f2 f5 f8 f12) (cto_614_0 l) ch_635_10 cut_nil
  · exact conE_ok3 gT_all (hd_635) rfl pn_RX12 tk_X12_readNext bo_RX12 xo_RX12 (fto_635_11 l f2 f5 f8 f12) (cto_614_0 l) ch_635_11 cut_nil
  · exact conE_ok3 gT_all (hd_635) rfl pn_RX12 tk_X12_readNext bo_RX12 xo_RX12 (fto_635_12 l f2 f5 f8 f12) (cto_614_8 l) ch_635_12 cut_nil
  · exact conE_ok3 gT_all (hd_635) rfl pn_RX12 tk_X12_readNext bo_RX12 xo_RX12 (fto_635_13 l f2 f5 f8 f12) (cto_614_8 l) ch_635_13 cut_nil
  · exact conE_ok3 gT_all (hd_635) rfl pn_RX12 tk_X12_readNext bo_RX12 xo_RX12 (fto_635_14 l f2 f5 f8 f12) (cto_614_0 l) ch_635_14 cut_nil
  · exact conE_ok3 gT_all (hd_635) rfl pn_RX12 tk_X12_readNext bo_RX12 xo_RX12 (fto_635_15 l f2 f5 f8 f12) (cto_614_0 l) ch_635_15 cut_nil
/-- RookHustingModel readLine -/
noncomputable def ac_369 : AC := .inr (1, jl_n [sp_68, jl_x (1, (0, 5, 0)), sp_93, sp_94])
noncomputable def hq_382 : HP := [(true, ac_149), (true, ac_369), (false, am_3)]
noncomputable def ac_370 : AC := .inr (1, jl_n [js_1 52 6, jl_x (1, (0, 6, 0)), sp_93, sp_56, sp_7])
noncomputable def hq_383 : HP := [(true, ac_194), (true, ac_370), (false, am_3)]
noncomputable def ac_371 : AC := .inr (1, jl_n [sp_23, sp_93, sp_105])
noncomputable def hq_384 : HP := [(true, ac_149), (true, ac_371), (false, am_3)]
noncomputable def hq_385 : HP := [(true, ac_151), (true, ac_369), (false, am_3)]
noncomputable def hq_386 : HP := [(true, ac_151), (true, ac_370), (false, am_3)]
noncomputable def con_636 : Con2 := ((yX12_readLine, cX12_readLine, 1, none), (14, 334), ([(6, 0, 0)], gi_214, [ac_148, ac_337, am_3], []), [((9, 0, 0), gi_275, hq_382, [], tg_11), ((9, 0, 0), gi_273, hq_383, [], tg_11), ((9, 0, 0), gi_280, hq_384, [], tg_11), ((9, 0, 0), gi_276, hq_385, [([(49, (-1)), (50, (-1)), (117, 1), (118, 1)], (-1))], tg_11), ((9, 0, 0), gi_270, hq_386, [], tg_11)])
theorem hd_636 : con_636.1 = (yX12_readLine, cX12_readLine, 1, none) := rfl
theorem ck_RX12_230_635 : COK2 RX12 vwCl gTbl 230 0 con_635 := ⟨wd_1624, wd_137, mh_X12_readNext, .inr (.inr ⟨rfl, wd_1621, wd_1623, wd_62, ⟨_, rfl, pd_X12_readNext⟩, 12, _, TX12, 45, rfl, rfl⟩)⟩
noncomputable def ct_636 : CTB2 := [(18, 230, 0, con_635, [0, 2, 1]), (22, 153, 0, con_318, [0]), (22, 153, 0, con_347, [0]), (22, 153, 0, con_615, [0]), (38, 175, 0, con_321, [0]), (42, 153, 0, con_326, [0]), (42, 153, 0, con_318, [0]), (42, 153, 0, con_347, [0]), (42, 153, 0, con_615, [0]), (49, 169, 0, con_317, [0, 2])]
noncomputable def cu_636 : List CUT2 := []
theorem ch_636 : staG tb_X12_readLine 1 bt_RX12 [] ct_636 [] [] cu_636 31 con_636 = true := by decide +kernel
theorem cto_636 (l : Launch) : CTOK2 l RX12 vwCl gTbl ct_636 := ct2_cons (vl_635 l) ck_RX12_230_635 (ct2_cons (vl_318 l) ck_RX12_153_318 (ct2_cons (vl_347 l) ck_RX12_153_347 (ct2_cons (vl_615 l) ck_RX12_153_615 (ct2_cons (vl_321 l) ck_RX12_175_321 (ct2_cons (vl_326 l) ck_RX12_153_326 (ct2_cons (vl_318 l) ck_RX12_153_318 (ct2_cons (vl_347 l) ck_RX12_153_347 (ct2_cons (vl_615 l) ck_RX12_153_615 (ct2_cons (vl_317 l) ck_RX12_169_317 (ct2_nil))))))))))
theorem vl_636 (l : Launch) : Vld2 l vwCl gTbl con_636 := conR_ok3 gT_all (hd_636) rfl pn_RX12 tk_X12_readLine bo_RX12 xo_RX12 (cto_636 l) ch_636 cut_nil
