/-! ===== contracts, 10 ===== -/
/-- RookHustingModel readHedge -/
noncomputable def ac_262 : AC := .inr (1, jl_n [sp_46, jl_x (1, (0, 2, 0)), sp_53])
noncomputable def hq_256 : HP := [(true, ac_149), (true, ac_262), (false, am_3)]
noncomputable def hq_257 : HP := [(true, ac_151), (true, ac_262), (false, am_3)]
noncomputable def con_622 : Con2 := ((yX12_readHedge, cX12_readHedge, 2, none), (3, 69), ([(6, 0, 0)], gi_214, [ac_148, ac_232, am_3], []), [((9, 0, 0), gi_252, hq_256, [], tg_11), ((9, 0, 0), gi_253, hq_257, [], tg_11)])
theorem hd_622 : con_622.1 = (yX12_readHedge, cX12_readHedge, 2, none) := rfl
noncomputable def cu_622 : List CUT2 := []
theorem ch_622 : staG tb_X12_readHedge 1 bt_RX12 [] ct_584 [] [] cu_622 65 con_622 = true := by decide +kernel
theorem vl_622 (l : Launch) : Vld2 l vwCl gTbl con_622 := conR_ok3 gT_all (hd_622) rfl pn_RX12 tk_X12_readHedge bo_RX12 xo_RX12 (cto_584 l) ch_622 cut_nil
/-- RookHustingModel readNext -/
noncomputable def ac_263 : AC := .inr (1, jl_n [sp_68, jl_x (1, (0, 2, 0)), sp_53])
noncomputable def hq_258 : HP := [(true, ac_144), (false, am_3), (true, ac_263)]
noncomputable def hq_259 : HP := [(true, ac_144), (false, am_3), (true, ac_233)]
noncomputable def hq_260 : HP := [(true, ac_146), (false, am_3), (true, ac_263)]
noncomputable def hq_261 : HP := [(true, ac_146), (false, am_3), (true, ac_234)]
noncomputable def con_623 : Con2 := ((yX12_readNext, cX12_readNext, 3, none), (13, 312), ([(6, 0, 0)], gi_214, [ac_142, am_3, ac_232], []), [((9, 0, 0), gi_275, hq_258, [], tg_11), ((9, 0, 0), gi_277, hq_259, [], tg_11), ((9, 0, 0), gi_276, hq_260, [([(49, (-1)), (50, (-1)), (117, 1), (118, 1)], (-1))], tg_11), ((9, 0, 0), gi_270, hq_261, [], tg_11)])
theorem hd_623 : con_623.1 = (yX12_readNext, cX12_readNext, 3, none) := rfl
noncomputable def ft_623_0 : CTB2 := [(3, 165, 0, con_366, [0, 1]), (12, 165, 0, con_367, [0, 1]), (21, 165, 0, con_368, [0, 1]), (30, 165, 0, con_369, [0, 1])]
theorem fto_623_0 (l : Launch) {es : List va_E} (f2 : isFact 2 0 [0, 1] es) (f5 : isFact 5 0 [0, 1] es) (f8 : isFact 8 0 [0, 1] es) (f12 : isFact 12 0 [0, 1] es) : FTOK2 l RX12 vwCl gTbl es ft_623_0 := ft2_cons (fun ec he => hv_366 l (f2 ec he)) ck_RX12_165_366 (ft2_cons (fun ec he => hv_367 l (f5 ec he)) ck_RX12_165_367 (ft2_cons (fun ec he => hv_368 l (f8 ec he)) ck_RX12_165_368 (ft2_cons (fun ec he => hv_369 l (f12 ec he)) ck_RX12_165_369 (ft2_nil))))
noncomputable def cu_623_0 : List CUT2 := []
theorem ch_623_0 : staG tb_X12_readNext 1 bt_RX12 ft_623_0 ct_614_0 [] [] cu_623_0 32 con_623 = true := by decide +kernel
theorem ck_RX12_224_621 : COK2 RX12 vwCl gTbl 224 0 con_621 := ⟨wd_1644, wd_137, mh_X12_readVoter, .inr (.inr ⟨rfl, wd_1641, wd_1643, wd_65, ⟨_, rfl, pd_X12_readVoter⟩, 12, _, TX12, 45, rfl, rfl⟩)⟩
noncomputable def ct_623_1 : CTB2 := [(83, 153, 0, con_318, [0]), (240, 169, 0, con_317, [0, 1]), (244, 224, 0, con_621, [0, 2, 1])]
noncomputable def ft_623_1 : CTB2 := [(3, 165, 0, con_366, [0, 1]), (12, 165, 0, con_367, [0, 1]), (21, 165, 0, con_368, [0, 1]), (30, 165, 0, con_375, [0, 1]), (49, 165, 0, con_368, [0, 1]), (71, 210, 0, con_376, [0, 1, 2]), (93, 172, 0, con_377, [0, 1]), (160, 172, 0, con_378, [0, 1]), (176, 172, 0, con_379, [0, 1])]
theorem fto_623_1 (l : Launch) {es : List va_E} (f2 : isFact 2 0 [0, 1] es) (f5 : isFact 5 0 [0, 1] es) (f8 : isFact 8 0 [0, 1] es) (f12 : isFact 12 1 [0, 1] es) : FTOK2 l RX12 vwCl gTbl es ft_623_1 := ft2_cons (fun ec he => hv_366 l (f2 ec he)) ck_RX12_165_366 (ft2_cons (fun ec he => hv_367 l (f5 ec he)) ck_RX12_165_367 (ft2_cons (fun ec he => hv_368 l (f8 ec he)) ck_RX12_165_368 (ft2_cons (fun ec he => hv_375 l (f12 ec he)) ck_RX12_165_375 (ft2_cons (fun ec he => hv_368 l (f8 ec he)) ck_RX12_165_368 (ft2_cons (fun ec he => hv_376 l (fact_at f2 he (τ := [0, 1]) (by decide) (by decide)) (fact_at f5 he (τ := [0, 1]) (by decide) (by decide)) (fact_at f8 he (τ := [0, 1]) (by decide) (by decide)) (fact_at f12 he (τ := [0, 1]) (by decide) (by decide))) ck_RX12_210_376 (ft2_cons (fun ec he => hv_377 l (fact_at f2 he (τ := [0, 1]) (by decide) (by decide))) ck_RX12_172_377 (ft2_cons (fun ec he => hv_378 l (fact_at f5 he (τ := [0, 1]) (by decide) (by decide))) ck_RX12_172_378 (ft2_cons (fun ec he => hv_379 l (fact_at f8 he (τ := [0, 1]) (by decide) (by decide))) ck_RX12_172_379 (ft2_nil)))))))))
noncomputable def cu_623_1 : List CUT2 := []
theorem ch_623_1 : staG tb_X12_readNext 1 bt_RX12 ft_623_1 ct_623_1 [] [] cu_623_1 50 con_623 = true := by decide +kernel
theorem cto_623_1 (l : Launch) : CTOK2 l RX12 vwCl gTbl ct_623_1 := ct2_cons (vl_318 l) ck_RX12_153_318 (ct2_cons (vl_317 l) ck_RX12_169_317 (ct2_cons (vl_621 l) ck_RX12_224_621 (ct2_nil)))
noncomputable def ft_623_2 : CTB2 := [(3, 165, 0, con_366, [0, 1]), (12, 165, 0, con_367, [0, 1]), (21, 165, 0, con_552, [0, 1]), (49, 165, 0, con_552, [0, 1])]
theorem fto_623_2 (l : Launch) {es : List va_E} (f2 : isFact 2 0 [0, 1] es) (f5 : isFact 5 0 [0, 1] es) (f8 : isFact 8 1 [0, 1] es) (f12 : isFact 12 0 [0, 1] es) : FTOK2 l RX12 vwCl gTbl es ft_623_2 := ft2_cons (fun ec he => hv_366 l (f2 ec he)) ck_RX12_165_366 (ft2_cons (fun ec he => hv_367 l (f5 ec he)) ck_RX12_165_367 (ft2_cons (fun ec he => hv_552 l (f8 ec he)) ck_RX12_165_552 (ft2_cons (fun ec he => hv_552 l (f8 ec he)) ck_RX12_165_552 (ft2_nil))))
noncomputable def cu_623_2 : List CUT2 := []
theorem ch_623_2 : staG tb_X12_readNext 1 bt_RX12 ft_623_2 ct_614_0 [] [] cu_623_2 38 con_623 = true := by decide +kernel
noncomputable def ft_623_3 : CTB2 := [(3, 165, 0, con_366, [0, 1]), (12, 165, 0, con_367, [0, 1]), (21, 165, 0, con_552, [0, 1]), (49, 165, 0, con_552, [0, 1])]
theorem fto_623_3 (l : Launch) {es : List va_E} (f2 : isFact 2 0 [0, 1] es) (f5 : isFact 5 0 [0, 1] es) (f8 : isFact 8 1 [0, 1] es) (f12 : isFact 12 1 [0, 1] es) : FTOK2 l RX12 vwCl gTbl es ft_623_3 := ft2_cons (fun ec he => hv_366 l (f2 ec he)) ck_RX12_165_366 (ft2_cons (fun ec he => hv_367 l (f5 ec he)) ck_RX12_165_367 (ft2_cons (fun ec he => hv_552 l (f8 ec he)) ck_RX12_165_552 (ft2_cons (fun ec he => hv_552 l (f8 ec he)) ck_RX12_165_552 (ft2_nil))))
noncomputable def cu_623_3 : List CUT2 := []
theorem ch_623_3 : staG tb_X12_readNext 1 bt_RX12 ft_623_3 ct_614_0 [] [] cu_623_3 38 con_623 = true := by decide +kernel
theorem ck_RX12_217_622 : COK2 RX12 vwCl gTbl 217 0 con_622 := ⟨wd_1638, wd_137, mh_X12_readHedge, .inr (.inr ⟨rfl, wd_1635, wd_1637, wd_64, ⟨_, rfl, pd_X12_readHedge⟩, 12, _, TX12, 45, rfl, rfl⟩)⟩
noncomputable def ct_623_4 : CTB2 := [(79, 175, 0, con_554, [0]), (83, 153, 0, con_555, [0]), (83, 153, 0, con_318, [0]), (167, 217, 0, con_622, [0, 2, 1])]
noncomputable def ft_623_4 : CTB2 := [(3, 165, 0, con_366, [0, 1]), (12, 165, 0, con_577, [0, 1]), (49, 165, 0, con_368, [0, 1]), (71, 210, 0, con_578, [0, 1, 2]), (93, 172, 0, con_377, [0, 1]), (160, 172, 0, con_579, [0, 1])]
theorem fto_623_4 (l : Launch) {es : List va_E} (f2 : isFact 2 0 [0, 1] es) (f5 : isFact 5 1 [0, 1] es) (f8 : isFact 8 0 [0, 1] es) (f12 : isFact 12 0 [0, 1] es) : FTOK2 l RX12 vwCl gTbl es ft_623_4 := ft2_cons (fun ec he => hv_366 l (f2 ec he)) ck_RX12_165_366 (ft2_cons (fun ec he => hv_577 l (f5 ec he)) ck_RX12_165_577 (ft2_cons (fun ec he => hv_368 l (f8 ec he)) ck_RX12_165_368 (ft2_cons (fun ec he => hv_578 l (fact_at f2 he (τ := [0, 1]) (by decide) (by decide)) (fact_at f5 he (τ := [0, 1]) (by decide) (by decide)) (fact_at f8 he (τ := [0, 1]) (by decide) (by decide)) (fact_at f12 he (τ := [0, 1]) (by decide) (by decide))) ck_RX12_210_578 (ft2_cons (fun ec he => hv_377 l (fact_at f2 he (τ := [0, 1]) (by decide) (by decide))) ck_RX12_172_377 (ft2_cons (fun ec he => hv_579 l (fact_at f5 he (τ := [0, 1]) (by decide) (by decide))) ck_RX12_172_579 (ft2_nil))))))
noncomputable def cu_623_4 : List CUT2 := []
theorem ch_623_4 : staG tb_X12_readNext 1 bt_RX12 ft_623_4 ct_623_4 [] [] cu_623_4 37 con_623 = true := by decide +kernel
theorem cto_623_4 (l : Launch) : CTOK2 l RX12 vwCl gTbl ct_623_4 := ct2_cons (vl_554 l) ck_RX12_175_554 (ct2_cons (vl_555 l) ck_RX12_153_555 (ct2_cons (vl_318 l) ck_RX12_153_318 (ct2_cons (vl_622 l) ck_RX12_217_622 (ct2_nil))))
noncomputable def ft_623_5 : CTB2 := [(3, 165, 0, con_366, [0, 1]), (12, 165, 0, con_577, [0, 1]), (49, 165, 0, con_368, [0, 1]), (71, 210, 0, con_585, [0, 1, 2]), (93, 172, 0, con_377, [0, 1]), (160, 172, 0, con_579, [0, 1])]
theorem fto_623_5 (l : Launch) {es : List va_E} (f2 : isFact 2 0 [0, 1] es) (f5 : isFact 5 1 [0, 1] es) (f8 : isFact 8 0 [0, 1] es) (f12 : isFact 12 1 [0, 1] es) : FTOK2 l RX12 vwCl gTbl es ft_623_5 := ft2_cons (fun ec he => hv_366 l (f2 ec he)) ck_RX12_165_366 (ft2_cons (fun ec he => hv_577 l (f5 ec he)) ck_RX12_165_577 (ft2_cons (fun ec he => hv_368 l (f8 ec he)) ck_RX12_165_368 (ft2_cons (fun ec he => hv_585 l (fact_at f2 he (τ := [0, 1]) (by decide) (by decide)) (fact_at f5 he (τ := [0, 1]) (by decide) (by decide)) (fact_at f8 he (τ := [0, 1]) (by decide) (by decide)) (fact_at f12 he (τ := [0, 1]) (by decide) (by decide))) ck_RX12_210_585 (ft2_cons (fun ec he => hv_377 l (fact_at f2 he (τ := [0, 1]) (by decide) (by decide))) ck_RX12_172_377 (ft2_cons (fun ec he => hv_579 l (fact_at f5 he (τ := [0, 1]) (by decide) (by decide))) ck_RX12_172_579 (ft2_nil))))))
noncomputable def cu_623_5 : List CUT2 := []
theorem ch_623_5 : staG tb_X12_readNext 1 bt_RX12 ft_623_5 ct_623_4 [] [] cu_623_5 37 con_623 = true := by decide +kernel
noncomputable def ft_623_6 : CTB2 := [(3, 165, 0, con_366, [0, 1]), (12, 165, 0, con_577, [0, 1]), (49, 165, 0, con_552, [0, 1])]
theorem fto_623_6 (l : Launch) {es : List va_E} (f2 : isFact 2 0 [0, 1] es) (f5 : isFact 5 1 [0, 1] es) (f8 : isFact 8 1 [0, 1] es) (f12 : isFact 12 0 [0, 1] es) : FTOK2 l RX12 vwCl gTbl es ft_623_6 := ft2_cons (fun ec he => hv_366 l (f2 ec he)) ck_RX12_165_366 (ft2_cons (fun ec he => hv_577 l (f5 ec he)) ck_RX12_165_577 (ft2_cons (fun ec he => hv_552 l (f8 ec he)) ck_RX12_165_552 (ft2_nil)))
noncomputable def cu_623_6 : List CUT2 := []
theorem ch_623_6 : staG tb_X12_readNext 1 bt_RX12 ft_623_6 ct_614_0 [] [] cu_623_6 34 con_623 = true := by decide +kernel
noncomputable def ft_623_7 : CTB2 := [(3, 165, 0, con_366, [0, 1]), (12, 165, 0, con_577, [0, 1]), (49, 165, 0, con_552, [0, 1])]
theorem fto_623_7 (l : Launch) {es : List va_E} (f2 : isFact 2 0 [0, 1] es) (f5 : isFact 5 1 [0, 1] es) (f8 : isFact 8 1 [0, 1] es) (f12 : isFact 12 1 [0, 1] es) : FTOK2 l RX12 vwCl gTbl es ft_623_7 := ft2_cons (fun ec he => hv_366 l (f2 ec he)) ck_RX12_165_366 (ft2_cons (fun ec he => hv_577 l (f5 ec he)) ck_RX12_165_577 (ft2_cons (fun ec he => hv_552 l (f8 ec he)) ck_RX12_165_552 (ft2_nil)))
noncomputable def cu_623_7 : List CUT2 := []
theorem ch_623_7 : staG tb_X12_readNext 1 bt_RX12 ft_623_7 ct_614_0 [] [] cu_623_7 34 con_623 = true := by decide +kernel
noncomputable def ft_623_8 : CTB2 := [(3, 165, 0, con_588, [0, 1]), (49, 165, 0, con_368, [0, 1]), (71, 210, 0, con_589, [0, 1, 2]), (93, 172, 0, con_590, [0, 1])]
theorem fto_623_8 (l : Launch) {es : List va_E} (f2 : isFact 2 1 [0, 1] es) (f5 : isFact 5 0 [0, 1] es) (f8 : isFact 8 0 [0, 1] es) (f12 : isFact 12 0 [0, 1] es) : FTOK2 l RX12 vwCl gTbl es ft_623_8 := ft2_cons (fun ec he => hv_588 l (f2 ec he)) ck_RX12_165_588 (ft2_cons (fun ec he => hv_368 l (f8 ec he)) ck_RX12_165_368 (ft2_cons (fun ec he => hv_589 l (fact_at f2 he (τ := [0, 1]) (by decide) (by decide)) (fact_at f5 he (τ := [0, 1]) (by decide) (by decide)) (fact_at f8 he (τ := [0, 1]) (by decide) (by decide)) (fact_at f12 he (τ := [0, 1]) (by decide) (by decide))) ck_RX12_210_589 (ft2_cons (fun ec he => hv_590 l (fact_at f2 he (τ := [0, 1]) (by decide) (by decide))) ck_RX12_172_590 (ft2_nil))))
noncomputable def cu_623_8 : List CUT2 := []
theorem ch_623_8 : staG tb_X12_readNext 1 bt_RX12 ft_623_8 ct_614_8 [] [] cu_623_8 64 con_623 = true := by decide +kernel
noncomputable def ft_623_9 : CTB2 := [(3, 165, 0, con_588, [0, 1]), (49, 165, 0, con_368, [0, 1]), (71, 210, 0, con_607, [0, 1, 2]), (93, 172, 0, con_590, [0, 1])]
theorem fto_623_9 (l : Launch) {es : List va_E} (f2 : isFact 2 1 [0, 1] es) (f5 : isFact 5 0 [0, 1] es) (f8 : isFact 8 0 [0, 1] es) (f12 : isFact 12 1 [0, 1] es) : FTOK2 l RX12 vwCl gTbl es ft_623_9 := ft2_cons (fun ec he => hv_588 l (f2 ec he)) ck_RX12_165_588 (ft2_cons (fun ec he => hv_368 l (f8 ec he)) ck_RX12_165_368 (ft2_cons (fun ec he => hv_607 l (fact_at f2 he (τ := [0, 1]) (by decide) (by decide)) (fact_at f5 he (τ := [0, 1]) (by decide) (by decide)) (fact_at f8 he (τ := [0, 1]) (by decide) (by decide)) (fact_at f12 he (τ := [0, 1]) (by decide) (by decide))) ck_RX12_210_607 (ft2_cons (fun ec he => hv_590 l (fact_at f2 he (τ := [0, 1]) (by decide) (by decide))) ck_RX12_172_590 (ft2_nil))))
noncomputable def cu_623_9 : List CUT2 := []
theorem ch_623_9 : staG tb_X12_readNext 1 bt_RX12 ft_623_9 ct_614_8 [] [] cu_623_9 64 con_623 = true := by decide +kernel
noncomputable def ft_623_10 : CTB2 := [(3, 165, 0, con_588, [0, 1]), (49, 165, 0, con_552, [0, 1])]
theorem fto_623_10 (l : Launch) {es : List va_E} (f2 : isFact 2 1 [0, 1] es) (f5 : isFact 5 0 [0, 1] es) (f8 : isFact 8 1 [0, 1] es) (f12 : isFact 12 0 [0, 1] es) : FTOK2 l RX12 vwCl gTbl es ft_623_10 := ft2_cons (fun ec he => hv_588 l (f2 ec he)) ck_RX12_165_588 (ft2_cons (fun ec he => hv_552 l (f8 ec he)) ck_RX12_165_552 (ft2_nil))
noncomputable def cu_623_10 : List CUT2 := []
theorem ch_623_10 : staG tb_X12_readNext 1 bt_RX12 ft_623_10 ct_614_0 [] [] cu_623_10 30 con_623 = true := by decide +kernel
noncomputable def ft_623_11 : CTB2 := [(3, 165, 0, con_588, [0, 1]), (49, 165, 0, con_552, [0, 1])]
theorem fto_623_11 (l : Launch) {es : List va_E} (f2 : isFact 2 1 [0, 1] es) (f5 : isFact 5 0 [0, 1] es) (f8 : isFact 8 1 [0, 1] es) (f12 : isFact 12 1 [0, 1] es) : FTOK2 l RX12 vwCl gTbl es ft_623_11 := ft2_cons (fun ec he => hv_588 l (f2 ec he)) ck_RX12_165_588 (ft2_cons (fun ec he => hv_552 l (f8 ec he)) ck_RX12_165_552 (ft2_nil))
noncomputable def cu_623_11 : List CUT2 := []
theorem ch_623_11 : staG tb_X12_readNext 1 bt_RX12 ft_623_11 ct_614_0 [] [] cu_623_11 30 con_623 = true := by decide +kernel
noncomputable def ft_623_12 : CTB2 := [(3, 165, 0, con_588, [0, 1]), (49, 165, 0, con_368, [0, 1]), (71, 210, 0, con_610, [0, 1, 2]), (93, 172, 0, con_590, [0, 1])]
theorem fto_623_12 (l : Launch) {es : List va_E} (f2 : isFact 2 1 [0, 1] es) (f5 : isFact 5 1 [0, 1] es) (f8 : isFact 8 0 [0, 1] es) (f12 : isFact 12 0 [0, 1] es) : FTOK2 l RX12 vwCl gTbl es ft_623_12 := ft2_cons (fun ec he => hv_588 l (f2 ec he)) ck_RX12_165_588 (ft2_cons (fun ec he => hv_368 l (f8 ec he)) ck_RX12_165_368 (ft2_cons (fun ec he => hv_610 l (fact_at f2 he (τ := [0, 1]) (by decide) (by decide)) (fact_at f5 he (τ := [0, 1]) (by decide) (by decide)) (fact_at f8 he (τ := [0, 1]) (by decide) (by decide)) (fact_at f12 he (τ := [0, 1]) (by decide) (by decide))) ck_RX12_210_610 (ft2_cons (fun ec he => hv_590 l (fact_at f2 he (τ := [0, 1]) (by decide) (by decide))) ck_RX12_172_590 (ft2_nil))))
noncomputable def cu_623_12 : List CUT2 := []
theorem ch_623_12 : staG tb_X12_readNext 1 bt_RX12 ft_623_12 ct_614_8 [] [] cu_623_12 64 con_623 = true := by decide +kernel
noncomputable def ft_623_13 : CTB2 := [(3, 165, 0, con_588, [0, 1]), (49, 165, 0, con_368, [0, 1]), (71, 210, 0, con_611, [0, 1, 2]), (93, 172, 0, con_590, [0, 1])]
theorem fto_623_13 (l : Launch) {es : List va_E} (f2 : isFact 2 1 [0, 1] es) (f5 : isFact 5 1 [0, 1] es) (f8 : isFact 8 0 [0, 1] es) (f12 : isFact 12 1 [0, 1] es) : FTOK2 l RX12 vwCl gTbl es ft_623_13 := ft2_cons (fun ec he => hv_588 l (f2 ec he)) ck_RX12_165_588 (ft2_cons (fun ec he => hv_368 l (f8 ec he)) ck_RX12_165_368 (ft2_cons (fun ec he => hv_611 l (fact_at f2 he (τ := [0, 1]) (by decide) (by decide)) (fact_at f5 he (τ := [0, 1]) (by decide) (by decide)) (fact_at f8 he (τ := [0, 1]) (by decide) (by decide)) (fact_at f12 he (τ := [0, 1]) (by decide) (by decide))) ck_RX12_210_611 (ft2_cons (fun ec he => hv_590 l (fact_at f2 he (τ := [0, 1]) (by decide) (by decide))) ck_RX12_172_590 (ft2_nil))))
noncomputable def cu_623_13 : List CUT2 := []
theorem ch_623_13 : staG tb_X12_readNext 1 bt_RX12 ft_623_13 ct_614_8 [] [] cu_623_13 64 con_623 = true := by decide +kernel
noncomputable def ft_623_14 : CTB2 := [(3, 165, 0, con_588, [0, 1]), (49, 165, 0, con_552, [0, 1])]
theorem fto_623_14 (l : Launch) {es : List va_E} (f2 : isFact 2 1 [0, 1] es) (f5 : isFact 5 1 [0, 1] es) (f8 : isFact 8 1 [0, 1] es) (f12 : isFact 12 0 [0, 1] es) : FTOK2 l RX12 vwCl gTbl es ft_623_14 := ft2_cons (fun ec he => hv_588 l (f2 ec he)) ck_RX12_165_588 (ft2_cons (fun ec he => hv_552 l (f8 ec he)) ck_RX12_165_552 (ft2_nil))
noncomputable def cu_623_14 : List CUT2 := []
theorem ch_623_14 : staG tb_X12_readNext 1 bt_RX12 ft_623_14 ct_614_0 [] [] cu_623_14 30 con_623 = true := by decide +kernel
noncomputable def ft_623_15 : CTB2 := [(3, 165, 0, con_588, [0, 1]), (49, 165, 0, con_552, [0, 1])]
theorem fto_623_15 (l : Launch) {es : List va_E} (f2 : isFact 2 1 [0, 1] es) (f5 : isFact 5 1 [0, 1] es) (f8 : isFact 8 1 [0, 1] es) (f12 : isFact 12 1 [0, 1] es) : FTOK2 l RX12 vwCl gTbl es ft_623_15 := ft2_cons (fun ec he => hv_588 l (f2 ec he)) ck_RX12_165_588 (ft2_cons (fun ec he => hv_552 l (f8 ec he)) ck_RX12_165_552 (ft2_nil))
noncomputable def cu_623_15 : List CUT2 := []
theorem ch_623_15 : staG tb_X12_readNext 1 bt_RX12 ft_623_15 ct_614_0 [] [] cu_623_15 30 con_623 = true := by decide +kernel
theorem vl_623 (l : Launch) : Vld2 l vwCl gTbl con_623 := fun es => by
  rcases fact_or 2 [0, 1] es with f2 | f2 <;> rcases fact_or 5 [0, 1] es with f5 | f5 <;> rcases fact_or 8 [0, 1] es with f8 | f8 <;> rcases fact_or 12 [0, 1] es with f12 | f12
  · exact conE_ok3 gT_all (hd_623) rfl pn_RX12 tk_X12_readNext bo_RX12 xo_RX12 (fto_623_0 l f2 f5 f8 f12) (cto_614_0 l) ch_623_0 cut_nil
  · exact conE_ok3 gT_all (hd_623) rfl pn_RX12 tk_X12_readNext bo_RX12 xo_RX12 (fto_623_1 l f2 f5 f8 f12) (cto_623_1 l) ch_623_1 cut_nil
  · exact conE_ok3 gT_all (hd_623) rfl pn_RX12 tk_X12_readNext bo_RX12 xo_RX12 (fto_623_2 l f2 f5 f8 f12) (cto_614_0 l) ch_623_2 cut_nil
  · exact conE_ok3 gT_all (hd_623) rfl pn_RX12 tk_X12_readNext bo_RX12 xo_RX12 (fto_623_3 l f2 f5 f8 f12) (cto_614_0 l) ch_623_3 cut_nil
  · exact conE_ok3 gT_all (hd_623) rfl pn_RX12 tk_X12_readNext bo_RX12 xo_RX12 (fto_623_4 l f2 f5 f8 f12) (cto_623_4 l) ch_623_4 cut_nil
  · exact conE_ok3 gT_all (hd_623) rfl pn_RX12 tk_X12_readNext bo_RX12 xo_RX12 (fto_623_5 l f2 f5 f8 f12) (cto_623_4 l) ch_623_5 cut_nil
  · exact conE_ok3 gT_all (hd_623) rfl pn_RX12 tk_X12_readNext bo_RX12 xo_RX12 (fto_623_6 l f2 f5 f8 f12) (cto_614_0 l) ch_623_6 cut_nil
  · exact conE_ok3 gT_all (hd_623) rfl pn_RX12 tk_X12_readNext bo_RX12 xo_RX12 (fto_623_7 l f2 f5 f8 f12) (cto_614_0 l) ch_623_7 cut_nil
  · exact conE_ok3 gT_all (hd_623) rfl pn_RX12 tk_X12_readNext bo_RX12 xo_RX12 (fto_623_8 l f2 f5 f8 f12) (cto_614_8 l) ch_623_8 cut_nil
  · exact conE_ok3 gT_all (hd_623) rfl pn_RX12 tk_X12_readNext bo_RX12 xo_RX12 (fto_623_9 l f2 f5 f8 f12) (cto_614_8 l) ch_623_9 cut_nil
  · exact conE_ok3 gT_all (hd_623) rfl pn_RX12 tk_X12_readNext bo_RX12 xo_RX12 (fto_623_10 l f2 f5 f8 f12) (cto_614_0 l) ch_623_10 cut_nil
  · exact conE_ok3 gT_all (hd_623) rfl pn_RX12 tk_X12_readNext bo_RX12 xo_RX12 (fto_623_11 l f2 f5 f8 f12) (cto_614_0 l) ch_623_11 cut_nil
  · exact conE_ok3 gT_all (hd_623) rfl pn_RX12 tk_X12_readNext bo_RX12 xo_RX12 (fto_623_12 l f2 f5 f8 f12) (cto_614_8 l) ch_623_12 cut_nil
  · exact conE_ok3 gT_all (hd_623) rfl pn_RX12 tk_X12_readNext bo_RX12 xo_RX12 (fto_623_13 l f2 f5 f8 f12) (cto_614_8 l) ch_623_13 cut_nil
  · exact conE_ok3 gT_all (hd_623) rfl pn_RX12 tk_X12_readNext bo_RX12 xo_RX12 (fto_623_14 l f2 f5 f8 f12) (cto_614_0 l) ch_623_14 cut_nil
  · exact conE_ok3 gT_all (hd_623) rfl pn_RX12 tk_X12_readNext bo_RX12 xo_RX12 (fto_623_15 l f2 f5 f8 f12) (cto_614_0 l) ch_623_15 cut_nil
/-- RookHustingModel readLine -/
noncomputable def ac_264 : AC := .inr (1, jl_n [sp_68, jl_x (1, (0, 2, 0)), sp_69, sp_52])
noncomputable def hq_262 : HP := [(true, ac_149), (true, ac_264), (false, am_3)]
noncomputable def ac_265 : AC := .inr (1, jl_n [js_1 52 6, jl_x (1, (0, 3, 0)), sp_49, sp_71, sp_70])
noncomputable def hq_263 : HP := [(true, ac_194), (true, ac_265), (false, am_3)]
noncomputable def ac_266 : AC := .inr (1, jl_n [sp_23, sp_69, sp_70])
noncomputable def hq_264 : HP := [(true, ac_149), (true, ac_266), (false, am_3)]
noncomputable def hq_265 : HP := [(true, ac_151), (true, ac_264), (false, am_3)]
noncomputable def hq_266 : HP := [(true, ac_151), (true, ac_265), (false, am_3)]
noncomputable def con_624 : Con2 := ((yX12_readLine, cX12_readLine, 1, none), (14, 334), ([(6, 0, 0)], gi_214, [ac_148, ac_232, am_3], []), [((9, 0, 0), gi_275, hq_262, [], tg_11), ((9, 0, 0), gi_273, hq_263, [], tg_11), ((9, 0, 0), gi_277, hq_264, [], tg_11), ((9, 0, 0), gi_276, hq_265, [([(49, (-1)), (50, (-1)), (117, 1), (118, 1)], (-1))], tg_11), ((9, 0, 0), gi_270, hq_266, [], tg_11)])
theorem hd_624 : con_624.1 = (yX12_readLine, cX12_readLine, 1, none) := rfl
theorem ck_RX12_230_623 : COK2 RX12 vwCl gTbl 230 0 con_623 := ⟨wd_1624, wd_137, mh_X12_readNext, .inr (.inr ⟨rfl, wd_1621, wd_1623, wd_62, ⟨_, rfl, pd_X12_readNext⟩, 12, _, TX12, 45, rfl, rfl⟩)⟩
noncomputable def ct_624 : CTB2 := [(18, 230, 0, con_623, [0, 2, 1]), (22, 153, 0, con_318, [0]), (22, 153, 0, con_347, [0]), (22, 153, 0, con_615, [0]), (38, 175, 0, con_321, [0]), (42, 153, 0, con_326, [0]), (42, 153, 0, con_318, [0]), (42, 153, 0, con_347, [0]), (42, 153, 0, con_615, [0]), (49, 169, 0, con_317, [0, 2])]
noncomputable def cu_624 : List CUT2 := []
theorem ch_624 : staG tb_X12_readLine 1 bt_RX12 [] ct_624 [] [] cu_624 31 con_624 = true := by decide +kernel
theorem cto_624 (l : Launch) : CTOK2 l RX12 vwCl gTbl ct_624 := ct2_cons (vl_623 l) ck_RX12_230_623 (ct2_cons (vl_318 l) ck_RX12_153_318 (ct2_cons (vl_347 l) ck_RX12_153_347 (ct2_cons (vl_615 l) ck_RX12_153_615 (ct2_cons (vl_321 l) ck_RX12_175_321 (ct2_cons (vl_326 l) ck_RX12_153_326 (ct2_cons (vl_318 l) ck_RX12_153_318 (ct2_cons (vl_347 l) ck_RX12_153_347 (ct2_cons (vl_615 l) ck_RX12_153_615 (ct2_cons (vl_317 l) ck_RX12_169_317 (ct2_nil))))))))))
theorem vl_624 (l : Launch) : Vld2 l vwCl gTbl con_624 := conR_ok3 gT_all (hd_624) rfl pn_RX12 tk_X12_readLine bo_RX12 xo_RX12 (cto_624 l) ch_624 cut_nil
