/-! ===== contracts, 8 ===== -/
/-- RookHustingModel readHedge -/
noncomputable def ac_227 : AC := .inr (1, jl_n [sp_46, jl_x (1, (0, 1, 0)), sp_24, sp_29])
noncomputable def hq_216 : HP := [(true, ac_149), (true, ac_227), (false, am_2)]
noncomputable def hq_217 : HP := [(true, ac_151), (true, ac_227), (false, am_2)]
noncomputable def con_614 : Con2 := ((yX12_readHedge, cX12_readHedge, 2, none), (3, 69), ([(6, 0, 0)], gi_215, [ac_148, ac_197, am_2], []), [((9, 0, 0), gi_253, hq_216, [], tg_11), ((9, 0, 0), gi_254, hq_217, [], tg_11)])
theorem hd_614 : con_614.1 = (yX12_readHedge, cX12_readHedge, 2, none) := rfl
noncomputable def cu_614 : List CUT2 := []
theorem ch_614 : staG tb_X12_readHedge 1 bt_RX12 [] ct_580 [] [] cu_614 65 con_614 = true := by decide +kernel
theorem vl_614 (l : Launch) : Vld2 l vwCl gTbl con_614 := conR_ok3 gT_all (hd_614) rfl pn_RX12 tk_X12_readHedge bo_RX12 xo_RX12 (cto_580 l) ch_614 cut_nil
/-- RookHustingModel readNext -/
noncomputable def gi_276 : GI := jl_n [gp_136, jl_i 1 3, jl_i 0 700, jl_z 34, gp_53, jl_z 18]
noncomputable def ac_228 : AC := .inr (1, jl_n [sp_68, jl_x (1, (0, 1, 0)), sp_24, sp_29])
noncomputable def hq_218 : HP := [(true, ac_144), (false, am_2), (true, ac_228)]
noncomputable def hq_219 : HP := [(true, ac_144), (false, am_2), (true, ac_198)]
noncomputable def gi_277 : GI := jl_n [gp_136, jl_z 36, jl_i 1 5, jl_i 0 8, jl_z 18]
noncomputable def hq_220 : HP := [(true, ac_146), (false, am_2), (true, ac_228)]
noncomputable def hq_221 : HP := [(true, ac_146), (false, am_2), (true, ac_199)]
noncomputable def con_615 : Con2 := ((yX12_readNext, cX12_readNext, 3, none), (13, 312), ([(6, 0, 0)], gi_215, [ac_142, am_2, ac_197], []), [((9, 0, 0), gi_276, hq_218, [], tg_11), ((9, 0, 0), gi_275, hq_219, [], tg_11), ((9, 0, 0), gi_277, hq_220, [([(49, (-1)), (50, (-1)), (117, 1), (118, 1)], (-1))], tg_11), ((9, 0, 0), gi_271, hq_221, [], tg_11)])
theorem hd_615 : con_615.1 = (yX12_readNext, cX12_readNext, 3, none) := rfl
noncomputable def ft_615_0 : CTB2 := [(3, 165, 0, con_362, [0, 1]), (12, 165, 0, con_363, [0, 1]), (21, 165, 0, con_364, [0, 1]), (30, 165, 0, con_365, [0, 1])]
theorem fto_615_0 (l : Launch) {es : List va_E} (f2 : isFact 2 0 [0, 1] es) (f5 : isFact 5 0 [0, 1] es) (f8 : isFact 8 0 [0, 1] es) (f12 : isFact 12 0 [0, 1] es) : FTOK2 l RX12 vwCl gTbl es ft_615_0 := ft2_cons (fun ec he => hv_362 l (f2 ec he)) ck_RX12_165_362 (ft2_cons (fun ec he => hv_363 l (f5 ec he)) ck_RX12_165_363 (ft2_cons (fun ec he => hv_364 l (f8 ec he)) ck_RX12_165_364 (ft2_cons (fun ec he => hv_365 l (f12 ec he)) ck_RX12_165_365 (ft2_nil))))
noncomputable def cu_615_0 : List CUT2 := []
theorem ch_615_0 : staG tb_X12_readNext 1 bt_RX12 ft_615_0 ct_610_0 [] [] cu_615_0 32 con_615 = true := by decide +kernel
theorem ck_RX12_224_613 : COK2 RX12 vwCl gTbl 224 0 con_613 := ⟨wd_1644, wd_137, mh_X12_readVoter, .inr (.inr ⟨rfl, wd_1641, wd_1643, wd_65, ⟨_, rfl, pd_X12_readVoter⟩, 12, _, TX12, 45, rfl, rfl⟩)⟩
noncomputable def ct_615_1 : CTB2 := [(83, 153, 0, con_314, [0]), (240, 169, 0, con_313, [0, 1]), (244, 224, 0, con_613, [0, 2, 1])]
noncomputable def ft_615_1 : CTB2 := [(3, 165, 0, con_362, [0, 1]), (12, 165, 0, con_363, [0, 1]), (21, 165, 0, con_364, [0, 1]), (30, 165, 0, con_371, [0, 1]), (49, 165, 0, con_364, [0, 1]), (71, 210, 0, con_372, [0, 1, 2]), (93, 172, 0, con_373, [0, 1]), (160, 172, 0, con_374, [0, 1]), (176, 172, 0, con_375, [0, 1])]
theorem fto_615_1 (l : Launch) {es : List va_E} (f2 : isFact 2 0 [0, 1] es) (f5 : isFact 5 0 [0, 1] es) (f8 : isFact 8 0 [0, 1] es) (f12 : isFact 12 1 [0, 1] es) : FTOK2 l RX12 vwCl gTbl es ft_615_1 := ft2_cons (fun ec he => hv_362 l (f2 ec he)) ck_RX12_165_362 (ft2_cons (fun ec he => hv_363 l (f5 ec he)) ck_RX12_165_363 (ft2_cons (fun ec he => hv_364 l (f8 ec he)) ck_RX12_165_364 (ft2_cons (fun ec he => hv_371 l (f12 ec he)) ck_RX12_165_371 (ft2_cons (fun ec he => hv_364 l (f8 ec he)) ck_RX12_165_364 (ft2_cons (fun ec he => hv_372 l (fact_at f2 he (τ := [0, 1]) (by decide) (by decide)) (fact_at f5 he (τ := [0, 1]) (by decide) (by decide)) (fact_at f8 he (τ := [0, 1]) (by decide) (by decide)) (fact_at f12 he (τ := [0, 1]) (by decide) (by decide))) ck_RX12_210_372 (ft2_cons (fun ec he => hv_373 l (fact_at f2 he (τ := [0, 1]) (by decide) (by decide))) ck_RX12_172_373 (ft2_cons (fun ec he => hv_374 l (fact_at f5 he (τ := [0, 1]) (by decide) (by decide))) ck_RX12_172_374 (ft2_cons (fun ec he => hv_375 l (fact_at f8 he (τ := [0, 1]) (by decide) (by decide))) ck_RX12_172_375 (ft2_nil)))))))))
noncomputable def cu_615_1 : List CUT2 := []
theorem ch_615_1 : staG tb_X12_readNext 1 bt_RX12 ft_615_1 ct_615_1 [] [] cu_615_1 50 con_615 = true := by decide +kernel
theorem cto_615_1 (l : Launch) : CTOK2 l RX12 vwCl gTbl ct_615_1 := ct2_cons (vl_314 l) ck_RX12_153_314 (ct2_cons (vl_313 l) ck_RX12_169_313 (ct2_cons (vl_613 l) ck_RX12_224_613 (ct2_nil)))
noncomputable def ft_615_2 : CTB2 := [(3, 165, 0, con_362, [0, 1]), (12, 165, 0, con_363, [0, 1]), (21, 165, 0, con_548, [0, 1]), (49, 165, 0, con_548, [0, 1])]
theorem fto_615_2 (l : Launch) {es : List va_E} (f2 : isFact 2 0 [0, 1] es) (f5 : isFact 5 0 [0, 1] es) (f8 : isFact 8 1 [0, 1] es) (f12 : isFact 12 0 [0, 1] es) : FTOK2 l RX12 vwCl gTbl es ft_615_2 := ft2_cons (fun ec he => hv_362 l (f2 ec he)) ck_RX12_165_362 (ft2_cons (fun ec he => hv_363 l (f5 ec he)) ck_RX12_165_363 (ft2_cons (fun ec he => hv_548 l (f8 ec he)) ck_RX12_165_548 (ft2_cons (fun ec he => hv_548 l (f8 ec he)) ck_RX12_165_548 (ft2_nil))))
noncomputable def cu_615_2 : List CUT2 := []
theorem ch_615_2 : staG tb_X12_readNext 1 bt_RX12 ft_615_2 ct_610_0 [] [] cu_615_2 38 con_615 = true := by decide +kernel
noncomputable def ft_615_3 : CTB2 := [(3, 165, 0, con_362, [0, 1]), (12, 165, 0, con_363, [0, 1]), (21, 165, 0, con_548, [0, 1]), (49, 165, 0, con_548, [0, 1])]
theorem fto_615_3 (l : Launch) {es : List va_E} (f2 : isFact 2 0 [0, 1] es) (f5 : isFact 5 0 [0, 1] es) (f8 : isFact 8 1 [0, 1] es) (f12 : isFact 12 1 [0, 1] es) : FTOK2 l RX12 vwCl gTbl es ft_615_3 := ft2_cons (fun ec he => hv_362 l (f2 ec he)) ck_RX12_165_362 (ft2_cons (fun ec he => hv_363 l (f5 ec he)) ck_RX12_165_363 (ft2_cons (fun ec he => hv_548 l (f8 ec he)) ck_RX12_165_548 (ft2_cons (fun ec he => hv_548 l (f8 ec he)) ck_RX12_165_548 (ft2_nil))))
noncomputable def cu_615_3 : List CUT2 := []
theorem ch_615_3 : staG tb_X12_readNext 1 bt_RX12 ft_615_3 ct_610_0 [] [] cu_615_3 38 con_615 = true := by decide +kernel
theorem ck_RX12_217_614 : COK2 RX12 vwCl gTbl 217 0 con_614 := ⟨wd_1638, wd_137, mh_X12_readHedge, .inr (.inr ⟨rfl, wd_1635, wd_1637, wd_64, ⟨_, rfl, pd_X12_readHedge⟩, 12, _, TX12, 45, rfl, rfl⟩)⟩
noncomputable def ct_615_4 : CTB2 := [(79, 175, 0, con_550, [0]), (83, 153, 0, con_551, [0]), (83, 153, 0, con_314, [0]), (167, 217, 0, con_614, [0, 2, 1])]
noncomputable def ft_615_4 : CTB2 := [(3, 165, 0, con_362, [0, 1]), (12, 165, 0, con_573, [0, 1]), (49, 165, 0, con_364, [0, 1]), (71, 210, 0, con_574, [0, 1, 2]), (93, 172, 0, con_373, [0, 1]), (160, 172, 0, con_575, [0, 1])]
theorem fto_615_4 (l : Launch) {es : List va_E} (f2 : isFact 2 0 [0, 1] es) (f5 : isFact 5 1 [0, 1] es) (f8 : isFact 8 0 [0, 1] es) (f12 : isFact 12 0 [0, 1] es) : FTOK2 l RX12 vwCl gTbl es ft_615_4 := ft2_cons (fun ec he => hv_362 l (f2 ec he)) ck_RX12_165_362 (ft2_cons (fun ec he => hv_573 l (f5 ec he)) ck_RX12_165_573 (ft2_cons (fun ec he => hv_364 l (f8 ec he)) ck_RX12_165_364 (ft2_cons (fun ec he => hv_574 l (fact_at f2 he (τ := [0, 1]) (by decide) (by decide)) (fact_at f5 he (τ := [0, 1]) (by decide) (by decide)) (fact_at f8 he (τ := [0, 1]) (by decide) (by decide)) (fact_at f12 he (τ := [0, 1]) (by decide) (by decide))) ck_RX12_210_574 (ft2_cons (fun ec he => hv_373 l (fact_at f2 he (τ := [0, 1]) (by decide) (by decide))) ck_RX12_172_373 (ft2_cons (fun ec he => hv_575 l (fact_at f5 he (τ := [0, 1]) (by decide) (by decide))) ck_RX12_172_575 (ft2_nil))))))
noncomputable def cu_615_4 : List CUT2 := []
theorem ch_615_4 : staG tb_X12_readNext 1 bt_RX12 ft_615_4 ct_615_4 [] [] cu_615_4 37 con_615 = true := by decide +kernel
theorem cto_615_4 (l : Launch) : CTOK2 l RX12 vwCl gTbl ct_615_4 := ct2_cons (vl_550 l) ck_RX12_175_550 (ct2_cons (vl_551 l) ck_RX12_153_551 (ct2_cons (vl_314 l) ck_RX12_153_314 (ct2_cons (vl_614 l) ck_RX12_217_614 (ct2_nil))))
noncomputable def ft_615_5 : CTB2 := [(3, 165, 0, con_362, [0, 1]), (12, 165, 0, con_573, [0, 1]), (49, 165, 0, con_364, [0, 1]), (71, 210, 0, con_581, [0, 1, 2]), (93, 172, 0, con_373, [0, 1]), (160, 172, 0, con_575, [0, 1])]
theorem fto_615_5 (l : Launch) {es : List va_E} (f2 : isFact 2 0 [0, 1] es) (f5 : isFact 5 1 [0, 1] es) (f8 : isFact 8 0 [0, 1] es) (f12 : isFact 12 1 [0, 1] es) : FTOK2 l RX12 vwCl gTbl es ft_615_5 := ft2_cons (fun ec he => hv_362 l (f2 ec he)) ck_RX12_165_362 (ft2_cons (fun ec he => hv_573 l (f5 ec he)) ck_RX12_165_573 (ft2_cons (fun ec he => hv_364 l (f8 ec he)) ck_RX12_165_364 (ft2_cons (fun ec he => hv_581 l (fact_at f2 he (τ := [0, 1]) (by decide) (by decide)) (fact_at f5 he (τ := [0, 1]) (by decide) (by decide)) (fact_at f8 he (τ := [0, 1]) (by decide) (by decide)) (fact_at f12 he (τ := [0, 1]) (by decide) (by decide))) ck_RX12_210_581 (ft2_cons (fun ec he => hv_373 l (fact_at f2 he (τ := [0, 1]) (by decide) (by decide))) ck_RX12_172_373 (ft2_cons (fun ec he => hv_575 l (fact_at f5 he (τ := [0, 1]) (by decide) (by decide))) ck_RX12_172_575 (ft2_nil))))))
noncomputable def cu_615_5 : List CUT2 := []
theorem ch_615_5 : staG tb_X12_readNext 1 bt_RX12 ft_615_5 ct_615_4 [] [] cu_615_5 37 con_615 = true := by decide +kernel
noncomputable def ft_615_6 : CTB2 := [(3, 165, 0, con_362, [0, 1]), (12, 165, 0, con_573, [0, 1]), (49, 165, 0, con_548, [0, 1])]
theorem fto_615_6 (l : Launch) {es : List va_E} (f2 : isFact 2 0 [0, 1] es) (f5 : isFact 5 1 [0, 1] es) (f8 : isFact 8 1 [0, 1] es) (f12 : isFact 12 0 [0, 1] es) : FTOK2 l RX12 vwCl gTbl es ft_615_6 := ft2_cons (fun ec he => hv_362 l (f2 ec he)) ck_RX12_165_362 (ft2_cons (fun ec he => hv_573 l (f5 ec he)) ck_RX12_165_573 (ft2_cons (fun ec he => hv_548 l (f8 ec he)) ck_RX12_165_548 (ft2_nil)))
noncomputable def cu_615_6 : List CUT2 := []
theorem ch_615_6 : staG tb_X12_readNext 1 bt_RX12 ft_615_6 ct_610_0 [] [] cu_615_6 34 con_615 = true := by decide +kernel
noncomputable def ft_615_7 : CTB2 := [(3, 165, 0, con_362, [0, 1]), (12, 165, 0, con_573, [0, 1]), (49, 165, 0, con_548, [0, 1])]
theorem fto_615_7 (l : Launch) {es : List va_E} (f2 : isFact 2 0 [0, 1] es) (f5 : isFact 5 1 [0, 1] es) (f8 : isFact 8 1 [0, 1] es) (f12 : isFact 12 1 [0, 1] es) : FTOK2 l RX12 vwCl gTbl es ft_615_7 := ft2_cons (fun ec he => hv_362 l (f2 ec he)) ck_RX12_165_362 (ft2_cons (fun ec he => hv_573 l (f5 ec he)) ck_RX12_165_573 (ft2_cons (fun ec he => hv_548 l (f8 ec he)) ck_RX12_165_548 (ft2_nil)))
noncomputable def cu_615_7 : List CUT2 := []
theorem ch_615_7 : staG tb_X12_readNext 1 bt_RX12 ft_615_7 ct_610_0 [] [] cu_615_7 34 con_615 = true := by decide +kernel
noncomputable def ft_615_8 : CTB2 := [(3, 165, 0, con_584, [0, 1]), (49, 165, 0, con_364, [0, 1]), (71, 210, 0, con_585, [0, 1, 2]), (93, 172, 0, con_586, [0, 1])]
theorem fto_615_8 (l : Launch) {es : List va_E} (f2 : isFact 2 1 [0, 1] es) (f5 : isFact 5 0 [0, 1] es) (f8 : isFact 8 0 [0, 1] es) (f12 : isFact 12 0 [0, 1] es) : FTOK2 l RX12 vwCl gTbl es ft_615_8 := ft2_cons (fun ec he => hv_584 l (f2 ec he)) ck_RX12_165_584 (ft2_cons (fun ec he => hv_364 l (f8 ec he)) ck_RX12_165_364 (ft2_cons (fun ec he => hv_585 l (fact_at f2 he (τ := [0, 1]) (by decide) (by decide)) (fact_at f5 he (τ := [0, 1]) (by decide) (by decide)) (fact_at f8 he (τ := [0, 1]) (by decide) (by decide)) (fact_at f12 he (τ := [0, 1]) (by decide) (by decide))) ck_RX12_210_585 (ft2_cons (fun ec he => hv_586 l (fact_at f2 he (τ := [0, 1]) (by decide) (by decide))) ck_RX12_172_586 (ft2_nil))))
noncomputable def cu_615_8 : List CUT2 := []
theorem ch_615_8 : staG tb_X12_readNext 1 bt_RX12 ft_615_8 ct_610_8 [] [] cu_615_8 64 con_615 = true := by decide +kernel
noncomputable def ft_615_9 : CTB2 := [(3, 165, 0, con_584, [0, 1]), (49, 165, 0, con_364, [0, 1]), (71, 210, 0, con_603, [0, 1, 2]), (93, 172, 0, con_586, [0, 1])]
theorem fto_615_9 (l : Launch) {es : List va_E} (f2 : isFact 2 1 [0, 1] es) (f5 : isFact 5 0 [0, 1] es) (f8 : isFact 8 0 [0, 1] es) (f12 : isFact 12 1 [0, 1] es) : FTOK2 l RX12 vwCl gTbl es ft_615_9 := ft2_cons (fun ec he => hv_584 l (f2 ec he)) ck_RX12_165_584 (ft2_cons (fun ec he => hv_364 l (f8 ec he)) ck_RX12_165_364 (ft2_cons (fun ec he => hv_603 l (fact_at f2 he (τ := [0, 1]) (by decide) (by decide)) (fact_at f5 he (τ := [0, 1]) (by decide) (by decide)) (fact_at f8 he (τ := [0, 1]) (by decide) (by decide)) (fact_at f12 he (τ := [0, 1]) (by decide) (by decide))) ck_RX12_210_603 (ft2_cons (fun ec he => hv_586 l (fact_at f2 he (τ := [0, 1]) (by decide) (by decide))) ck_RX12_172_586 (ft2_nil))))
noncomputable def cu_615_9 : List CUT2 := []
theorem ch_615_9 : staG tb_X12_readNext 1 bt_RX12 ft_615_9 ct_610_8 [] [] cu_615_9 64 con_615 = true := by decide +kernel
noncomputable def ft_615_10 : CTB2 := [(3, 165, 0, con_584, [0, 1]), (49, 165, 0, con_548, [0, 1])]
theorem fto_615_10 (l : Launch) {es : List va_E} (f2 : isFact 2 1 [0, 1] es) (f5 : isFact 5 0 [0, 1] es) (f8 : isFact 8 1 [0, 1] es) (f12 : isFact 12 0 [0, 1] es) : FTOK2 l RX12 vwCl gTbl es ft_615_10 := ft2_cons (fun ec he => hv_584 l (f2 ec he)) ck_RX12_165_584 (ft2_cons (fun ec he => hv_548 l (f8 ec he)) ck_RX12_165_548 (ft2_nil))
noncomputable def cu_615_10 : List CUT2 := []
theorem ch_615_10 : staG tb_X12_readNext 1 bt_RX12 ft_615_10 ct_610_0 [] [] cu_615_10 30 con_615 = true := by decide +kernel
noncomputable def ft_615_11 : CTB2 := [(3, 165, 0, con_584, [0, 1]), (49, 165, 0, con_548, [0, 1])]
theorem fto_615_11 (l : Launch) {es : List va_E} (f2 : isFact 2 1 [0, 1] es) (f5 : isFact 5 0 [0, 1] es) (f8 : isFact 8 1 [0, 1] es) (f12 : isFact 12 1 [0, 1] es) : FTOK2 l RX12 vwCl gTbl es ft_615_11 := ft2_cons (fun ec he => hv_584 l (f2 ec he)) ck_RX12_165_584 (ft2_cons (fun ec he => hv_548 l (f8 ec he)) ck_RX12_165_548 (ft2_nil))
noncomputable def cu_615_11 : List CUT2 := []
theorem ch_615_11 : staG tb_X12_readNext 1 bt_RX12 ft_615_11 ct_610_0 [] [] cu_615_11 30 con_615 = true := by decide +kernel
noncomputable def ft_615_12 : CTB2 := [(3, 165, 0, con_584, [0, 1]), (49, 165, 0, con_364, [0, 1]), (71, 210, 0, con_606, [0, 1, 2]), (93, 172, 0, con_586, [0, 1])]
theorem fto_615_12 (l : Launch) {es : List va_E} (f2 : isFact 2 1 [0, 1] es) (f5 : isFact 5 1 [0, 1] es) (f8 : isFact 8 0 [0, 1] es) (f12 : isFact 12 0 [0, 1] es) : FTOK2 l RX12 vwCl gTbl es ft_615_12 := ft2_cons (fun ec he => hv_584 l (f2 ec he)) ck_RX12_165_584 (ft2_cons (fun ec he => hv_364 l (f8 ec he)) ck_RX12_165_364 (ft2_cons (fun ec he => hv_606 l (fact_at f2 he (τ := [0, 1]) (by decide) (by decide)) (fact_at f5 he (τ := [0, 1]) (by decide) (by decide)) (fact_at f8 he (τ := [0, 1]) (by decide) (by decide)) (fact_at f12 he (τ := [0, 1]) (by decide) (by decide))) ck_RX12_210_606 (ft2_cons (fun ec he => hv_586 l (fact_at f2 he (τ := [0, 1]) (by decide) (by decide))) ck_RX12_172_586 (ft2_nil))))
noncomputable def cu_615_12 : List CUT2 := []
theorem ch_615_12 : staG tb_X12_readNext 1 bt_RX12 ft_615_12 ct_610_8 [] [] cu_615_12 64 con_615 = true := by decide +kernel
noncomputable def ft_615_13 : CTB2 := [(3, 165, 0, con_584, [0, 1]), (49, 165, 0, con_364, [0, 1]), (71, 210, 0, con_607, [0, 1, 2]), (93, 172, 0, con_586, [0, 1])]
theorem fto_615_13 (l : Launch) {es : List va_E} (f2 : isFact 2 1 [0, 1] es) (f5 : isFact 5 1 [0, 1] es) (f8 : isFact 8 0 [0, 1] es) (f12 : isFact 12 1 [0, 1] es) : FTOK2 l RX12 vwCl gTbl es ft_615_13 := ft2_cons (fun ec he => hv_584 l (f2 ec he)) ck_RX12_165_584 (ft2_cons (fun ec he => hv_364 l (f8 ec he)) ck_RX12_165_364 (ft2_cons (fun ec he => hv_607 l (fact_at f2 he (τ := [0, 1]) (by decide) (by decide)) (fact_at f5 he (τ := [0, 1]) (by decide) (by decide)) (fact_at f8 he (τ := [0, 1]) (by decide) (by decide)) (fact_at f12 he (τ := [0, 1]) (by decide) (by decide))) ck_RX12_210_607 (ft2_cons (fun ec he => hv_586 l (fact_at f2 he (τ := [0, 1]) (by decide) (by decide))) ck_RX12_172_586 (ft2_nil))))
noncomputable def cu_615_13 : List CUT2 := []
theorem ch_615_13 : staG tb_X12_readNext 1 bt_RX12 ft_615_13 ct_610_8 [] [] cu_615_13 64 con_615 = true := by decide +kernel
noncomputable def ft_615_14 : CTB2 := [(3, 165, 0, con_584, [0, 1]), (49, 165, 0, con_548, [0, 1])]
theorem fto_615_14 (l : Launch) {es : List va_E} (f2 : isFact 2 1 [0, 1] es) (f5 : isFact 5 1 [0, 1] es) (f8 : isFact 8 1 [0, 1] es) (f12 : isFact 12 0 [0, 1] es) : FTOK2 l RX12 vwCl gTbl es ft_615_14 := ft2_cons (fun ec he => hv_584 l (f2 ec he)) ck_RX12_165_584 (ft2_cons (fun ec he => hv_548 l (f8 ec he)) ck_RX12_165_548 (ft2_nil))
noncomputable def cu_615_14 : List CUT2 := []
theorem ch_615_14 : staG tb_X12_readNext 1 bt_RX12 ft_615_14 ct_610_0 [] [] cu_615_14 30 con_615 = true := by decide +kernel
noncomputable def ft_615_15 : CTB2 := [(3, 165, 0, con_584, [0, 1]), (49, 165, 0, con_548, [0, 1])]
theorem fto_615_15 (l : Launch) {es : List va_E} (f2 : isFact 2 1 [0, 1] es) (f5 : isFact 5 1 [0, 1] es) (f8 : isFact 8 1 [0, 1] es) (f12 : isFact 12 1 [0, 1] es) : FTOK2 l RX12 vwCl gTbl es ft_615_15 := ft2_cons (fun ec he => hv_584 l (f2 ec he)) ck_RX12_165_584 (ft2_cons (fun ec he => hv_548 l (f8 ec he)) ck_RX12_165_548 (ft2_nil))
noncomputable def cu_615_15 : List CUT2 := []
theorem ch_615_15 : staG tb_X12_readNext 1 bt_RX12 ft_615_15 ct_610_0 [] [] cu_615_15 30 con_615 = true := by decide +kernel
theorem vl_615 (l : Launch) : Vld2 l vwCl gTbl con_615 := fun es => by
  rcases fact_or 2 [0, 1] es with f2 | f2 <;> rcases fact_or 5 [0, 1] es with f5 | f5 <;> rcases fact_or 8 [0, 1] es with f8 | f8 <;> rcases fact_or 12 [0, 1] es with f12 | f12
  · exact conE_ok3 gT_all (hd_615) rfl pn_RX12 tk_X12_readNext bo_RX12 xo_RX12 (fto_615_0 l f2 f5 f8 f12) (cto_610_0 l) ch_615_0 cut_nil
  · exact conE_ok3 gT_all (hd_615) rfl pn_RX12 tk_X12_readNext bo_RX12 xo_RX12 (fto_615_1 l f2 f5 f8 f12) (cto_615_1 l) ch_615_1 cut_nil
  · exact conE_ok3 gT_all (hd_615) rfl pn_RX12 tk_X12_readNext bo_RX12 xo_RX12 (fto_615_2 l f2 f5 f8 f12) (cto_610_0 l) ch_615_2 cut_nil
  · exact conE_ok3 gT_all (hd_615) rfl pn_RX12 tk_X12_readNext bo_RX12 xo_RX12 (fto_615_3 l f2 f5 f8 f12) (cto_610_0 l) ch_615_3 cut_nil
  · exact conE_ok3 gT_all (hd_615) rfl pn_RX12 tk_X12_readNext bo_RX12 xo_RX12 (fto_615_4 l f2 f5 f8 f12) (cto_615_4 l) ch_615_4 cut_nil
  · exact conE_ok3 gT_all (hd_615) rfl pn_RX12 tk_X12_readNext bo_RX12 xo_RX12 (fto_615_5 l f2 f5 f8 f12) (cto_615_4 l) ch_615_5 cut_nil
  · exact conE_ok3 gT_all (hd_615) rfl pn_RX12 tk_X12_readNext bo_RX12 xo_RX12 (fto_615_6 l f2 f5 f8 f12) (cto_610_0 l) ch_615_6 cut_nil
  · exact conE_ok3 gT_all (hd_615) rfl pn_RX12 tk_X12_readNext bo_RX12 xo_RX12 (fto_615_7 l f2 f5 f8 f12) (cto_610_0 l) ch_615_7 cut_nil
  · exact conE_ok3 gT_all (hd_615) rfl pn_RX12 tk_X12_readNext bo_RX12 xo_RX12 (fto_615_8 l f2 f5 f8 f12) (cto_610_8 l) ch_615_8 cut_nil
  · exact conE_ok3 gT_all (hd_615) rfl pn_RX12 tk_X12_readNext bo_RX12 xo_RX12 (fto_615_9 l f2 f5 f8 f12) (cto_610_8 l) ch_615_9 cut_nil
  · exact conE_ok3 gT_all (hd_615) rfl pn_RX12 tk_X12_readNext bo_RX12 xo_RX12 (fto_615_10 l f2 f5 f8 f12) (cto_610_0 l) ch_615_10 cut_nil
  · exact conE_ok3 gT_all (hd_615) rfl pn_RX12 tk_X12_readNext bo_RX12 xo_RX12 (fto_615_11 l f2 f5 f8 f12) (cto_610_0 l) ch_615_11 cut_nil
  · exact conE_ok3 gT_all (hd_615) rfl pn_RX12 tk_X12_readNext bo_RX12 xo_RX12 (fto_615_12 l f2 f5 f8 f12) (cto_610_8 l) ch_615_12 cut_nil
  · exact conE_ok3 gT_all (hd_615) rfl pn_RX12 tk_X12_readNext bo_RX12 xo_RX12 (fto_615_13 l f2 f5 f8 f12) (cto_610_8 l) ch_615_13 cut_nil
  · exact conE_ok3 gT_all (hd_615) rfl pn_RX12 tk_X12_readNext bo_RX12 xo_RX12 (fto_615_14 l f2 f5 f8 f12) (cto_610_0 l) ch_615_14 cut_nil
  · exact conE_ok3 gT_all (hd_615) rfl pn_RX12 tk_X12_readNext bo_RX12 xo_RX12 (fto_615_15 l f2 f5 f8 f12) (cto_610_0 l) ch_615_15 cut_nil
/-- RookHustingModel readLine -/
noncomputable def ac_229 : AC := .inr (1, jl_n [sp_68, jl_x (1, (0, 1, 0)), sp_49, sp_29])
noncomputable def hq_222 : HP := [(true, ac_149), (true, ac_229), (false, am_2)]
noncomputable def ac_230 : AC := .inr (1, jl_n [sp_54, sp_49, sp_56, sp_9])
noncomputable def hq_223 : HP := [(true, ac_194), (true, ac_230), (false, am_2)]
noncomputable def ac_231 : AC := .inr (1, jl_n [sp_23, sp_69, sp_52])
noncomputable def hq_224 : HP := [(true, ac_149), (true, ac_231), (false, am_2)]
noncomputable def hq_225 : HP := [(true, ac_151), (true, ac_229), (false, am_2)]
noncomputable def hq_226 : HP := [(true, ac_151), (true, ac_230), (false, am_2)]
noncomputable def con_616 : Con2 := ((yX12_readLine, cX12_readLine, 1, none), (14, 334), ([(6, 0, 0)], gi_215, [ac_148, ac_197, am_2], []), [((9, 0, 0), gi_276, hq_222, [], tg_11), ((9, 0, 0), gi_274, hq_223, [], tg_11), ((9, 0, 0), gi_275, hq_224, [], tg_11), ((9, 0, 0), gi_277, hq_225, [([(49, (-1)), (50, (-1)), (117, 1), (118, 1)], (-1))], tg_11), ((9, 0, 0), gi_271, hq_226, [], tg_11)])
theorem hd_616 : con_616.1 = (yX12_readLine, cX12_readLine, 1, none) := rfl
theorem ck_RX12_230_615 : COK2 RX12 vwCl gTbl 230 0 con_615 := ⟨wd_1624, wd_137, mh_X12_readNext, .inr (.inr ⟨rfl, wd_1621, wd_1623, wd_62, ⟨_, rfl, pd_X12_readNext⟩, 12, _, TX12, 45, rfl, rfl⟩)⟩
noncomputable def ct_616 : CTB2 := [(18, 230, 0, con_615, [0, 2, 1]), (22, 153, 0, con_314, [0]), (22, 153, 0, con_343, [0]), (22, 153, 0, con_611, [0]), (38, 175, 0, con_317, [0]), (42, 153, 0, con_322, [0]), (42, 153, 0, con_314, [0]), (42, 153, 0, con_343, [0]), (42, 153, 0, con_611, [0]), (49, 169, 0, con_313, [0, 2])]
noncomputable def cu_616 : List CUT2 := []
theorem ch_616 : staG tb_X12_readLine 1 bt_RX12 [] ct_616 [] [] cu_616 31 con_616 = true := by decide +kernel
theorem cto_616 (l : Launch) : CTOK2 l RX12 vwCl gTbl ct_616 := ct2_cons (vl_615 l) ck_RX12_230_615 (ct2_cons (vl_314 l) ck_RX12_153_314 (ct2_cons (vl_343 l) ck_RX12_153_343 (ct2_cons (vl_611 l) ck_RX12_153_611 (ct2_cons (vl_317 l) ck_RX12_175_317 (ct2_cons (vl_322 l) ck_RX12_153_322 (ct2_cons (vl_314 l) ck_RX12_153_314 (ct2_cons (vl_343 l) ck_RX12_153_343 (ct2_cons (vl_611 l) ck_RX12_153_611 (ct2_cons (vl_313 l) ck_RX12_169_313 (ct2_nil))))))))))
theorem vl_616 (l : Launch) : Vld2 l vwCl gTbl con_616 := conR_ok3 gT_all (hd_616) rfl pn_RX12 tk_X12_readLine bo_RX12 xo_RX12 (cto_616 l) ch_616 cut_nil
