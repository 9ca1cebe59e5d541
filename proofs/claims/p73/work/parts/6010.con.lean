/-! ===== contracts, 10 ===== -/
/-- RookHustingModel readHedge -/
noncomputable def ac_262 : AC := .inr (1, jl_n [sp_46, jl_x (1, (0, 2, 0)), sp_53])
noncomputable def hq_256 : HP := [(true, ac_149), (true, ac_262), (false, am_2)]
noncomputable def hq_257 : HP := [(true, ac_151), (true, ac_262), (false, am_2)]
noncomputable def con_618 : Con2 := ((yX12_readHedge, cX12_readHedge, 2, none), (3, 69), ([(6, 0, 0)], gi_215, [ac_148, ac_232, am_2], []), [((9, 0, 0), gi_253, hq_256, [], tg_11), ((9, 0, 0), gi_254, hq_257, [], tg_11)])
theorem hd_618 : con_618.1 = (yX12_readHedge, cX12_readHedge, 2, none) := rfl
noncomputable def cu_618 : List CUT2 := []
theorem ch_618 : staG tb_X12_readHedge 1 bt_RX12 [] ct_580 [] [] cu_618 65 con_618 = true := by decide +kernel
theorem vl_618 (l : Launch) : Vld2 l vwCl gTbl con_618 := conR_ok3 gT_all (hd_618) rfl pn_RX12 tk_X12_readHedge bo_RX12 xo_RX12 (cto_580 l) ch_618 cut_nil
/-- RookHustingModel readNext -/
noncomputable def ac_263 : AC := .inr (1, jl_n [sp_68, jl_x (1, (0, 2, 0)), sp_53])
noncomputable def hq_258 : HP := [(true, ac_144), (false, am_2), (true, ac_263)]
noncomputable def hq_259 : HP := [(true, ac_144), (false, am_2), (true, ac_233)]
noncomputable def hq_260 : HP := [(true, ac_146), (false, am_2), (true, ac_263)]
noncomputable def hq_261 : HP := [(true, ac_146), (false, am_2), (true, ac_234)]
noncomputable def con_619 : Con2 := ((yX12_readNext, cX12_readNext, 3, none), (13, 312), ([(6, 0, 0)], gi_215, [ac_142, am_2, ac_232], []), [((9, 0, 0), gi_276, hq_258, [], tg_11), ((9, 0, 0), gi_278, hq_259, [], tg_11), ((9, 0, 0), gi_277, hq_260, [([(49, (-1)), (50, (-1)), (117, 1), (118, 1)], (-1))], tg_11), ((9, 0, 0), gi_271, hq_261, [], tg_11)])
theorem hd_619 : con_619.1 = (yX12_readNext, cX12_readNext, 3, none) := rfl
noncomputable def ft_619_0 : CTB2 := [(3, 165, 0, con_362, [0, 1]), (12, 165, 0, con_363, [0, 1]), (21, 165, 0, con_364, [0, 1]), (30, 165, 0, con_365, [0, 1])]
theorem fto_619_0 (l : Launch) {es : List va_E} (f2 : isFact 2 0 [0, 1] es) (f5 : isFact 5 0 [0, 1] es) (f8 : isFact 8 0 [0, 1] es) (f12 : isFact 12 0 [0, 1] es) : FTOK2 l RX12 vwCl gTbl es ft_619_0 := ft2_cons (fun ec he => hv_362 l (f2 ec he)) ck_RX12_165_362 (ft2_cons (fun ec he => hv_363 l (f5 ec he)) ck_RX12_165_363 (ft2_cons (fun ec he => hv_364 l (f8 ec he)) ck_RX12_165_364 (ft2_cons (fun ec he => hv_365 l (f12 ec he)) ck_RX12_165_365 (ft2_nil))))
noncomputable def cu_619_0 : List CUT2 := []
theorem ch_619_0 : staG tb_X12_readNext 1 bt_RX12 ft_619_0 ct_610_0 [] [] cu_619_0 32 con_619 = true := by decide +kernel
theorem ck_RX12_224_617 : COK2 RX12 vwCl gTbl 224 0 con_617 := ⟨wd_1644, wd_137, mh_X12_readVoter, .inr (.inr ⟨rfl, wd_1641, wd_1643, wd_65, ⟨_, rfl, pd_X12_readVoter⟩, 12, _, TX12, 45, rfl, rfl⟩)⟩
noncomputable def ct_619_1 : CTB2 := [(83, 153, 0, con_314, [0]), (240, 169, 0, con_313, [0, 1]), (244, 224, 0, con_617, [0, 2, 1])]
noncomputable def ft_619_1 : CTB2 := [(3, 165, 0, con_362, [0, 1]), (12, 165, 0, con_363, [0, 1]), (21, 165, 0, con_364, [0, 1]), (30, 165, 0, con_371, [0, 1]), (49, 165, 0, con_364, [0, 1]), (71, 210, 0, con_372, [0, 1, 2]), (93, 172, 0, con_373, [0, 1]), (160, 172, 0, con_374, [0, 1]), (176, 172, 0, con_375, [0, 1])]
theorem fto_619_1 (l : Launch) {es : List va_E} (f2 : isFact 2 0 [0, 1] es) (f5 : isFact 5 0 [0, 1] es) (f8 : isFact 8 0 [0, 1] es) (f12 : isFact 12 1 [0, 1] es) : FTOK2 l RX12 vwCl gTbl es ft_619_1 := ft2_cons (fun ec he => hv_362 l (f2 ec he)) ck_RX12_165_362 (ft2_cons (fun ec he => hv_363 l (f5 ec he)) ck_RX12_165_363 (ft2_cons (fun ec he => hv_364 l (f8 ec he)) ck_RX12_165_364 (ft2_cons (fun ec he => hv_371 l (f12 ec he)) ck_RX12_165_371 (ft2_cons (fun ec he => hv_364 l (f8 ec he)) ck_RX12_165_364 (ft2_cons (fun ec he => hv_372 l (fact_at f2 he (τ := [0, 1]) (by decide) (by decide)) (fact_at f5 he (τ := [0, 1]) (by decide) (by decide)) (fact_at f8 he (τ := [0, 1]) (by decide) (by decide)) (fact_at f12 he (τ := [0, 1]) (by decide) (by decide))) ck_RX12_210_372 (ft2_cons (fun ec he => hv_373 l (fact_at f2 he (τ := [0, 1]) (by decide) (by decide))) ck_RX12_172_373 (ft2_cons (fun ec he => hv_374 l (fact_at f5 he (τ := [0, 1]) (by decide) (by decide))) ck_RX12_172_374 (ft2_cons (fun ec he => hv_375 l (fact_at f8 he (τ := [0, 1]) (by decide) (by decide))) ck_RX12_172_375 (ft2_nil)))))))))
noncomputable def cu_619_1 : List CUT2 := []
theorem ch_619_1 : staG tb_X12_readNext 1 bt_RX12 ft_619_1 ct_619_1 [] [] cu_619_1 50 con_619 = true := by decide +kernel
theorem cto_619_1 (l : Launch) : CTOK2 l RX12 vwCl gTbl ct_619_1 := ct2_cons (vl_314 l) ck_RX12_153_314 (ct2_cons (vl_313 l) ck_RX12_169_313 (ct2_cons (vl_617 l) ck_RX12_224_617 (ct2_nil)))
noncomputable def ft_619_2 : CTB2 := [(3, 165, 0, con_362, [0, 1]), (12, 165, 0, con_363, [0, 1]), (21, 165, 0, con_548, [0, 1]), (49, 165, 0, con_548, [0, 1])]
theorem fto_619_2 (l : Launch) {es : List va_E} (f2 : isFact 2 0 [0, 1] es) (f5 : isFact 5 0 [0, 1] es) (f8 : isFact 8 1 [0, 1] es) (f12 : isFact 12 0 [0, 1] es) : FTOK2 l RX12 vwCl gTbl es ft_619_2 := ft2_cons (fun ec he => hv_362 l (f2 ec he)) ck_RX12_165_362 (ft2_cons (fun ec he => hv_363 l (f5 ec he)) ck_RX12_165_363 (ft2_cons (fun ec he => hv_548 l (f8 ec he)) ck_RX12_165_548 (ft2_cons (fun ec he => hv_548 l (f8 ec he)) ck_RX12_165_548 (ft2_nil))))
noncomputable def cu_619_2 : List CUT2 := []
theorem ch_619_2 : staG tb_X12_readNext 1 bt_RX12 ft_619_2 ct_610_0 [] [] cu_619_2 38 con_619 = true := by decide +kernel
noncomputable def ft_619_3 : CTB2 := [(3, 165, 0, con_362, [0, 1]), (12, 165, 0, con_363, [0, 1]), (21, 165, 0, con_548, [0, 1]), (49, 165, 0, con_548, [0, 1])]
theorem fto_619_3 (l : Launch) {es : List va_E} (f2 : isFact 2 0 [0, 1] es) (f5 : isFact 5 0 [0, 1] es) (f8 : isFact 8 1 [0, 1] es) (f12 : isFact 12 1 [0, 1] es) : FTOK2 l RX12 vwCl gTbl es ft_619_3 := ft2_cons (fun ec he => hv_362 l (f2 ec he)) ck_RX12_165_362 (ft2_cons (fun ec he => hv_363 l (f5 ec he)) ck_RX12_165_363 (ft2_cons (fun ec he => hv_548 l (f8 ec he)) ck_RX12_165_548 (ft2_cons (fun ec he => hv_548 l (f8 ec he)) ck_RX12_165_548 (ft2_nil))))
noncomputable def cu_619_3 : List CUT2 := []
theorem ch_619_3 : staG tb_X12_readNext 1 bt_RX12 ft_619_3 ct_610_0 [] [] cu_619_3 38 con_619 = true := by decide +kernel
theorem ck_RX12_217_618 : COK2 RX12 vwCl gTbl 217 0 con_618 := ⟨wd_1638, wd_137, mh_X12_readHedge, .inr (.inr ⟨rfl, wd_1635, wd_1637, wd_64, ⟨_, rfl, pd_X12_readHedge⟩, 12, _, TX12, 45, rfl, rfl⟩)⟩
noncomputable def ct_619_4 : CTB2 := [(79, 175, 0, con_550, [0]), (83, 153, 0, con_551, [0]), (83, 153, 0, con_314, [0]), (167, 217, 0, con_618, [0, 2, 1])]
noncomputable def ft_619_4 : CTB2 := [(3, 165, 0, con_362, [0, 1]), (12, 165, 0, con_573, [0, 1]), (49, 165, 0, con_364, [0, 1]), (71, 210, 0, con_574, [0, 1, 2]), (93, 172, 0, con_373, [0, 1]), (160, 172, 0, con_575, [0, 1])]
theorem fto_619_4 (l : Launch) {es : List va_E} (f2 : isFact 2 0 [0, 1] es) (f5 : isFact 5 1 [0, 1] es) (f8 : isFact 8 0 [0, 1] es) (f12 : isFact 12 0 [0, 1] es) : FTOK2 l RX12 vwCl gTbl es ft_619_4 := ft2_cons (fun ec he => hv_362 l (f2 ec he)) ck_RX12_165_362 (ft2_cons (fun ec he => hv_573 l (f5 ec he)) ck_RX12_165_573 (ft2_cons (fun ec he => hv_364 l (f8 ec he)) ck_RX12_165_364 (ft2_cons (fun ec he => hv_574 l (fact_at f2 he (τ := [0, 1]) (by decide) (by decide)) (fact_at f5 he (τ := [0, 1]) (by decide) (by decide)) (fact_at f8 he (τ := [0, 1]) (by decide) (by decide)) (fact_at f12 he (τ := [0, 1]) (by decide) (by decide))) ck_RX12_210_574 (ft2_cons (fun ec he => hv_373 l (fact_at f2 he (τ := [0, 1]) (by decide) (by decide))) ck_RX12_172_373 (ft2_cons (fun ec he => hv_575 l (fact_at f5 he (τ := [0, 1]) (by decide) (by decide))) ck_RX12_172_575 (ft2_nil))))))
noncomputable def cu_619_4 : List CUT2 := []
theorem ch_619_4 : staG tb_X12_readNext 1 bt_RX12 ft_619_4 ct_619_4 [] [] cu_619_4 37 con_619 = true := by decide +kernel
theorem cto_619_4 (l : Launch) : CTOK2 l RX12 vwCl gTbl ct_619_4 := ct2_cons (vl_550 l) ck_RX12_175_550 (ct2_cons (vl_551 l) ck_RX12_153_551 (ct2_cons (vl_314 l) ck_RX12_153_314 (ct2_cons (vl_618 l) ck_RX12_217_618 (ct2_nil))))
noncomputable def ft_619_5 : CTB2 := [(3, 165, 0, con_362, [0, 1]), (12, 165, 0, con_573, [0, 1]), (49, 165, 0, con_364, [0, 1]), (71, 210, 0, con_581, [0, 1, 2]), (93, 172, 0, con_373, [0, 1]), (160, 172, 0, con_575, [0, 1])]
theorem fto_619_5 (l : Launch) {es : List va_E} (f2 : isFact 2 0 [0, 1] es) (f5 : isFact 5 1 [0, 1] es) (f8 : isFact 8 0 [0, 1] es) (f12 : isFact 12 1 [0, 1] es) : FTOK2 l RX12 vwCl gTbl es ft_619_5 := ft2_cons (fun ec he => hv_362 l (f2 ec he)) ck_RX12_165_362 (ft2_cons (fun ec he => hv_573 l (f5 ec he)) ck_RX12_165_573 (ft2_cons (fun ec he => hv_364 l (f8 ec he)) ck_RX12_165_364 (ft2_cons (fun ec he => hv_581 l (fact_at f2 he (τ := [0, 1]) (by decide) (by decide)) (fact_at f5 he (τ := [0, 1]) (by decide) (by decide)) (fact_at f8 he (τ := [0, 1]) (by decide) (by decide)) (fact_at f12 he (τ := [0, 1]) (by decide) (by decide))) ck_RX12_210_581 (ft2_cons (fun ec he => hv_373 l (fact_at f2 he (τ := [0, 1]) (by decide) (by decide))) ck_RX12_172_373 (ft2_cons (fun ec he => hv_575 l (fact_at f5 he (τ := [0, 1]) (by decide) (by decide))) ck_RX12_172_575 (ft2_nil))))))
noncomputable def cu_619_5 : List CUT2 := []
theorem ch_619_5 : staG tb_X12_readNext 1 bt_RX12 ft_619_5 ct_619_4 [] [] cu_619_5 37 con_619 = true := by decide +kernel
noncomputable def ft_619_6 : CTB2 := [(3, 165, 0, con_362, [0, 1]), (12, 165, 0, con_573, [0, 1]), (49, 165, 0, con_548, [0, 1])]
theorem fto_619_6 (l : Launch) {es : List va_E} (f2 : isFact 2 0 [0, 1] es) (f5 : isFact 5 1 [0, 1] es) (f8 : isFact 8 1 [0, 1] es) (f12 : isFact 12 0 [0, 1] es) : FTOK2 l RX12 vwCl gTbl es ft_619_6 := ft2_cons (fun ec he => hv_362 l (f2 ec he)) ck_RX12_165_362 (ft2_cons (fun ec he => hv_573 l (f5 ec he)) ck_RX12_165_573 (ft2_cons (fun ec he => hv_548 l (f8 ec he)) ck_RX12_165_548 (ft2_nil)))
noncomputable def cu_619_6 : List CUT2 := []
theorem ch_619_6 : staG tb_X12_readNext 1 bt_RX12 ft_619_6 ct_610_0 [] [] cu_619_6 34 con_619 = true := by decide +kernel
noncomputable def ft_619_7 : CTB2 := [(3, 165, 0, con_362, [0, 1]), (12, 165, 0, con_573, [0, 1]), (49, 165, 0, con_548, [0, 1])]
theorem fto_619_7 (l : Launch) {es : List va_E} (f2 : isFact 2 0 [0, 1] es) (f5 : isFact 5 1 [0, 1] es) (f8 : isFact 8 1 [0, 1] es) (f12 : isFact 12 1 [0, 1] es) : FTOK2 l RX12 vwCl gTbl es ft_619_7 := ft2_cons (fun ec he => hv_362 l (f2 ec he)) ck_RX12_165_362 (ft2_cons (fun ec he => hv_573 l (f5 ec he)) ck_RX12_165_573 (ft2_cons (fun ec he => hv_548 l (f8 ec he)) ck_RX12_165_548 (ft2_nil)))
noncomputable def cu_619_7 : List CUT2 := []
theorem ch_619_7 : staG tb_X12_readNext 1 bt_RX12 ft_619_7 ct_610_0 [] [] cu_619_7 34 con_619 = true := by decide +kernel
noncomputable def ft_619_8 : CTB2 := [(3, 165, 0, con_584, [0, 1]), (49, 165, 0, con_364, [0, 1]), (71, 210, 0, con_585, [0, 1, 2]), (93, 172, 0, con_586, [0, 1])]
theorem fto_619_8 (l : Launch) {es : List va_E} (f2 : isFact 2 1 [0, 1] es) (f5 : isFact 5 0 [0, 1] es) (f8 : isFact 8 0 [0, 1] es) (f12 : isFact 12 0 [0, 1] es) : FTOK2 l RX12 vwCl gTbl es ft_619_8 := ft2_cons (fun ec he => hv_584 l (f2 ec he)) ck_RX12_165_584 (ft2_cons (fun ec he => hv_364 l (f8 ec he)) ck_RX12_165_364 (ft2_cons (fun ec he => hv_585 l (fact_at f2 he (τ := [0, 1]) (by decide) (by decide)) (fact_at f5 he (τ := [0, 1]) (by decide) (by decide)) (fact_at f8 he (τ := [0, 1]) (by decide) (by decide)) (fact_at f12 he (τ := [0, 1]) (by decide) (by decide))) ck_RX12_210_585 (ft2_cons (fun ec he => hv_586 l (fact_at f2 he (τ := [0, 1]) (by decide) (by decide))) ck_RX12_172_586 (ft2_nil))))
noncomputable def cu_619_8 : List CUT2 := []
theorem ch_619_8 : staG tb_X12_readNext 1 bt_RX12 ft_619_8 ct_610_8 [] [] cu_619_8 64 con_619 = true := by decide +kernel
noncomputable def ft_619_9 : CTB2 := [(3, 165, 0, con_584, [0, 1]), (49, 165, 0, con_364, [0, 1]), (71, 210, 0, con_603, [0, 1, 2]), (93, 172, 0, con_586, [0, 1])]
theorem fto_619_9 (l : Launch) {es : List va_E} (f2 : isFact 2 1 [0, 1] es) (f5 : isFact 5 0 [0, 1] es) (f8 : isFact 8 0 [0, 1] es) (f12 : isFact 12 1 [0, 1] es) : FTOK2 l RX12 vwCl gTbl es ft_619_9 := ft2_cons (fun ec he => hv_584 l (f2 ec he)) ck_RX12_165_584 (ft2_cons (fun ec he => hv_364 l (f8 ec he)) ck_RX12_165_364 (ft2_cons (fun ec he => hv_603 l (fact_at f2 he (τ := [0, 1]) (by decide) (by decide)) (fact_at f5 he (τ := [0, 1]) (by decide) (by decide)) (fact_at f8 he (τ := [0, 1]) (by decide) (by decide)) (fact_at f12 he (τ := [0, 1]) (by decide) (by decide))) ck_RX12_210_603 (ft2_cons (fun ec he => hv_586 l (fact_at f2 he (τ := [0, 1]) (by decide) (by decide))) ck_RX12_172_586 (ft2_nil))))
noncomputable def cu_619_9 : List CUT2 := []
theorem ch_619_9 : staG tb_X12_readNext 1 bt_RX12 ft_619_9 ct_610_8 [] [] cu_619_9 64 con_619 = true := by decide +kernel
noncomputable def ft_619_10 : CTB2 := [(3, 165, 0, con_584, [0, 1]), (49, 165, 0, con_548, [0, 1])]
theorem fto_619_10 (l : Launch) {es : List va_E} (f2 : isFact 2 1 [0, 1] es) (f5 : isFact 5 0 [0, 1] es) (f8 : isFact 8 1 [0, 1] es) (f12 : isFact 12 0 [0, 1] es) : FTOK2 l RX12 vwCl gTbl es ft_619_10 := ft2_cons (fun ec he => hv_584 l (f2 ec he)) ck_RX12_165_584 (ft2_cons (fun ec he => hv_548 l (f8 ec he)) ck_RX12_165_548 (ft2_nil))
noncomputable def cu_619_10 : List CUT2 := []
theorem ch_619_10 : staG tb_X12_readNext 1 bt_RX12 ft_619_10 ct_610_0 [] [] cu_619_10 30 con_619 = true := by decide +kernel
noncomputable def ft_619_11 : CTB2 := [(3, 165, 0, con_584, [0, 1]), (49, 165, 0, con_548, [0, 1])]
theorem fto_619_11 (l : Launch) {es : List va_E} (f2 : isFact 2 1 [0, 1] es) (f5 : isFact 5 0 [0, 1] es) (f8 : isFact 8 1 [0, 1] es) (f12 : isFact 12 1 [0, 1] es) : FTOK2 l RX12 vwCl gTbl es ft_619_11 := ft2_cons (fun ec he => hv_584 l (f2 ec he)) ck_RX12_165_584 (ft2_cons (fun ec he => hv_548 l (f8 ec he)) ck_RX12_165_548 (ft2_nil))
noncomputable def cu_619_11 : List CUT2 := []
theorem ch_619_11 : staG tb_X12_readNext 1 bt_RX12 ft_619_11 ct_610_0 [] [] cu_619_11 30 con_619 = true := by decide +kernel
noncomputable def ft_619_12 : CTB2 := [(3, 165, 0, con_584, [0, 1]), (49, 165, 0, con_364, [0, 1]), (71, 210, 0, con_606, [0, 1, 2]), (93, 172, 0, con_586, [0, 1])]
theorem fto_619_12 (l : Launch) {es : List va_E} (f2 : isFact 2 1 [0, 1] es) (f5 : isFact 5 1 [0, 1] es) (f8 : isFact 8 0 [0, 1] es) (f12 : isFact 12 0 [0, 1] es) : FTOK2 l RX12 vwCl gTbl es ft_619_12 := ft2_cons (fun ec he => hv_584 l (f2 ec he)) ck_RX12_165_584 (ft2_cons (fun ec he => hv_364 l (f8 ec he)) ck_RX12_165_364 (ft2_cons (fun ec he => hv_606 l (fact_at f2 he (τ := [0, 1]) (by decide) (by decide)) (fact_at f5 he (τ := [0, 1]) (by decide) (by decide)) (fact_at f8 he (τ := [0, 1]) (by decide) (by decide)) (fact_at f12 he (τ := [0, 1]) (by decide) (by decide))) ck_RX12_210_606 (ft2_cons (fun ec he => hv_586 l (fact_at f2 he (τ := [0, 1]) (by decide) (by decide))) ck_RX12_172_586 (ft2_nil))))
noncomputable def cu_619_12 : List CUT2 := []
theorem ch_619_12 : staG tb_X12_readNext 1 bt_RX12 ft_619_12 ct_610_8 [] [] cu_619_12 64 con_619 = true := by decide +kernel
noncomputable def ft_619_13 : CTB2 := [(3, 165, 0, con_584, [0, 1]), (49, 165, 0, con_364, [0, 1]), (71, 210, 0, con_607, [0, 1, 2]), (93, 172, 0, con_586, [0, 1])]
theorem fto_619_13 (l : Launch) {es : List va_E} (f2 : isFact 2 1 [0, 1] es) (f5 : isFact 5 1 [0, 1] es) (f8 : isFact 8 0 [0, 1] es) (f12 : isFact 12 1 [0, 1] es) : FTOK2 l RX12 vwCl gTbl es ft_619_13 := ft2_cons (fun ec he => hv_584 l (f2 ec he)) ck_RX12_165_584 (ft2_cons (fun ec he => hv_364 l (f8 ec he)) ck_RX12_165_364 (ft2_cons (fun ec he => hv_607 l (fact_at f2 he (τ := [0, 1]) (by decide) (by decide)) (fact_at f5 he (τ := [0, 1]) (by decide) (by decide)) (fact_at f8 he (τ := [0, 1]) (by decide) (by decide)) (fact_at f12 he (τ := [0, 1]) (by decide) (by decide))) ck_RX12_210_607 (ft2_cons (fun ec he => hv_586 l (fact_at f2 he (τ := [0, 1]) (by decide) (by decide))) ck_RX12_172_586 (ft2_nil))))
noncomputable def cu_619_13 : List CUT2 := []
theorem ch_619_13 : staG tb_X12_readNext 1 bt_RX12 ft_619_13 ct_610_8 [] [] cu_619_13 64 con_619 = true := by decide +kernel
noncomputable def ft_619_14 : CTB2 := [(3, 165, 0, con_584, [0, 1]), (49, 165, 0, con_548, [0, 1])]
theorem fto_619_14 (l : Launch) {es : List va_E} (f2 : isFact 2 1 [0, 1] es) (f5 : isFact 5 1 [0, 1] es) (f8 : isFact 8 1 [0, 1] es) (f12 : isFact 12 0 [0, 1] es) : FTOK2 l RX12 vwCl gTbl es ft_619_14 := ft2_cons (fun ec he => hv_584 l (f2 ec he)) ck_RX12_165_584 (ft2_cons (fun ec he => hv_548 l (f8 ec he)) ck_RX12_165_548 (ft2_nil))
noncomputable def cu_619_14 : List CUT2 := []
theorem ch_619_14 : staG tb_X12_readNext 1 bt_RX12 ft_619_14 ct_610_0 [] [] cu_619_14 30 con_619 = true := by decide +kernel
noncomputable def ft_619_15 : CTB2 := [(3, 165, 0, con_584, [0, 1]), (49, 165, 0, con_548, [0, 1])]
theorem fto_619_15 (l : Launch) {es : List va_E} (f2 : isFact 2 1 [0, 1] es) (f5 : isFact 5 1 [0, 1] es) (f8 : isFact 8 1 [0, 1] es) (f12 : isFact 12 1 [0, 1] es) : FTOK2 l RX12 vwCl gTbl es ft_619_15 := ft2_cons (fun ec he => hv_584 l (f2 ec he)) ck_RX12_165_584 (ft2_cons (fun ec he => hv_548 l (f8 ec he)) ck_RX12_165_548 (ft2_nil))
noncomputable def cu_619_15 : List CUT2 := []
theorem ch_619_15 : staG tb_X12_readNext 1 bt_RX12 ft_619_15 ct_610_0 [] [] cu_619_15 30 con_619 = true := by decide +kernel
theorem vl_619 (l : Launch) : Vld2 l vwCl gTbl con_619 := fun es => by
  rcases fact_or 2 [0, 1] es with f2 | f2 <;> rcases fact_or 5 [0, 1] es with f5 | f5 <;> rcases fact_or 8 [0, 1] es with f8 | f8 <;> rcases fact_or 12 [0, 1] es with f12 | f12
  · exact conE_ok3 gT_all (hd_619) rfl pn_RX12 tk_X12_readNext bo_RX12 xo_RX12 (fto_619_0 l f2 f5 f8 f12) (cto_610_0 l) ch_619_0 cut_nil
  · exact conE_ok3 gT_all (hd_619) rfl pn_RX12 tk_X12_readNext bo_RX12 xo_RX12 (fto_619_1 l f2 f5 f8 f12) (cto_619_1 l) ch_619_1 cut_nil
  · exact conE_ok3 gT_all (hd_619) rfl pn_RX12 tk_X12_readNext bo_RX12 xo_RX12 (fto_619_2 l f2 f5 f8 f12) (cto_610_0 l) ch_619_2 cut_nil
  · exact conE_ok3 gT_all (hd_619) rfl pn_RX12 tk_X12_readNext bo_RX12 xo_RX12 (fto_619_3 l f2 f5 f8 f12) (cto_610_0 l) ch_619_3 cut_nil
  · exact conE_ok3 gT_all (hd_619) rfl pn_RX12 tk_X12_readNext bo_RX12 xo_RX12 (fto_619_4 l f2 f5 f8 f12) (cto_619_4 l) ch_619_4 cut_nil
  · exact conE_ok3 gT_all (hd_619) rfl pn_RX12 tk_X12_readNext bo_RX12 xo_RX12 (fto_619_5 l f2 f5 f8 f12) (cto_619_4 l) ch_619_5 cut_nil
  · exact conE_ok3 gT_all (hd_619) rfl pn_RX12 tk_X12_readNext bo_RX12 xo_RX12 (fto_619_6 l f2 f5 f8 f12) (cto_610_0 l) ch_619_6 cut_nil
  · exact conE_ok3 gT_all (hd_619) rfl pn_RX12 tk_X12_readNext bo_RX12 xo_RX12 (fto_619_7 l f2 f5 f8 f12) (cto_610_0 l) ch_619_7 cut_nil
  · exact conE_ok3 gT_all (hd_619) rfl pn_RX12 tk_X12_readNext bo_RX12 xo_RX12 (fto_619_8 l f2 f5 f8 f12) (cto_610_8 l) ch_619_8 cut_nil
  · exact conE_ok3 gT_all (hd_619) rfl pn_RX12 tk_X12_readNext bo_RX12 xo_RX12 (fto_619_9 l f2 f5 f8 f12) (cto_610_8 l) ch_619_9 cut_nil
  · exact conE_ok3 gT_all (hd_619) rfl pn_RX12 tk_X12_readNext bo_RX12 xo_RX12 (fto_619_10 l f2 f5 f8 f12) (cto_610_0 l) ch_619_10 cut_nil
  · exact conE_ok3 gT_all (hd_619) rfl pn_RX12 tk_X12_readNext bo_RX12 xo_RX12 (fto_619_11 l f2 f5 f8 f12) (cto_610_0 l) ch_619_11 cut_nil
  · exact conE_ok3 gT_all (hd_619) rfl pn_RX12 tk_X12_readNext bo_RX12 xo_RX12 (fto_619_12 l f2 f5 f8 f12) (cto_610_8 l) ch_619_12 cut_nil
  · exact conE_ok3 gT_all (hd_619) rfl pn_RX12 tk_X12_readNext bo_RX12 xo_RX12 (fto_619_13 l f2 f5 f8 f12) (cto_610_8 l) ch_619_13 cut_nil
  · exact conE_ok3 gT_all (hd_619) rfl pn_RX12 tk_X12_readNext bo_RX12 xo_RX12 (fto_619_14 l f2 f5 f8 f12) (cto_610_0 l) ch_619_14 cut_nil
  · exact conE_ok3 gT_all (hd_619) rfl pn_RX12 tk_X12_readNext bo_RX12 xo_RX12 (fto_619_15 l f2 f5 f8 f12) (cto_610_0 l) ch_619_15 cut_nil
/-- RookHustingModel readLine -/
noncomputable def ac_264 : AC := .inr (1, jl_n [sp_68, jl_x (1, (0, 2, 0)), sp_69, sp_52])
noncomputable def hq_262 : HP := [(true, ac_149), (true, ac_264), (false, am_2)]
noncomputable def ac_265 : AC := .inr (1, jl_n [js_1 52 6, jl_x (1, (0, 3, 0)), sp_49, sp_71, sp_70])
noncomputable def hq_263 : HP := [(true, ac_194), (true, ac_265), (false, am_2)]
noncomputable def ac_266 : AC := .inr (1, jl_n [sp_23, sp_69, sp_70])
noncomputable def hq_264 : HP := [(true, ac_149), (true, ac_266), (false, am_2)]
noncomputable def hq_265 : HP := [(true, ac_151), (true, ac_264), (false, am_2)]
noncomputable def hq_266 : HP := [(true, ac_151), (true, ac_265), (false, am_2)]
noncomputable def con_620 : Con2 := ((yX12_readLine, cX12_readLine, 1, none), (14, 334), ([(6, 0, 0)], gi_215, [ac_148, ac_232, am_2], []), [((9, 0, 0), gi_276, hq_262, [], tg_11), ((9, 0, 0), gi_274, hq_263, [], tg_11), ((9, 0, 0), gi_278, hq_264, [], tg_11), ((9, 0, 0), gi_277, hq_265, [([(49, (-1)), (50, (-1)), (117, 1), (118, 1)], (-1))], tg_11), ((9, 0, 0), gi_271, hq_266, [], tg_11)])
theorem hd_620 : con_620.1 = (yX12_readLine, cX12_readLine, 1, none) := rfl
theorem ck_RX12_230_619 : COK2 RX12 vwCl gTbl 230 0 con_619 := ⟨wd_1624, wd_137, mh_X12_readNext, .inr (.inr ⟨rfl, wd_1621, wd_1623, wd_62, ⟨_, rfl, pd_X12_readNext⟩, 12, _, TX12, 45, rfl, rfl⟩)⟩
noncomputable def ct_620 : CTB2 := [(18, 230, 0, con_619, [0, 2, 1]), (22, 153, 0, con_314, [0]), (22, 153, 0, con_343, [0]), (22, 153, 0, con_611, [0]), (38, 175, 0, con_317, [0]), (42, 153, 0, con_322, [0]), (42, 153, 0, con_314, [0]), (42, 153, 0, con_343, [0]), (42, 153, 0, con_611, [0]), (49, 169, 0, con_313, [0, 2])]
noncomputable def cu_620 : List CUT2 := []
theorem ch_620 : staG tb_X12_readLine 1 bt_RX12 [] ct_620 [] [] cu_620 31 con_620 = true := by decide +kernel
theorem cto_620 (l : Launch) : CTOK2 l RX12 vwCl gTbl ct_620 := ct2_cons (vl_619 l) ck_RX12_230_619 (ct2_cons (vl_314 l) ck_RX12_153_314 (ct2_cons (vl_343 l) ck_RX12_153_343 (ct2_cons (vl_611 l) ck_RX12_153_611 (ct2_cons (vl_317 l) ck_RX12_175_317 (ct2_cons (vl_322 l) ck_RX12_153_322 (ct2_cons (vl_314 l) ck_RX12_153_314 (ct2_cons (vl_343 l) ck_RX12_153_343 (ct2_cons (vl_611 l) ck_RX12_153_611 (ct2_cons (vl_313 l) ck_RX12_169_313 (ct2_nil))))))))))
theorem vl_620 (l : Launch) : Vld2 l vwCl gTbl con_620 := conR_ok3 gT_all (hd_620) rfl pn_RX12 tk_X12_readLine bo_RX12 xo_RX12 (cto_620 l) ch_620 cut_nil
