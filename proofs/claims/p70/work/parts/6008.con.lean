/-! ===== contracts, 8 ===== -/
/-- RookHustingModel readHedge -/
noncomputable def ac_227 : AC := .inr (1, jl_n [sp_46, jl_x (1, (0, 1, 0)), sp_24, sp_29])
noncomputable def hq_216 : HP := [(true, ac_149), (true, ac_227), (false, am_3)]
noncomputable def hq_217 : HP := [(true, ac_151), (true, ac_227), (false, am_3)]
noncomputable def con_618 : Con2 := ((yX12_readHedge, cX12_readHedge, 2, none), (3, 69), ([(6, 0, 0)], gi_214, [ac_148, ac_197, am_3], []), [((9, 0, 0), gi_252, hq_216, [], tg_11), ((9, 0, 0), gi_253, hq_217, [], tg_11)])
theorem hd_618 : con_618.1 = (yX12_readHedge, cX12_readHedge, 2, none) := rfl
noncomputable def cu_618 : List CUT2 := []
theorem ch_618 : staG tb_X12_readHedge 1 bt_RX12 [] ct_584 [] [] cu_618 65 con_618 = true := by decide +kernel
theorem vl_618 (l : Launch) : Vld2 l vwCl gTbl con_618 := conR_ok3 gT_all (hd_618) rfl pn_RX12 tk_X12_readHedge bo_RX12 xo_RX12 (cto_584 l) ch_618 cut_nil
/-- RookHustingModel readNext -/
noncomputable def gi_275 : GI := jl_n [gp_136, jl_i 1 3, jl_i 0 700, jl_z 34, gp_53, jl_z 18]
noncomputable def ac_228 : AC := .inr (1, jl_n [sp_68, jl_x (1, (0, 1, 0)), sp_24, sp_29])
noncomputable def hq_218 : HP := [(true, ac_144), (false, am_3), (true, ac_228)]
noncomputable def hq_219 : HP := [(true, ac_144), (false, am_3), (true, ac_198)]
noncomputable def gi_276 : GI := jl_n [gp_136, jl_z 36, jl_i 1 5, jl_i 0 8, jl_z 18]
noncomputable def hq_220 : HP := [(true, ac_146), (false, am_3), (true, ac_228)]
noncomputable def hq_221 : HP := [(true, ac_146), (false, am_3), (true, ac_199)]
noncomputable def con_619 : Con2 := ((yX12_readNext, cX12_readNext, 3, none), (13, 312), ([(6, 0, 0)], gi_214, [ac_142, am_3, ac_197], []), [((9, 0, 0), gi_275, hq_218, [], tg_11), ((9, 0, 0), gi_274, hq_219, [], tg_11), ((9, 0, 0), gi_276, hq_220, [([(49, (-1)), (50, (-1)), (117, 1), (118, 1)], (-1))], tg_11), ((9, 0, 0), gi_270, hq_221, [], tg_11)])
theorem hd_619 : con_619.1 = (yX12_readNext, cX12_readNext, 3, none) := rfl
noncomputable def ft_619_0 : CTB2 := [(3, 165, 0, con_366, [0, 1]), (12, 165, 0, con_367, [0, 1]), (21, 165, 0, con_368, [0, 1]), (30, 165, 0, con_369, [0, 1])]
theorem fto_619_0 (l : Launch) {es : List va_E} (f2 : isFact 2 0 [0, 1] es) (f5 : isFact 5 0 [0, 1] es) (f8 : isFact 8 0 [0, 1] es) (f12 : isFact 12 0 [0, 1] es) : FTOK2 l RX12 vwCl gTbl es ft_619_0 := ft2_cons (fun ec he => hv_366 l (f2 ec he)) ck_RX12_165_366 (ft2_cons (fun ec he => hv_367 l (f5 ec he)) ck_RX12_165_367 (ft2_cons (fun ec he => hv_368 l (f8 ec he)) ck_RX12_165_368 (ft2_cons (fun ec he => hv_369 l (f12 ec he)) ck_RX12_165_369 (ft2_nil))))
noncomputable def cu_619_0 : List CUT2 := []
theorem ch_619_0 : staG tb_X12_readNext 1 bt_RX12 ft_619_0 ct_614_0 [] [] cu_619_0 32 con_619 = true := by decide +kernel
theorem ck_RX12_224_617 : COK2 RX12 vwCl gTbl 224 0 con_617 := ⟨wd_1644, wd_137, mh_X12_readVoter, .inr (.inr ⟨rfl, wd_1641, wd_1643, wd_65, ⟨_, rfl, pd_X12_readVoter⟩, 12, _, TX12, 45, rfl, rfl⟩)⟩
noncomputable def ct_619_1 : CTB2 := [(83, 153, 0, con_318, [0]), (240, 169, 0, con_317, [0, 1]), (244, 224, 0, con_617, [0, 2, 1])]
noncomputable def ft_619_1 : CTB2 := [(3, 165, 0, con_366, [0, 1]), (12, 165, 0, con_367, [0, 1]), (21, 165, 0, con_368, [0, 1]), (30, 165, 0, con_375, [0, 1]), (49, 165, 0, con_368, [0, 1]), (71, 210, 0, con_376, [0, 1, 2]), (93, 172, 0, con_377, [0, 1]), (160, 172, 0, con_378, [0, 1]), (176, 172, 0, con_379, [0, 1])]
theorem fto_619_1 (l : Launch) {es : List va_E} (f2 : isFact 2 0 [0, 1] es) (f5 : isFact 5 0 [0, 1] es) (f8 : isFact 8 0 [0, 1] es) (f12 : isFact 12 1 [0, 1] es) : FTOK2 l RX12 vwCl gTbl es ft_619_1 := ft2_cons (fun ec he => hv_366 l (f2 ec he)) ck_RX12_165_366 (ft2_cons (fun ec he => hv_367 l (f5 ec he)) ck_RX12_165_367 (ft2_cons (fun ec he => hv_368 l (f8 ec he)) ck_RX12_165_368 (ft2_cons (fun ec he => hv_375 l (f12 ec he)) ck_RX12_165_375 (ft2_cons (fun ec he => hv_368 l (f8 ec he)) ck_RX12_165_368 (ft2_cons (fun ec he => hv_376 l (fact_at f2 he (τ := [0, 1]) (by decide) (by decide)) (fact_at f5 he (τ := [0, 1]) (by decide) (by decide)) (fact_at f8 he (τ := [0, 1]) (by decide) (by decide)) (fact_at f12 he (τ := [0, 1]) (by decide) (by decide))) ck_RX12_210_376 (ft2_cons (fun ec he => hv_377 l (fact_at f2 he (τ := [0, 1]) (by decide) (by decide))) ck_RX12_172_377 (ft2_cons (fun ec he => hv_378 l (fact_at f5 he (τ := [0, 1]) (by decide) (by decide))) ck_RX12_172_378 (ft2_cons (fun ec he => hv_379 l (fact_at f8 he (τ := [0, 1]) (by decide) (by decide))) ck_RX12_172_379 (ft2_nil)))))))))
noncomputable def cu_619_1 : List CUT2 := []
theorem ch_619_1 : staG tb_X12_readNext 1 bt_RX12 ft_619_1 ct_619_1 [] [] cu_619_1 50 con_619 = true := by decide +kernel
theorem cto_619_1 (l : Launch) : CTOK2 l RX12 vwCl gTbl ct_619_1 := ct2_cons (vl_318 l) ck_RX12_153_318 (ct2_cons (vl_317 l) ck_RX12_169_317 (ct2_cons (vl_617 l) ck_RX12_224_617 (ct2_nil)))
noncomputable def ft_619_2 : CTB2 := [(3, 165, 0, con_366, [0, 1]), (12, 165, 0, con_367, [0, 1]), (21, 165, 0, con_552, [0, 1]), (49, 165, 0, con_552, [0, 1])]
theorem fto_619_2 (l : Launch) {es : List va_E} (f2 : isFact 2 0 [0, 1] es) (f5 : isFact 5 0 [0, 1] es) (f8 : isFact 8 1 [0, 1] es) (f12 : isFact 12 0 [0, 1] es) : FTOK2 l RX12 vwCl gTbl es ft_619_2 := ft2_cons (fun ec he => hv_366 l (f2 ec he)) ck_RX12_165_366 (ft2_cons (fun ec he => hv_367 l (f5 ec he)) ck_RX12_165_367 (ft2_cons (fun ec he => hv_552 l (f8 ec he)) ck_RX12_165_552 (ft2_cons (fun ec he => hv_552 l (f8 ec he)) ck_RX12_165_552 (ft2_nil))))
noncomputable def cu_619_2 : List CUT2 := []
theorem ch_619_2 : staG tb_X12_readNext 1 bt_RX12 ft_619_2 ct_614_0 [] [] cu_619_2 38 con_619 = true := by decide +kernel
noncomputable def ft_619_3 : CTB2 := [(3, 165, 0, con_366, [0, 1]), (12, 165, 0, con_367, [0, 1]), (21, 165, 0, con_552, [0, 1]), (49, 165, 0, con_552, [0, 1])]
theorem fto_619_3 (l : Launch) {es : List va_E} (f2 : isFact 2 0 [0, 1] es) (f5 : isFact 5 0 [0, 1] es) (f8 : isFact 8 1 [0, 1] es) (f12 : isFact 12 1 [0, 1] es) : FTOK2 l RX12 vwCl gTbl es ft_619_3 := ft2_cons (fun ec he => hv_366 l (f2 ec he)) ck_RX12_165_366 (ft2_cons (fun ec he => hv_367 l (f5 ec he)) ck_RX12_165_367 (ft2_cons (fun ec he => hv_552 l (f8 ec he)) ck_RX12_165_552 (ft2_cons (fun ec he => hv_552 l (f8 ec he)) ck_RX12_165_552 (ft2_nil))))
noncomputable def cu_619_3 : List CUT2 := []
theorem ch_619_3 : staG tb_X12_readNext 1 bt_RX12 ft_619_3 ct_614_0 [] [] cu_619_3 38 con_619 = true := by decide +kernel
theorem ck_RX12_217_618 : COK2 RX12 vwCl gTbl 217 0 con_618 := ⟨wd_1638, wd_137, mh_X12_readHedge, .inr (.inr ⟨rfl, wd_1635, wd_1637, wd_64, ⟨_, rfl, pd_X12_readHedge⟩, 12, _, TX12, 45, rfl, rfl⟩)⟩
noncomputable def ct_619_4 : CTB2 := [(79, 175, 0, con_554, [0]), (83, 153, 0, con_555, [0]), (83, 153, 0, con_318, [0]), (167, 217, 0, con_618, [0, 2, 1])]
noncomputable def ft_619_4 : CTB2 := [(3, 165, 0, con_366, [0, 1]), (12, 165, 0, con_577, [0, 1]), (49, 165, 0, con_368, [0, 1]), (71, 210, 0, con_578, [0, 1, 2]), (93, 172, 0, con_377, [0, 1]), (160, 172, 0, con_579, [0, 1])]
theorem fto_619_4 (l : Launch) {es : List va_E} (f2 : isFact 2 0 [0, 1] es) (f5 : isFact 5 1 [0, 1] es) (f8 : isFact 8 0 [0, 1] es) (f12 : isFact 12 0 [0, 1] es) : FTOK2 l RX12 vwCl gTbl es ft_619_4 := ft2_cons (fun ec he => hv_366 l (f2 ec he)) ck_RX12_165_366 (ft2_cons (fun ec he => hv_577 l (f5 ec he)) ck_RX12_165_577 (ft2_cons (fun ec he => hv_368 l (f8 ec he)) ck_RX12_165_368 (ft2_cons (fun ec he => hv_578 l (fact_at f2 he (τ := [0, 1]) (by decide) (by decide)) (fact_at f5 he (τ := [0, 1]) (by decide) (by decide)) (fact_at f8 he (τ := [0, 1]) (by decide) (by decide)) (fact_at f12 he (τ := [0, 1]) (by decide) (by decide))) ck_RX12_210_578 (ft2_cons (fun ec he => hv_377 l (fact_at f2 he (τ := [0, 1]) (by decide) (by decide))) ck_RX12_172_377 (ft2_cons (fun ec he => hv_579 l (fact_at f5 he (τ := [0, 1]) (by decide) (by decide))) ck_RX12_172_579 (ft2_nil))))))
noncomputable def cu_619_4 : List CUT2 := []
theorem ch_619_4 : staG tb_X12_readNext 1 bt_RX12 ft_619_4 ct_619_4 [] [] cu_619_4 37 con_619 = true := by decide +kernel
theorem cto_619_4 (l : Launch) : CTOK2 l RX12 vwCl gTbl ct_619_4 := ct2_cons (vl_554 l) ck_RX12_175_554 (ct2_cons (vl_555 l) ck_RX12_153_555 (ct2_cons (vl_318 l) ck_RX12_153_318 (ct2_cons (vl_618 l) ck_RX12_217_618 (ct2_nil))))
noncomputable def ft_619_5 : CTB2 := [(3, 165, 0, con_366, [0, 1]), (12, 165, 0, con_577, [0, 1]), (49, 165, 0, con_368, [0, 1]), (71, 210, 0, con_585, [0, 1, 2]), (93, 172, 0, con_377, [0, 1]), (160, 172, 0, con_579, [0, 1])]
theorem fto_619_5 (l : Launch) {es : List va_E} (f2 : isFact 2 0 [0, 1] es) (f5 : isFact 5 1 [0, 1] es) (f8 : isFact 8 0 [0, 1] es) (f12 : isFact 12 1 [0, 1] es) : FTOK2 l RX12 vwCl gTbl es ft_619_5 := ft2_cons (fun ec he => hv_366 l (f2 ec he)) ck_RX12_165_366 (ft2_cons (fun ec he => hv_577 l (f5 ec he)) ck_RX12_165_577 (ft2_cons (fun ec he => hv_368 l (f8 ec he)) ck_RX12_165_368 (ft2_cons (fun ec he => hv_585 l (fact_at f2 he (τ := [0, 1]) (by decide) (by decide)) (fact_at f5 he (τ := [0, 1]) (by decide) (by decide)) (fact_at f8 he (τ := [0, 1]) (by decide) (by decide)) (fact_at f12 he (τ := [0, 1]) (by decide) (by decide))) ck_RX12_210_585 (ft2_cons (fun ec he => hv_377 l (fact_at f2 he (τ := [0, 1]) (by decide) (by decide))) ck_RX12_172_377 (ft2_cons (fun ec he => hv_579 l (fact_at f5 he (τ := [0, 1]) (by decide) (by decide))) ck_RX12_172_579 (ft2_nil))))))
noncomputable def cu_619_5 : List CUT2 := []
theorem ch_619_5 : staG tb_X12_readNext 1 bt_RX12 ft_619_5 ct_619_4 [] [] cu_619_5 37 con_619 = true := by decide +kernel
noncomputable def ft_619_6 : CTB2 := [(3, 165, 0, con_366, [0, 1]), (12, 165, 0, con_577, [0, 1]), (49, 165, 0, con_552, [0, 1])]
theorem fto_619_6 (l : Launch) {es : List va_E} (f2 : isFact 2 0 [0, 1] es) (f5 : isFact 5 1 [0, 1] es) (f8 : isFact 8 1 [0, 1] es) (f12 : isFact 12 0 [0, 1] es) : FTOK2 l RX12 vwCl gTbl es ft_619_6 := ft2_cons (fun ec he => hv_366 l (f2 ec he)) ck_RX12_165_366 (ft2_cons (fun ec he => hv_577 l (f5 ec he)) ck_RX12_165_577 (ft2_cons (fun ec he => hv_552 l (f8 ec he)) ck_RX12_165_552 (ft2_nil)))
noncomputable def cu_619_6 : List CUT2 := []
theorem ch_619_6 : staG tb_X12_readNext 1 bt_RX12 ft_619_6 ct_614_0 [] [] cu_619_6 34 con_619 = true := by decide +kernel
noncomputable def ft_619_7 : CTB2 := [(3, 165, 0, con_366, [0, 1]), (12, 165, 0, con_577, [0, 1]), (49, 165, 0, con_552, [0, 1])]
theorem fto_619_7 (l : Launch) {es : List va_E} (f2 : isFact 2 0 [0, 1] es) (f5 : isFact 5 1 [0, 1] es) (f8 : isFact 8 1 [0, 1] es) (f12 : isFact 12 1 [0, 1] es) : FTOK2 l RX12 vwCl gTbl es ft_619_7 := ft2_cons (fun ec he => hv_366 l (f2 ec he)) ck_RX12_165_366 (ft2_cons (fun ec he => hv_577 l (f5 ec he)) ck_RX12_165_577 (ft2_cons (fun ec he => hv_552 l (f8 ec he)) ck_RX12_165_552 (ft2_nil)))
noncomputable def cu_619_7 : List CUT2 := []
theorem ch_619_7 : staG tb_X12_readNext 1 bt_RX12 ft_619_7 ct_614_0 [] [] cu_619_7 34 con_619 = true := by decide +kernel
noncomputable def ft_619_8 : CTB2 := [(3, 165, 0, con_588, [0, 1]), (49, 165, 0, con_368, [0, 1]), (71, 210, 0, con_589, [0, 1, 2]), (93, 172, 0, con_590, [0, 1])]
theorem fto_619_8 (l : Launch) {es : List va_E} (f2 : isFact 2 1 [0, 1] es) (f5 : isFact 5 0 [0, 1] es) (f8 : isFact 8 0 [0, 1] es) (f12 : isFact 12 0 [0, 1] es) : FTOK2 l RX12 vwCl gTbl es ft_619_8 := ft2_cons (fun ec he => hv_588 l (f2 ec he)) ck_RX12_165_588 (ft2_cons (fun ec he => hv_368 l (f8 ec he)) ck_RX12_165_368 (ft2_cons (fun ec he => hv_589 l (fact_at f2 he (τ := [0, 1]) (by decide) (by decide)) (fact_at f5 he (τ := [0, 1]) (by decide) (by decide)) (fact_at f8 he (τ := [0, 1]) (by decide) (by decide)) (fact_at f12 he (τ := [0, 1]) (by decide) (by decide))) ck_RX12_210_589 (ft2_cons (fun ec he => hv_590 l (fact_at f2 he (τ := [0, 1]) (by decide) (by decide))) ck_RX12_172_590 (ft2_nil))))
noncomputable def cu_619_8 : List CUT2 := []
theorem ch_619_8 : staG tb_X12_readNext 1 bt_RX12 ft_619_8 ct_614_8 [] [] cu_619_8 64 con_619 = true := by decide +kernel
noncomputable def ft_619_9 : CTB2 := [(3, 165, 0, con_588, [0, 1]), (49, 165, 0, con_368, [0, 1]), (71, 210, 0, con_607, [0, 1, 2]), (93, 172, 0, con_590, [0, 1])]
theorem fto_619_9 (l : Launch) {es : List va_E} (f2 : isFact 2 1 [0, 1] es) (f5 : isFact 5 0 [0, 1] es) (f8 : isFact 8 0 [0, 1] es) (f12 : isFact 12 1 [0, 1] es) : FTOK2 l RX12 vwCl gTbl es ft_619_9 := ft2_cons (fun ec he => hv_588 l (f2 ec he)) ck_RX12_165_588 (ft2_cons (fun ec he => hv_368 l (f8 ec he)) ck_RX12_165_368 (ft2_cons (fun ec he => hv_607 l (fact_at f2 he (τ := [0, 1]) (by decide) (by decide)) (fact_at f5 he (τ := [0, 1]) (by decide) (by decide)) (fact_at f8 he (τ := [0, 1]) (by decide) (by decide)) (fact_at f12 he (τ := [0, 1]) (by decide) (by decide))) ck_RX12_210_607 (ft2_cons (fun ec he => hv_590 l (fact_at f2 he (τ := [0, 1]) (by decide) (by decide))) ck_RX12_172_590 (ft2_nil))))
noncomputable def cu_619_9 : List CUT2 := []
theorem ch_619_9 : staG tb_X12_readNext 1 bt_RX12 ft_619_9 ct_614_8 [] [] cu_619_9 64 con_619 = true := by decide +kernel
noncomputable def ft_619_10 : CTB2 := [(3, 165, 0, con_588, [0, 1]), (49, 165, 0, con_552, [0, 1])]
theorem fto_619_10 (l : Launch) {es : List va_E} (f2 : isFact 2 1 [0, 1] es) (f5 : isFact 5 0 [0, 1] es) (f8 : isFact 8 1 [0, 1] es) (f12 : isFact 12 0 [0, 1] es) : FTOK2 l RX12 vwCl gTbl es ft_619_10 := ft2_cons (fun ec he => hv_588 l (f2 ec he)) ck_RX12_165_588 (ft2_cons (fun ec he => hv_552 l (f8 ec he)) ck_RX12_165_552 (ft2_nil))
noncomputable def cu_619_10 : List CUT2 := []
theorem ch_619_10 : staG tb_X12_readNext 1 bt_RX12 ft_619_10 ct_614_0 [] [] cu_619_10 30 con_619 = true := by decide +kernel
noncomputable def ft_619_11 : CTB2 := [(3, 165, 0, con_588, [0, 1]), (49, 165, 0, con_552, [0, 1])]
theorem fto_619_11 (l : Launch) {es : List va_E} (f2 : isFact 2 1 [0, 1] es) (f5 : isFact 5 0 [0, 1] es) (f8 : isFact 8 1 [0, 1] es) (f12 : isFact 12 1 [0, 1] es) : FTOK2 l RX12 vwCl gTbl es ft_619_11 := ft2_cons (fun ec he => hv_588 l (f2 ec he)) ck_RX12_165_588 (ft2_cons (fun ec he => hv_552 l (f8 ec he)) ck_RX12_165_552 (ft2_nil))
noncomputable def cu_619_11 : List CUT2 := []
theorem ch_619_11 : staG tb_X12_readNext 1 bt_RX12 ft_619_11 ct_614_0 [] [] cu_619_11 30 con_619 = true := by decide +kernel
noncomputable def ft_619_12 : CTB2 := [(3, 165, 0, con_588, [0, 1]), (49, 165, 0, con_368, [0, 1]), (71, 210, 0, con_610, [0, 1, 2]), (93, 172, 0, con_590, [0, 1])]
theorem fto_619_12 (l : Launch) {es : List va_E} (f2 : isFact 2 1 [0, 1] es) (f5 : isFact 5 1 [0, 1] es) (f8 : isFact 8 0 [0, 1] es) (f12 : isFact 12 0 [0, 1] es) : FTOK2 l RX12 vwCl gTbl es ft_619_12 := ft2_cons (fun ec he => hv_588 l (f2 ec he)) ck_RX12_165_588 (ft2_cons (fun ec he => hv_368 l (f8 ec he)) ck_RX12_165_368 (ft2_cons (fun ec he => hv_610 l (fact_at f2 he (τ := [0, 1]) (by decide) (by decide)) (fact_at f5 he (τ := [0, 1]) (by decide) (by decide)) (fact_at f8 he (τ := [0, 1]) (by decide) (by decide)) (fact_at f12 he (τ := [0, 1]) (by decide) (by decide))) ck_RX12_210_610 (ft2_cons (fun ec he => hv_590 l (fact_at f2 he (τ := [0, 1]) (by decide) (by decide))) ck_RX12_172_590 (ft2_nil))))
noncomputable def cu_619_12 : List CUT2 := []
theorem ch_619_12 : staG tb_X12_readNext 1 bt_RX12 ft_619_12 ct_614_8 [] [] cu_619_12 64 con_619 = true := by decide +kernel
noncomputable def ft_619_13 : CTB2 := [(3, 165, 0, con_588, [0, 1]), (49, 165, 0, con_368, [0, 1]), (71, 210, 0, con_611, [0, 1, 2]), (93, 172, 0, con_590, [0, 1])]
theorem fto_619_13 (l : Launch) {es : List va_E} (f2 : isFact 2 1 [0, 1] es) (f5 : isFact 5 1 [0, 1] es) (f8 : isFact 8 0 [0, 1] es) (f12 : isFact 12 1 [0, 1] es) : FTOK2 l RX12 vwCl gTbl es ft_619_13 := ft2_cons (fun ec he => hv_588 l (f2 ec he)) ck_RX12_165_588 (ft2_cons (fun ec he => hv_368 l (f8 ec he)) ck_RX12_165_368 (ft2_cons (fun ec he => hv_611 l (fact_at f2 he (τ := [0, 1]) (by decide) (by decide)) (fact_at f5 he (τ := [0, 1]) (by decide) (by decide)) (fact_at f8 he (τ := [0, 1]) (by decide) (by decide)) (fact_at f12 he (τ := [0, 1]) (by decide) (by decide))) ck_RX12_210_611 (ft2_cons (fun ec he => hv_590 l (fact_at f2 he (τ := [0, 1]) (by decide) (by decide))) ck_RX12_172_590 (ft2_nil))))
noncomputable def cu_619_13 : List CUT2 := []
theorem ch_619_13 : staG tb_X12_readNext 1 bt_RX12 ft_619_13 ct_614_8 [] [] cu_619_13 64 con_619 = true := by decide +kernel
noncomputable def ft_619_14 : CTB2 := [(3, 165, 0, con_588, [0, 1]), (49, 165, 0, con_552, [0, 1])]
theorem fto_619_14 (l : Launch) {es : List va_E} (f2 : isFact 2 1 [0, 1] es) (f5 : isFact 5 1 [0, 1] es) (f8 : isFact 8 1 [0, 1] es) (f12 : isFact 12 0 [0, 1] es) : FTOK2 l RX12 vwCl gTbl es ft_619_14 := ft2_cons (fun ec he => hv_588 l (f2 ec he)) ck_RX12_165_588 (ft2_cons (fun ec he => hv_552 l (f8 ec he)) ck_RX12_165_552 (ft2_nil))
noncomputable def cu_619_14 : List CUT2 := []
theorem ch_619_14 : staG tb_X12_readNext 1 bt_RX12 ft_619_14 ct_614_0 [] [] cu_619_14 30 con_619 = true := by decide +kernel
noncomputable def ft_619_15 : CTB2 := [(3, 165, 0, con_588, [0, 1]), (49, 165, 0, con_552, [0, 1])]
theorem fto_619_15 (l : Launch) {es : List va_E} (f2 : isFact 2 1 [0, 1] es) (f5 : isFact 5 1 [0, 1] es) (f8 : isFact 8 1 [0, 1] es) (f12 : isFact 12 1 [0, 1] es) : FTOK2 l RX12 vwCl gTbl es ft_619_15 := ft2_cons (fun ec he => hv_588 l (f2 ec he)) ck_RX12_165_588 (ft2_cons (fun ec he => hv_552 l (f8 ec he)) ck_RX12_165_552 (ft2_nil))
noncomputable def cu_619_15 : List CUT2 := []
theorem ch_619_15 : staG tb_X12_readNext 1 bt_RX12 ft_619_15 ct_614_0 [] [] cu_619_15 30 con_619 = true := by decide +kernel
theorem vl_619 (l : Launch) : Vld2 l vwCl gTbl con_619 := fun es => by
  rcases fact_or 2 [0, 1] es with f2 | f2 <;> rcases fact_or 5 [0, 1] es with f5 | f5 <;> rcases fact_or 8 [0, 1] es with f8 | f8 <;> rcases fact_or 12 [0, 1] es with f12 | f12
  · exact conE_ok3 gT_all (hd_619) rfl pn_RX12 tk_X12_readNext bo_RX12 xo_RX12 (fto_619_0 l f2 f5 f8 f12) (cto_614_0 l) ch_619_0 cut_nil
  · exact conE_ok3 gT_all (hd_619) rfl pn_RX12 tk_X12_readNext bo_RX12 xo_RX12 (fto_619_1 l f2 f5 f8 f12) (cto_619_1 l) ch_619_1 cut_nil
  · exact conE_ok3 gT_all (hd_619) rfl pn_RX12 tk_X12_readNext bo_RX12 xo_RX12 (fto_619_2 l f2 f5 f8 f12) (cto_614_0 l) ch_619_2 cut_nil
  · exact conE_ok3 gT_all (hd_619) rfl pn_RX12 tk_X12_readNext bo_RX12 xo_RX12 (fto_619_3 l f2 f5 f8 f12) (cto_614_0 l) ch_619_3 cut_nil
  · exact conE_ok3 gT_all (hd_619) rfl pn_RX12 tk_X12_readNext bo_RX12 xo_RX12 (fto_619_4 l f2 f5 f8 f12) (cto_619_4 l) ch_619_4 cut_nil
  · exact conE_ok3 gT_all (hd_619) rfl pn_RX12 tk_X12_readNext bo_RX12 xo_RX12 (fto_619_5 l f2 f5 f8 f12) (cto_619_4 l) ch_619_5 cut_nil
  · exact conE_ok3 gT_all (hd_619) rfl pn_RX12 tk_X12_readNext bo_RX12 xo_RX12 (fto_619_6 l f2 f5 f8 f12) (cto_614_0 l) ch_619_6 cut_nil
  · exact conE_ok3 gT_all (hd_619) rfl pn_RX12 tk_X12_readNext bo_RX12 xo_RX12 (fto_619_7 l f2 f5 f8 f12) (cto_614_0 l) ch_619_7 cut_nil
  · exact conE_ok3 gT_all (hd_619) rfl pn_RX12 tk_X12_readNext bo_RX12 xo_RX12 (fto_619_8 l f2 f5 f8 f12) (cto_614_8 l) ch_619_8 cut_nil
  · exact conE_ok3 gT_all (hd_619) rfl pn_RX12 tk_X12_readNext bo_RX12 xo_RX12 (fto_619_9 l f2 f5 f8 f12) (cto_614_8 l) ch_619_9 cut_nil
  · exact conE_ok3 gT_all (hd_619) rfl pn_RX12 tk_X12_readNext bo_RX12 xo_RX12 (fto_619_10 l f2 f5 f8 f12) (cto_614_0 l) ch_619_10 cut_nil
  · exact conE_ok3 gT_all (hd_619) rfl pn_RX12 tk_X12_readNext bo_RX12 xo_RX12 (fto_619_11 l f2 f5 f8 f12) (cto_614_0 l) ch_619_11 cut_nil
  · exact conE_ok3 gT_all (hd_619) rfl pn_RX12 tk_X12_readNext bo_RX12 xo_RX12 (fto_619_12 l f2 f5 f8 f12) (cto_614_8 l) ch_619_12 cut_nil
  · exact conE_ok3 gT_all (hd_619) rfl pn_RX12 tk_X12_readNext bo_RX12 xo_RX12 (fto_619_13 l f2 f5 f8 f12) (cto_614_8 l) ch_619_13 cut_nil
  · exact conE_ok3 gT_all (hd_619) rfl pn_RX12 tk_X12_readNext bo_RX12 xo_RX12 (fto_619_14 l f2 f5 f8 f12) (cto_614_0 l) ch_619_14 cut_nil
  · exact conE_ok3 gT_all (hd_619) rfl pn_RX12 tk_X12_readNext bo_RX12 xo_RX12 (fto_619_15 l f2 f5 f8 f12) (cto_614_0 l) ch_619_15 cut_nil
/-- RookHustingModel readLine -/
noncomputable def ac_229 : AC := .inr (1, jl_n [sp_68, jl_x (1, (0, 1, 0)), sp_49, sp_29])
noncomputable def hq_222 : HP := [(true, ac_149), (true, ac_229), (false, am_3)]
noncomputable def ac_230 : AC := .inr (1, jl_n [sp_54, sp_49, sp_56, sp_9])
noncomputable def hq_223 : HP := [(true, ac_194), (true, ac_230), (false, am_3)]
noncomputable def ac_231 : AC := .inr (1, jl_n [sp_23, sp_69, sp_52])
noncomputable def hq_224 : HP := [(true, ac_149), (true, ac_231), (false, am_3)]
noncomputable def hq_225 : HP := [(true, ac_151), (true, ac_229), (false, am_3)]
noncomputable def hq_226 : HP := [(true, ac_151), (true, ac_230), (false, am_3)]
noncomputable def con_620 : Con2 := ((yX12_readLine, cX12_readLine, 1, none), (14, 334), ([(6, 0, 0)], gi_214, [ac_148, ac_197, am_3], []), [((9, 0, 0), gi_275, hq_222, [], tg_11), ((9, 0, 0), gi_273, hq_223, [], tg_11), ((9, 0, 0), gi_274, hq_224, [], tg_11), ((9, 0, 0), gi_276, hq_225, [([(49, (-1)), (50, (-1)), (117, 1), (118, 1)], (-1))], tg_11), ((9, 0, 0), gi_270, hq_226, [], tg_11)])
theorem hd_620 : con_620.1 = (yX12_readLine, cX12_readLine, 1, none) := rfl
theorem ck_RX12_230_619 : COK2 RX12 vwCl gTbl 230 0 con_619 := ⟨wd_1624, wd_137, mh_X12_readNext, .inr (.inr ⟨rfl, wd_1621, wd_1623, wd_62, ⟨_, rfl, pd_X12_readNext⟩, 12, _, TX12, 45, rfl, rfl⟩)⟩
noncomputable def ct_620 : CTB2 := [(18, 230, 0, con_619, [0, 2, 1]), (22, 153, 0, con_318, [0]), (22, 153, 0, con_347, [0]), (22, 153, 0, con_615, [0]), (38, 175, 0, con_321, [0]), (42, 153, 0, con_326, [0]), (42, 153, 0, con_318, [0]), (42, 153, 0, con_347, [0]), (42, 153, 0, con_615, [0]), (49, 169, 0, con_317, [0, 2])]
noncomputable def cu_620 : List CUT2 := []
theorem ch_620 : staG tb_X12_readLine 1 bt_RX12 [] ct_620 [] [] cu_620 31 con_620 = true := by decide +kernel
theorem cto_620 (l : Launch) : CTOK2 l RX12 vwCl gTbl ct_620 := ct2_cons (vl_619 l) ck_RX12_230_619 (ct2_cons (vl_318 l) ck_RX12_153_318 (ct2_cons (vl_347 l) ck_RX12_153_347 (ct2_cons (vl_615 l) ck_RX12_153_615 (ct2_cons (vl_321 l) ck_RX12_175_321 (ct2_cons (vl_326 l) ck_RX12_153_326 (ct2_cons (vl_318 l) ck_RX12_153_318 (ct2_cons (vl_347 l) ck_RX12_153_347 (ct2_cons (vl_615 l) ck_RX12_153_615 (ct2_cons (vl_317 l) ck_RX12_169_317 (ct2_nil))))))))))
theorem vl_620 (l : Launch) : Vld2 l vwCl gTbl con_620 := conR_ok3 gT_all (hd_620) rfl pn_RX12 tk_X12_readLine bo_RX12 xo_RX12 (cto_620 l) ch_620 cut_nil
