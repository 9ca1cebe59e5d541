/-! ===== contracts, 2 ===== -/
/-- RookHusting$Reader readVoter -/
noncomputable def ac_71 : AC := .inl (4, jl_n [vp_2, jl_c 3, vp_3])
noncomputable def hc_41 : List AC := [.inl (6, [(6, 1, 0), (1, 2, 0), (1, 3, 0), (6, 2, 0)]), ac_71, ac_21, am_2, am_7, am_8, am_5, am_6]
noncomputable def gi_127 : GI := jl_n [gp_59, jl_i 3 4, gp_60]
noncomputable def con_284 : Con2 := ((yX6_readVoter, cX6_readVoter, 5, none), (11, 266), ([(6, 0, 0)], gi_85, hc_41, []), [((9, 0, 0), gi_127, hq_32, [], tg_3)])
theorem hd_284 : con_284.1 = (yX6_readVoter, cX6_readVoter, 5, none) := rfl
theorem ck_RX6_141_283 : COK2 RX6 vwCl gTbl 141 0 con_283 := ⟨wd_729, wd_128, mh_X4_addWant, .inr (.inr ⟨rfl, wd_726, wd_727, wd_728, ⟨_, rfl, pd_X4_addWant⟩, 4, _, TX4, 17, rfl, rfl⟩)⟩
theorem ck_RX6_141_282 : COK2 RX6 vwCl gTbl 141 0 con_282 := ⟨wd_729, wd_128, mh_X4_addWant, .inr (.inr ⟨rfl, wd_726, wd_727, wd_728, ⟨_, rfl, pd_X4_addWant⟩, 4, _, TX4, 17, rfl, rfl⟩)⟩
theorem ck_RX6_141_281 : COK2 RX6 vwCl gTbl 141 0 con_281 := ⟨wd_729, wd_128, mh_X4_addWant, .inr (.inr ⟨rfl, wd_726, wd_727, wd_728, ⟨_, rfl, pd_X4_addWant⟩, 4, _, TX4, 17, rfl, rfl⟩)⟩
theorem ck_RX6_141_280 : COK2 RX6 vwCl gTbl 141 0 con_280 := ⟨wd_729, wd_128, mh_X4_addWant, .inr (.inr ⟨rfl, wd_726, wd_727, wd_728, ⟨_, rfl, pd_X4_addWant⟩, 4, _, TX4, 17, rfl, rfl⟩)⟩
theorem ck_RX6_141_279 : COK2 RX6 vwCl gTbl 141 0 con_279 := ⟨wd_729, wd_128, mh_X4_addWant, .inr (.inr ⟨rfl, wd_726, wd_727, wd_728, ⟨_, rfl, pd_X4_addWant⟩, 4, _, TX4, 17, rfl, rfl⟩)⟩
theorem ck_RX6_138_278 : COK2 RX6 vwCl gTbl 138 0 con_278 := ⟨wd_725, wd_128, mh_X4_addVoter, .inr (.inr ⟨rfl, wd_722, wd_723, wd_724, ⟨_, rfl, pd_X4_addVoter⟩, 4, _, TX4, 17, rfl, rfl⟩)⟩
noncomputable def ct_284 : CTB2 := [(22, 102, 0, con_10, [2, 3]), (31, 85, 0, con_75, [0, 2, 3]), (47, 138, 0, con_278, [1, 4, 5, 6]), (89, 116, 0, con_45, [0, 2, 3]), (89, 116, 0, con_83, [0, 2, 3]), (89, 116, 0, con_90, [0, 2, 3]), (89, 116, 0, con_96, [0, 2, 3]), (89, 116, 0, con_102, [0, 2, 3]), (89, 116, 0, con_103, [0, 2, 3]), (89, 116, 0, con_109, [0, 2, 3]), (89, 116, 0, con_116, [0, 2, 3]), (89, 116, 0, con_122, [0, 2, 3]), (89, 116, 0, con_128, [0, 2, 3]), (89, 116, 0, con_134, [0, 2, 3]), (89, 116, 0, con_140, [0, 2, 3]), (89, 116, 0, con_146, [0, 2, 3]), (89, 116, 0, con_152, [0, 2, 3]), (89, 116, 0, con_158, [0, 2, 3]), (89, 116, 0, con_164, [0, 2, 3]), (89, 116, 0, con_170, [0, 2, 3]), (89, 116, 0, con_177, [0, 2, 3]), (89, 116, 0, con_183, [0, 2, 3]), (89, 116, 0, con_189, [0, 2, 3]), (89, 116, 0, con_195, [0, 2, 3]), (89, 116, 0, con_201, [0, 2, 3]), (89, 116, 0, con_207, [0, 2, 3]), (89, 116, 0, con_213, [0, 2, 3]), (89, 116, 0, con_219, [0, 2, 3]), (89, 116, 0, con_225, [0, 2, 3]), (89, 116, 0, con_231, [0, 2, 3]), (89, 116, 0, con_238, [0, 2, 3]), (89, 116, 0, con_244, [0, 2, 3]), (89, 116, 0, con_250, [0, 2, 3]), (89, 116, 0, con_256, [0, 2, 3]), (89, 116, 0, con_262, [0, 2, 3]), (107, 141, 0, con_279, [1, 5, 7, 6]), (107, 141, 0, con_280, [1, 5, 7, 6]), (107, 141, 0, con_281, [1, 5, 7, 6]), (107, 141, 0, con_282, [1, 5, 7, 6]), (107, 141, 0, con_283, [1, 5, 7, 6])]
noncomputable def hq_70 : HP := [(true, .inl (6, [(6, 1, 0), (0, 0, 0), (1, 34, 0), (6, 2, 0)])), (true, ac_67), (true, ac_57), (false, am_2), (true, am_7), (true, .inr (1, [(3, (2, 0, 5)), (1, (0, 0, 0)), (3, (2, 0, 5))])), (true, ac_69), (false, am_6)]
noncomputable def gi_128 : GI := jl_n [gp_64, jl_i 3 4, gp_60]
noncomputable def hq_71 : HP := [(true, .inl (6, [(6, 1, 0), (0, 0, 0), (1, 35, 0), (6, 2, 0)])), (true, ac_67), (true, ac_59), (false, am_2), (true, am_7), (true, .inr (1, [(3, (2, 0, 5)), (1, (0, 1, 0)), (3, (2, 0, 5))])), (true, am_5), (true, am_6)]
noncomputable def hq_72 : HP := [(true, .inl (6, [(6, 1, 0), (0, 0, 0), (1, 35, 0), (6, 2, 0)])), (true, ac_67), (true, ac_59), (false, am_2), (true, am_7), (true, .inr (1, [(3, (2, 0, 5)), (1, (0, 2, 0)), (3, (2, 0, 5))])), (true, am_5), (true, am_6)]
noncomputable def hq_73 : HP := [(true, .inl (6, [(6, 1, 0), (0, 0, 0), (1, 35, 0), (6, 2, 0)])), (true, ac_67), (true, ac_59), (false, am_2), (true, am_7), (true, .inr (1, [(3, (2, 0, 5)), (1, (0, 3, 0)), (3, (2, 0, 5))])), (true, am_5), (true, am_6)]
noncomputable def hq_74 : HP := [(true, .inl (6, [(6, 1, 0), (0, 0, 0), (1, 35, 0), (6, 2, 0)])), (true, ac_67), (true, ac_59), (false, am_2), (true, am_7), (true, .inr (1, [(3, (2, 0, 5)), (1, (0, 4, 0)), (3, (2, 0, 5))])), (true, am_5), (true, am_6)]
noncomputable def hq_75 : HP := [(true, .inl (6, [(6, 1, 0), (0, 0, 0), (1, 35, 0), (6, 2, 0)])), (true, ac_67), (true, ac_59), (false, am_2), (true, am_7), (true, .inr (1, [(3, (2, 0, 5)), (1, (0, 5, 0)), (3, (2, 0, 5))])), (true, am_5), (true, am_6)]
noncomputable def cu_284_0 : List CUT2 := [((54, [lq 0 6 0, lq 1 1 29, lq 2 0 0, lq 3 0 0], [], gi_96, hq_70), [], ([], 6)), ((54, [lq 0 6 0, lq 1 1 29, lq 2 1 30, lq 3 1 31], [], gi_128, hq_34), [], ([(31, (-1))], 6)), ((54, [lq 0 6 0, lq 1 1 29, lq 2 0 16, lq 3 0 1, lq 4 0 4], [], gi_98, hq_71), [], ([], 5)), ((54, [lq 0 6 0, lq 1 1 29, lq 2 0 8, lq 3 0 1, lq 4 0 3], [], gi_98, hq_71), [], ([], 5)), ((54, [lq 0 6 0, lq 1 1 29, lq 2 0 4, lq 3 0 1, lq 4 0 2], [], gi_98, hq_71), [], ([], 5)), ((54, [lq 0 6 0, lq 1 1 29, lq 2 0 2, lq 3 0 1, lq 4 0 1], [], gi_98, hq_71), [], ([], 5)), ((54, [lq 0 6 0, lq 1 1 29, lq 2 0 1, lq 3 0 1, lq 4 0 0], [], gi_98, hq_71), [], ([], 5)), ((54, [lq 0 6 0, lq 1 1 29, lq 2 0 24, lq 3 0 2, lq 4 1 32], [], gi_99, hq_72), [], ([], 4)), ((54, [lq 0 6 0, lq 1 1 29, lq 2 0 20, lq 3 0 2, lq 4 1 32], [], gi_100, hq_72), [], ([], 4)), ((54, [lq 0 6 0, lq 1 1 29, lq 2 0 18, lq 3 0 2, lq 4 1 32], [], gi_101, hq_72), [], ([], 4)), ((54, [lq 0 6 0, lq 1 1 29, lq 2 0 17, lq 3 0 2, lq 4 1 32], [], gi_102, hq_72), [], ([], 4)), ((54, [lq 0 6 0, lq 1 1 29, lq 2 0 12, lq 3 0 2, lq 4 1 32], [], gi_103, hq_72), [], ([], 4)), ((54, [lq 0 6 0, lq 1 1 29, lq 2 0 10, lq 3 0 2, lq 4 1 32], [], gi_104, hq_72), [], ([], 4)), ((54, [lq 0 6 0, lq 1 1 29, lq 2 0 9, lq 3 0 2, lq 4 1 32], [], gi_105, hq_72), [], ([], 4)), ((54, [lq 0 6 0, lq 1 1 29, lq 2 0 6, lq 3 0 2, lq 4 1 32], [], gi_106, hq_72), [], ([], 4)), ((54, [lq 0 6 0, lq 1 1 29, lq 2 0 5, lq 3 0 2, lq 4 1 32], [], gi_107, hq_72), [], ([], 4))]
noncomputable def cu_284_1 : List CUT2 := [((54, [lq 0 6 0, lq 1 1 29, lq 2 0 3, lq 3 0 2, lq 4 1 32], [], gi_108, hq_72), [], ([], 4)), ((54, [lq 0 6 0, lq 1 1 29, lq 2 0 28, lq 3 0 3, lq 4 1 32], [], gi_100, hq_73), [], ([], 3)), ((54, [lq 0 6 0, lq 1 1 29, lq 2 0 26, lq 3 0 3, lq 4 1 32], [], gi_101, hq_73), [], ([], 3)), ((54, [lq 0 6 0, lq 1 1 29, lq 2 0 25, lq 3 0 3, lq 4 1 32], [], gi_102, hq_73), [], ([], 3)), ((54, [lq 0 6 0, lq 1 1 29, lq 2 0 22, lq 3 0 3, lq 4 1 32], [], gi_101, hq_73), [], ([], 3)), ((54, [lq 0 6 0, lq 1 1 29, lq 2 0 21, lq 3 0 3, lq 4 1 32], [], gi_102, hq_73), [], ([], 3)), ((54, [lq 0 6 0, lq 1 1 29, lq 2 0 19, lq 3 0 3, lq 4 1 32], [], gi_102, hq_73), [], ([], 3)), ((54, [lq 0 6 0, lq 1 1 29, lq 2 0 14, lq 3 0 3, lq 4 1 32], [], gi_104, hq_73), [], ([], 3)), ((54, [lq 0 6 0, lq 1 1 29, lq 2 0 13, lq 3 0 3, lq 4 1 32], [], gi_105, hq_73), [], ([], 3)), ((54, [lq 0 6 0, lq 1 1 29, lq 2 0 11, lq 3 0 3, lq 4 1 32], [], gi_105, hq_73), [], ([], 3)), ((54, [lq 0 6 0, lq 1 1 29, lq 2 0 7, lq 3 0 3, lq 4 1 32], [], gi_107, hq_73), [], ([], 3)), ((54, [lq 0 6 0, lq 1 1 29, lq 2 0 30, lq 3 0 4, lq 4 1 32], [], gi_101, hq_74), [], ([], 2)), ((54, [lq 0 6 0, lq 1 1 29, lq 2 0 29, lq 3 0 4, lq 4 1 32], [], gi_102, hq_74), [], ([], 2)), ((54, [lq 0 6 0, lq 1 1 29, lq 2 0 27, lq 3 0 4, lq 4 1 32], [], gi_102, hq_74), [], ([], 2)), ((54, [lq 0 6 0, lq 1 1 29, lq 2 0 23, lq 3 0 4, lq 4 1 32], [], gi_102, hq_74), [], ([], 2)), ((54, [lq 0 6 0, lq 1 1 29, lq 2 0 15, lq 3 0 4, lq 4 1 32], [], gi_105, hq_74), [], ([], 2)), ((54, [lq 0 6 0, lq 1 1 29, lq 2 0 31, lq 3 0 5, lq 4 1 32], [], gi_102, hq_75), [], ([], 1))]
noncomputable def cu_284 : List CUT2 := cu_284_0 ++ (cu_284_1)
theorem ch_284 : staG tb_X6_readVoter 1 bt_RX6 [] ct_284 [(110, [(1, (1, 4, 0), 0, 0)])] [] cu_284 39 con_284 = true := by decide +kernel
theorem cc_284_0 : cu_284_0.all (cutG tb_X6_readVoter 1 bt_RX6 [] ct_284 [(110, [(1, (1, 4, 0), 0, 0)])] [] cu_284 39 con_284) = true := by decide +kernel
theorem cc_284_1 : cu_284_1.all (cutG tb_X6_readVoter 1 bt_RX6 [] ct_284 [(110, [(1, (1, 4, 0), 0, 0)])] [] cu_284 39 con_284) = true := by decide +kernel
theorem cto_284 (l : Launch) : CTOK2 l RX6 vwCl gTbl ct_284 := ct2_cons (vl_10 l) ck_RX6_102_10 (ct2_cons (vl_75 l) ck_RX6_85_75 (ct2_cons (vl_278 l) ck_RX6_138_278 (ct2_cons (vl_45 l) ck_RX6_116_45 (ct2_cons (vl_83 l) ck_RX6_116_83 (ct2_cons (vl_90 l) ck_RX6_116_90 (ct2_cons (vl_96 l) ck_RX6_116_96 (ct2_cons (vl_102 l) ck_RX6_116_102 (ct2_cons (vl_103 l) ck_RX6_116_103 (ct2_cons (vl_109 l) ck_RX6_116_109 (ct2_cons (vl_116 l) ck_RX6_116_116 (ct2_cons (vl_122 l) ck_RX6_116_122 (ct2_cons (vl_128 l) ck_RX6_116_128 (ct2_cons (vl_134 l) ck_RX6_116_134 (ct2_cons (vl_140 l) ck_RX6_116_140 (ct2_cons (vl_146 l) ck_RX6_116_146 (ct2_cons (vl_152 l) ck_RX6_116_152 (ct2_cons (vl_158 l) ck_RX6_116_158 (ct2_cons (vl_164 l) ck_RX6_116_164 (ct2_cons (vl_170 l) ck_RX6_116_170 (ct2_cons (vl_177 l) ck_RX6_116_177 (ct2_cons (vl_183 l) ck_RX6_116_183 (ct2_cons (vl_189 l) ck_RX6_116_189 (ct2_cons (vl_195 l) ck_RX6_116_195 (ct2_cons (vl_201 l) ck_RX6_116_201 (ct2_cons (vl_207 l) ck_RX6_116_207 (ct2_cons (vl_213 l) ck_RX6_116_213 (ct2_cons (vl_219 l) ck_RX6_116_219 (ct2_cons (vl_225 l) ck_RX6_116_225 (ct2_cons (vl_231 l) ck_RX6_116_231 (ct2_cons (vl_238 l) ck_RX6_116_238 (ct2_cons (vl_244 l) ck_RX6_116_244 (ct2_cons (vl_250 l) ck_RX6_116_250 (ct2_cons (vl_256 l) ck_RX6_116_256 (ct2_cons (vl_262 l) ck_RX6_116_262 (ct2_cons (vl_279 l) ck_RX6_141_279 (ct2_cons (vl_280 l) ck_RX6_141_280 (ct2_cons (vl_281 l) ck_RX6_141_281 (ct2_cons (vl_282 l) ck_RX6_141_282 (ct2_cons (vl_283 l) ck_RX6_141_283 (ct2_nil))))))))))))))))))))))))))))))))))))))))
theorem vl_284 (l : Launch) : Vld2 l vwCl gTbl con_284 := conR_ok3 gT_all (hd_284) rfl pn_RX6 tk_X6_readVoter bo_RX6 xo_RX6 (cto_284 l) ch_284 (cut_app (cut_all cc_284_0) (cut_all cc_284_1))
/-- RookHusting$Hundred addVoter -/
noncomputable def ac_72 : AC := .inl (4, jl_n [jl_8 9 7, jl_c 2, vp_4])
noncomputable def hc_42 : List AC := [ac_72, am_7, am_8, am_5]
noncomputable def ac_73 : AC := .inr (1, jl_n [js_m 10 2147483647 2147483647, jl_x (5, (0, (-1), 0)), js_m 20 2147483647 2147483647])
noncomputable def hq_76 : HP := [(true, ac_68), (true, am_7), (true, .inr (1, [(2, (2, 0, 5)), (1, (0, 0, 0)), (4, (2, 0, 5))])), (true, ac_73)]
noncomputable def con_285 : Con2 := ((yX4_addVoter, cX4_addVoter, 3, none), (0, 0), ([(6, 0, 0), (1, 1, 0)], gi_88, hc_42, []), [((9, 0, 0), gi_89, hq_76, [], tg_6)])
theorem hd_285 : con_285.1 = (yX4_addVoter, cX4_addVoter, 3, none) := rfl
noncomputable def cu_285 : List CUT2 := []
theorem ch_285 : staG tb_X4_addVoter 1 bt_RX4 [] ct_6 [] [] cu_285 101 con_285 = true := by decide +kernel
theorem vl_285 (l : Launch) : Vld2 l vwCl gTbl con_285 := conR_ok3 gT_all (hd_285) rfl pn_RX4 tk_X4_addVoter bo_RX4 xo_RX4 (cto_6 l) ch_285 cut_nil
/-- RookHusting$Hundred addWant -/
noncomputable def ac_74 : AC := .inl (4, jl_n [jl_8 9 7, jl_c 3, vp_5])
noncomputable def hc_43 : List AC := [ac_74, .inr (1, [(2, (2, 0, 5)), (1, (0, 0, 0)), (4, (2, 0, 5))]), am_6, am_5]
noncomputable def hq_77 : HP := [(false, ac_74), (true, .inr (1, [(2, (2, 0, 5)), (1, (0, 1, 0)), (4, (2, 0, 5))])), (true, am_6), (true, am_5)]
noncomputable def con_286 : Con2 := ((yX4_addWant, cX4_addWant, 6, none), (0, 0), ([(6, 0, 0), (1, 1, 0)], gi_90, hc_43, []), [((9, 0, 0), gi_91, hq_77, [], [1])])
theorem hd_286 : con_286.1 = (yX4_addWant, cX4_addWant, 6, none) := rfl
noncomputable def cu_286 : List CUT2 := []
theorem ch_286 : staG tb_X4_addWant 1 bt_RX4 [] ct_6 [] [] cu_286 45 con_286 = true := by decide +kernel
theorem vl_286 (l : Launch) : Vld2 l vwCl gTbl con_286 := conR_ok3 gT_all (hd_286) rfl pn_RX4 tk_X4_addWant bo_RX4 xo_RX4 (cto_6 l) ch_286 cut_nil
/-- RookHusting$Hundred addWant -/
noncomputable def hc_44 : List AC := [ac_74, .inr (1, [(2, (2, 0, 5)), (1, (0, 1, 0)), (4, (2, 0, 5))]), am_6, am_5]
noncomputable def hq_78 : HP := [(false, ac_74), (true, .inr (1, [(2, (2, 0, 5)), (1, (0, 2, 0)), (4, (2, 0, 5))])), (true, am_6), (true, am_5)]
noncomputable def con_287 : Con2 := ((yX4_addWant, cX4_addWant, 6, none), (0, 0), ([(6, 0, 0), (1, 1, 0)], gi_90, hc_44, []), [((9, 0, 0), gi_91, hq_78, [], [1])])
theorem hd_287 : con_287.1 = (yX4_addWant, cX4_addWant, 6, none) := rfl
noncomputable def cu_287 : List CUT2 := []
theorem ch_287 : staG tb_X4_addWant 1 bt_RX4 [] ct_6 [] [] cu_287 63 con_287 = true := by decide +kernel
theorem vl_287 (l : Launch) : Vld2 l vwCl gTbl con_287 := conR_ok3 gT_all (hd_287) rfl pn_RX4 tk_X4_addWant bo_RX4 xo_RX4 (cto_6 l) ch_287 cut_nil
/-- RookHusting$Hundred addWant -/
noncomputable def hc_45 : List AC := [ac_74, .inr (1, [(2, (2, 0, 5)), (1, (0, 2, 0)), (4, (2, 0, 5))]), am_6, am_5]
noncomputable def hq_79 : HP := [(false, ac_74), (true, .inr (1, [(2, (2, 0, 5)), (1, (0, 3, 0)), (4, (2, 0, 5))])), (true, am_6), (true, am_5)]
noncomputable def con_288 : Con2 := ((yX4_addWant, cX4_addWant, 6, none), (0, 0), ([(6, 0, 0), (1, 1, 0)], gi_90, hc_45, []), [((9, 0, 0), gi_91, hq_79, [], [1])])
theorem hd_288 : con_288.1 = (yX4_addWant, cX4_addWant, 6, none) := rfl
noncomputable def cu_288 : List CUT2 := []
theorem ch_288 : staG tb_X4_addWant 1 bt_RX4 [] ct_6 [] [] cu_288 81 con_288 = true := by decide +kernel
theorem vl_288 (l : Launch) : Vld2 l vwCl gTbl con_288 := conR_ok3 gT_all (hd_288) rfl pn_RX4 tk_X4_addWant bo_RX4 xo_RX4 (cto_6 l) ch_288 cut_nil
/-- RookHusting$Hundred addWant -/
noncomputable def hc_46 : List AC := [ac_74, .inr (1, [(2, (2, 0, 5)), (1, (0, 3, 0)), (4, (2, 0, 5))]), am_6, am_5]
noncomputable def hq_80 : HP := [(false, ac_74), (true, .inr (1, [(2, (2, 0, 5)), (1, (0, 4, 0)), (4, (2, 0, 5))])), (true, am_6), (true, am_5)]
noncomputable def con_289 : Con2 := ((yX4_addWant, cX4_addWant, 6, none), (0, 0), ([(6, 0, 0), (1, 1, 0)], gi_90, hc_46, []), [((9, 0, 0), gi_91, hq_80, [], [1])])
theorem hd_289 : con_289.1 = (yX4_addWant, cX4_addWant, 6, none) := rfl
noncomputable def cu_289 : List CUT2 := []
theorem ch_289 : staG tb_X4_addWant 1 bt_RX4 [] ct_6 [] [] cu_289 99 con_289 = true := by decide +kernel
theorem vl_289 (l : Launch) : Vld2 l vwCl gTbl con_289 := conR_ok3 gT_all (hd_289) rfl pn_RX4 tk_X4_addWant bo_RX4 xo_RX4 (cto_6 l) ch_289 cut_nil
/-- RookHusting$Hundred addWant -/
noncomputable def hc_47 : List AC := [ac_74, .inr (1, [(2, (2, 0, 5)), (1, (0, 4, 0)), (4, (2, 0, 5))]), am_6, am_5]
noncomputable def hq_81 : HP := [(false, ac_74), (true, .inr (1, [(2, (2, 0, 5)), (1, (0, 5, 0)), (4, (2, 0, 5))])), (true, am_6), (true, am_5)]
noncomputable def con_290 : Con2 := ((yX4_addWant, cX4_addWant, 6, none), (0, 0), ([(6, 0, 0), (1, 1, 0)], gi_90, hc_47, []), [((9, 0, 0), gi_91, hq_81, [], [1])])
theorem hd_290 : con_290.1 = (yX4_addWant, cX4_addWant, 6, none) := rfl
noncomputable def cu_290 : List CUT2 := []
theorem ch_290 : staG tb_X4_addWant 1 bt_RX4 [] ct_6 [] [] cu_290 117 con_290 = true := by decide +kernel
theorem vl_290 (l : Launch) : Vld2 l vwCl gTbl con_290 := conR_ok3 gT_all (hd_290) rfl pn_RX4 tk_X4_addWant bo_RX4 xo_RX4 (cto_6 l) ch_290 cut_nil
/-- RookHusting$Reader readVoter -/
noncomputable def ac_75 : AC := .inl (4, jl_n [vp_2, jl_c 2, vp_3])
noncomputable def hc_48 : List AC := [.inl (6, [(6, 1, 0), (1, 2, 0), (1, 3, 0), (6, 2, 0)]), ac_75, ac_21, am_2, am_7, am_8, am_5, am_6]
noncomputable def gi_129 : GI := jl_n [gp_59, jl_i 2 3, gp_60]
noncomputable def con_291 : Con2 := ((yX6_readVoter, cX6_readVoter, 5, none), (11, 266), ([(6, 0, 0)], gi_85, hc_48, []), [((9, 0, 0), gi_129, hq_32, [], tg_3)])
theorem hd_291 : con_291.1 = (yX6_readVoter, cX6_readVoter, 5, none) := rfl
theorem ck_RX6_141_290 : COK2 RX6 vwCl gTbl 141 0 con_290 := ⟨wd_729, wd_128, mh_X4_addWant, .inr (.inr ⟨rfl, wd_726, wd_727, wd_728, ⟨_, rfl, pd_X4_addWant⟩, 4, _, TX4, 17, rfl, rfl⟩)⟩
theorem ck_RX6_141_289 : COK2 RX6 vwCl gTbl 141 0 con_289 := ⟨wd_729, wd_128, mh_X4_addWant, .inr (.inr ⟨rfl, wd_726, wd_727, wd_728, ⟨_, rfl, pd_X4_addWant⟩, 4, _, TX4, 17, rfl, rfl⟩)⟩
theorem ck_RX6_141_288 : COK2 RX6 vwCl gTbl 141 0 con_288 := ⟨wd_729, wd_128, mh_X4_addWant, .inr (.inr ⟨rfl, wd_726, wd_727, wd_728, ⟨_, rfl, pd_X4_addWant⟩, 4, _, TX4, 17, rfl, rfl⟩)⟩
theorem ck_RX6_141_287 : COK2 RX6 vwCl gTbl 141 0 con_287 := ⟨wd_729, wd_128, mh_X4_addWant, .inr (.inr ⟨rfl, wd_726, wd_727, wd_728, ⟨_, rfl, pd_X4_addWant⟩, 4, _, TX4, 17, rfl, rfl⟩)⟩
theorem ck_RX6_141_286 : COK2 RX6 vwCl gTbl 141 0 con_286 := ⟨wd_729, wd_128, mh_X4_addWant, .inr (.inr ⟨rfl, wd_726, wd_727, wd_728, ⟨_, rfl, pd_X4_addWant⟩, 4, _, TX4, 17, rfl, rfl⟩)⟩
theorem ck_RX6_138_285 : COK2 RX6 vwCl gTbl 138 0 con_285 := ⟨wd_725, wd_128, mh_X4_addVoter, .inr (.inr ⟨rfl, wd_722, wd_723, wd_724, ⟨_, rfl, pd_X4_addVoter⟩, 4, _, TX4, 17, rfl, rfl⟩)⟩
noncomputable def ct_291 : CTB2 := [(22, 102, 0, con_10, [2, 3]), (31, 85, 0, con_75, [0, 2, 3]), (47, 138, 0, con_285, [1, 4, 5, 6]), (89, 116, 0, con_45, [0, 2, 3]), (89, 116, 0, con_83, [0, 2, 3]), (89, 116, 0, con_90, [0, 2, 3]), (89, 116, 0, con_96, [0, 2, 3]), (89, 116, 0, con_102, [0, 2, 3]), (89, 116, 0, con_103, [0, 2, 3]), (89, 116, 0, con_109, [0, 2, 3]), (89, 116, 0, con_116, [0, 2, 3]), (89, 116, 0, con_122, [0, 2, 3]), (89, 116, 0, con_128, [0, 2, 3]), (89, 116, 0, con_134, [0, 2, 3]), (89, 116, 0, con_140, [0, 2, 3]), (89, 116, 0, con_146, [0, 2, 3]), (89, 116, 0, con_152, [0, 2, 3]), (89, 116, 0, con_158, [0, 2, 3]), (89, 116, 0, con_164, [0, 2, 3]), (89, 116, 0, con_170, [0, 2, 3]), (89, 116, 0, con_177, [0, 2, 3]), (89, 116, 0, con_183, [0, 2, 3]), (89, 116, 0, con_189, [0, 2, 3]), (89, 116, 0, con_195, [0, 2, 3]), (89, 116, 0, con_201, [0, 2, 3]), (89, 116, 0, con_207, [0, 2, 3]), (89, 116, 0, con_213, [0, 2, 3]), (89, 116, 0, con_219, [0, 2, 3]), (89, 116, 0, con_225, [0, 2, 3]), (89, 116, 0, con_231, [0, 2, 3]), (89, 116, 0, con_238, [0, 2, 3]), (89, 116, 0, con_244, [0, 2, 3]), (89, 116, 0, con_250, [0, 2, 3]), (89, 116, 0, con_256, [0, 2, 3]), (89, 116, 0, con_262, [0, 2, 3]), (107, 141, 0, con_286, [1, 5, 7, 6]), (107, 141, 0, con_287, [1, 5, 7, 6]), (107, 141, 0, con_288, [1, 5, 7, 6]), (107, 141, 0, con_289, [1, 5, 7, 6]), (107, 141, 0, con_290, [1, 5, 7, 6])]
noncomputable def hq_82 : HP := [(true, .inl (6, [(6, 1, 0), (0, 0, 0), (1, 34, 0), (6, 2, 0)])), (true, ac_71), (true, ac_57), (false, am_2), (true, am_7), (true, .inr (1, [(2, (2, 0, 5)), (1, (0, 0, 0)), (4, (2, 0, 5))])), (true, ac_73), (false, am_6)]
noncomputable def gi_130 : GI := jl_n [gp_64, jl_i 2 3, gp_60]
noncomputable def hq_83 : HP := [(true, .inl (6, [(6, 1, 0), (0, 0, 0), (1, 35, 0), (6, 2, 0)])), (true, ac_71), (true, ac_59), (false, am_2), (true, am_7), (true, .inr (1, [(2, (2, 0, 5)), (1, (0, 1, 0)), (4, (2, 0, 5))])), (true, am_5), (true, am_6)]
noncomputable def hq_84 : HP := [(true, .inl (6, [(6, 1, 0), (0, 0, 0), (1, 35, 0), (6, 2, 0)])), (true, ac_71), (true, ac_59), (false, am_2), (true, am_7), (true, .inr (1, [(2, (2, 0, 5)), (1, (0, 2, 0)), (4, (2, 0, 5))])), (true, am_5), (true, am_6)]
noncomputable def hq_85 : HP := [(true, .inl (6, [(6, 1, 0), (0, 0, 0), (1, 35, 0), (6, 2, 0)])), (true, ac_71), (true, ac_59), (false, am_2), (true, am_7), (true, .inr (1, [(2, (2, 0, 5)), (1, (0, 3, 0)), (4, (2, 0, 5))])), (true, am_5), (true, am_6)]
noncomputable def hq_86 : HP := [(true, .inl (6, [(6, 1, 0), (0, 0, 0), (1, 35, 0), (6, 2, 0)])), (true, ac_71), (true, ac_59), (false, am_2), (true, am_7), (true, .inr (1, [(2, (2, 0, 5)), (1, (0, 4, 0)), (4, (2, 0, 5))])), (true, am_5), (true, am_6)]
noncomputable def hq_87 : HP := [(true, .inl (6, [(6, 1, 0), (0, 0, 0), (1, 35, 0), (6, 2, 0)])), (true, ac_71), (true, ac_59), (false, am_2), (true, am_7), (true, .inr (1, [(2, (2, 0, 5)), (1, (0, 5, 0)), (4, (2, 0, 5))])), (true, am_5), (true, am_6)]
noncomputable def cu_291_0 : List CUT2 := [((54, [lq 0 6 0, lq 1 1 29, lq 2 0 0, lq 3 0 0], [], gi_96, hq_82), [], ([], 6)), ((54, [lq 0 6 0, lq 1 1 29, lq 2 1 30, lq 3 1 31], [], gi_130, hq_34), [], ([(31, (-1))], 6)), ((54, [lq 0 6 0, lq 1 1 29, lq 2 0 16, lq 3 0 1, lq 4 0 4], [], gi_98, hq_83), [], ([], 5)), ((54, [lq 0 6 0, lq 1 1 29, lq 2 0 8, lq 3 0 1, lq 4 0 3], [], gi_98, hq_83), [], ([], 5)), ((54, [lq 0 6 0, lq 1 1 29, lq 2 0 4, lq 3 0 1, lq 4 0 2], [], gi_98, hq_83), [], ([], 5)), ((54, [lq 0 6 0, lq 1 1 29, lq 2 0 2, lq 3 0 1, lq 4 0 1], [], gi_98, hq_83), [], ([], 5)), ((54, [lq 0 6 0, lq 1 1 29, lq 2 0 1, lq 3 0 1, lq 4 0 0], [], gi_98, hq_83), [], ([], 5)), ((54, [lq 0 6 0, lq 1 1 29, lq 2 0 24, lq 3 0 2, lq 4 1 32], [], gi_99, hq_84), [], ([], 4)), ((54, [lq 0 6 0, lq 1 1 29, lq 2 0 20, lq 3 0 2, lq 4 1 32], [], gi_100, hq_84), [], ([], 4)), ((54, [lq 0 6 0, lq 1 1 29, lq 2 0 18, lq 3 0 2, lq 4 1 32], [], gi_101, hq_84), [], ([], 4)), ((54, [lq 0 6 0, lq 1 1 29, lq 2 0 17, lq 3 0 2, lq 4 1 32], [], gi_102, hq_84), [], ([], 4)), ((54, [lq 0 6 0, lq 1 1 29, lq 2 0 12, lq 3 0 2, lq 4 1 32], [], gi_103, hq_84), [], ([], 4)), ((54, [lq 0 6 0, lq 1 1 29, lq 2 0 10, lq 3 0 2, lq 4 1 32], [], gi_104, hq_84), [], ([], 4)), ((54, [lq 0 6 0, lq 1 1 29, lq 2 0 9, lq 3 0 2, lq 4 1 32], [], gi_105, hq_84), [], ([], 4)), ((54, [lq 0 6 0, lq 1 1 29, lq 2 0 6, lq 3 0 2, lq 4 1 32], [], gi_106, hq_84), [], ([], 4)), ((54, [lq 0 6 0, lq 1 1 29, lq 2 0 5, lq 3 0 2, lq 4 1 32], [], gi_107, hq_84), [], ([], 4))]
noncomputable def cu_291_1 : List CUT2 := [((54, [lq 0 6 0, lq 1 1 29, lq 2 0 3, lq 3 0 2, lq 4 1 32], [], gi_108, hq_84), [], ([], 4)), ((54, [lq 0 6 0, lq 1 1 29, lq 2 0 28, lq 3 0 3, lq 4 1 32], [], gi_100, hq_85), [], ([], 3)), ((54, [lq 0 6 0, lq 1 1 29, lq 2 0 26, lq 3 0 3, lq 4 1 32], [], gi_101, hq_85), [], ([], 3)), ((54, [lq 0 6 0, lq 1 1 29, lq 2 0 25, lq 3 0 3, lq 4 1 32], [], gi_102, hq_85), [], ([], 3)), ((54, [lq 0 6 0, lq 1 1 29, lq 2 0 22, lq 3 0 3, lq 4 1 32], [], gi_101, hq_85), [], ([], 3)), ((54, [lq 0 6 0, lq 1 1 29, lq 2 0 21, lq 3 0 3, lq 4 1 32], [], gi_102, hq_85), [], ([], 3)), ((54, [lq 0 6 0, lq 1 1 29, lq 2 0 19, lq 3 0 3, lq 4 1 32], [], gi_102, hq_85), [], ([], 3)), ((54, [lq 0 6 0, lq 1 1 29, lq 2 0 14, lq 3 0 3, lq 4 1 32], [], gi_104, hq_85), [], ([], 3)), ((54, [lq 0 6 0, lq 1 1 29, lq 2 0 13, lq 3 0 3, lq 4 1 32], [], gi_105, hq_85), [], ([], 3)), ((54, [lq 0 6 0, lq 1 1 29, lq 2 0 11, lq 3 0 3, lq 4 1 32], [], gi_105, hq_85), [], ([], 3)), ((54, [lq 0 6 0, lq 1 1 29, lq 2 0 7, lq 3 0 3, lq 4 1 32], [], gi_107, hq_85), [], ([], 3)), ((54, [lq 0 6 0, lq 1 1 29, lq 2 0 30, lq 3 0 4, lq 4 1 32], [], gi_101, hq_86), [], ([], 2)), ((54, [lq 0 6 0, lq 1 1 29, lq 2 0 29, lq 3 0 4, lq 4 1 32], [], gi_102, hq_86), [], ([], 2)), ((54, [lq 0 6 0, lq 1 1 29, lq 2 0 27, lq 3 0 4, lq 4 1 32], [], gi_102, hq_86), [], ([], 2)), ((54, [lq 0 6 0, lq 1 1 29, lq 2 0 23, lq 3 0 4, lq 4 1 32], [], gi_102, hq_86), [], ([], 2)), ((54, [lq 0 6 0, lq 1 1 29, lq 2 0 15, lq 3 0 4, lq 4 1 32], [], gi_105, hq_86), [], ([], 2)), ((54, [lq 0 6 0, lq 1 1 29, lq 2 0 31, lq 3 0 5, lq 4 1 32], [], gi_102, hq_87), [], ([], 1))]
noncomputable def cu_291 : List CUT2 := cu_291_0 ++ (cu_291_1)
theorem ch_291 : staG tb_X6_readVoter 1 bt_RX6 [] ct_291 [(110, [(1, (1, 4, 0), 0, 0)])] [] cu_291 39 con_291 = true := by decide +kernel
theorem cc_291_0 : cu_291_0.all (cutG tb_X6_readVoter 1 bt_RX6 [] ct_291 [(110, [(1, (1, 4, 0), 0, 0)])] [] cu_291 39 con_291) = true := by decide +kernel
theorem cc_291_1 : cu_291_1.all (cutG tb_X6_readVoter 1 bt_RX6 [] ct_291 [(110, [(1, (1, 4, 0), 0, 0)])] [] cu_291 39 con_291) = true := by decide +kernel
theorem cto_291 (l : Launch) : CTOK2 l RX6 vwCl gTbl ct_291 := ct2_cons (vl_10 l) ck_RX6_102_10 (ct2_cons (vl_75 l) ck_RX6_85_75 (ct2_cons (vl_285 l) ck_RX6_138_285 (ct2_cons (vl_45 l) ck_RX6_116_45 (ct2_cons (vl_83 l) ck_RX6_116_83 (ct2_cons (vl_90 l) ck_RX6_116_90 (ct2_cons (vl_96 l) ck_RX6_116_96 (ct2_cons (vl_102 l) ck_RX6_116_102 (ct2_cons (vl_103 l) ck_RX6_116_103 (ct2_cons (vl_109 l) ck_RX6_116_109 (ct2_cons (vl_116 l) ck_RX6_116_116 (ct2_cons (vl_122 l) ck_RX6_116_122 (ct2_cons (vl_128 l) ck_RX6_116_128 (ct2_cons (vl_134 l) ck_RX6_116_134 (ct2_cons (vl_140 l) ck_RX6_116_140 (ct2_cons (vl_146 l) ck_RX6_116_146 (ct2_cons (vl_152 l) ck_RX6_116_152 (ct2_cons (vl_158 l) ck_RX6_116_158 (ct2_cons (vl_164 l) ck_RX6_116_164 (ct2_cons (vl_170 l) ck_RX6_116_170 (ct2_cons (vl_177 l) ck_RX6_116_177 (ct2_cons (vl_183 l) ck_RX6_116_183 (ct2_cons (vl_189 l) ck_RX6_116_189 (ct2_cons (vl_195 l) ck_RX6_116_195 (ct2_cons (vl_201 l) ck_RX6_116_201 (ct2_cons (vl_207 l) ck_RX6_116_207 (ct2_cons (vl_213 l) ck_RX6_116_213 (ct2_cons (vl_219 l) ck_RX6_116_219 (ct2_cons (vl_225 l) ck_RX6_116_225 (ct2_cons (vl_231 l) ck_RX6_116_231 (ct2_cons (vl_238 l) ck_RX6_116_238 (ct2_cons (vl_244 l) ck_RX6_116_244 (ct2_cons (vl_250 l) ck_RX6_116_250 (ct2_cons (vl_256 l) ck_RX6_116_256 (ct2_cons (vl_262 l) ck_RX6_116_262 (ct2_cons (vl_286 l) ck_RX6_141_286 (ct2_cons (vl_287 l) ck_RX6_141_287 (ct2_cons (vl_288 l) ck_RX6_141_288 (ct2_cons (vl_289 l) ck_RX6_141_289 (ct2_cons (vl_290 l) ck_RX6_141_290 (ct2_nil))))))))))))))))))))))))))))))))))))))))
theorem vl_291 (l : Launch) : Vld2 l vwCl gTbl con_291 := conR_ok3 gT_all (hd_291) rfl pn_RX6 tk_X6_readVoter bo_RX6 xo_RX6 (cto_291 l) ch_291 (cut_app (cut_all cc_291_0) (cut_all cc_291_1))
/-- RookHusting$Hundred addVoter -/
noncomputable def ac_76 : AC := .inl (4, jl_n [jl_8 9 7, jl_c 1, vp_4])
noncomputable def hc_49 : List AC := [ac_76, am_7, am_8, am_5]
noncomputable def ac_77 : AC := .inr (1, jl_n [js_m 5 2147483647 2147483647, jl_x (5, (0, (-1), 0)), js_m 25 2147483647 2147483647])
noncomputable def hq_88 : HP := [(true, ac_72), (true, am_7), (true, .inr (1, [(1, (2, 0, 5)), (1, (0, 0, 0)), (5, (2, 0, 5))])), (true, ac_77)]
noncomputable def con_292 : Con2 := ((yX4_addVoter, cX4_addVoter, 3, none), (0, 0), ([(6, 0, 0), (1, 1, 0)], gi_88, hc_49, []), [((9, 0, 0), gi_109, hq_88, [], tg_7)])
theorem hd_292 : con_292.1 = (yX4_addVoter, cX4_addVoter, 3, none) := rfl
noncomputable def cu_292 : List CUT2 := []
theorem ch_292 : staG tb_X4_addVoter 1 bt_RX4 [] ct_6 [] [] cu_292 101 con_292 = true := by decide +kernel
theorem vl_292 (l : Launch) : Vld2 l vwCl gTbl con_292 := conR_ok3 gT_all (hd_292) rfl pn_RX4 tk_X4_addVoter bo_RX4 xo_RX4 (cto_6 l) ch_292 cut_nil
/-- RookHusting$Hundred addWant -/
noncomputable def ac_78 : AC := .inl (4, jl_n [jl_8 9 7, jl_c 2, vp_5])
noncomputable def hc_50 : List AC := [ac_78, .inr (1, [(1, (2, 0, 5)), (1, (0, 0, 0)), (5, (2, 0, 5))]), am_6, am_5]
noncomputable def hq_89 : HP := [(false, ac_78), (true, .inr (1, [(1, (2, 0, 5)), (1, (0, 1, 0)), (5, (2, 0, 5))])), (true, am_6), (true, am_5)]
noncomputable def con_293 : Con2 := ((yX4_addWant, cX4_addWant, 6, none), (0, 0), ([(6, 0, 0), (1, 1, 0)], gi_91, hc_50, []), [((9, 0, 0), gi_110, hq_89, [], [1, 1])])
theorem hd_293 : con_293.1 = (yX4_addWant, cX4_addWant, 6, none) := rfl
noncomputable def cu_293 : List CUT2 := []
theorem ch_293 : staG tb_X4_addWant 1 bt_RX4 [] ct_6 [] [] cu_293 45 con_293 = true := by decide +kernel
theorem vl_293 (l : Launch) : Vld2 l vwCl gTbl con_293 := conR_ok3 gT_all (hd_293) rfl pn_RX4 tk_X4_addWant bo_RX4 xo_RX4 (cto_6 l) ch_293 cut_nil
/-- RookHusting$Hundred addWant -/
noncomputable def hc_51 : List AC := [ac_78, .inr (1, [(1, (2, 0, 5)), (1, (0, 1, 0)), (5, (2, 0, 5))]), am_6, am_5]
noncomputable def hq_90 : HP := [(false, ac_78), (true, .inr (1, [(1, (2, 0, 5)), (1, (0, 2, 0)), (5, (2, 0, 5))])), (true, am_6), (true, am_5)]
noncomputable def con_294 : Con2 := ((yX4_addWant, cX4_addWant, 6, none), (0, 0), ([(6, 0, 0), (1, 1, 0)], gi_91, hc_51, []), [((9, 0, 0), gi_110, hq_90, [], [1, 1])])
theorem hd_294 : con_294.1 = (yX4_addWant, cX4_addWant, 6, none) := rfl
noncomputable def cu_294 : List CUT2 := []
theorem ch_294 : staG tb_X4_addWant 1 bt_RX4 [] ct_6 [] [] cu_294 63 con_294 = true := by decide +kernel
theorem vl_294 (l : Launch) : Vld2 l vwCl gTbl con_294 := conR_ok3 gT_all (hd_294) rfl pn_RX4 tk_X4_addWant bo_RX4 xo_RX4 (cto_6 l) ch_294 cut_nil
/-- RookHusting$Hundred addWant -/
noncomputable def hc_52 : List AC := [ac_78, .inr (1, [(1, (2, 0, 5)), (1, (0, 2, 0)), (5, (2, 0, 5))]), am_6, am_5]
noncomputable def hq_91 : HP := [(false, ac_78), (true, .inr (1, [(1, (2, 0, 5)), (1, (0, 3, 0)), (5, (2, 0, 5))])), (true, am_6), (true, am_5)]
noncomputable def con_295 : Con2 := ((yX4_addWant, cX4_addWant, 6, none), (0, 0), ([(6, 0, 0), (1, 1, 0)], gi_91, hc_52, []), [((9, 0, 0), gi_110, hq_91, [], [1, 1])])
theorem hd_295 : con_295.1 = (yX4_addWant, cX4_addWant, 6, none) := rfl
noncomputable def cu_295 : List CUT2 := []
theorem ch_295 : staG tb_X4_addWant 1 bt_RX4 [] ct_6 [] [] cu_295 81 con_295 = true := by decide +kernel
theorem vl_295 (l : Launch) : Vld2 l vwCl gTbl con_295 := conR_ok3 gT_all (hd_295) rfl pn_RX4 tk_X4_addWant bo_RX4 xo_RX4 (cto_6 l) ch_295 cut_nil
/-- RookHusting$Hundred addWant -/
noncomputable def hc_53 : List AC := [ac_78, .inr (1, [(1, (2, 0, 5)), (1, (0, 3, 0)), (5, (2, 0, 5))]), am_6, am_5]
noncomputable def hq_92 : HP := [(false, ac_78), (true, .inr (1, [(1, (2, 0, 5)), (1, (0, 4, 0)), (5, (2, 0, 5))])), (true, am_6), (true, am_5)]
noncomputable def con_296 : Con2 := ((yX4_addWant, cX4_addWant, 6, none), (0, 0), ([(6, 0, 0), (1, 1, 0)], gi_91, hc_53, []), [((9, 0, 0), gi_110, hq_92, [], [1, 1])])
theorem hd_296 : con_296.1 = (yX4_addWant, cX4_addWant, 6, none) := rfl
noncomputable def cu_296 : List CUT2 := []
theorem ch_296 : staG tb_X4_addWant 1 bt_RX4 [] ct_6 [] [] cu_296 99 con_296 = true := by decide +kernel
theorem vl_296 (l : Launch) : Vld2 l vwCl gTbl con_296 := conR_ok3 gT_all (hd_296) rfl pn_RX4 tk_X4_addWant bo_RX4 xo_RX4 (cto_6 l) ch_296 cut_nil
/-- RookHusting$Hundred addWant -/
noncomputable def hc_54 : List AC := [ac_78, .inr (1, [(1, (2, 0, 5)), (1, (0, 4, 0)), (5, (2, 0, 5))]), am_6, am_5]
noncomputable def hq_93 : HP := [(false, ac_78), (true, .inr (1, [(1, (2, 0, 5)), (1, (0, 5, 0)), (5, (2, 0, 5))])), (true, am_6), (true, am_5)]
noncomputable def con_297 : Con2 := ((yX4_addWant, cX4_addWant, 6, none), (0, 0), ([(6, 0, 0), (1, 1, 0)], gi_91, hc_54, []), [((9, 0, 0), gi_110, hq_93, [], [1, 1])])
theorem hd_297 : con_297.1 = (yX4_addWant, cX4_addWant, 6, none) := rfl
noncomputable def cu_297 : List CUT2 := []
theorem ch_297 : staG tb_X4_addWant 1 bt_RX4 [] ct_6 [] [] cu_297 117 con_297 = true := by decide +kernel
theorem vl_297 (l : Launch) : Vld2 l vwCl gTbl con_297 := conR_ok3 gT_all (hd_297) rfl pn_RX4 tk_X4_addWant bo_RX4 xo_RX4 (cto_6 l) ch_297 cut_nil
/-- RookHusting$Reader readVoter -/
noncomputable def ac_79 : AC := .inl (4, jl_n [vp_2, jl_c 1, vp_3])
noncomputable def hc_55 : List AC := [.inl (6, [(6, 1, 0), (1, 2, 0), (1, 3, 0), (6, 2, 0)]), ac_79, ac_21, am_2, am_7, am_8, am_5, am_6]
noncomputable def gi_131 : GI := jl_n [gp_59, jl_i 1 2, gp_60]
noncomputable def con_298 : Con2 := ((yX6_readVoter, cX6_readVoter, 5, none), (11, 266), ([(6, 0, 0)], gi_85, hc_55, []), [((9, 0, 0), gi_131, hq_32, [], tg_3)])
theorem hd_298 : con_298.1 = (yX6_readVoter, cX6_readVoter, 5, none) := rfl
theorem ck_RX6_141_297 : COK2 RX6 vwCl gTbl 141 0 con_297 := ⟨wd_729, wd_128, mh_X4_addWant, .inr (.inr ⟨rfl, wd_726, wd_727, wd_728, ⟨_, rfl, pd_X4_addWant⟩, 4, _, TX4, 17, rfl, rfl⟩)⟩
theorem ck_RX6_141_296 : COK2 RX6 vwCl gTbl 141 0 con_296 := ⟨wd_729, wd_128, mh_X4_addWant, .inr (.inr ⟨rfl, wd_726, wd_727, wd_728, ⟨_, rfl, pd_X4_addWant⟩, 4, _, TX4, 17, rfl, rfl⟩)⟩
theorem ck_RX6_141_295 : COK2 RX6 vwCl gTbl 141 0 con_295 := ⟨wd_729, wd_128, mh_X4_addWant, .inr (.inr ⟨rfl, wd_726, wd_727, wd_728, ⟨_, rfl, pd_X4_addWant⟩, 4, _, TX4, 17, rfl, rfl⟩)⟩
theorem ck_RX6_141_294 : COK2 RX6 vwCl gTbl 141 0 con_294 := ⟨wd_729, wd_128, mh_X4_addWant, .inr (.inr ⟨rfl, wd_726, wd_727, wd_728, ⟨_, rfl, pd_X4_addWant⟩, 4, _, TX4, 17, rfl, rfl⟩)⟩
theorem ck_RX6_141_293 : COK2 RX6 vwCl gTbl 141 0 con_293 := ⟨wd_729, wd_128, mh_X4_addWant, .inr (.inr ⟨rfl, wd_726, wd_727, wd_728, ⟨_, rfl, pd_X4_addWant⟩, 4, _, TX4, 17, rfl, rfl⟩)⟩
theorem ck_RX6_138_292 : COK2 RX6 vwCl gTbl 138 0 con_292 := ⟨wd_725, wd_128, mh_X4_addVoter, .inr (.inr ⟨rfl, wd_722, wd_723, wd_724, ⟨_, rfl, pd_X4_addVoter⟩, 4, _, TX4, 17, rfl, rfl⟩)⟩
noncomputable def ct_298 : CTB2 := [(22, 102, 0, con_10, [2, 3]), (31, 85, 0, con_75, [0, 2, 3]), (47, 138, 0, con_292, [1, 4, 5, 6]), (89, 116, 0, con_45, [0, 2, 3]), (89, 116, 0, con_83, [0, 2, 3]), (89, 116, 0, con_90, [0, 2, 3]), (89, 116, 0, con_96, [0, 2, 3]), (89, 116, 0, con_102, [0, 2, 3]), (89, 116, 0, con_103, [0, 2, 3]), (89, 116, 0, con_109, [0, 2, 3]), (89, 116, 0, con_116, [0, 2, 3]), (89, 116, 0, con_122, [0, 2, 3]), (89, 116, 0, con_128, [0, 2, 3]), (89, 116, 0, con_134, [0, 2, 3]), (89, 116, 0, con_140, [0, 2, 3]), (89, 116, 0, con_146, [0, 2, 3]), (89, 116, 0, con_152, [0, 2, 3]), (89, 116, 0, con_158, [0, 2, 3]), (89, 116, 0, con_164, [0, 2, 3]), (89, 116, 0, con_170, [0, 2, 3]), (89, 116, 0, con_177, [0, 2, 3]), (89, 116, 0, con_183, [0, 2, 3]), (89, 116, 0, con_189, [0, 2, 3]), (89, 116, 0, con_195, [0, 2, 3]), (89, 116, 0, con_201, [0, 2, 3]), (89, 116, 0, con_207, [0, 2, 3]), (89, 116, 0, con_213, [0, 2, 3]), (89, 116, 0, con_219, [0, 2, 3]), (89, 116, 0, con_225, [0, 2, 3]), (89, 116, 0, con_231, [0, 2, 3]), (89, 116, 0, con_238, [0, 2, 3]), (89, 116, 0, con_244, [0, 2, 3]), (89, 116, 0, con_250, [0, 2, 3]), (89, 116, 0, con_256, [0, 2, 3]), (89, 116, 0, con_262, [0, 2, 3]), (107, 141, 0, con_293, [1, 5, 7, 6]), (107, 141, 0, con_294, [1, 5, 7, 6]), (107, 141, 0, con_295, [1, 5, 7, 6]), (107, 141, 0, con_296, [1, 5, 7, 6]), (107, 141, 0, con_297, [1, 5, 7, 6])]
noncomputable def hq_94 : HP := [(true, .inl (6, [(6, 1, 0), (0, 0, 0), (1, 34, 0), (6, 2, 0)])), (true, ac_75), (true, ac_57), (false, am_2), (true, am_7), (true, .inr (1, [(1, (2, 0, 5)), (1, (0, 0, 0)), (5, (2, 0, 5))])), (true, ac_77), (false, am_6)]
noncomputable def gi_132 : GI := jl_n [gp_64, jl_i 1 2, gp_60]
noncomputable def hq_95 : HP := [(true, .inl (6, [(6, 1, 0), (0, 0, 0), (1, 35, 0), (6, 2, 0)])), (true, ac_75), (true, ac_59), (false, am_2), (true, am_7), (true, .inr (1, [(1, (2, 0, 5)), (1, (0, 1, 0)), (5, (2, 0, 5))])), (true, am_5), (true, am_6)]
noncomputable def hq_96 : HP := [(true, .inl (6, [(6, 1, 0), (0, 0, 0), (1, 35, 0), (6, 2, 0)])), (true, ac_75), (true, ac_59), (false, am_2), (true, am_7), (true, .inr (1, [(1, (2, 0, 5)), (1, (0, 2, 0)), (5, (2, 0, 5))])), (true, am_5), (true, am_6)]
noncomputable def hq_97 : HP := [(true, .inl (6, [(6, 1, 0), (0, 0, 0), (1, 35, 0), (6, 2, 0)])), (true, ac_75), (true, ac_59), (false, am_2), (true, am_7), (true, .inr (1, [(1, (2, 0, 5)), (1, (0, 3, 0)), (5, (2, 0, 5))])), (true, am_5), (true, am_6)]
noncomputable def hq_98 : HP := [(true, .inl (6, [(6, 1, 0), (0, 0, 0), (1, 35, 0), (6, 2, 0)])), (true, ac_75), (true, ac_59), (false, am_2), (true, am_7), (true, .inr (1, [(1, (2, 0, 5)), (1, (0, 4, 0)), (5, (2, 0, 5))])), (true, am_5), (true, am_6)]
noncomputable def hq_99 : HP := [(true, .inl (6, [(6, 1, 0), (0, 0, 0), (1, 35, 0), (6, 2, 0)])), (true, ac_75), (true, ac_59), (false, am_2), (true, am_7), (true, .inr (1, [(1, (2, 0, 5)), (1, (0, 5, 0)), (5, (2, 0, 5))])), (true, am_5), (true, am_6)]
noncomputable def cu_298_0 : List CUT2 := [((54, [lq 0 6 0, lq 1 1 29, lq 2 0 0, lq 3 0 0], [], gi_112, hq_94), [], ([], 6)), ((54, [lq 0 6 0, lq 1 1 29, lq 2 1 30, lq 3 1 31], [], gi_132, hq_34), [], ([(31, (-1))], 6)), ((54, [lq 0 6 0, lq 1 1 29, lq 2 0 16, lq 3 0 1, lq 4 0 4], [], gi_114, hq_95), [], ([], 5)), ((54, [lq 0 6 0, lq 1 1 29, lq 2 0 8, lq 3 0 1, lq 4 0 3], [], gi_114, hq_95), [], ([], 5)), ((54, [lq 0 6 0, lq 1 1 29, lq 2 0 4, lq 3 0 1, lq 4 0 2], [], gi_114, hq_95), [], ([], 5)), ((54, [lq 0 6 0, lq 1 1 29, lq 2 0 2, lq 3 0 1, lq 4 0 1], [], gi_114, hq_95), [], ([], 5)), ((54, [lq 0 6 0, lq 1 1 29, lq 2 0 1, lq 3 0 1, lq 4 0 0], [], gi_114, hq_95), [], ([], 5)), ((54, [lq 0 6 0, lq 1 1 29, lq 2 0 24, lq 3 0 2, lq 4 1 32], [], gi_115, hq_96), [], ([], 4)), ((54, [lq 0 6 0, lq 1 1 29, lq 2 0 20, lq 3 0 2, lq 4 1 32], [], gi_116, hq_96), [], ([], 4)), ((54, [lq 0 6 0, lq 1 1 29, lq 2 0 18, lq 3 0 2, lq 4 1 32], [], gi_117, hq_96), [], ([], 4)), ((54, [lq 0 6 0, lq 1 1 29, lq 2 0 17, lq 3 0 2, lq 4 1 32], [], gi_118, hq_96), [], ([], 4)), ((54, [lq 0 6 0, lq 1 1 29, lq 2 0 12, lq 3 0 2, lq 4 1 32], [], gi_119, hq_96), [], ([], 4)), ((54, [lq 0 6 0, lq 1 1 29, lq 2 0 10, lq 3 0 2, lq 4 1 32], [], gi_120, hq_96), [], ([], 4)), ((54, [lq 0 6 0, lq 1 1 29, lq 2 0 9, lq 3 0 2, lq 4 1 32], [], gi_121, hq_96), [], ([], 4)), ((54, [lq 0 6 0, lq 1 1 29, lq 2 0 6, lq 3 0 2, lq 4 1 32], [], gi_122, hq_96), [], ([], 4)), ((54, [lq 0 6 0, lq 1 1 29, lq 2 0 5, lq 3 0 2, lq 4 1 32], [], gi_123, hq_96), [], ([], 4))]
noncomputable def cu_298_1 : List CUT2 := [((54, [lq 0 6 0, lq 1 1 29, lq 2 0 3, lq 3 0 2, lq 4 1 32], [], gi_124, hq_96), [], ([], 4)), ((54, [lq 0 6 0, lq 1 1 29, lq 2 0 28, lq 3 0 3, lq 4 1 32], [], gi_116, hq_97), [], ([], 3)), ((54, [lq 0 6 0, lq 1 1 29, lq 2 0 26, lq 3 0 3, lq 4 1 32], [], gi_117, hq_97), [], ([], 3)), ((54, [lq 0 6 0, lq 1 1 29, lq 2 0 25, lq 3 0 3, lq 4 1 32], [], gi_118, hq_97), [], ([], 3)), ((54, [lq 0 6 0, lq 1 1 29, lq 2 0 22, lq 3 0 3, lq 4 1 32], [], gi_117, hq_97), [], ([], 3)), ((54, [lq 0 6 0, lq 1 1 29, lq 2 0 21, lq 3 0 3, lq 4 1 32], [], gi_118, hq_97), [], ([], 3)), ((54, [lq 0 6 0, lq 1 1 29, lq 2 0 19, lq 3 0 3, lq 4 1 32], [], gi_118, hq_97), [], ([], 3)), ((54, [lq 0 6 0, lq 1 1 29, lq 2 0 14, lq 3 0 3, lq 4 1 32], [], gi_120, hq_97), [], ([], 3)), ((54, [lq 0 6 0, lq 1 1 29, lq 2 0 13, lq 3 0 3, lq 4 1 32], [], gi_121, hq_97), [], ([], 3)), ((54, [lq 0 6 0, lq 1 1 29, lq 2 0 11, lq 3 0 3, lq 4 1 32], [], gi_121, hq_97), [], ([], 3)), ((54, [lq 0 6 0, lq 1 1 29, lq 2 0 7, lq 3 0 3, lq 4 1 32], [], gi_123, hq_97), [], ([], 3)), ((54, [lq 0 6 0, lq 1 1 29, lq 2 0 30, lq 3 0 4, lq 4 1 32], [], gi_117, hq_98), [], ([], 2)), ((54, [lq 0 6 0, lq 1 1 29, lq 2 0 29, lq 3 0 4, lq 4 1 32], [], gi_118, hq_98), [], ([], 2)), ((54, [lq 0 6 0, lq 1 1 29, lq 2 0 27, lq 3 0 4, lq 4 1 32], [], gi_118, hq_98), [], ([], 2)), ((54, [lq 0 6 0, lq 1 1 29, lq 2 0 23, lq 3 0 4, lq 4 1 32], [], gi_118, hq_98), [], ([], 2)), ((54, [lq 0 6 0, lq 1 1 29, lq 2 0 15, lq 3 0 4, lq 4 1 32], [], gi_121, hq_98), [], ([], 2)), ((54, [lq 0 6 0, lq 1 1 29, lq 2 0 31, lq 3 0 5, lq 4 1 32], [], gi_118, hq_99), [], ([], 1))]
noncomputable def cu_298 : List CUT2 := cu_298_0 ++ (cu_298_1)
theorem ch_298 : staG tb_X6_readVoter 1 bt_RX6 [] ct_298 [(110, [(1, (1, 4, 0), 0, 0)])] [] cu_298 39 con_298 = true := by decide +kernel
theorem cc_298_0 : cu_298_0.all (cutG tb_X6_readVoter 1 bt_RX6 [] ct_298 [(110, [(1, (1, 4, 0), 0, 0)])] [] cu_298 39 con_298) = true := by decide +kernel
theorem cc_298_1 : cu_298_1.all (cutG tb_X6_readVoter 1 bt_RX6 [] ct_298 [(110, [(1, (1, 4, 0), 0, 0)])] [] cu_298 39 con_298) = true := by decide +kernel
theorem cto_298 (l : Launch) : CTOK2 l RX6 vwCl gTbl ct_298 := ct2_cons (vl_10 l) ck_RX6_102_10 (ct2_cons (vl_75 l) ck_RX6_85_75 (ct2_cons (vl_292 l) ck_RX6_138_292 (ct2_cons (vl_45 l) ck_RX6_116_45 (ct2_cons (vl_83 l) ck_RX6_116_83 (ct2_cons (vl_90 l) ck_RX6_116_90 (ct2_cons (vl_96 l) ck_RX6_116_96 (ct2_cons (vl_102 l) ck_RX6_116_102 (ct2_cons (vl_103 l) ck_RX6_116_103 (ct2_cons (vl_109 l) ck_RX6_116_109 (ct2_cons (vl_116 l) ck_RX6_116_116 (ct2_cons (vl_122 l) ck_RX6_116_122 (ct2_cons (vl_128 l) ck_RX6_116_128 (ct2_cons (vl_134 l) ck_RX6_116_134 (ct2_cons (vl_140 l) ck_RX6_116_140 (ct2_cons (vl_146 l) ck_RX6_116_146 (ct2_cons (vl_152 l) ck_RX6_116_152 (ct2_cons (vl_158 l) ck_RX6_116_158 (ct2_cons (vl_164 l) ck_RX6_116_164 (ct2_cons (vl_170 l) ck_RX6_116_170 (ct2_cons (vl_177 l) ck_RX6_116_177 (ct2_cons (vl_183 l) ck_RX6_116_183 (ct2_cons (vl_189 l) ck_RX6_116_189 (ct2_cons (vl_195 l) ck_RX6_116_195 (ct2_cons (vl_201 l) ck_RX6_116_201 (ct2_cons (vl_207 l) ck_RX6_116_207 (ct2_cons (vl_213 l) ck_RX6_116_213 (ct2_cons (vl_219 l) ck_RX6_116_219 (ct2_cons (vl_225 l) ck_RX6_116_225 (ct2_cons (vl_231 l) ck_RX6_116_231 (ct2_cons (vl_238 l) ck_RX6_116_238 (ct2_cons (vl_244 l) ck_RX6_116_244 (ct2_cons (vl_250 l) ck_RX6_116_250 (ct2_cons (vl_256 l) ck_RX6_116_256 (ct2_cons (vl_262 l) ck_RX6_116_262 (ct2_cons (vl_293 l) ck_RX6_141_293 (ct2_cons (vl_294 l) ck_RX6_141_294 (ct2_cons (vl_295 l) ck_RX6_141_295 (ct2_cons (vl_296 l) ck_RX6_141_296 (ct2_cons (vl_297 l) ck_RX6_141_297 (ct2_nil))))))))))))))))))))))))))))))))))))))))
theorem vl_298 (l : Launch) : Vld2 l vwCl gTbl con_298 := conR_ok3 gT_all (hd_298) rfl pn_RX6 tk_X6_readVoter bo_RX6 xo_RX6 (cto_298 l) ch_298 (cut_app (cut_all cc_298_0) (cut_all cc_298_1))
/-- RookHusting$Hundred addVoter -/
noncomputable def ac_80 : AC := .inl (4, jl_n [jl_8 9 7, jl_c 0, vp_4])
noncomputable def hc_56 : List AC := [ac_80, am_7, am_8, am_5]
noncomputable def ac_81 : AC := .inr (1, jl_n [jl_x (5, (0, (-1), 0)), js_m 30 2147483647 2147483647])
noncomputable def hq_100 : HP := [(true, ac_76), (true, am_7), (true, .inr (1, [(1, (0, 0, 0)), (6, (2, 0, 5))])), (true, ac_81)]
noncomputable def con_299 : Con2 := ((yX4_addVoter, cX4_addVoter, 3, none), (0, 0), ([(6, 0, 0), (1, 1, 0)], gi_88, hc_56, []), [((9, 0, 0), gi_89, hq_100, [], tg_6)])
theorem hd_299 : con_299.1 = (yX4_addVoter, cX4_addVoter, 3, none) := rfl
noncomputable def cu_299 : List CUT2 := []
theorem ch_299 : staG tb_X4_addVoter 1 bt_RX4 [] ct_6 [] [] cu_299 101 con_299 = true := by decide +kernel
theorem vl_299 (l : Launch) : Vld2 l vwCl gTbl con_299 := conR_ok3 gT_all (hd_299) rfl pn_RX4 tk_X4_addVoter bo_RX4 xo_RX4 (cto_6 l) ch_299 cut_nil
/-- RookHusting$Hundred addWant -/
noncomputable def ac_82 : AC := .inl (4, jl_n [jl_8 9 7, jl_c 1, vp_5])
noncomputable def hc_57 : List AC := [ac_82, .inr (1, [(1, (0, 0, 0)), (6, (2, 0, 5))]), am_6, am_5]
noncomputable def hq_101 : HP := [(false, ac_82), (true, .inr (1, [(1, (0, 1, 0)), (6, (2, 0, 5))])), (true, am_6), (true, am_5)]
noncomputable def con_300 : Con2 := ((yX4_addWant, cX4_addWant, 6, none), (0, 0), ([(6, 0, 0), (1, 1, 0)], gi_90, hc_57, []), [((9, 0, 0), gi_91, hq_101, [], [1])])
theorem hd_300 : con_300.1 = (yX4_addWant, cX4_addWant, 6, none) := rfl
noncomputable def cu_300 : List CUT2 := []
theorem ch_300 : staG tb_X4_addWant 1 bt_RX4 [] ct_6 [] [] cu_300 45 con_300 = true := by decide +kernel
theorem vl_300 (l : Launch) : Vld2 l vwCl gTbl con_300 := conR_ok3 gT_all (hd_300) rfl pn_RX4 tk_X4_addWant bo_RX4 xo_RX4 (cto_6 l) ch_300 cut_nil
/-- RookHusting$Hundred addWant -/
noncomputable def hc_58 : List AC := [ac_82, .inr (1, [(1, (0, 1, 0)), (6, (2, 0, 5))]), am_6, am_5]
noncomputable def hq_102 : HP := [(false, ac_82), (true, .inr (1, [(1, (0, 2, 0)), (6, (2, 0, 5))])), (true, am_6), (true, am_5)]
noncomputable def con_301 : Con2 := ((yX4_addWant, cX4_addWant, 6, none), (0, 0), ([(6, 0, 0), (1, 1, 0)], gi_90, hc_58, []), [((9, 0, 0), gi_91, hq_102, [], [1])])
theorem hd_301 : con_301.1 = (yX4_addWant, cX4_addWant, 6, none) := rfl
noncomputable def cu_301 : List CUT2 := []
theorem ch_301 : staG tb_X4_addWant 1 bt_RX4 [] ct_6 [] [] cu_301 63 con_301 = true := by decide +kernel
theorem vl_301 (l : Launch) : Vld2 l vwCl gTbl con_301 := conR_ok3 gT_all (hd_301) rfl pn_RX4 tk_X4_addWant bo_RX4 xo_RX4 (cto_6 l) ch_301 cut_nil
/-- RookHusting$Hundred addWant -/
noncomputable def hc_59 : List AC := [ac_82, .inr (1, [(1, (0, 2, 0)), (6, (2, 0, 5))]), am_6, am_5]
noncomputable def hq_103 : HP := [(false, ac_82), (true, .inr (1, [(1, (0, 3, 0)), (6, (2, 0, 5))])), (true, am_6), (true, am_5)]
noncomputable def con_302 : Con2 := ((yX4_addWant, cX4_addWant, 6, none), (0, 0), ([(6, 0, 0), (1, 1, 0)], gi_90, hc_59, []), [((9, 0, 0), gi_91, hq_103, [], [1])])
theorem hd_302 : con_302.1 = (yX4_addWant, cX4_addWant, 6, none) := rfl
noncomputable def cu_302 : List CUT2 := []
theorem ch_302 : staG tb_X4_addWant 1 bt_RX4 [] ct_6 [] [] cu_302 81 con_302 = true := by decide +kernel
theorem vl_302 (l : Launch) : Vld2 l vwCl gTbl con_302 := conR_ok3 gT_all (hd_302) rfl pn_RX4 tk_X4_addWant bo_RX4 xo_RX4 (cto_6 l) ch_302 cut_nil
/-- RookHusting$Hundred addWant -/
noncomputable def hc_60 : List AC := [ac_82, .inr (1, [(1, (0, 3, 0)), (6, (2, 0, 5))]), am_6, am_5]
noncomputable def hq_104 : HP := [(false, ac_82), (true, .inr (1, [(1, (0, 4, 0)), (6, (2, 0, 5))])), (true, am_6), (true, am_5)]
noncomputable def con_303 : Con2 := ((yX4_addWant, cX4_addWant, 6, none), (0, 0), ([(6, 0, 0), (1, 1, 0)], gi_90, hc_60, []), [((9, 0, 0), gi_91, hq_104, [], [1])])
theorem hd_303 : con_303.1 = (yX4_addWant, cX4_addWant, 6, none) := rfl
noncomputable def cu_303 : List CUT2 := []
theorem ch_303 : staG tb_X4_addWant 1 bt_RX4 [] ct_6 [] [] cu_303 99 con_303 = true := by decide +kernel
theorem vl_303 (l : Launch) : Vld2 l vwCl gTbl con_303 := conR_ok3 gT_all (hd_303) rfl pn_RX4 tk_X4_addWant bo_RX4 xo_RX4 (cto_6 l) ch_303 cut_nil
/-- RookHusting$Hundred addWant -/
noncomputable def hc_61 : List AC := [ac_82, .inr (1, [(1, (0, 4, 0)), (6, (2, 0, 5))]), am_6, am_5]
noncomputable def hq_105 : HP := [(false, ac_82), (true, .inr (1, [(1, (0, 5, 0)), (6, (2, 0, 5))])), (true, am_6), (true, am_5)]
noncomputable def con_304 : Con2 := ((yX4_addWant, cX4_addWant, 6, none), (0, 0), ([(6, 0, 0), (1, 1, 0)], gi_90, hc_61, []), [((9, 0, 0), gi_91, hq_105, [], [1])])
theorem hd_304 : con_304.1 = (yX4_addWant, cX4_addWant, 6, none) := rfl
noncomputable def cu_304 : List CUT2 := []
theorem ch_304 : staG tb_X4_addWant 1 bt_RX4 [] ct_6 [] [] cu_304 117 con_304 = true := by decide +kernel
theorem vl_304 (l : Launch) : Vld2 l vwCl gTbl con_304 := conR_ok3 gT_all (hd_304) rfl pn_RX4 tk_X4_addWant bo_RX4 xo_RX4 (cto_6 l) ch_304 cut_nil
/-- RookHusting$Reader readVoter -/
noncomputable def ac_83 : AC := .inl (4, jl_n [vp_2, jl_c 0, vp_3])
noncomputable def hc_62 : List AC := [.inl (6, [(6, 1, 0), (1, 2, 0), (1, 3, 0), (6, 2, 0)]), ac_83, ac_21, am_2, am_7, am_8, am_5, am_6]
noncomputable def gi_133 : GI := jl_n [gp_59, jl_i 0 1, gp_60]
noncomputable def con_305 : Con2 := ((yX6_readVoter, cX6_readVoter, 5, none), (11, 266), ([(6, 0, 0)], gi_85, hc_62, []), [((9, 0, 0), gi_133, hq_32, [], tg_3)])
theorem hd_305 : con_305.1 = (yX6_readVoter, cX6_readVoter, 5, none) := rfl
theorem ck_RX6_141_304 : COK2 RX6 vwCl gTbl 141 0 con_304 := ⟨wd_729, wd_128, mh_X4_addWant, .inr (.inr ⟨rfl, wd_726, wd_727, wd_728, ⟨_, rfl, pd_X4_addWant⟩, 4, _, TX4, 17, rfl, rfl⟩)⟩
theorem ck_RX6_141_303 : COK2 RX6 vwCl gTbl 141 0 con_303 := ⟨wd_729, wd_128, mh_X4_addWant, .inr (.inr ⟨rfl, wd_726, wd_727, wd_728, ⟨_, rfl, pd_X4_addWant⟩, 4, _, TX4, 17, rfl, rfl⟩)⟩
theorem ck_RX6_141_302 : COK2 RX6 vwCl gTbl 141 0 con_302 := ⟨wd_729, wd_128, mh_X4_addWant, .inr (.inr ⟨rfl, wd_726, wd_727, wd_728, ⟨_, rfl, pd_X4_addWant⟩, 4, _, TX4, 17, rfl, rfl⟩)⟩
theorem ck_RX6_141_301 : COK2 RX6 vwCl gTbl 141 0 con_301 := ⟨wd_729, wd_128, mh_X4_addWant, .inr (.inr ⟨rfl, wd_726, wd_727, wd_728, ⟨_, rfl, pd_X4_addWant⟩, 4, _, TX4, 17, rfl, rfl⟩)⟩
theorem ck_RX6_141_300 : COK2 RX6 vwCl gTbl 141 0 con_300 := ⟨wd_729, wd_128, mh_X4_addWant, .inr (.inr ⟨rfl, wd_726, wd_727, wd_728, ⟨_, rfl, pd_X4_addWant⟩, 4, _, TX4, 17, rfl, rfl⟩)⟩
theorem ck_RX6_138_299 : COK2 RX6 vwCl gTbl 138 0 con_299 := ⟨wd_725, wd_128, mh_X4_addVoter, .inr (.inr ⟨rfl, wd_722, wd_723, wd_724, ⟨_, rfl, pd_X4_addVoter⟩, 4, _, TX4, 17, rfl, rfl⟩)⟩
noncomputable def ct_305 : CTB2 := [(22, 102, 0, con_10, [2, 3]), (31, 85, 0, con_75, [0, 2, 3]), (47, 138, 0, con_299, [1, 4, 5, 6]), (89, 116, 0, con_45, [0, 2, 3]), (89, 116, 0, con_83, [0, 2, 3]), (89, 116, 0, con_90, [0, 2, 3]), (89, 116, 0, con_96, [0, 2, 3]), (89, 116, 0, con_102, [0, 2, 3]), (89, 116, 0, con_103, [0, 2, 3]), (89, 116, 0, con_109, [0, 2, 3]), (89, 116, 0, con_116, [0, 2, 3]), (89, 116, 0, con_122, [0, 2, 3]), (89, 116, 0, con_128, [0, 2, 3]), (89, 116, 0, con_134, [0, 2, 3]), (89, 116, 0, con_140, [0, 2, 3]), (89, 116, 0, con_146, [0, 2, 3]), (89, 116, 0, con_152, [0, 2, 3]), (89, 116, 0, con_158, [0, 2, 3]), (89, 116, 0, con_164, [0, 2, 3]), (89, 116, 0, con_170, [0, 2, 3]), (89, 116, 0, con_177, [0, 2, 3]), (89, 116, 0, con_183, [0, 2, 3]), (89, 116, 0, con_189, [0, 2, 3]), (89, 116, 0, con_195, [0, 2, 3]), (89, 116, 0, con_201, [0, 2, 3]), (89, 116, 0, con_207, [0, 2, 3]), (89, 116, 0, con_213, [0, 2, 3]), (89, 116, 0, con_219, [0, 2, 3]), (89, 116, 0, con_225, [0, 2, 3]), (89, 116, 0, con_231, [0, 2, 3]), (89, 116, 0, con_238, [0, 2, 3]), (89, 116, 0, con_244, [0, 2, 3]), (89, 116, 0, con_250, [0, 2, 3]), (89, 116, 0, con_256, [0, 2, 3]), (89, 116, 0, con_262, [0, 2, 3]), (107, 141, 0, con_300, [1, 5, 7, 6]), (107, 141, 0, con_301, [1, 5, 7, 6]), (107, 141, 0, con_302, [1, 5, 7, 6]), (107, 141, 0, con_303, [1, 5, 7, 6]), (107, 141, 0, con_304, [1, 5, 7, 6])]
noncomputable def hq_106 : HP := [(true, .inl (6, [(6, 1, 0), (0, 0, 0), (1, 34, 0), (6, 2, 0)])), (true, ac_79), (true, ac_57), (false, am_2), (true, am_7), (true, .inr (1, [(1, (0, 0, 0)), (6, (2, 0, 5))])), (true, ac_81), (false, am_6)]
noncomputable def gi_134 : GI := jl_n [gp_64, jl_i 0 1, gp_60]
noncomputable def hq_107 : HP := [(true, .inl (6, [(6, 1, 0), (0, 0, 0), (1, 35, 0), (6, 2, 0)])), (true, ac_79), (true, ac_59), (false, am_2), (true, am_7), (true, .inr (1, [(1, (0, 1, 0)), (6, (2, 0, 5))])), (true, am_5), (true, am_6)]
noncomputable def hq_108 : HP := [(true, .inl (6, [(6, 1, 0), (0, 0, 0), (1, 35, 0), (6, 2, 0)])), (true, ac_79), (true, ac_59), (false, am_2), (true, am_7), (true, .inr (1, [(1, (0, 2, 0)), (6, (2, 0, 5))])), (true, am_5), (true, am_6)]
noncomputable def hq_109 : HP := [(true, .inl (6, [(6, 1, 0), (0, 0, 0), (1, 35, 0), (6, 2, 0)])), (true, ac_79), (true, ac_59), (false, am_2), (true, am_7), (true, .inr (1, [(1, (0, 3, 0)), (6, (2, 0, 5))])), (true, am_5), (true, am_6)]
noncomputable def hq_110 : HP := [(true, .inl (6, [(6, 1, 0), (0, 0, 0), (1, 35, 0), (6, 2, 0)])), (true, ac_79), (true, ac_59), (false, am_2), (true, am_7), (true, .inr (1, [(1, (0, 4, 0)), (6, (2, 0, 5))])), (true, am_5), (true, am_6)]
noncomputable def hq_111 : HP := [(true, .inl (6, [(6, 1, 0), (0, 0, 0), (1, 35, 0), (6, 2, 0)])), (true, ac_79), (true, ac_59), (false, am_2), (true, am_7), (true, .inr (1, [(1, (0, 5, 0)), (6, (2, 0, 5))])), (true, am_5), (true, am_6)]
noncomputable def cu_305_0 : List CUT2 := [((54, [lq 0 6 0, lq 1 1 29, lq 2 0 0, lq 3 0 0], [], gi_96, hq_106), [], ([], 6)), ((54, [lq 0 6 0, lq 1 1 29, lq 2 1 30, lq 3 1 31], [], gi_134, hq_34), [], ([(31, (-1))], 6)), ((54, [lq 0 6 0, lq 1 1 29, lq 2 0 16, lq 3 0 1, lq 4 0 4], [], gi_98, hq_107), [], ([], 5)), ((54, [lq 0 6 0, lq 1 1 29, lq 2 0 8, lq 3 0 1, lq 4 0 3], [], gi_98, hq_107), [], ([], 5)), ((54, [lq 0 6 0, lq 1 1 29, lq 2 0 4, lq 3 0 1, lq 4 0 2], [], gi_98, hq_107), [], ([], 5)), ((54, [lq 0 6 0, lq 1 1 29, lq 2 0 2, lq 3 0 1, lq 4 0 1], [], gi_98, hq_107), [], ([], 5)), ((54, [lq 0 6 0, lq 1 1 29, lq 2 0 1, lq 3 0 1, lq 4 0 0], [], gi_98, hq_107), [], ([], 5)), ((54, [lq 0 6 0, lq 1 1 29, lq 2 0 24, lq 3 0 2, lq 4 1 32], [], gi_99, hq_108), [], ([], 4)), ((54, [lq 0 6 0, lq 1 1 29, lq 2 0 20, lq 3 0 2, lq 4 1 32], [], gi_100, hq_108), [], ([], 4)), ((54, [lq 0 6 0, lq 1 1 29, lq 2 0 18, lq 3 0 2, lq 4 1 32], [], gi_101, hq_108), [], ([], 4)), ((54, [lq 0 6 0, lq 1 1 29, lq 2 0 17, lq 3 0 2, lq 4 1 32], [], gi_102, hq_108), [], ([], 4)), ((54, [lq 0 6 0, lq 1 1 29, lq 2 0 12, lq 3 0 2, lq 4 1 32], [], gi_103, hq_108), [], ([], 4)), ((54, [lq 0 6 0, lq 1 1 29, lq 2 0 10, lq 3 0 2, lq 4 1 32], [], gi_104, hq_108), [], ([], 4)), ((54, [lq 0 6 0, lq 1 1 29, lq 2 0 9, lq 3 0 2, lq 4 1 32], [], gi_105, hq_108), [], ([], 4)), ((54, [lq 0 6 0, lq 1 1 29, lq 2 0 6, lq 3 0 2, lq 4 1 32], [], gi_106, hq_108), [], ([], 4)), ((54, [lq 0 6 0, lq 1 1 29, lq 2 0 5, lq 3 0 2, lq 4 1 32], [], gi_107, hq_108), [], ([], 4))]
noncomputable def cu_305_1 : List CUT2 := [((54, [lq 0 6 0, lq 1 1 29, lq 2 0 3, lq 3 0 2, lq 4 1 32], [], gi_108, hq_108), [], ([], 4)), ((54, [lq 0 6 0, lq 1 1 29, lq 2 0 28, lq 3 0 3, lq 4 1 32], [], gi_100, hq_109), [], ([], 3)), ((54, [lq 0 6 0, lq 1 1 29, lq 2 0 26, lq 3 0 3, lq 4 1 32], [], gi_101, hq_109), [], ([], 3)), ((54, [lq 0 6 0, lq 1 1 29, lq 2 0 25, lq 3 0 3, lq 4 1 32], [], gi_102, hq_109), [], ([], 3)), ((54, [lq 0 6 0, lq 1 1 29, lq 2 0 22, lq 3 0 3, lq 4 1 32], [], gi_101, hq_109), [], ([], 3)), ((54, [lq 0 6 0, lq 1 1 29, lq 2 0 21, lq 3 0 3, lq 4 1 32], [], gi_102, hq_109), [], ([], 3)), ((54, [lq 0 6 0, lq 1 1 29, lq 2 0 19, lq 3 0 3, lq 4 1 32], [], gi_102, hq_109), [], ([], 3)), ((54, [lq 0 6 0, lq 1 1 29, lq 2 0 14, lq 3 0 3, lq 4 1 32], [], gi_104, hq_109), [], ([], 3)), ((54, [lq 0 6 0, lq 1 1 29, lq 2 0 13, lq 3 0 3, lq 4 1 32], [], gi_105, hq_109), [], ([], 3)), ((54, [lq 0 6 0, lq 1 1 29, lq 2 0 11, lq 3 0 3, lq 4 1 32], [], gi_105, hq_109), [], ([], 3)), ((54, [lq 0 6 0, lq 1 1 29, lq 2 0 7, lq 3 0 3, lq 4 1 32], [], gi_107, hq_109), [], ([], 3)), ((54, [lq 0 6 0, lq 1 1 29, lq 2 0 30, lq 3 0 4, lq 4 1 32], [], gi_101, hq_110), [], ([], 2)), ((54, [lq 0 6 0, lq 1 1 29, lq 2 0 29, lq 3 0 4, lq 4 1 32], [], gi_102, hq_110), [], ([], 2)), ((54, [lq 0 6 0, lq 1 1 29, lq 2 0 27, lq 3 0 4, lq 4 1 32], [], gi_102, hq_110), [], ([], 2)), ((54, [lq 0 6 0, lq 1 1 29, lq 2 0 23, lq 3 0 4, lq 4 1 32], [], gi_102, hq_110), [], ([], 2)), ((54, [lq 0 6 0, lq 1 1 29, lq 2 0 15, lq 3 0 4, lq 4 1 32], [], gi_105, hq_110), [], ([], 2)), ((54, [lq 0 6 0, lq 1 1 29, lq 2 0 31, lq 3 0 5, lq 4 1 32], [], gi_102, hq_111), [], ([], 1))]
noncomputable def cu_305 : List CUT2 := cu_305_0 ++ (cu_305_1)
theorem ch_305 : staG tb_X6_readVoter 1 bt_RX6 [] ct_305 [(110, [(1, (1, 4, 0), 0, 0)])] [] cu_305 39 con_305 = true := by decide +kernel
theorem cc_305_0 : cu_305_0.all (cutG tb_X6_readVoter 1 bt_RX6 [] ct_305 [(110, [(1, (1, 4, 0), 0, 0)])] [] cu_305 39 con_305) = true := by decide +kernel
theorem cc_305_1 : cu_305_1.all (cutG tb_X6_readVoter 1 bt_RX6 [] ct_305 [(110, [(1, (1, 4, 0), 0, 0)])] [] cu_305 39 con_305) = true := by decide +kernel
theorem cto_305 (l : Launch) : CTOK2 l RX6 vwCl gTbl ct_305 := ct2_cons (vl_10 l) ck_RX6_102_10 (ct2_cons (vl_75 l) ck_RX6_85_75 (ct2_cons (vl_299 l) ck_RX6_138_299 (ct2_cons (vl_45 l) ck_RX6_116_45 (ct2_cons (vl_83 l) ck_RX6_116_83 (ct2_cons (vl_90 l) ck_RX6_116_90 (ct2_cons (vl_96 l) ck_RX6_116_96 (ct2_cons (vl_102 l) ck_RX6_116_102 (ct2_cons (vl_103 l) ck_RX6_116_103 (ct2_cons (vl_109 l) ck_RX6_116_109 (ct2_cons (vl_116 l) ck_RX6_116_116 (ct2_cons (vl_122 l) ck_RX6_116_122 (ct2_cons (vl_128 l) ck_RX6_116_128 (ct2_cons (vl_134 l) ck_RX6_116_134 (ct2_cons (vl_140 l) ck_RX6_116_140 (ct2_cons (vl_146 l) ck_RX6_116_146 (ct2_cons (vl_152 l) ck_RX6_116_152 (ct2_cons (vl_158 l) ck_RX6_116_158 (ct2_cons (vl_164 l) ck_RX6_116_164 (ct2_cons (vl_170 l) ck_RX6_116_170 (ct2_cons (vl_177 l) ck_RX6_116_177 (ct2_cons (vl_183 l) ck_RX6_116_183 (ct2_cons (vl_189 l) ck_RX6_116_189 (ct2_cons (vl_195 l) ck_RX6_116_195 (ct2_cons (vl_201 l) ck_RX6_116_201 (ct2_cons (vl_207 l) ck_RX6_116_207 (ct2_cons (vl_213 l) ck_RX6_116_213 (ct2_cons (vl_219 l) ck_RX6_116_219 (ct2_cons (vl_225 l) ck_RX6_116_225 (ct2_cons (vl_231 l) ck_RX6_116_231 (ct2_cons (vl_238 l) ck_RX6_116_238 (ct2_cons (vl_244 l) ck_RX6_116_244 (ct2_cons (vl_250 l) ck_RX6_116_250 (ct2_cons (vl_256 l) ck_RX6_116_256 (ct2_cons (vl_262 l) ck_RX6_116_262 (ct2_cons (vl_300 l) ck_RX6_141_300 (ct2_cons (vl_301 l) ck_RX6_141_301 (ct2_cons (vl_302 l) ck_RX6_141_302 (ct2_cons (vl_303 l) ck_RX6_141_303 (ct2_cons (vl_304 l) ck_RX6_141_304 (ct2_nil))))))))))))))))))))))))))))))))))))))))
theorem vl_305 (l : Launch) : Vld2 l vwCl gTbl con_305 := conR_ok3 gT_all (hd_305) rfl pn_RX6 tk_X6_readVoter bo_RX6 xo_RX6 (cto_305 l) ch_305 (cut_app (cut_all cc_305_0) (cut_all cc_305_1))
/-- RookHusting$Reader readLine -/
noncomputable def ac_84 : AC := .inl (4, jl_n [jl_1 13 8, jl_6 11 7, jl_6 13 1, jl_6 12 1])
noncomputable def hc_63 : List AC := [.inl (6, [(6, 1, 0), (1, 2, 0), (1, 3, 0), (6, 2, 0)]), ac_84, ac_21, am_2, am_11, am_4, am_1, am_4, am_10, am_7, am_8, am_5, am_6]
noncomputable def gi_135 : GI := jl_n [gp_27, gp_31, gp_17, gp_60]
noncomputable def ac_85 : AC := .inl (4, jl_n [jl_1 40 8, jl_6 11 7, jl_6 13 1, jl_6 12 1])
noncomputable def hq_112 : HP := [(true, .inl (6, [(6, 1, 0), (1, 29, 0), (1, 30, 0), (6, 2, 0)])), (true, ac_85), (true, ac_23), (false, am_2), (true, am_11), (true, am_4), (true, am_1), (true, am_4), (true, am_10), (true, am_7), (true, am_8), (true, am_5), (true, am_6)]
noncomputable def con_306 : Con2 := ((yX6_readLine, cX6_readLine, 1, none), (12, 290), ([(6, 0, 0)], gi_21, hc_63, []), [((9, 0, 0), gi_135, hq_112, [], tg_3)])
theorem hd_306 : con_306.1 = (yX6_readLine, cX6_readLine, 1, none) := rfl
theorem ck_RX6_74_31 : COK2 RX6 vwCl gTbl 74 0 con_31 := ⟨wd_733, wd_127, mh_X6_takeSign, .inr (.inr ⟨rfl, wd_730, wd_732, wd_9, ⟨_, rfl, pd_X6_takeSign⟩, 6, _, TX6, 4, rfl, rfl⟩)⟩
theorem ck_RX6_67_305 : COK2 RX6 vwCl gTbl 67 0 con_305 := ⟨wd_720, wd_127, mh_X6_readVoter, .inr (.inr ⟨rfl, wd_717, wd_719, wd_8, ⟨_, rfl, pd_X6_readVoter⟩, 6, _, TX6, 4, rfl, rfl⟩)⟩
theorem ck_RX6_67_298 : COK2 RX6 vwCl gTbl 67 0 con_298 := ⟨wd_720, wd_127, mh_X6_readVoter, .inr (.inr ⟨rfl, wd_717, wd_719, wd_8, ⟨_, rfl, pd_X6_readVoter⟩, 6, _, TX6, 4, rfl, rfl⟩)⟩
theorem ck_RX6_67_291 : COK2 RX6 vwCl gTbl 67 0 con_291 := ⟨wd_720, wd_127, mh_X6_readVoter, .inr (.inr ⟨rfl, wd_717, wd_719, wd_8, ⟨_, rfl, pd_X6_readVoter⟩, 6, _, TX6, 4, rfl, rfl⟩)⟩
theorem ck_RX6_67_284 : COK2 RX6 vwCl gTbl 67 0 con_284 := ⟨wd_720, wd_127, mh_X6_readVoter, .inr (.inr ⟨rfl, wd_717, wd_719, wd_8, ⟨_, rfl, pd_X6_readVoter⟩, 6, _, TX6, 4, rfl, rfl⟩)⟩
theorem ck_RX6_67_277 : COK2 RX6 vwCl gTbl 67 0 con_277 := ⟨wd_720, wd_127, mh_X6_readVoter, .inr (.inr ⟨rfl, wd_717, wd_719, wd_8, ⟨_, rfl, pd_X6_readVoter⟩, 6, _, TX6, 4, rfl, rfl⟩)⟩
theorem ck_RX6_67_270 : COK2 RX6 vwCl gTbl 67 0 con_270 := ⟨wd_720, wd_127, mh_X6_readVoter, .inr (.inr ⟨rfl, wd_717, wd_719, wd_8, ⟨_, rfl, pd_X6_readVoter⟩, 6, _, TX6, 4, rfl, rfl⟩)⟩
theorem ck_RX6_67_263 : COK2 RX6 vwCl gTbl 67 0 con_263 := ⟨wd_720, wd_127, mh_X6_readVoter, .inr (.inr ⟨rfl, wd_717, wd_719, wd_8, ⟨_, rfl, pd_X6_readVoter⟩, 6, _, TX6, 4, rfl, rfl⟩)⟩
theorem ck_RX6_67_71 : COK2 RX6 vwCl gTbl 67 0 con_71 := ⟨wd_720, wd_127, mh_X6_readVoter, .inr (.inr ⟨rfl, wd_717, wd_719, wd_8, ⟨_, rfl, pd_X6_readVoter⟩, 6, _, TX6, 4, rfl, rfl⟩)⟩
theorem ck_RX6_48_70 : COK2 RX6 vwCl gTbl 48 0 con_70 := ⟨wd_617, wd_126, mh_X10_isAtWord, .inr (.inr ⟨rfl, wd_614, wd_615, wd_616, ⟨_, rfl, pd_X10_isAtWord⟩, 10, _, TX10, 6, rfl, rfl⟩)⟩
theorem ck_RX6_62_69 : COK2 RX6 vwCl gTbl 62 0 con_69 := ⟨wd_709, wd_127, mh_X6_readMan, .inr (.inr ⟨rfl, wd_706, wd_708, wd_7, ⟨_, rfl, pd_X6_readMan⟩, 6, _, TX6, 4, rfl, rfl⟩)⟩
theorem ck_RX6_48_60 : COK2 RX6 vwCl gTbl 48 0 con_60 := ⟨wd_617, wd_126, mh_X10_isAtWord, .inr (.inr ⟨rfl, wd_614, wd_615, wd_616, ⟨_, rfl, pd_X10_isAtWord⟩, 10, _, TX10, 6, rfl, rfl⟩)⟩
theorem ck_RX6_57_59 : COK2 RX6 vwCl gTbl 57 0 con_59 := ⟨wd_700, wd_127, mh_X6_readHedge, .inr (.inr ⟨rfl, wd_697, wd_699, wd_6, ⟨_, rfl, pd_X6_readHedge⟩, 6, _, TX6, 4, rfl, rfl⟩)⟩
theorem ck_RX6_48_44 : COK2 RX6 vwCl gTbl 48 0 con_44 := ⟨wd_617, wd_126, mh_X10_isAtWord, .inr (.inr ⟨rfl, wd_614, wd_615, wd_616, ⟨_, rfl, pd_X10_isAtWord⟩, 10, _, TX10, 6, rfl, rfl⟩)⟩
theorem ck_RX6_52_43 : COK2 RX6 vwCl gTbl 52 0 con_43 := ⟨wd_689, wd_127, mh_X6_readField, .inr (.inr ⟨rfl, wd_686, wd_688, wd_5, ⟨_, rfl, pd_X6_readField⟩, 6, _, TX6, 4, rfl, rfl⟩)⟩
theorem ck_RX6_48_32 : COK2 RX6 vwCl gTbl 48 0 con_32 := ⟨wd_617, wd_126, mh_X10_isAtWord, .inr (.inr ⟨rfl, wd_614, wd_615, wd_616, ⟨_, rfl, pd_X10_isAtWord⟩, 10, _, TX10, 6, rfl, rfl⟩)⟩
theorem ck_RX6_43_30 : COK2 RX6 vwCl gTbl 43 0 con_30 := ⟨wd_608, wd_127, mh_X6_readHead, .inr (.inr ⟨rfl, wd_605, wd_607, wd_0, ⟨_, rfl, pd_X6_readHead⟩, 6, _, TX6, 4, rfl, rfl⟩)⟩
noncomputable def ct_306 : CTB2 := [(11, 43, 0, con_30, [0, 2, 3, 1]), (23, 48, 0, con_32, [2, 3]), (30, 52, 0, con_43, [0, 1, 2, 3, 4, 5, 6]), (42, 48, 0, con_44, [2, 3]), (49, 57, 0, con_59, [0, 1, 2, 3, 6]), (61, 48, 0, con_60, [2, 3]), (68, 62, 0, con_69, [0, 1, 2, 3, 7, 8]), (80, 48, 0, con_70, [2, 3]), (87, 67, 0, con_71, [0, 1, 2, 3, 9, 10, 11, 12]), (87, 67, 0, con_263, [0, 1, 2, 3, 9, 10, 11, 12]), (87, 67, 0, con_270, [0, 1, 2, 3, 9, 10, 11, 12]), (87, 67, 0, con_277, [0, 1, 2, 3, 9, 10, 11, 12]), (87, 67, 0, con_284, [0, 1, 2, 3, 9, 10, 11, 12]), (87, 67, 0, con_291, [0, 1, 2, 3, 9, 10, 11, 12]), (87, 67, 0, con_298, [0, 1, 2, 3, 9, 10, 11, 12]), (87, 67, 0, con_305, [0, 1, 2, 3, 9, 10, 11, 12]), (95, 70, 0, con_15, [0, 2]), (99, 74, 0, con_31, [0, 2, 3, 1])]
noncomputable def cu_306 : List CUT2 := []
theorem ch_306 : staG tb_X6_readLine 1 bt_RX6 [] ct_306 [(86, [(1, (2, 1, 7), 0, 0)])] [] cu_306 32 con_306 = true := by decide +kernel
theorem cto_306 (l : Launch) : CTOK2 l RX6 vwCl gTbl ct_306 := ct2_cons (vl_30 l) ck_RX6_43_30 (ct2_cons (vl_32 l) ck_RX6_48_32 (ct2_cons (vl_43 l) ck_RX6_52_43 (ct2_cons (vl_44 l) ck_RX6_48_44 (ct2_cons (vl_59 l) ck_RX6_57_59 (ct2_cons (vl_60 l) ck_RX6_48_60 (ct2_cons (vl_69 l) ck_RX6_62_69 (ct2_cons (vl_70 l) ck_RX6_48_70 (ct2_cons (vl_71 l) ck_RX6_67_71 (ct2_cons (vl_263 l) ck_RX6_67_263 (ct2_cons (vl_270 l) ck_RX6_67_270 (ct2_cons (vl_277 l) ck_RX6_67_277 (ct2_cons (vl_284 l) ck_RX6_67_284 (ct2_cons (vl_291 l) ck_RX6_67_291 (ct2_cons (vl_298 l) ck_RX6_67_298 (ct2_cons (vl_305 l) ck_RX6_67_305 (ct2_cons (vl_15 l) ck_RX6_70_15 (ct2_cons (vl_31 l) ck_RX6_74_31 (ct2_nil))))))))))))))))))
theorem vl_306 (l : Launch) : Vld2 l vwCl gTbl con_306 := conR_ok3 gT_all (hd_306) rfl pn_RX6 tk_X6_readLine bo_RX6 xo_RX6 (cto_306 l) ch_306 cut_nil
/-- RookHusting$Hundred copyFrom -/
noncomputable def gi_136 : GI := jl_n [gp_71, gp_70]
noncomputable def ac_86 : AC := .inl (4, jl_n [jl_1 10 8, jl_6 3 1, jl_6 5 1, vp_8, jl_6 19 1])
noncomputable def ac_87 : AC := .inl (4, jl_n [jl_1 27 8, jl_6 4 1, vp_9, jl_6 10 1, jl_6 12 1, vp_10, jl_6 18 1, jl_6 20 1])
noncomputable def hc_64 : List AC := [ac_86, ac_87, am_11, am_11, am_4, am_4, am_1, am_1, am_4, am_4, am_10, am_10, am_7, am_7, am_8, am_8, am_6, am_6, am_5, am_5]
noncomputable def gi_137 : GI := jl_n [gp_71, jl_t, gp_15, jl_z 26]
noncomputable def ac_88 : AC := .inl (4, jl_n [jl_1 27 8, jl_6 3 1, jl_6 5 1, vp_8, jl_6 19 1])
noncomputable def hq_113 : HP := [(true, ac_88), (false, ac_87), (true, am_11), (false, am_11), (true, am_4), (false, am_4), (true, am_1), (false, am_1), (true, am_4), (false, am_4), (true, am_10), (false, am_10), (true, am_7), (false, am_7), (true, am_8), (false, am_8), (true, am_6), (false, am_6), (true, am_5), (false, am_5)]
noncomputable def con_307 : Con2 := ((yX4_copyFrom, cX4_copyFrom, 2, none), (1, 18), ([(6, 0, 0), (6, 1, 0)], gi_136, hc_64, []), [((9, 0, 0), gi_137, hq_113, [], tg_2)])
theorem hd_307 : con_307.1 = (yX4_copyFrom, cX4_copyFrom, 2, none) := rfl
noncomputable def cu_307 : List CUT2 := []
theorem ch_307 : staG tb_X4_copyFrom 1 bt_RX4 [] ct_6 [] [] cu_307 107 con_307 = true := by decide +kernel
theorem vl_307 (l : Launch) : Vld2 l vwCl gTbl con_307 := conR_ok3 gT_all (hd_307) rfl pn_RX4 tk_X4_copyFrom bo_RX4 xo_RX4 (cto_6 l) ch_307 cut_nil
/-- RookHusting forget -/
noncomputable def gi_138 : GI := jl_n [gp_72, jl_z 5, gp_73]
noncomputable def ac_89 : AC := .inl (11, jl_n [jl_8 11 10, jl_6 2 1, jl_8 14 2, jl_1 16 2, jl_8 17 1])
noncomputable def ac_90 : AC := .inl (5, jl_n [jl_8 21 4, vp_11])
noncomputable def gi_139 : GI := jl_n [gp_72, jl_z 5, jl_i 0 1, jl_z 27]
noncomputable def ac_91 : AC := .inl (11, jl_n [jl_8 11 10, jl_6 2 1, jl_8 14 2, vp_0, jl_8 17 1])
noncomputable def ac_92 : AC := .inl (5, jl_n [jl_8 21 4, jl_c 0, jl_8 25 3])
noncomputable def con_308 : Con2 := ((yX11_forget, cX11_forget, 1, none), (0, 0), ([(6, 0, 0)], gi_138, [ac_89, ac_90], []), [((9, 0, 0), gi_139, [(true, ac_91), (true, ac_92)], [], tg_8)])
theorem hd_308 : con_308.1 = (yX11_forget, cX11_forget, 1, none) := rfl
noncomputable def cu_308 : List CUT2 := []
theorem ch_308 : staG tb_X11_forget 1 bt_RX11 [] ct_3 [] [] cu_308 13 con_308 = true := by decide +kernel
theorem vl_308 (l : Launch) : Vld2 l vwCl gTbl con_308 := conR_ok3 gT_all (hd_308) rfl pn_RX11 tk_X11_forget bo_RX11 xo_RX11 (cto_3 l) ch_308 cut_nil
/-- RookHusting hundred -/
noncomputable def gi_140 : GI := jl_n [gp_72, gp_27, gp_71, gp_75]
noncomputable def ac_93 : AC := .inl (11, jl_n [vp_12, jl_6 15 1, jl_8 11 7, jl_6 27 1, jl_8 14 2, jl_1 16 2, jl_8 17 1])
noncomputable def ac_94 : AC := .inl (4, jl_n [jl_1 29 8, jl_6 12 7, jl_6 14 1, jl_6 13 1])
noncomputable def ac_95 : AC := .inl (10, jl_n [jl_6 5 1, jl_1 44 5])
noncomputable def ac_96 : AC := .inl (4, jl_n [jl_1 54 8, jl_6 25 9])
noncomputable def ac_97 : AC := .inl (5, jl_n [jl_8 71 4, jl_1 72 1, jl_6 16 1, jl_8 75 2])
noncomputable def hc_65 : List AC := [ac_93, .inl (6, [(6, 2, 0), (1, 18, 0), (1, 19, 0), (6, 3, 0)]), ac_94, ac_95, am_2, am_11, am_4, am_1, am_4, am_10, am_7, am_8, am_5, am_6, .inl (9, [(6, 15, 0), (6, 25, 0)]), ac_96, am_11, am_4, am_1, am_4, am_10, am_7, am_8, am_6, am_5, .inl (0, [(1, 63, 0), (8, 64, 0), (8, 65, 0), (8, 66, 0)]), ac_97]
noncomputable def gi_141 : GI := jl_n [gp_72, gp_27, gp_71, gp_75, jl_t, gp_76, gp_27, gp_70, gp_75]
noncomputable def ac_98 : AC := .inl (11, jl_n [vp_12, jl_6 15 1, jl_8 11 7, jl_6 27 1, jl_8 14 2, jl_1 91 2, jl_8 17 1])
noncomputable def ac_99 : AC := .inl (4, jl_n [jl_1 104 8, jl_6 12 7, jl_6 14 1, jl_6 13 1])
noncomputable def ac_100 : AC := .inl (10, jl_n [jl_6 5 1, jl_1 119 5])
noncomputable def ac_101 : AC := .inl (4, jl_n [jl_1 127 8, jl_6 25 9])
noncomputable def ac_102 : AC := .inl (5, jl_n [jl_8 71 4, jl_1 145 1, jl_6 16 1, jl_8 75 2])
noncomputable def hq_114 : HP := [(true, ac_98), (true, .inl (6, [(6, 2, 0), (1, 93, 0), (1, 94, 0), (6, 3, 0)])), (true, ac_99), (true, ac_100), (false, am_2), (true, am_11), (true, am_4), (true, am_1), (true, am_4), (true, am_10), (true, am_7), (true, am_8), (true, am_5), (true, am_6), (false, .inl (9, [(6, 15, 0), (6, 25, 0)])), (true, ac_101), (true, am_11), (true, am_4), (true, am_1), (true, am_4), (true, am_10), (true, am_7), (true, am_8), (true, am_6), (true, am_5), (true, .inl (0, [(1, 136, 0), (8, 64, 0), (8, 65, 0), (8, 66, 0)])), (true, ac_102)]
noncomputable def con_309 : Con2 := ((yX11_hundred, cX11_hundred, 2, (some .int)), (13, 310), ([(6, 0, 0)], gi_140, hc_65, []), [((1, 75, 0), gi_141, hq_114, [], tg_9)])
theorem hd_309 : con_309.1 = (yX11_hundred, cX11_hundred, 2, (some .int)) := rfl
theorem ck_RX11_130_308 : COK2 RX11 vwCl gTbl 130 0 con_308 := ⟨wd_744, wd_125, mh_X11_forget, .inr (.inr ⟨rfl, wd_741, wd_743, wd_10, ⟨_, rfl, pd_X11_forget⟩, 11, _, TX11, 16, rfl, rfl⟩)⟩
theorem ck_RX11_116_307 : COK2 RX11 vwCl gTbl 116 0 con_307 := ⟨wd_737, wd_128, mh_X4_copyFrom, .inr (.inr ⟨rfl, wd_734, wd_735, wd_736, ⟨_, rfl, pd_X4_copyFrom⟩, 4, _, TX4, 17, rfl, rfl⟩)⟩
theorem ck_RX11_107_306 : COK2 RX11 vwCl gTbl 107 0 con_306 := ⟨wd_604, wd_127, mh_X6_readLine, .inr (.inr ⟨rfl, wd_601, wd_602, wd_603, ⟨_, rfl, pd_X6_readLine⟩, 6, _, TX6, 4, rfl, rfl⟩)⟩
theorem ck_RX11_103_13 : COK2 RX11 vwCl gTbl 103 0 con_13 := ⟨wd_600, wd_127, mh_X6_hasMore, .inr (.inr ⟨rfl, wd_597, wd_598, wd_599, ⟨_, rfl, pd_X6_hasMore⟩, 6, _, TX6, 4, rfl, rfl⟩)⟩
theorem ck_RX11_100_12 : COK2 RX11 vwCl gTbl 100 0 con_12 := ⟨wd_571, wd_127, mh_X6_begin, .inr (.inr ⟨rfl, wd_568, wd_569, wd_570, ⟨_, rfl, pd_X6_begin⟩, 6, _, TX6, 4, rfl, rfl⟩)⟩
noncomputable def ct_309 : CTB2 := [(4, 100, 0, con_12, [1, 2, 3, 4]), (20, 103, 0, con_13, [1, 3]), (30, 107, 0, con_306, [1, 2, 3, 4, 5, 6, 7, 8, 9, 10, 11, 12, 13]), (74, 116, 0, con_307, [15, 2, 16, 5, 17, 6, 18, 7, 19, 8, 20, 9, 21, 10, 22, 11, 23, 13, 24, 12]), (89, 130, 0, con_308, [0, 26])]
noncomputable def gi_142 : GI := jl_n [gp_72, gp_27, gp_71, gp_74, jl_i 0 1, jl_z 4, jl_i 0 700, gp_31, gp_17, gp_60]
noncomputable def ac_103 : AC := .inl (4, jl_n [jl_1 89 8, jl_6 12 7, jl_6 14 1, jl_6 13 1])
noncomputable def ac_104 : AC := .inl (10, jl_n [jl_6 5 1, jl_1 40 1, jl_1 104 4])
noncomputable def hq_115 : HP := [(false, ac_93), (true, .inl (6, [(6, 2, 0), (1, 78, 0), (1, 79, 0), (6, 3, 0)])), (true, ac_103), (true, ac_104), (false, am_2), (true, am_11), (true, am_4), (true, am_1), (true, am_4), (true, am_10), (true, am_7), (true, am_8), (true, am_5), (true, am_6), (false, .inl (9, [(6, 15, 0), (6, 25, 0)])), (false, ac_96), (false, am_11), (false, am_4), (false, am_1), (false, am_4), (false, am_10), (false, am_7), (false, am_8), (false, am_6), (false, am_5), (false, .inl (0, [(1, 63, 0), (8, 64, 0), (8, 65, 0), (8, 66, 0)])), (false, ac_97)]
noncomputable def cu_309 : List CUT2 := [((9, [lq 0 6 0, lq 1 1 76], [], gi_142, hq_115), [], ([(76, (-1))], 700))]
theorem ch_309 : staG tb_X11_hundred 1 bt_RX11 [] ct_309 [] [] cu_309 36 con_309 = true := by decide +kernel
theorem cc_309 : cu_309.all (cutG tb_X11_hundred 1 bt_RX11 [] ct_309 [] [] cu_309 36 con_309) = true := by decide +kernel
theorem cto_309 (l : Launch) : CTOK2 l RX11 vwCl gTbl ct_309 := ct2_cons (vl_12 l) ck_RX11_100_12 (ct2_cons (vl_13 l) ck_RX11_103_13 (ct2_cons (vl_306 l) ck_RX11_107_306 (ct2_cons (vl_307 l) ck_RX11_116_307 (ct2_cons (vl_308 l) ck_RX11_130_308 (ct2_nil)))))
theorem vl_309 (l : Launch) : Vld2 l vwCl gTbl con_309 := conR_ok3 gT_all (hd_309) rfl pn_RX11 tk_X11_hundred bo_RX11 xo_RX11 (cto_309 l) ch_309 (cut_all cc_309)
/-- RookHustingModel see -/
noncomputable def gi_143 : GI := jl_n [gp_3, jl_z 7, jl_i 0 700, jl_z 37]
noncomputable def ac_105 : AC := .inl (12, jl_n [vp_14, jl_1 10 1, jl_8 47 37])
noncomputable def gi_144 : GI := jl_n [jl_z 1, jl_i 0 699, jl_z 7, jl_i 1 700, jl_z 37, jl_i 0 255]
noncomputable def hq_116 : HP := [(false, ac_105), (false, am_2)]
noncomputable def gi_145 : GI := jl_n [gp_3, jl_z 7, jl_i 0 700, jl_z 38]
noncomputable def con_310 : Con2 := ((yX12_see, cX12_see, 2, (some .int)), (0, 0), ([(6, 0, 0), (1, 1, 0)], gi_143, [ac_105, am_2], []), [((1, 47, 0), gi_144, hq_116, [], [1]), ((0, (-1), 0), gi_145, hq_116, [], [1])])
theorem hd_310 : con_310.1 = (yX12_see, cX12_see, 2, (some .int)) := rfl
noncomputable def cu_310 : List CUT2 := []
theorem ch_310 : staG tb_X12_see 1 bt_RX12 [] ct_2 [] [] cu_310 14 con_310 = true := by decide +kernel
theorem vl_310 (l : Launch) : Vld2 l vwCl gTbl con_310 := conR_ok3 gT_all (hd_310) rfl pn_RX12 tk_X12_see bo_RX12 xo_RX12 (cto_2 l) ch_310 cut_nil
/-- RookHustingModel in -/
noncomputable def gi_146 : GI := jl_n [jl_u, jl_z 2]
noncomputable def gi_147 : GI := jl_n [jl_u, jl_z 3]
noncomputable def con_311 : Con2 := ((yX12_in, cX12_in, 6, (some .boolean)), (0, 0), ([(4, 0, 0), (3, 97, 0), (3, 122, 0)], gi_146, [], []), [((0, 0, 0), gi_147, [], [], [1]), ((0, 1, 0), [(97, 122), (0, 0), (0, 0), (0, 0)], [], [], [1])])
theorem hd_311 : con_311.1 = (yX12_in, cX12_in, 6, (some .boolean)) := rfl
noncomputable def cu_311 : List CUT2 := []
theorem ch_311 : staG tb_X12_in 1 bt_RX12 [] ct_2 [] [] cu_311 11 con_311 = true := by decide +kernel
theorem vl_311 (l : Launch) : Vld2 l vwCl gTbl con_311 := conR_ok3 gT_all (hd_311) rfl pn_RX12 tk_X12_in bo_RX12 xo_RX12 (cto_2 l) ch_311 cut_nil
/-- RookHustingModel in -/
noncomputable def con_312 : Con2 := ((yX12_in, cX12_in, 6, (some .boolean)), (0, 0), ([(4, 0, 0), (3, 48, 0), (3, 57, 0)], gi_146, [], []), [((0, 0, 0), gi_147, [], [], [1]), ((0, 1, 0), [(48, 57), (0, 0), (0, 0), (0, 0)], [], [], [1])])
theorem hd_312 : con_312.1 = (yX12_in, cX12_in, 6, (some .boolean)) := rfl
noncomputable def cu_312 : List CUT2 := []
theorem ch_312 : staG tb_X12_in 1 bt_RX12 [] ct_2 [] [] cu_312 11 con_312 = true := by decide +kernel
theorem vl_312 (l : Launch) : Vld2 l vwCl gTbl con_312 := conR_ok3 gT_all (hd_312) rfl pn_RX12 tk_X12_in bo_RX12 xo_RX12 (cto_2 l) ch_312 cut_nil
