/-! ===== contracts, 17 ===== -/
/-- RookHustingModel readVoter -/
noncomputable def ac_372 : AC := .inr (1, jl_n [js_1 52 6, sp_106, sp_105])
noncomputable def gi_282 : GI := jl_n [gp_138, jl_i 6 7, jl_z 16]
noncomputable def ac_373 : AC := .inr (1, jl_n [sp_83, sp_115])
noncomputable def hq_387 : HP := [(true, ac_149), (true, ac_373), (false, am_2)]
noncomputable def ac_374 : AC := .inr (1, jl_n [js_1 52 6, sp_116, sp_71, sp_17, jl_x (30, (0, 0, 0))])
noncomputable def hq_388 : HP := [(true, ac_151), (true, ac_374), (false, am_2)]
noncomputable def con_633 : Con2 := ((yX12_readVoter, cX12_readVoter, 4, none), (12, 289), ([(6, 0, 0)], gi_215, [ac_148, ac_372, am_2], []), [((9, 0, 0), gi_282, hq_387, [], tg_11), ((9, 0, 0), gi_217, hq_388, [], tg_11)])
theorem hd_633 : con_633.1 = (yX12_readVoter, cX12_readVoter, 4, none) := rfl
noncomputable def rf_633 : List (Nat × List POP) := [(0, [(1, (2, 1, 6), 0, 0)]), (54, [(2, (2, 0, 11), 0, 0), (2, (2, 0, 11), 1, 0), (2, (2, 0, 11), 2, 0), (2, (2, 0, 11), 3, 0), (2, (2, 0, 11), 4, 0)]), (93, [(1, (1, 3, 0), 0, 0)])]
noncomputable def ac_375 : AC := .inr (1, jl_n [sp_117, jl_x (1, (0, 0, 0)), sp_7])
noncomputable def hq_389 : HP := [(true, ac_159), (true, ac_375), (false, am_2)]
noncomputable def ac_376 : AC := .inr (1, jl_n [js_1 52 6, sp_106, sp_12, sp_58, sp_7])
noncomputable def hq_390 : HP := [(true, ac_161), (true, ac_376), (false, am_2)]
noncomputable def ac_377 : AC := .inr (1, jl_n [sp_118, jl_x (1, (0, 4, 0)), sp_119])
noncomputable def hq_391 : HP := [(true, ac_163), (true, ac_377), (false, am_2)]
noncomputable def ac_378 : AC := .inr (1, jl_n [sp_118, jl_x (1, (0, 3, 0)), sp_119])
noncomputable def hq_392 : HP := [(true, ac_163), (true, ac_378), (false, am_2)]
noncomputable def ac_379 : AC := .inr (1, jl_n [sp_118, jl_x (1, (0, 2, 0)), sp_119])
noncomputable def hq_393 : HP := [(true, ac_163), (true, ac_379), (false, am_2)]
noncomputable def ac_380 : AC := .inr (1, jl_n [sp_117, jl_x (2, (0, 1, 0)), sp_119])
noncomputable def hq_394 : HP := [(true, ac_163), (true, ac_380), (false, am_2)]
noncomputable def ac_381 : AC := .inr (1, jl_n [sp_118, jl_x (1, (0, 0, 0)), sp_119])
noncomputable def hq_395 : HP := [(true, ac_163), (true, ac_381), (false, am_2)]
noncomputable def ac_382 : AC := .inr (1, jl_n [sp_120, js_2 2 3 4, sp_121])
noncomputable def hq_396 : HP := [(true, ac_163), (true, ac_382), (false, am_2)]
noncomputable def ac_383 : AC := .inr (1, jl_n [sp_120, js_2 2 2 4, sp_121])
noncomputable def hq_397 : HP := [(true, ac_163), (true, ac_383), (false, am_2)]
noncomputable def ac_384 : AC := .inr (1, jl_n [sp_120, js_2 2 1 4, sp_121])
noncomputable def hq_398 : HP := [(true, ac_163), (true, ac_384), (false, am_2)]
noncomputable def ac_385 : AC := .inr (1, jl_n [sp_120, sp_7])
noncomputable def hq_399 : HP := [(true, ac_163), (true, ac_385), (false, am_2)]
noncomputable def ac_386 : AC := .inr (1, jl_n [sp_120, js_2 2 2 3, sp_121])
noncomputable def hq_400 : HP := [(true, ac_163), (true, ac_386), (false, am_2)]
noncomputable def ac_387 : AC := .inr (1, jl_n [sp_120, js_2 2 1 3, sp_121])
noncomputable def hq_401 : HP := [(true, ac_163), (true, ac_387), (false, am_2)]
noncomputable def ac_388 : AC := .inr (1, jl_n [sp_120, js_2 2 0 3, sp_121])
noncomputable def hq_402 : HP := [(true, ac_163), (true, ac_388), (false, am_2)]
noncomputable def ac_389 : AC := .inr (1, jl_n [sp_120, js_2 2 1 2, sp_121])
noncomputable def hq_403 : HP := [(true, ac_163), (true, ac_389), (false, am_2)]
noncomputable def ac_390 : AC := .inr (1, jl_n [sp_120, js_2 2 0 2, sp_121])
noncomputable def hq_404 : HP := [(true, ac_163), (true, ac_390), (false, am_2)]
noncomputable def ac_391 : AC := .inr (1, jl_n [sp_120, js_2 2 0 1, sp_121])
noncomputable def hq_405 : HP := [(true, ac_163), (true, ac_391), (false, am_2)]
noncomputable def ac_392 : AC := .inr (1, jl_n [sp_122, js_2 3 2 4, sp_123])
noncomputable def hq_406 : HP := [(true, ac_163), (true, ac_392), (false, am_2)]
noncomputable def ac_393 : AC := .inr (1, jl_n [sp_122, js_2 3 1 4, sp_123])
noncomputable def hq_407 : HP := [(true, ac_163), (true, ac_393), (false, am_2)]
noncomputable def ac_394 : AC := .inr (1, jl_n [sp_122, sp_7])
noncomputable def hq_408 : HP := [(true, ac_163), (true, ac_394), (false, am_2)]
noncomputable def ac_395 : AC := .inr (1, jl_n [sp_122, js_2 3 1 3, sp_123])
noncomputable def hq_409 : HP := [(true, ac_163), (true, ac_395), (false, am_2)]
noncomputable def ac_396 : AC := .inr (1, jl_n [sp_122, js_2 3 0 3, sp_123])
noncomputable def hq_410 : HP := [(true, ac_163), (true, ac_396), (false, am_2)]
noncomputable def ac_397 : AC := .inr (1, jl_n [sp_122, js_2 3 0 2, sp_123])
noncomputable def hq_411 : HP := [(true, ac_163), (true, ac_397), (false, am_2)]
noncomputable def ac_398 : AC := .inr (1, jl_n [sp_117, sp_42, jl_x (30, (0, 0, 0))])
noncomputable def hq_412 : HP := [(true, ac_163), (true, ac_398), (false, am_2)]
noncomputable def ac_399 : AC := .inr (1, jl_n [sp_117, jl_x (1, (0, 4, 0)), sp_7])
noncomputable def hq_413 : HP := [(true, ac_163), (true, ac_399), (false, am_2)]
noncomputable def ac_400 : AC := .inr (1, jl_n [sp_117, sp_44, jl_x (30, (0, 0, 0))])
noncomputable def hq_414 : HP := [(true, ac_163), (true, ac_400), (false, am_2)]
noncomputable def ac_401 : AC := .inr (1, jl_n [sp_117, jl_x (1, (0, 5, 0)), sp_7])
noncomputable def hq_415 : HP := [(true, ac_163), (true, ac_401), (false, am_2)]
noncomputable def cu_633_0 : List CUT2 := [((31, [lq 0 6 0, lq 1 0 87, lq 2 0 0], [], gi_218, hq_389), [], ([], 40)), ((31, [lq 0 6 0, lq 1 0 87, lq 2 0 0], [], gi_219, hq_390), [], ([], 0)), ((31, [lq 0 6 0, lq 1 0 87, lq 2 0 16, lq 3 0 4], [], gi_220, hq_391), [], ([], 39))]
noncomputable def cu_633_1 : List CUT2 := [((31, [lq 0 6 0, lq 1 0 87, lq 2 0 8, lq 3 0 3], [], gi_220, hq_392), [], ([], 39)), ((31, [lq 0 6 0, lq 1 0 87, lq 2 0 4, lq 3 0 2], [], gi_220, hq_393), [], ([], 39))]
noncomputable def cu_633_2 : List CUT2 := [((31, [lq 0 6 0, lq 1 0 87, lq 2 0 2, lq 3 0 1], [], gi_221, hq_394), [], ([], 39)), ((31, [lq 0 6 0, lq 1 0 87, lq 2 0 1, lq 3 0 0], [], gi_220, hq_395), [], ([], 39))]
noncomputable def cu_633_3 : List CUT2 := [((31, [lq 0 6 0, lq 1 0 87, lq 2 0 24, lq 3 1 72], [], gi_222, hq_396), [], ([], 38)), ((31, [lq 0 6 0, lq 1 0 87, lq 2 0 20, lq 3 1 72], [], gi_223, hq_397), [], ([], 38)), ((31, [lq 0 6 0, lq 1 0 87, lq 2 0 18, lq 3 1 72], [], gi_224, hq_398), [], ([], 38))]
noncomputable def cu_633_4 : List CUT2 := [((31, [lq 0 6 0, lq 1 0 87, lq 2 0 17, lq 3 1 72], [], gi_225, hq_399), [], ([], 38)), ((31, [lq 0 6 0, lq 1 0 87, lq 2 0 12, lq 3 1 72], [], gi_226, hq_400), [], ([], 38)), ((31, [lq 0 6 0, lq 1 0 87, lq 2 0 10, lq 3 1 72], [], gi_227, hq_401), [], ([], 38))]
noncomputable def cu_633_5 : List CUT2 := [((31, [lq 0 6 0, lq 1 0 87, lq 2 0 9, lq 3 1 72], [], gi_228, hq_402), [], ([], 38)), ((31, [lq 0 6 0, lq 1 0 87, lq 2 0 6, lq 3 1 72], [], gi_229, hq_403), [], ([], 38)), ((31, [lq 0 6 0, lq 1 0 87, lq 2 0 5, lq 3 1 72], [], gi_230, hq_404), [], ([], 38))]
noncomputable def cu_633_6 : List CUT2 := [((31, [lq 0 6 0, lq 1 0 87, lq 2 0 3, lq 3 1 72], [], gi_231, hq_405), [], ([], 38)), ((31, [lq 0 6 0, lq 1 0 87, lq 2 0 28, lq 3 1 72], [], gi_223, hq_406), [], ([], 37)), ((31, [lq 0 6 0, lq 1 0 87, lq 2 0 26, lq 3 1 72], [], gi_224, hq_407), [], ([], 37))]
noncomputable def cu_633_7 : List CUT2 := [((31, [lq 0 6 0, lq 1 0 87, lq 2 0 25, lq 3 1 72], [], gi_225, hq_408), [], ([], 37)), ((31, [lq 0 6 0, lq 1 0 87, lq 2 0 22, lq 3 1 72], [], gi_224, hq_407), [], ([], 37)), ((31, [lq 0 6 0, lq 1 0 87, lq 2 0 21, lq 3 1 72], [], gi_225, hq_408), [], ([], 37))]
noncomputable def cu_633_8 : List CUT2 := [((31, [lq 0 6 0, lq 1 0 87, lq 2 0 19, lq 3 1 72], [], gi_225, hq_408), [], ([], 37)), ((31, [lq 0 6 0, lq 1 0 87, lq 2 0 14, lq 3 1 72], [], gi_227, hq_409), [], ([], 37)), ((31, [lq 0 6 0, lq 1 0 87, lq 2 0 13, lq 3 1 72], [], gi_228, hq_410), [], ([], 37))]
noncomputable def cu_633_9 : List CUT2 := [((31, [lq 0 6 0, lq 1 0 87, lq 2 0 11, lq 3 1 72], [], gi_228, hq_410), [], ([], 37)), ((31, [lq 0 6 0, lq 1 0 87, lq 2 0 7, lq 3 1 72], [], gi_230, hq_411), [], ([], 37)), ((31, [lq 0 6 0, lq 1 0 87, lq 2 0 30, lq 3 1 72], [], gi_232, hq_412), [], ([], 36))]
noncomputable def cu_633_10 : List CUT2 := [((31, [lq 0 6 0, lq 1 0 87, lq 2 0 29, lq 3 1 72], [], gi_225, hq_413), [], ([], 36)), ((31, [lq 0 6 0, lq 1 0 87, lq 2 0 27, lq 3 1 72], [], gi_225, hq_413), [], ([], 36)), ((31, [lq 0 6 0, lq 1 0 87, lq 2 0 23, lq 3 1 72], [], gi_225, hq_413), [], ([], 36)), ((31, [lq 0 6 0, lq 1 0 87, lq 2 0 15, lq 3 1 72], [], gi_233, hq_414), [], ([], 36))]
noncomputable def cu_633_11 : List CUT2 := [((31, [lq 0 6 0, lq 1 0 87, lq 2 0 31, lq 3 1 72], [], gi_225, hq_415), [], ([], 35))]
noncomputable def cu_633 : List CUT2 := cu_633_0 ++ (cu_633_1 ++ (cu_633_2 ++ (cu_633_3 ++ (cu_633_4 ++ (cu_633_5 ++ (cu_633_6 ++ (cu_633_7 ++ (cu_633_8 ++ (cu_633_9 ++ (cu_633_10 ++ (cu_633_11)))))))))))
theorem ch_633 : staG tb_X12_readVoter 1 bt_RX12 [] ct_547 rf_633 [] cu_633 64 con_633 = true := by decide +kernel
theorem cc_633_0 : cu_633_0.all (cutG tb_X12_readVoter 1 bt_RX12 [] ct_547 rf_633 [] cu_633 64 con_633) = true := by decide +kernel
theorem cc_633_1 : cu_633_1.all (cutG tb_X12_readVoter 1 bt_RX12 [] ct_547 rf_633 [] cu_633 64 con_633) = true := by decide +kernel
theorem cc_633_2 : cu_633_2.all (cutG tb_X12_readVoter 1 bt_RX12 [] ct_547 rf_633 [] cu_633 64 con_633) = true := by decide +kernel
theorem cc_633_3 : cu_633_3.all (cutG tb_X12_readVoter 1 bt_RX12 [] ct_547 rf_633 [] cu_633 64 con_633) = true := by decide +kernel
theorem cc_633_4 : cu_633_4.all (cutG tb_X12_readVoter 1 bt_RX12 [] ct_547 rf_633 [] cu_633 64 con_633) = true := by decide +kernel
theorem cc_633_5 : cu_633_5.all (cutG tb_X12_readVoter 1 bt_RX12 [] ct_547 rf_633 [] cu_633 64 con_633) = true := by decide +kernel
theorem cc_633_6 : cu_633_6.all (cutG tb_X12_readVoter 1 bt_RX12 [] ct_547 rf_633 [] cu_633 64 con_633) = true := by decide +kernel
theorem cc_633_7 : cu_633_7.all (cutG tb_X12_readVoter 1 bt_RX12 [] ct_547 rf_633 [] cu_633 64 con_633) = true := by decide +kernel
theorem cc_633_8 : cu_633_8.all (cutG tb_X12_readVoter 1 bt_RX12 [] ct_547 rf_633 [] cu_633 64 con_633) = true := by decide +kernel
theorem cc_633_9 : cu_633_9.all (cutG tb_X12_readVoter 1 bt_RX12 [] ct_547 rf_633 [] cu_633 64 con_633) = true := by decide +kernel
theorem cc_633_10 : cu_633_10.all (cutG tb_X12_readVoter 1 bt_RX12 [] ct_547 rf_633 [] cu_633 64 con_633) = true := by decide +kernel
theorem cc_633_11 : cu_633_11.all (cutG tb_X12_readVoter 1 bt_RX12 [] ct_547 rf_633 [] cu_633 64 con_633) = true := by decide +kernel
theorem vl_633 (l : Launch) : Vld2 l vwCl gTbl con_633 := conR_ok3 gT_all (hd_633) rfl pn_RX12 tk_X12_readVoter bo_RX12 xo_RX12 (cto_547 l) ch_633 (cut_app (cut_all cc_633_0) (cut_app (cut_all cc_633_1) (cut_app (cut_all cc_633_2) (cut_app (cut_all cc_633_3) (cut_app (cut_all cc_633_4) (cut_app (cut_all cc_633_5) (cut_app (cut_all cc_633_6) (cut_app (cut_all cc_633_7) (cut_app (cut_all cc_633_8) (cut_app (cut_all cc_633_9) (cut_app (cut_all cc_633_10) (cut_all cc_633_11))))))))))))
