/-! ===== contracts, 15 ===== -/
/-- RookHustingModel readVoter -/
noncomputable def ac_337 : AC := .inr (1, jl_n [sp_104, sp_94])
noncomputable def gi_281 : GI := jl_n [gp_138, jl_i 5 6, jl_z 16]
noncomputable def ac_338 : AC := .inr (1, jl_n [sp_83, sp_105])
noncomputable def hq_347 : HP := [(true, ac_149), (true, ac_338), (false, am_2)]
noncomputable def ac_339 : AC := .inr (1, jl_n [js_1 52 6, sp_106, sp_56, sp_7])
noncomputable def hq_348 : HP := [(true, ac_151), (true, ac_339), (false, am_2)]
noncomputable def con_629 : Con2 := ((yX12_readVoter, cX12_readVoter, 4, none), (12, 289), ([(6, 0, 0)], gi_215, [ac_148, ac_337, am_2], []), [((9, 0, 0), gi_281, hq_347, [], tg_11), ((9, 0, 0), gi_217, hq_348, [], tg_11)])
theorem hd_629 : con_629.1 = (yX12_readVoter, cX12_readVoter, 4, none) := rfl
noncomputable def rf_629 : List (Nat × List POP) := [(0, [(1, (2, 1, 6), 0, 0)]), (54, [(2, (2, 0, 11), 0, 0), (2, (2, 0, 11), 1, 0), (2, (2, 0, 11), 2, 0), (2, (2, 0, 11), 3, 0), (2, (2, 0, 11), 4, 0)]), (93, [(1, (1, 3, 0), 0, 0)])]
noncomputable def ac_340 : AC := .inr (1, jl_n [sp_107, jl_x (1, (0, 0, 0)), sp_26])
noncomputable def hq_349 : HP := [(true, ac_159), (true, ac_340), (false, am_2)]
noncomputable def ac_341 : AC := .inr (1, jl_n [sp_104, sp_58, sp_26])
noncomputable def hq_350 : HP := [(true, ac_161), (true, ac_341), (false, am_2)]
noncomputable def ac_342 : AC := .inr (1, jl_n [sp_108, jl_x (1, (0, 4, 0)), sp_110])
noncomputable def hq_351 : HP := [(true, ac_163), (true, ac_342), (false, am_2)]
noncomputable def ac_343 : AC := .inr (1, jl_n [sp_108, jl_x (1, (0, 3, 0)), sp_110])
noncomputable def hq_352 : HP := [(true, ac_163), (true, ac_343), (false, am_2)]
noncomputable def ac_344 : AC := .inr (1, jl_n [sp_108, jl_x (1, (0, 2, 0)), sp_110])
noncomputable def hq_353 : HP := [(true, ac_163), (true, ac_344), (false, am_2)]
noncomputable def ac_345 : AC := .inr (1, jl_n [sp_107, jl_x (2, (0, 1, 0)), sp_110])
noncomputable def hq_354 : HP := [(true, ac_163), (true, ac_345), (false, am_2)]
noncomputable def ac_346 : AC := .inr (1, jl_n [sp_108, jl_x (1, (0, 0, 0)), sp_110])
noncomputable def hq_355 : HP := [(true, ac_163), (true, ac_346), (false, am_2)]
noncomputable def ac_347 : AC := .inr (1, jl_n [sp_111, js_2 2 3 4, sp_112])
noncomputable def hq_356 : HP := [(true, ac_163), (true, ac_347), (false, am_2)]
noncomputable def ac_348 : AC := .inr (1, jl_n [sp_111, js_2 2 2 4, sp_112])
noncomputable def hq_357 : HP := [(true, ac_163), (true, ac_348), (false, am_2)]
noncomputable def ac_349 : AC := .inr (1, jl_n [sp_111, js_2 2 1 4, sp_112])
noncomputable def hq_358 : HP := [(true, ac_163), (true, ac_349), (false, am_2)]
noncomputable def ac_350 : AC := .inr (1, jl_n [sp_111, sp_26])
noncomputable def hq_359 : HP := [(true, ac_163), (true, ac_350), (false, am_2)]
noncomputable def ac_351 : AC := .inr (1, jl_n [sp_111, js_2 2 2 3, sp_112])
noncomputable def hq_360 : HP := [(true, ac_163), (true, ac_351), (false, am_2)]
noncomputable def ac_352 : AC := .inr (1, jl_n [sp_111, js_2 2 1 3, sp_112])
noncomputable def hq_361 : HP := [(true, ac_163), (true, ac_352), (false, am_2)]
noncomputable def ac_353 : AC := .inr (1, jl_n [sp_111, js_2 2 0 3, sp_112])
noncomputable def hq_362 : HP := [(true, ac_163), (true, ac_353), (false, am_2)]
noncomputable def ac_354 : AC := .inr (1, jl_n [sp_111, js_2 2 1 2, sp_112])
noncomputable def hq_363 : HP := [(true, ac_163), (true, ac_354), (false, am_2)]
noncomputable def ac_355 : AC := .inr (1, jl_n [sp_111, js_2 2 0 2, sp_112])
noncomputable def hq_364 : HP := [(true, ac_163), (true, ac_355), (false, am_2)]
noncomputable def ac_356 : AC := .inr (1, jl_n [sp_111, js_2 2 0 1, sp_112])
noncomputable def hq_365 : HP := [(true, ac_163), (true, ac_356), (false, am_2)]
noncomputable def ac_357 : AC := .inr (1, jl_n [sp_113, js_2 3 2 4, sp_114])
noncomputable def hq_366 : HP := [(true, ac_163), (true, ac_357), (false, am_2)]
noncomputable def ac_358 : AC := .inr (1, jl_n [sp_113, js_2 3 1 4, sp_114])
noncomputable def hq_367 : HP := [(true, ac_163), (true, ac_358), (false, am_2)]
noncomputable def ac_359 : AC := .inr (1, jl_n [sp_113, sp_26])
noncomputable def hq_368 : HP := [(true, ac_163), (true, ac_359), (false, am_2)]
noncomputable def ac_360 : AC := .inr (1, jl_n [sp_113, js_2 3 1 3, sp_114])
noncomputable def hq_369 : HP := [(true, ac_163), (true, ac_360), (false, am_2)]
noncomputable def ac_361 : AC := .inr (1, jl_n [sp_113, js_2 3 0 3, sp_114])
noncomputable def hq_370 : HP := [(true, ac_163), (true, ac_361), (false, am_2)]
noncomputable def ac_362 : AC := .inr (1, jl_n [sp_113, js_2 3 0 2, sp_114])
noncomputable def hq_371 : HP := [(true, ac_163), (true, ac_362), (false, am_2)]
noncomputable def ac_363 : AC := .inr (1, jl_n [sp_107, sp_42, sp_109])
noncomputable def hq_372 : HP := [(true, ac_163), (true, ac_363), (false, am_2)]
noncomputable def ac_364 : AC := .inr (1, jl_n [sp_107, jl_x (1, (0, 4, 0)), sp_26])
noncomputable def hq_373 : HP := [(true, ac_163), (true, ac_364), (false, am_2)]
noncomputable def ac_365 : AC := .inr (1, jl_n [sp_107, sp_44, sp_109])
noncomputable def hq_374 : HP := [(true, ac_163), (true, ac_365), (false, am_2)]
noncomputable def ac_366 : AC := .inr (1, jl_n [sp_107, jl_x (1, (0, 5, 0)), sp_26])
noncomputable def hq_375 : HP := [(true, ac_163), (true, ac_366), (false, am_2)]
noncomputable def cu_629_0 : List CUT2 := [((31, [lq 0 6 0, lq 1 0 80, lq 2 0 0], [], gi_218, hq_349), [], ([], 40)), ((31, [lq 0 6 0, lq 1 0 80, lq 2 0 0], [], gi_219, hq_350), [], ([], 0)), ((31, [lq 0 6 0, lq 1 0 80, lq 2 0 16, lq 3 0 4], [], gi_220, hq_351), [], ([], 39))]
noncomputable def cu_629_1 : List CUT2 := [((31, [lq 0 6 0, lq 1 0 80, lq 2 0 8, lq 3 0 3], [], gi_220, hq_352), [], ([], 39)), ((31, [lq 0 6 0, lq 1 0 80, lq 2 0 4, lq 3 0 2], [], gi_220, hq_353), [], ([], 39))]
noncomputable def cu_629_2 : List CUT2 := [((31, [lq 0 6 0, lq 1 0 80, lq 2 0 2, lq 3 0 1], [], gi_221, hq_354), [], ([], 39)), ((31, [lq 0 6 0, lq 1 0 80, lq 2 0 1, lq 3 0 0], [], gi_220, hq_355), [], ([], 39))]
noncomputable def cu_629_3 : List CUT2 := [((31, [lq 0 6 0, lq 1 0 80, lq 2 0 24, lq 3 1 72], [], gi_222, hq_356), [], ([], 38)), ((31, [lq 0 6 0, lq 1 0 80, lq 2 0 20, lq 3 1 72], [], gi_223, hq_357), [], ([], 38)), ((31, [lq 0 6 0, lq 1 0 80, lq 2 0 18, lq 3 1 72], [], gi_224, hq_358), [], ([], 38))]
noncomputable def cu_629_4 : List CUT2 := [((31, [lq 0 6 0, lq 1 0 80, lq 2 0 17, lq 3 1 72], [], gi_225, hq_359), [], ([], 38)), ((31, [lq 0 6 0, lq 1 0 80, lq 2 0 12, lq 3 1 72], [], gi_226, hq_360), [], ([], 38)), ((31, [lq 0 6 0, lq 1 0 80, lq 2 0 10, lq 3 1 72], [], gi_227, hq_361), [], ([], 38))]
noncomputable def cu_629_5 : List CUT2 := [((31, [lq 0 6 0, lq 1 0 80, lq 2 0 9, lq 3 1 72], [], gi_228, hq_362), [], ([], 38)), ((31, [lq 0 6 0, lq 1 0 80, lq 2 0 6, lq 3 1 72], [], gi_229, hq_363), [], ([], 38)), ((31, [lq 0 6 0, lq 1 0 80, lq 2 0 5, lq 3 1 72], [], gi_230, hq_364), [], ([], 38))]
noncomputable def cu_629_6 : List CUT2 := [((31, [lq 0 6 0, lq 1 0 80, lq 2 0 3, lq 3 1 72], [], gi_231, hq_365), [], ([], 38)), ((31, [lq 0 6 0, lq 1 0 80, lq 2 0 28, lq 3 1 72], [], gi_223, hq_366), [], ([], 37)), ((31, [lq 0 6 0, lq 1 0 80, lq 2 0 26, lq 3 1 72], [], gi_224, hq_367), [], ([], 37))]
noncomputable def cu_629_7 : List CUT2 := [((31, [lq 0 6 0, lq 1 0 80, lq 2 0 25, lq 3 1 72], [], gi_225, hq_368), [], ([], 37)), ((31, [lq 0 6 0, lq 1 0 80, lq 2 0 22, lq 3 1 72], [], gi_224, hq_367), [], ([], 37)), ((31, [lq 0 6 0, lq 1 0 80, lq 2 0 21, lq 3 1 72], [], gi_225, hq_368), [], ([], 37))]
noncomputable def cu_629_8 : List CUT2 := [((31, [lq 0 6 0, lq 1 0 80, lq 2 0 19, lq 3 1 72], [], gi_225, hq_368), [], ([], 37)), ((31, [lq 0 6 0, lq 1 0 80, lq 2 0 14, lq 3 1 72], [], gi_227, hq_369), [], ([], 37)), ((31, [lq 0 6 0, lq 1 0 80, lq 2 0 13, lq 3 1 72], [], gi_228, hq_370), [], ([], 37))]
noncomputable def cu_629_9 : List CUT2 := [((31, [lq 0 6 0, lq 1 0 80, lq 2 0 11, lq 3 1 72], [], gi_228, hq_370), [], ([], 37)), ((31, [lq 0 6 0, lq 1 0 80, lq 2 0 7, lq 3 1 72], [], gi_230, hq_371), [], ([], 37)), ((31, [lq 0 6 0, lq 1 0 80, lq 2 0 30, lq 3 1 72], [], gi_232, hq_372), [], ([], 36))]
noncomputable def cu_629_10 : List CUT2 := [((31, [lq 0 6 0, lq 1 0 80, lq 2 0 29, lq 3 1 72], [], gi_225, hq_373), [], ([], 36)), ((31, [lq 0 6 0, lq 1 0 80, lq 2 0 27, lq 3 1 72], [], gi_225, hq_373), [], ([], 36)), ((31, [lq 0 6 0, lq 1 0 80, lq 2 0 23, lq 3 1 72], [], gi_225, hq_373), [], ([], 36)), ((31, [lq 0 6 0, lq 1 0 80, lq 2 0 15, lq 3 1 72], [], gi_233, hq_374), [], ([], 36))]
noncomputable def cu_629_11 : List CUT2 := [((31, [lq 0 6 0, lq 1 0 80, lq 2 0 31, lq 3 1 72], [], gi_225, hq_375), [], ([], 35))]
noncomputable def cu_629 : List CUT2 := cu_629_0 ++ (cu_629_1 ++ (cu_629_2 ++ (cu_629_3 ++ (cu_629_4 ++ (cu_629_5 ++ (cu_629_6 ++ (cu_629_7 ++ (cu_629_8 ++ (cu_629_9 ++ (cu_629_10 ++ (cu_629_11)))))))))))
theorem ch_629 : staG tb_X12_readVoter 1 bt_RX12 [] ct_547 rf_629 [] cu_629 64 con_629 = true := by decide +kernel
theorem cc_629_0 : cu_629_0.all (cutG tb_X12_readVoter 1 bt_RX12 [] ct_547 rf_629 [] cu_629 64 con_629) = true := by decide +kernel
theorem cc_629_1 : cu_629_1.all (cutG tb_X12_readVoter 1 bt_RX12 [] ct_547 rf_629 [] cu_629 64 con_629) = true := by decide +kernel
theorem cc_629_2 : cu_629_2.all (cutG tb_X12_readVoter 1 bt_RX12 [] ct_547 rf_629 [] cu_629 64 con_629) = true := by decide +kernel
theorem cc_629_3 : cu_629_3.all (cutG tb_X12_readVoter 1 bt_RX12 [] ct_547 rf_629 [] cu_629 64 con_629) = true := by decide +kernel
theorem cc_629_4 : cu_629_4.all (cutG tb_X12_readVoter 1 bt_RX12 [] ct_547 rf_629 [] cu_629 64 con_629) = true := by decide +kernel
theorem cc_629_5 : cu_629_5.all (cutG tb_X12_readVoter 1 bt_RX12 [] ct_547 rf_629 [] cu_629 64 con_629) = true := by decide +kernel
theorem cc_629_6 : cu_629_6.all (cutG tb_X12_readVoter 1 bt_RX12 [] ct_547 rf_629 [] cu_629 64 con_629) = true := by decide +kernel
theorem cc_629_7 : cu_629_7.all (cutG tb_X12_readVoter 1 bt_RX12 [] ct_547 rf_629 [] cu_629 64 con_629) = true := by decide +kernel
theorem cc_629_8 : cu_629_8.all (cutG tb_X12_readVoter 1 bt_RX12 [] ct_547 rf_629 [] cu_629 64 con_629) = true := by decide +kernel
theorem cc_629_9 : cu_629_9.all (cutG tb_X12_readVoter 1 bt_RX12 [] ct_547 rf_629 [] cu_629 64 con_629) = true := by decide +kernel
theorem cc_629_10 : cu_629_10.all (cutG tb_X12_readVoter 1 bt_RX12 [] ct_547 rf_629 [] cu_629 64 con_629) = true := by decide +kernel
theorem cc_629_11 : cu_629_11.all (cutG tb_X12_readVoter 1 bt_RX12 [] ct_547 rf_629 [] cu_629 64 con_629) = true := by decide +kernel
theorem vl_629 (l : Launch) : Vld2 l vwCl gTbl con_629 := conR_ok3 gT_all (hd_629) rfl pn_RX12 tk_X12_readVoter bo_RX12 xo_RX12 (cto_547 l) ch_629 (cut_app (cut_all cc_629_0) (cut_app (cut_all cc_629_1) (cut_app (cut_all cc_629_2) (cut_app (cut_all cc_629_3) (cut_app (cut_all cc_629_4) (cut_app (cut_all cc_629_5) (cut_app (cut_all cc_629_6) (cut_app (cut_all cc_629_7) (cut_app (cut_all cc_629_8) (cut_app (cut_all cc_629_9) (cut_app (cut_all cc_629_10) (cut_all cc_629_11))))))))))))
