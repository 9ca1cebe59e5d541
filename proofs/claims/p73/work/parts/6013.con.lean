/-! ===== contracts, 13 ===== -/
/-- RookHustingModel readVoter -/
noncomputable def ac_302 : AC := .inr (1, jl_n [js_1 52 6, jl_x (1, (0, 4, 0)), sp_82, sp_84])
noncomputable def gi_280 : GI := jl_n [gp_138, jl_i 4 5, jl_z 16]
noncomputable def ac_303 : AC := .inr (1, jl_n [sp_83, sp_94])
noncomputable def hq_307 : HP := [(true, ac_149), (true, ac_303), (false, am_2)]
noncomputable def ac_304 : AC := .inr (1, jl_n [js_1 52 6, jl_x (1, (0, 5, 0)), sp_51, sp_71, sp_94])
noncomputable def hq_308 : HP := [(true, ac_151), (true, ac_304), (false, am_2)]
noncomputable def con_625 : Con2 := ((yX12_readVoter, cX12_readVoter, 4, none), (12, 289), ([(6, 0, 0)], gi_215, [ac_148, ac_302, am_2], []), [((9, 0, 0), gi_280, hq_307, [], tg_11), ((9, 0, 0), gi_217, hq_308, [], tg_11)])
theorem hd_625 : con_625.1 = (yX12_readVoter, cX12_readVoter, 4, none) := rfl
noncomputable def rf_625 : List (Nat × List POP) := [(0, [(1, (2, 1, 6), 0, 0)]), (54, [(2, (2, 0, 11), 0, 0), (2, (2, 0, 11), 1, 0), (2, (2, 0, 11), 2, 0), (2, (2, 0, 11), 3, 0), (2, (2, 0, 11), 4, 0)]), (93, [(1, (1, 3, 0), 0, 0)])]
noncomputable def ac_305 : AC := .inr (1, jl_n [sp_95, sp_84])
noncomputable def hq_309 : HP := [(true, ac_159), (true, ac_305), (false, am_2)]
noncomputable def ac_306 : AC := .inr (1, jl_n [js_1 52 6, sp_85, sp_12, sp_58, sp_8])
noncomputable def hq_310 : HP := [(true, ac_161), (true, ac_306), (false, am_2)]
noncomputable def ac_307 : AC := .inr (1, jl_n [sp_96, jl_x (1, (0, 4, 0)), sp_98])
noncomputable def hq_311 : HP := [(true, ac_163), (true, ac_307), (false, am_2)]
noncomputable def ac_308 : AC := .inr (1, jl_n [sp_96, jl_x (1, (0, 3, 0)), sp_98])
noncomputable def hq_312 : HP := [(true, ac_163), (true, ac_308), (false, am_2)]
noncomputable def ac_309 : AC := .inr (1, jl_n [sp_96, jl_x (1, (0, 2, 0)), sp_98])
noncomputable def hq_313 : HP := [(true, ac_163), (true, ac_309), (false, am_2)]
noncomputable def ac_310 : AC := .inr (1, jl_n [sp_95, jl_x (2, (0, 1, 0)), sp_98])
noncomputable def hq_314 : HP := [(true, ac_163), (true, ac_310), (false, am_2)]
noncomputable def ac_311 : AC := .inr (1, jl_n [sp_96, jl_x (1, (0, 0, 0)), sp_98])
noncomputable def hq_315 : HP := [(true, ac_163), (true, ac_311), (false, am_2)]
noncomputable def ac_312 : AC := .inr (1, jl_n [sp_99, js_2 2 3 4, sp_100])
noncomputable def hq_316 : HP := [(true, ac_163), (true, ac_312), (false, am_2)]
noncomputable def ac_313 : AC := .inr (1, jl_n [sp_99, js_2 2 2 4, sp_100])
noncomputable def hq_317 : HP := [(true, ac_163), (true, ac_313), (false, am_2)]
noncomputable def ac_314 : AC := .inr (1, jl_n [sp_99, js_2 2 1 4, sp_100])
noncomputable def hq_318 : HP := [(true, ac_163), (true, ac_314), (false, am_2)]
noncomputable def ac_315 : AC := .inr (1, jl_n [sp_99, sp_8])
noncomputable def hq_319 : HP := [(true, ac_163), (true, ac_315), (false, am_2)]
noncomputable def ac_316 : AC := .inr (1, jl_n [sp_99, js_2 2 2 3, sp_100])
noncomputable def hq_320 : HP := [(true, ac_163), (true, ac_316), (false, am_2)]
noncomputable def ac_317 : AC := .inr (1, jl_n [sp_99, js_2 2 1 3, sp_100])
noncomputable def hq_321 : HP := [(true, ac_163), (true, ac_317), (false, am_2)]
noncomputable def ac_318 : AC := .inr (1, jl_n [sp_99, js_2 2 0 3, sp_100])
noncomputable def hq_322 : HP := [(true, ac_163), (true, ac_318), (false, am_2)]
noncomputable def ac_319 : AC := .inr (1, jl_n [sp_99, js_2 2 1 2, sp_100])
noncomputable def hq_323 : HP := [(true, ac_163), (true, ac_319), (false, am_2)]
noncomputable def ac_320 : AC := .inr (1, jl_n [sp_99, js_2 2 0 2, sp_100])
noncomputable def hq_324 : HP := [(true, ac_163), (true, ac_320), (false, am_2)]
noncomputable def ac_321 : AC := .inr (1, jl_n [sp_99, js_2 2 0 1, sp_100])
noncomputable def hq_325 : HP := [(true, ac_163), (true, ac_321), (false, am_2)]
noncomputable def ac_322 : AC := .inr (1, jl_n [sp_101, js_2 3 2 4, sp_102])
noncomputable def hq_326 : HP := [(true, ac_163), (true, ac_322), (false, am_2)]
noncomputable def ac_323 : AC := .inr (1, jl_n [sp_101, js_2 3 1 4, sp_102])
noncomputable def hq_327 : HP := [(true, ac_163), (true, ac_323), (false, am_2)]
noncomputable def ac_324 : AC := .inr (1, jl_n [sp_101, sp_8])
noncomputable def hq_328 : HP := [(true, ac_163), (true, ac_324), (false, am_2)]
noncomputable def ac_325 : AC := .inr (1, jl_n [sp_101, js_2 3 1 3, sp_102])
noncomputable def hq_329 : HP := [(true, ac_163), (true, ac_325), (false, am_2)]
noncomputable def ac_326 : AC := .inr (1, jl_n [sp_101, js_2 3 0 3, sp_102])
noncomputable def hq_330 : HP := [(true, ac_163), (true, ac_326), (false, am_2)]
noncomputable def ac_327 : AC := .inr (1, jl_n [sp_101, js_2 3 0 2, sp_102])
noncomputable def hq_331 : HP := [(true, ac_163), (true, ac_327), (false, am_2)]
noncomputable def ac_328 : AC := .inr (1, jl_n [sp_95, sp_42, sp_97])
noncomputable def hq_332 : HP := [(true, ac_163), (true, ac_328), (false, am_2)]
noncomputable def ac_329 : AC := .inr (1, jl_n [sp_95, jl_x (1, (0, 4, 0)), sp_8])
noncomputable def hq_333 : HP := [(true, ac_163), (true, ac_329), (false, am_2)]
noncomputable def ac_330 : AC := .inr (1, jl_n [sp_95, sp_44, sp_97])
noncomputable def hq_334 : HP := [(true, ac_163), (true, ac_330), (false, am_2)]
noncomputable def ac_331 : AC := .inr (1, jl_n [sp_95, jl_x (1, (0, 5, 0)), sp_8])
noncomputable def hq_335 : HP := [(true, ac_163), (true, ac_331), (false, am_2)]
noncomputable def cu_625_0 : List CUT2 := [((31, [lq 0 6 0, lq 1 0 73, lq 2 0 0], [], gi_218, hq_309), [], ([], 40)), ((31, [lq 0 6 0, lq 1 0 73, lq 2 0 0], [], gi_219, hq_310), [], ([], 0)), ((31, [lq 0 6 0, lq 1 0 73, lq 2 0 16, lq 3 0 4], [], gi_220, hq_311), [], ([], 39))]
noncomputable def cu_625_1 : List CUT2 := [((31, [lq 0 6 0, lq 1 0 73, lq 2 0 8, lq 3 0 3], [], gi_220, hq_312), [], ([], 39)), ((31, [lq 0 6 0, lq 1 0 73, lq 2 0 4, lq 3 0 2], [], gi_220, hq_313), [], ([], 39))]
noncomputable def cu_625_2 : List CUT2 := [((31, [lq 0 6 0, lq 1 0 73, lq 2 0 2, lq 3 0 1], [], gi_221, hq_314), [], ([], 39)), ((31, [lq 0 6 0, lq 1 0 73, lq 2 0 1, lq 3 0 0], [], gi_220, hq_315), [], ([], 39))]
noncomputable def cu_625_3 : List CUT2 := [((31, [lq 0 6 0, lq 1 0 73, lq 2 0 24, lq 3 1 72], [], gi_222, hq_316), [], ([], 38)), ((31, [lq 0 6 0, lq 1 0 73, lq 2 0 20, lq 3 1 72], [], gi_223, hq_317), [], ([], 38)), ((31, [lq 0 6 0, lq 1 0 73, lq 2 0 18, lq 3 1 72], [], gi_224, hq_318), [], ([], 38))]
noncomputable def cu_625_4 : List CUT2 := [((31, [lq 0 6 0, lq 1 0 73, lq 2 0 17, lq 3 1 72], [], gi_225, hq_319), [], ([], 38)), ((31, [lq 0 6 0, lq 1 0 73, lq 2 0 12, lq 3 1 72], [], gi_226, hq_320), [], ([], 38)), ((31, [lq 0 6 0, lq 1 0 73, lq 2 0 10, lq 3 1 72], [], gi_227, hq_321), [], ([], 38))]
noncomputable def cu_625_5 : List CUT2 := [((31, [lq 0 6 0, lq 1 0 73, lq 2 0 9, lq 3 1 72], [], gi_228, hq_322), [], ([], 38)), ((31, [lq 0 6 0, lq 1 0 73, lq 2 0 6, lq 3 1 72], [], gi_229, hq_323), [], ([], 38)), ((31, [lq 0 6 0, lq 1 0 73, lq 2 0 5, lq 3 1 72], [], gi_230, hq_324), [], ([], 38))]
noncomputable def cu_625_6 : List CUT2 := [((31, [lq 0 6 0, lq 1 0 73, lq 2 0 3, lq 3 1 72], [], gi_231, hq_325), [], ([], 38)), ((31, [lq 0 6 0, lq 1 0 73, lq 2 0 28, lq 3 1 72], [], gi_223, hq_326), [], ([], 37)), ((31, [lq 0 6 0, lq 1 0 73, lq 2 0 26, lq 3 1 72], [], gi_224, hq_327), [], ([], 37))]
noncomputable def cu_625_7 : List CUT2 := [((31, [lq 0 6 0, lq 1 0 73, lq 2 0 25, lq 3 1 72], [], gi_225, hq_328), [], ([], 37)), ((31, [lq 0 6 0, lq 1 0 73, lq 2 0 22, lq 3 1 72], [], gi_224, hq_327), [], ([], 37)), ((31, [lq 0 6 0, lq 1 0 73, lq 2 0 21, lq 3 1 72], [], gi_225, hq_328), [], ([], 37))]
noncomputable def cu_625_8 : List CUT2 := [((31, [lq 0 6 0, lq 1 0 73, lq 2 0 19, lq 3 1 72], [], gi_225, hq_328), [], ([], 37)), ((31, [lq 0 6 0, lq 1 0 73, lq 2 0 14, lq 3 1 72], [], gi_227, hq_329), [], ([], 37)), ((31, [lq 0 6 0, lq 1 0 73, lq 2 0 13, lq 3 1 72], [], gi_228, hq_330), [], ([], 37))]
noncomputable def cu_625_9 : List CUT2 := [((31, [lq 0 6 0, lq 1 0 73, lq 2 0 11, lq 3 1 72], [], gi_228, hq_330), [], ([], 37)), ((31, [lq 0 6 0, lq 1 0 73, lq 2 0 7, lq 3 1 72], [], gi_230, hq_331), [], ([], 37)), ((31, [lq 0 6 0, lq 1 0 73, lq 2 0 30, lq 3 1 72], [], gi_232, hq_332), [], ([], 36))]
noncomputable def cu_625_10 : List CUT2 := [((31, [lq 0 6 0, lq 1 0 73, lq 2 0 29, lq 3 1 72], [], gi_225, hq_333), [], ([], 36)), ((31, [lq 0 6 0, lq 1 0 73, lq 2 0 27, lq 3 1 72], [], gi_225, hq_333), [], ([], 36)), ((31, [lq 0 6 0, lq 1 0 73, lq 2 0 23, lq 3 1 72], [], gi_225, hq_333), [], ([], 36)), ((31, [lq 0 6 0, lq 1 0 73, lq 2 0 15, lq 3 1 72], [], gi_233, hq_334), [], ([], 36))]
noncomputable def cu_625_11 : List CUT2 := [((31, [lq 0 6 0, lq 1 0 73, lq 2 0 31, lq 3 1 72], [], gi_225, hq_335), [], ([], 35))]
noncomputable def cu_625 : List CUT2 := cu_625_0 ++ (cu_625_1 ++ (cu_625_2 ++ (cu_625_3 ++ (cu_625_4 ++ (cu_625_5 ++ (cu_625_6 ++ (cu_625_7 ++ (cu_625_8 ++ (cu_625_9 ++ (cu_625_10 ++ (cu_625_11)))))))))))
theorem ch_625 : staG tb_X12_readVoter 1 bt_RX12 [] ct_547 rf_625 [] cu_625 64 con_625 = true := by decide +kernel
theorem cc_625_0 : cu_625_0.all (cutG tb_X12_readVoter 1 bt_RX12 [] ct_547 rf_625 [] cu_625 64 con_625) = true := by decide +kernel
theorem cc_625_1 : cu_625_1.all (cutG tb_X12_readVoter 1 bt_RX12 [] ct_547 rf_625 [] cu_625 64 con_625) = true := by decide +kernel
theorem cc_625_2 : cu_625_2.all (cutG tb_X12_readVoter 1 bt_RX12 [] ct_547 rf_625 [] cu_625 64 con_625) = true := by decide +kernel
theorem cc_625_3 : cu_625_3.all (cutG tb_X12_readVoter 1 bt_RX12 [] ct_547 rf_625 [] cu_625 64 con_625) = true := by decide +kernel
theorem cc_625_4 : cu_625_4.all (cutG tb_X12_readVoter 1 bt_RX12 [] ct_547 rf_625 [] cu_625 64 con_625) = true := by decide +kernel
theorem cc_625_5 : cu_625_5.all (cutG tb_X12_readVoter 1 bt_RX12 [] ct_547 rf_625 [] cu_625 64 con_625) = true := by decide +kernel
theorem cc_625_6 : cu_625_6.all (cutG tb_X12_readVoter 1 bt_RX12 [] ct_547 rf_625 [] cu_625 64 con_625) = true := by decide +kernel
theorem cc_625_7 : cu_625_7.all (cutG tb_X12_readVoter 1 bt_RX12 [] ct_547 rf_625 [] cu_625 64 con_625) = true := by decide +kernel
theorem cc_625_8 : cu_625_8.all (cutG tb_X12_readVoter 1 bt_RX12 [] ct_547 rf_625 [] cu_625 64 con_625) = true := by decide +kernel
theorem cc_625_9 : cu_625_9.all (cutG tb_X12_readVoter 1 bt_RX12 [] ct_547 rf_625 [] cu_625 64 con_625) = true := by decide +kernel
theorem cc_625_10 : cu_625_10.all (cutG tb_X12_readVoter 1 bt_RX12 [] ct_547 rf_625 [] cu_625 64 con_625) = true := by decide +kernel
theorem cc_625_11 : cu_625_11.all (cutG tb_X12_readVoter 1 bt_RX12 [] ct_547 rf_625 [] cu_625 64 con_625) = true := by decide +kernel
theorem vl_625 (l : Launch) : Vld2 l vwCl gTbl con_625 := conR_ok3 gT_all (hd_625) rfl pn_RX12 tk_X12_readVoter bo_RX12 xo_RX12 (cto_547 l) ch_625 (cut_app (cut_all cc_625_0) (cut_app (cut_all cc_625_1) (cut_app (cut_all cc_625_2) (cut_app (cut_all cc_625_3) (cut_app (cut_all cc_625_4) (cut_app (cut_all cc_625_5) (cut_app (cut_all cc_625_6) (cut_app (cut_all cc_625_7) (cut_app (cut_all cc_625_8) (cut_app (cut_all cc_625_9) (cut_app (cut_all cc_625_10) (cut_all cc_625_11))))))))))))
