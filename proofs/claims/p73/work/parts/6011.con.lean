/-! ===== contracts, 11 ===== -/
/-- RookHustingModel readVoter -/
noncomputable def ac_267 : AC := .inr (1, jl_n [sp_81, sp_70])
noncomputable def gi_279 : GI := jl_n [gp_138, jl_i 3 4, jl_z 16]
noncomputable def ac_268 : AC := .inr (1, jl_n [sp_83, sp_84])
noncomputable def hq_267 : HP := [(true, ac_149), (true, ac_268), (false, am_2)]
noncomputable def ac_269 : AC := .inr (1, jl_n [js_1 52 6, sp_85, sp_56, sp_8])
noncomputable def hq_268 : HP := [(true, ac_151), (true, ac_269), (false, am_2)]
noncomputable def con_621 : Con2 := ((yX12_readVoter, cX12_readVoter, 4, none), (12, 289), ([(6, 0, 0)], gi_215, [ac_148, ac_267, am_2], []), [((9, 0, 0), gi_279, hq_267, [], tg_11), ((9, 0, 0), gi_217, hq_268, [], tg_11)])
theorem hd_621 : con_621.1 = (yX12_readVoter, cX12_readVoter, 4, none) := rfl
noncomputable def rf_621 : List (Nat × List POP) := [(0, [(1, (2, 1, 6), 0, 0)]), (54, [(2, (2, 0, 11), 0, 0), (2, (2, 0, 11), 1, 0), (2, (2, 0, 11), 2, 0), (2, (2, 0, 11), 3, 0), (2, (2, 0, 11), 4, 0)]), (93, [(1, (1, 3, 0), 0, 0)])]
noncomputable def ac_270 : AC := .inr (1, jl_n [sp_86, jl_x (1, (0, 0, 0)), sp_27])
noncomputable def hq_269 : HP := [(true, ac_159), (true, ac_270), (false, am_2)]
noncomputable def ac_271 : AC := .inr (1, jl_n [sp_81, sp_58, sp_27])
noncomputable def hq_270 : HP := [(true, ac_161), (true, ac_271), (false, am_2)]
noncomputable def ac_272 : AC := .inr (1, jl_n [sp_87, jl_x (1, (0, 4, 0)), sp_88])
noncomputable def hq_271 : HP := [(true, ac_163), (true, ac_272), (false, am_2)]
noncomputable def ac_273 : AC := .inr (1, jl_n [sp_87, jl_x (1, (0, 3, 0)), sp_88])
noncomputable def hq_272 : HP := [(true, ac_163), (true, ac_273), (false, am_2)]
noncomputable def ac_274 : AC := .inr (1, jl_n [sp_87, jl_x (1, (0, 2, 0)), sp_88])
noncomputable def hq_273 : HP := [(true, ac_163), (true, ac_274), (false, am_2)]
noncomputable def ac_275 : AC := .inr (1, jl_n [sp_86, jl_x (2, (0, 1, 0)), sp_88])
noncomputable def hq_274 : HP := [(true, ac_163), (true, ac_275), (false, am_2)]
noncomputable def ac_276 : AC := .inr (1, jl_n [sp_87, jl_x (1, (0, 0, 0)), sp_88])
noncomputable def hq_275 : HP := [(true, ac_163), (true, ac_276), (false, am_2)]
noncomputable def ac_277 : AC := .inr (1, jl_n [sp_89, js_2 2 3 4, sp_90])
noncomputable def hq_276 : HP := [(true, ac_163), (true, ac_277), (false, am_2)]
noncomputable def ac_278 : AC := .inr (1, jl_n [sp_89, js_2 2 2 4, sp_90])
noncomputable def hq_277 : HP := [(true, ac_163), (true, ac_278), (false, am_2)]
noncomputable def ac_279 : AC := .inr (1, jl_n [sp_89, js_2 2 1 4, sp_90])
noncomputable def hq_278 : HP := [(true, ac_163), (true, ac_279), (false, am_2)]
noncomputable def ac_280 : AC := .inr (1, jl_n [sp_89, sp_27])
noncomputable def hq_279 : HP := [(true, ac_163), (true, ac_280), (false, am_2)]
noncomputable def ac_281 : AC := .inr (1, jl_n [sp_89, js_2 2 2 3, sp_90])
noncomputable def hq_280 : HP := [(true, ac_163), (true, ac_281), (false, am_2)]
noncomputable def ac_282 : AC := .inr (1, jl_n [sp_89, js_2 2 1 3, sp_90])
noncomputable def hq_281 : HP := [(true, ac_163), (true, ac_282), (false, am_2)]
noncomputable def ac_283 : AC := .inr (1, jl_n [sp_89, js_2 2 0 3, sp_90])
noncomputable def hq_282 : HP := [(true, ac_163), (true, ac_283), (false, am_2)]
noncomputable def ac_284 : AC := .inr (1, jl_n [sp_89, js_2 2 1 2, sp_90])
noncomputable def hq_283 : HP := [(true, ac_163), (true, ac_284), (false, am_2)]
noncomputable def ac_285 : AC := .inr (1, jl_n [sp_89, js_2 2 0 2, sp_90])
noncomputable def hq_284 : HP := [(true, ac_163), (true, ac_285), (false, am_2)]
noncomputable def ac_286 : AC := .inr (1, jl_n [sp_89, js_2 2 0 1, sp_90])
noncomputable def hq_285 : HP := [(true, ac_163), (true, ac_286), (false, am_2)]
noncomputable def ac_287 : AC := .inr (1, jl_n [sp_91, js_2 3 2 4, sp_92])
noncomputable def hq_286 : HP := [(true, ac_163), (true, ac_287), (false, am_2)]
noncomputable def ac_288 : AC := .inr (1, jl_n [sp_91, js_2 3 1 4, sp_92])
noncomputable def hq_287 : HP := [(true, ac_163), (true, ac_288), (false, am_2)]
noncomputable def ac_289 : AC := .inr (1, jl_n [sp_91, sp_27])
noncomputable def hq_288 : HP := [(true, ac_163), (true, ac_289), (false, am_2)]
noncomputable def ac_290 : AC := .inr (1, jl_n [sp_91, js_2 3 1 3, sp_92])
noncomputable def hq_289 : HP := [(true, ac_163), (true, ac_290), (false, am_2)]
noncomputable def ac_291 : AC := .inr (1, jl_n [sp_91, js_2 3 0 3, sp_92])
noncomputable def hq_290 : HP := [(true, ac_163), (true, ac_291), (false, am_2)]
noncomputable def ac_292 : AC := .inr (1, jl_n [sp_91, js_2 3 0 2, sp_92])
noncomputable def hq_291 : HP := [(true, ac_163), (true, ac_292), (false, am_2)]
noncomputable def ac_293 : AC := .inr (1, jl_n [sp_86, sp_43, sp_7])
noncomputable def hq_292 : HP := [(true, ac_163), (true, ac_293), (false, am_2)]
noncomputable def ac_294 : AC := .inr (1, jl_n [sp_86, jl_x (1, (0, 4, 0)), sp_27])
noncomputable def hq_293 : HP := [(true, ac_163), (true, ac_294), (false, am_2)]
noncomputable def ac_295 : AC := .inr (1, jl_n [sp_86, sp_45, sp_7])
noncomputable def hq_294 : HP := [(true, ac_163), (true, ac_295), (false, am_2)]
noncomputable def ac_296 : AC := .inr (1, jl_n [sp_86, jl_x (1, (0, 5, 0)), sp_27])
noncomputable def hq_295 : HP := [(true, ac_163), (true, ac_296), (false, am_2)]
noncomputable def cu_621_0 : List CUT2 := [((31, [lq 0 6 0, lq 1 0 66, lq 2 0 0], [], gi_218, hq_269), [], ([], 40)), ((31, [lq 0 6 0, lq 1 0 66, lq 2 0 0], [], gi_219, hq_270), [], ([], 0)), ((31, [lq 0 6 0, lq 1 0 66, lq 2 0 16, lq 3 0 4], [], gi_220, hq_271), [], ([], 39))]
noncomputable def cu_621_1 : List CUT2 := [((31, [lq 0 6 0, lq 1 0 66, lq 2 0 8, lq 3 0 3], [], gi_220, hq_272), [], ([], 39)), ((31, [lq 0 6 0, lq 1 0 66, lq 2 0 4, lq 3 0 2], [], gi_220, hq_273), [], ([], 39))]
noncomputable def cu_621_2 : List CUT2 := [((31, [lq 0 6 0, lq 1 0 66, lq 2 0 2, lq 3 0 1], [], gi_221, hq_274), [], ([], 39)), ((31, [lq 0 6 0, lq 1 0 66, lq 2 0 1, lq 3 0 0], [], gi_220, hq_275), [], ([], 39))]
noncomputable def cu_621_3 : List CUT2 := [((31, [lq 0 6 0, lq 1 0 66, lq 2 0 24, lq 3 1 72], [], gi_222, hq_276), [], ([], 38)), ((31, [lq 0 6 0, lq 1 0 66, lq 2 0 20, lq 3 1 72], [], gi_223, hq_277), [], ([], 38)), ((31, [lq 0 6 0, lq 1 0 66, lq 2 0 18, lq 3 1 72], [], gi_224, hq_278), [], ([], 38))]
noncomputable def cu_621_4 : List CUT2 := [((31, [lq 0 6 0, lq 1 0 66, lq 2 0 17, lq 3 1 72], [], gi_225, hq_279), [], ([], 38)), ((31, [lq 0 6 0, lq 1 0 66, lq 2 0 12, lq 3 1 72], [], gi_226, hq_280), [], ([], 38)), ((31, [lq 0 6 0, lq 1 0 66, lq 2 0 10, lq 3 1 72], [], gi_227, hq_281), [], ([], 38))]
noncomputable def cu_621_5 : List CUT2 := [((31, [lq 0 6 0, lq 1 0 66, lq 2 0 9, lq 3 1 72], [], gi_228, hq_282), [], ([], 38)), ((31, [lq 0 6 0, lq 1 0 66, lq 2 0 6, lq 3 1 72], [], gi_229, hq_283), [], ([], 38)), ((31, [lq 0 6 0, lq 1 0 66, lq 2 0 5, lq 3 1 72], [], gi_230, hq_284), [], ([], 38))]
noncomputable def cu_621_6 : List CUT2 := [((31, [lq 0 6 0, lq 1 0 66, lq 2 0 3, lq 3 1 72], [], gi_231, hq_285), [], ([], 38)), ((31, [lq 0 6 0, lq 1 0 66, lq 2 0 28, lq 3 1 72], [], gi_223, hq_286), [], ([], 37)), ((31, [lq 0 6 0, lq 1 0 66, lq 2 0 26, lq 3 1 72], [], gi_224, hq_287), [], ([], 37))]
noncomputable def cu_621_7 : List CUT2 := [((31, [lq 0 6 0, lq 1 0 66, lq 2 0 25, lq 3 1 72], [], gi_225, hq_288), [], ([], 37)), ((31, [lq 0 6 0, lq 1 0 66, lq 2 0 22, lq 3 1 72], [], gi_224, hq_287), [], ([], 37)), ((31, [lq 0 6 0, lq 1 0 66, lq 2 0 21, lq 3 1 72], [], gi_225, hq_288), [], ([], 37))]
noncomputable def cu_621_8 : List CUT2 := [((31, [lq 0 6 0, lq 1 0 66, lq 2 0 19, lq 3 1 72], [], gi_225, hq_288), [], ([], 37)), ((31, [lq 0 6 0, lq 1 0 66, lq 2 0 14, lq 3 1 72], [], gi_227, hq_289), [], ([], 37)), ((31, [lq 0 6 0, lq 1 0 66, lq 2 0 13, lq 3 1 72], [], gi_228, hq_290), [], ([], 37))]
noncomputable def cu_621_9 : List CUT2 := [((31, [lq 0 6 0, lq 1 0 66, lq 2 0 11, lq 3 1 72], [], gi_228, hq_290), [], ([], 37)), ((31, [lq 0 6 0, lq 1 0 66, lq 2 0 7, lq 3 1 72], [], gi_230, hq_291), [], ([], 37)), ((31, [lq 0 6 0, lq 1 0 66, lq 2 0 30, lq 3 1 72], [], gi_232, hq_292), [], ([], 36))]
noncomputable def cu_621_10 : List CUT2 := [((31, [lq 0 6 0, lq 1 0 66, lq 2 0 29, lq 3 1 72], [], gi_225, hq_293), [], ([], 36)), ((31, [lq 0 6 0, lq 1 0 66, lq 2 0 27, lq 3 1 72], [], gi_225, hq_293), [], ([], 36)), ((31, [lq 0 6 0, lq 1 0 66, lq 2 0 23, lq 3 1 72], [], gi_225, hq_293), [], ([], 36)), ((31, [lq 0 6 0, lq 1 0 66, lq 2 0 15, lq 3 1 72], [], gi_233, hq_294), [], ([], 36))]
noncomputable def cu_621_11 : List CUT2 := [((31, [lq 0 6 0, lq 1 0 66, lq 2 0 31, lq 3 1 72], [], gi_225, hq_295), [], ([], 35))]
noncomputable def cu_621 : List CUT2 := cu_621_0 ++ (cu_621_1 ++ (cu_621_2 ++ (cu_621_3 ++ (cu_621_4 ++ (cu_621_5 ++ (cu_621_6 ++ (cu_621_7 ++ (cu_621_8 ++ (cu_621_9 ++ (cu_621_10 ++ (cu_621_11)))))))))))
theorem ch_621 : staG tb_X12_readVoter 1 bt_RX12 [] ct_547 rf_621 [] cu_621 64 con_621 = true := by decide +kernel
theorem cc_621_0 : cu_621_0.all (cutG tb_X12_readVoter 1 bt_RX12 [] ct_547 rf_621 [] cu_621 64 con_621) = true := by decide +kernel
theorem cc_621_1 : cu_621_1.all (cutG tb_X12_readVoter 1 bt_RX12 [] ct_547 rf_621 [] cu_621 64 con_621) = true := by decide +kernel
theorem cc_621_2 : cu_621_2.all (cutG tb_X12_readVoter 1 bt_RX12 [] ct_547 rf_621 [] cu_621 64 con_621) = true := by decide +kernel
theorem cc_621_3 : cu_621_3.all (cutG tb_X12_readVoter 1 bt_RX12 [] ct_547 rf_621 [] cu_621 64 con_621) = true := by decide +kernel
theorem cc_621_4 : cu_621_4.all (cutG tb_X12_readVoter 1 bt_RX12 [] ct_547 rf_621 [] cu_621 64 con_621) = true := by decide +kernel
theorem cc_621_5 : cu_621_5.all (cutG tb_X12_readVoter 1 bt_RX12 [] ct_547 rf_621 [] cu_621 64 con_621) = true := by decide +kernel
theorem cc_621_6 : cu_621_6.all (cutG tb_X12_readVoter 1 bt_RX12 [] ct_547 rf_621 [] cu_621 64 con_621) = true := by decide +kernel
theorem cc_621_7 : cu_621_7.all (cutG tb_X12_readVoter 1 bt_RX12 [] ct_547 rf_621 [] cu_621 64 con_621) = true := by decide +kernel
theorem cc_621_8 : cu_621_8.all (cutG tb_X12_readVoter 1 bt_RX12 [] ct_547 rf_621 [] cu_621 64 con_621) = true := by decide +kernel
theorem cc_621_9 : cu_621_9.all (cutG tb_X12_readVoter 1 bt_RX12 [] ct_547 rf_621 [] cu_621 64 con_621) = true := by decide +kernel
theorem cc_621_10 : cu_621_10.all (cutG tb_X12_readVoter 1 bt_RX12 [] ct_547 rf_621 [] cu_621 64 con_621) = true := by decide +kernel
theorem cc_621_11 : cu_621_11.all (cutG tb_X12_readVoter 1 bt_RX12 [] ct_547 rf_621 [] cu_621 64 con_621) = true := by decide +kernel
theorem vl_621 (l : Launch) : Vld2 l vwCl gTbl con_621 := conR_ok3 gT_all (hd_621) rfl pn_RX12 tk_X12_readVoter bo_RX12 xo_RX12 (cto_547 l) ch_621 (cut_app (cut_all cc_621_0) (cut_app (cut_all cc_621_1) (cut_app (cut_all cc_621_2) (cut_app (cut_all cc_621_3) (cut_app (cut_all cc_621_4) (cut_app (cut_all cc_621_5) (cut_app (cut_all cc_621_6) (cut_app (cut_all cc_621_7) (cut_app (cut_all cc_621_8) (cut_app (cut_all cc_621_9) (cut_app (cut_all cc_621_10) (cut_all cc_621_11))))))))))))
