/-! ===== contracts, 9 ===== -/
/-- RookHustingModel readVoter -/
noncomputable def ac_232 : AC := .inr (1, jl_n [sp_54, sp_53])
noncomputable def gi_278 : GI := jl_n [gp_138, jl_i 2 3, jl_z 16]
noncomputable def ac_233 : AC := .inr (1, jl_n [sp_23, sp_51, sp_70])
noncomputable def hq_227 : HP := [(true, ac_149), (true, ac_233), (false, am_2)]
noncomputable def ac_234 : AC := .inr (1, jl_n [js_1 52 6, jl_x (1, (0, 3, 0)), sp_72, sp_70])
noncomputable def hq_228 : HP := [(true, ac_151), (true, ac_234), (false, am_2)]
noncomputable def con_617 : Con2 := ((yX12_readVoter, cX12_readVoter, 4, none), (12, 289), ([(6, 0, 0)], gi_215, [ac_148, ac_232, am_2], []), [((9, 0, 0), gi_278, hq_227, [], tg_11), ((9, 0, 0), gi_217, hq_228, [], tg_11)])
theorem hd_617 : con_617.1 = (yX12_readVoter, cX12_readVoter, 4, none) := rfl
noncomputable def rf_617 : List (Nat × List POP) := [(0, [(1, (2, 1, 6), 0, 0)]), (54, [(2, (2, 0, 11), 0, 0), (2, (2, 0, 11), 1, 0), (2, (2, 0, 11), 2, 0), (2, (2, 0, 11), 3, 0), (2, (2, 0, 11), 4, 0)]), (93, [(1, (1, 3, 0), 0, 0)])]
noncomputable def ac_235 : AC := .inr (1, jl_n [sp_73, sp_52])
noncomputable def hq_229 : HP := [(true, ac_159), (true, ac_235), (false, am_2)]
noncomputable def ac_236 : AC := .inr (1, jl_n [sp_54, sp_24, sp_12, sp_58, sp_9])
noncomputable def hq_230 : HP := [(true, ac_161), (true, ac_236), (false, am_2)]
noncomputable def ac_237 : AC := .inr (1, jl_n [sp_74, jl_x (1, (0, 4, 0)), sp_75])
noncomputable def hq_231 : HP := [(true, ac_163), (true, ac_237), (false, am_2)]
noncomputable def ac_238 : AC := .inr (1, jl_n [sp_74, jl_x (1, (0, 3, 0)), sp_75])
noncomputable def hq_232 : HP := [(true, ac_163), (true, ac_238), (false, am_2)]
noncomputable def ac_239 : AC := .inr (1, jl_n [sp_74, jl_x (1, (0, 2, 0)), sp_75])
noncomputable def hq_233 : HP := [(true, ac_163), (true, ac_239), (false, am_2)]
noncomputable def ac_240 : AC := .inr (1, jl_n [sp_73, jl_x (2, (0, 1, 0)), sp_75])
noncomputable def hq_234 : HP := [(true, ac_163), (true, ac_240), (false, am_2)]
noncomputable def ac_241 : AC := .inr (1, jl_n [sp_74, jl_x (1, (0, 0, 0)), sp_75])
noncomputable def hq_235 : HP := [(true, ac_163), (true, ac_241), (false, am_2)]
noncomputable def ac_242 : AC := .inr (1, jl_n [sp_76, js_2 2 3 4, sp_77])
noncomputable def hq_236 : HP := [(true, ac_163), (true, ac_242), (false, am_2)]
noncomputable def ac_243 : AC := .inr (1, jl_n [sp_76, js_2 2 2 4, sp_77])
noncomputable def hq_237 : HP := [(true, ac_163), (true, ac_243), (false, am_2)]
noncomputable def ac_244 : AC := .inr (1, jl_n [sp_76, js_2 2 1 4, sp_77])
noncomputable def hq_238 : HP := [(true, ac_163), (true, ac_244), (false, am_2)]
noncomputable def ac_245 : AC := .inr (1, jl_n [sp_76, sp_9])
noncomputable def hq_239 : HP := [(true, ac_163), (true, ac_245), (false, am_2)]
noncomputable def ac_246 : AC := .inr (1, jl_n [sp_76, js_2 2 2 3, sp_77])
noncomputable def hq_240 : HP := [(true, ac_163), (true, ac_246), (false, am_2)]
noncomputable def ac_247 : AC := .inr (1, jl_n [sp_76, js_2 2 1 3, sp_77])
noncomputable def hq_241 : HP := [(true, ac_163), (true, ac_247), (false, am_2)]
noncomputable def ac_248 : AC := .inr (1, jl_n [sp_76, js_2 2 0 3, sp_77])
noncomputable def hq_242 : HP := [(true, ac_163), (true, ac_248), (false, am_2)]
noncomputable def ac_249 : AC := .inr (1, jl_n [sp_76, js_2 2 1 2, sp_77])
noncomputable def hq_243 : HP := [(true, ac_163), (true, ac_249), (false, am_2)]
noncomputable def ac_250 : AC := .inr (1, jl_n [sp_76, js_2 2 0 2, sp_77])
noncomputable def hq_244 : HP := [(true, ac_163), (true, ac_250), (false, am_2)]
noncomputable def ac_251 : AC := .inr (1, jl_n [sp_76, js_2 2 0 1, sp_77])
noncomputable def hq_245 : HP := [(true, ac_163), (true, ac_251), (false, am_2)]
noncomputable def ac_252 : AC := .inr (1, jl_n [sp_78, js_2 3 2 4, sp_79])
noncomputable def hq_246 : HP := [(true, ac_163), (true, ac_252), (false, am_2)]
noncomputable def ac_253 : AC := .inr (1, jl_n [sp_78, js_2 3 1 4, sp_79])
noncomputable def hq_247 : HP := [(true, ac_163), (true, ac_253), (false, am_2)]
noncomputable def ac_254 : AC := .inr (1, jl_n [sp_78, sp_9])
noncomputable def hq_248 : HP := [(true, ac_163), (true, ac_254), (false, am_2)]
noncomputable def ac_255 : AC := .inr (1, jl_n [sp_78, js_2 3 1 3, sp_79])
noncomputable def hq_249 : HP := [(true, ac_163), (true, ac_255), (false, am_2)]
noncomputable def ac_256 : AC := .inr (1, jl_n [sp_78, js_2 3 0 3, sp_79])
noncomputable def hq_250 : HP := [(true, ac_163), (true, ac_256), (false, am_2)]
noncomputable def ac_257 : AC := .inr (1, jl_n [sp_78, js_2 3 0 2, sp_79])
noncomputable def hq_251 : HP := [(true, ac_163), (true, ac_257), (false, am_2)]
noncomputable def ac_258 : AC := .inr (1, jl_n [sp_73, sp_43, sp_26])
noncomputable def hq_252 : HP := [(true, ac_163), (true, ac_258), (false, am_2)]
noncomputable def ac_259 : AC := .inr (1, jl_n [sp_73, jl_x (1, (0, 4, 0)), sp_9])
noncomputable def hq_253 : HP := [(true, ac_163), (true, ac_259), (false, am_2)]
noncomputable def ac_260 : AC := .inr (1, jl_n [sp_73, sp_45, sp_26])
noncomputable def hq_254 : HP := [(true, ac_163), (true, ac_260), (false, am_2)]
noncomputable def ac_261 : AC := .inr (1, jl_n [sp_73, jl_x (1, (0, 5, 0)), sp_9])
noncomputable def hq_255 : HP := [(true, ac_163), (true, ac_261), (false, am_2)]
noncomputable def cu_617_0 : List CUT2 := [((31, [lq 0 6 0, lq 1 0 59, lq 2 0 0], [], gi_218, hq_229), [], ([], 40)), ((31, [lq 0 6 0, lq 1 0 59, lq 2 0 0], [], gi_219, hq_230), [], ([], 0)), ((31, [lq 0 6 0, lq 1 0 59, lq 2 0 16, lq 3 0 4], [], gi_220, hq_231), [], ([], 39))]
noncomputable def cu_617_1 : List CUT2 := [((31, [lq 0 6 0, lq 1 0 59, lq 2 0 8, lq 3 0 3], [], gi_220, hq_232), [], ([], 39)), ((31, [lq 0 6 0, lq 1 0 59, lq 2 0 4, lq 3 0 2], [], gi_220, hq_233), [], ([], 39))]
noncomputable def cu_617_2 : List CUT2 := [((31, [lq 0 6 0, lq 1 0 59, lq 2 0 2, lq 3 0 1], [], gi_221, hq_234), [], ([], 39)), ((31, [lq 0 6 0, lq 1 0 59, lq 2 0 1, lq 3 0 0], [], gi_220, hq_235), [], ([], 39))]
noncomputable def cu_617_3 : List CUT2 := [((31, [lq 0 6 0, lq 1 0 59, lq 2 0 24, lq 3 1 72], [], gi_222, hq_236), [], ([], 38)), ((31, [lq 0 6 0, lq 1 0 59, lq 2 0 20, lq 3 1 72], [], gi_223, hq_237), [], ([], 38)), ((31, [lq 0 6 0, lq 1 0 59, lq 2 0 18, lq 3 1 72], [], gi_224, hq_238), [], ([], 38))]
noncomputable def cu_617_4 : List CUT2 := [((31, [lq 0 6 0, lq 1 0 59, lq 2 0 17, lq 3 1 72], [], gi_225, hq_239), [], ([], 38)), ((31, [lq 0 6 0, lq 1 0 59, lq 2 0 12, lq 3 1 72], [], gi_226, hq_240), [], ([], 38)), ((31, [lq 0 6 0, lq 1 0 59, lq 2 0 10, lq 3 1 72], [], gi_227, hq_241), [], ([], 38))]
noncomputable def cu_617_5 : List CUT2 := [((31, [lq 0 6 0, lq 1 0 59, lq 2 0 9, lq 3 1 72], [], gi_228, hq_242), [], ([], 38)), ((31, [lq 0 6 0, lq 1 0 59, lq 2 0 6, lq 3 1 72], [], gi_229, hq_243), [], ([], 38)), ((31, [lq 0 6 0, lq 1 0 59, lq 2 0 5, lq 3 1 72], [], gi_230, hq_244), [], ([], 38))]
noncomputable def cu_617_6 : List CUT2 := [((31, [lq 0 6 0, lq 1 0 59, lq 2 0 3, lq 3 1 72], [], gi_231, hq_245), [], ([], 38)), ((31, [lq 0 6 0, lq 1 0 59, lq 2 0 28, lq 3 1 72], [], gi_223, hq_246), [], ([], 37)), ((31, [lq 0 6 0, lq 1 0 59, lq 2 0 26, lq 3 1 72], [], gi_224, hq_247), [], ([], 37))]
noncomputable def cu_617_7 : List CUT2 := [((31, [lq 0 6 0, lq 1 0 59, lq 2 0 25, lq 3 1 72], [], gi_225, hq_248), [], ([], 37)), ((31, [lq 0 6 0, lq 1 0 59, lq 2 0 22, lq 3 1 72], [], gi_224, hq_247), [], ([], 37)), ((31, [lq 0 6 0, lq 1 0 59, lq 2 0 21, lq 3 1 72], [], gi_225, hq_248), [], ([], 37))]
noncomputable def cu_617_8 : List CUT2 := [((31, [lq 0 6 0, lq 1 0 59, lq 2 0 19, lq 3 1 72], [], gi_225, hq_248), [], ([], 37)), ((31, [lq 0 6 0, lq 1 0 59, lq 2 0 14, lq 3 1 72], [], gi_227, hq_249), [], ([], 37)), ((31, [lq 0 6 0, lq 1 0 59, lq 2 0 13, lq 3 1 72], [], gi_228, hq_250), [], ([], 37))]
noncomputable def cu_617_9 : List CUT2 := [((31, [lq 0 6 0, lq 1 0 59, lq 2 0 11, lq 3 1 72], [], gi_228, hq_250), [], ([], 37)), ((31, [lq 0 6 0, lq 1 0 59, lq 2 0 7, lq 3 1 72], [], gi_230, hq_251), [], ([], 37)), ((31, [lq 0 6 0, lq 1 0 59, lq 2 0 30, lq 3 1 72], [], gi_232, hq_252), [], ([], 36))]
noncomputable def cu_617_10 : List CUT2 := [((31, [lq 0 6 0, lq 1 0 59, lq 2 0 29, lq 3 1 72], [], gi_225, hq_253), [], ([], 36)), ((31, [lq 0 6 0, lq 1 0 59, lq 2 0 27, lq 3 1 72], [], gi_225, hq_253), [], ([], 36)), ((31, [lq 0 6 0, lq 1 0 59, lq 2 0 23, lq 3 1 72], [], gi_225, hq_253), [], ([], 36)), ((31, [lq 0 6 0, lq 1 0 59, lq 2 0 15, lq 3 1 72], [], gi_233, hq_254), [], ([], 36))]
noncomputable def cu_617_11 : List CUT2 := [((31, [lq 0 6 0, lq 1 0 59, lq 2 0 31, lq 3 1 72], [], gi_225, hq_255), [], ([], 35))]
noncomputable def cu_617 : List CUT2 := cu_617_0 ++ (cu_617_1 ++ (cu_617_2 ++ (cu_617_3 ++ (cu_617_4 ++ (cu_617_5 ++ (cu_617_6 ++ (cu_617_7 ++ (cu_617_8 ++ (cu_617_9 ++ (cu_617_10 ++ (cu_617_11)))))))))))
theorem ch_617 : staG tb_X12_readVoter 1 bt_RX12 [] ct_547 rf_617 [] cu_617 64 con_617 = true := by decide +kernel
theorem cc_617_0 : cu_617_0.all (cutG tb_X12_readVoter 1 bt_RX12 [] ct_547 rf_617 [] cu_617 64 con_617) = true := by decide +kernel
theorem cc_617_1 : cu_617_1.all (cutG tb_X12_readVoter 1 bt_RX12 [] ct_547 rf_617 [] cu_617 64 con_617) = true := by decide +kernel
theorem cc_617_2 : cu_617_2.all (cutG tb_X12_readVoter 1 bt_RX12 [] ct_547 rf_617 [] cu_617 64 con_617) = true := by decide +kernel
theorem cc_617_3 : cu_617_3.all (cutG tb_X12_readVoter 1 bt_RX12 [] ct_547 rf_617 [] cu_617 64 con_617) = true := by decide +kernel
theorem cc_617_4 : cu_617_4.all (cutG tb_X12_readVoter 1 bt_RX12 [] ct_547 rf_617 [] cu_617 64 con_617) = true := by decide +kernel
theorem cc_617_5 : cu_617_5.all (cutG tb_X12_readVoter 1 bt_RX12 [] ct_547 rf_617 [] cu_617 64 con_617) = true := by decide +kernel
theorem cc_617_6 : cu_617_6.all (cutG tb_X12_readVoter 1 bt_RX12 [] ct_547 rf_617 [] cu_617 64 con_617) = true := by decide +kernel
theorem cc_617_7 : cu_617_7.all (cutG tb_X12_readVoter 1 bt_RX12 [] ct_547 rf_617 [] cu_617 64 con_617) = true := by decide +kernel
theorem cc_617_8 : cu_617_8.all (cutG tb_X12_readVoter 1 bt_RX12 [] ct_547 rf_617 [] cu_617 64 con_617) = true := by decide +kernel
theorem cc_617_9 : cu_617_9.all (cutG tb_X12_readVoter 1 bt_RX12 [] ct_547 rf_617 [] cu_617 64 con_617) = true := by decide +kernel
theorem cc_617_10 : cu_617_10.all (cutG tb_X12_readVoter 1 bt_RX12 [] ct_547 rf_617 [] cu_617 64 con_617) = true := by decide +kernel
theorem cc_617_11 : cu_617_11.all (cutG tb_X12_readVoter 1 bt_RX12 [] ct_547 rf_617 [] cu_617 64 con_617) = true := by decide +kernel
theorem vl_617 (l : Launch) : Vld2 l vwCl gTbl con_617 := conR_ok3 gT_all (hd_617) rfl pn_RX12 tk_X12_readVoter bo_RX12 xo_RX12 (cto_547 l) ch_617 (cut_app (cut_all cc_617_0) (cut_app (cut_all cc_617_1) (cut_app (cut_all cc_617_2) (cut_app (cut_all cc_617_3) (cut_app (cut_all cc_617_4) (cut_app (cut_all cc_617_5) (cut_app (cut_all cc_617_6) (cut_app (cut_all cc_617_7) (cut_app (cut_all cc_617_8) (cut_app (cut_all cc_617_9) (cut_app (cut_all cc_617_10) (cut_all cc_617_11))))))))))))
