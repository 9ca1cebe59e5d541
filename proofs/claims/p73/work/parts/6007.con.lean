/-! ===== contracts, 7 ===== -/
/-- RookHustingModel readVoter -/
noncomputable def ac_197 : AC := .inr (1, jl_n [sp_50, sp_29])
noncomputable def gi_275 : GI := jl_n [gp_138, jl_i 1 2, jl_z 16]
noncomputable def ac_198 : AC := .inr (1, jl_n [sp_23, sp_53])
noncomputable def hq_187 : HP := [(true, ac_149), (true, ac_198), (false, am_2)]
noncomputable def ac_199 : AC := .inr (1, jl_n [sp_54, sp_24, sp_56, sp_9])
noncomputable def hq_188 : HP := [(true, ac_151), (true, ac_199), (false, am_2)]
noncomputable def con_613 : Con2 := ((yX12_readVoter, cX12_readVoter, 4, none), (12, 289), ([(6, 0, 0)], gi_215, [ac_148, ac_197, am_2], []), [((9, 0, 0), gi_275, hq_187, [], tg_11), ((9, 0, 0), gi_217, hq_188, [], tg_11)])
theorem hd_613 : con_613.1 = (yX12_readVoter, cX12_readVoter, 4, none) := rfl
noncomputable def rf_613 : List (Nat × List POP) := [(0, [(1, (2, 1, 6), 0, 0)]), (54, [(2, (2, 0, 11), 0, 0), (2, (2, 0, 11), 1, 0), (2, (2, 0, 11), 2, 0), (2, (2, 0, 11), 3, 0), (2, (2, 0, 11), 4, 0)]), (93, [(1, (1, 3, 0), 0, 0)])]
noncomputable def ac_200 : AC := .inr (1, jl_n [sp_57, jl_x (1, (0, 0, 0)), sp_28])
noncomputable def hq_189 : HP := [(true, ac_159), (true, ac_200), (false, am_2)]
noncomputable def ac_201 : AC := .inr (1, jl_n [sp_50, sp_58, sp_28])
noncomputable def hq_190 : HP := [(true, ac_161), (true, ac_201), (false, am_2)]
noncomputable def ac_202 : AC := .inr (1, jl_n [sp_60, jl_x (1, (0, 4, 0)), sp_61])
noncomputable def hq_191 : HP := [(true, ac_163), (true, ac_202), (false, am_2)]
noncomputable def ac_203 : AC := .inr (1, jl_n [sp_60, jl_x (1, (0, 3, 0)), sp_61])
noncomputable def hq_192 : HP := [(true, ac_163), (true, ac_203), (false, am_2)]
noncomputable def ac_204 : AC := .inr (1, jl_n [sp_60, jl_x (1, (0, 2, 0)), sp_61])
noncomputable def hq_193 : HP := [(true, ac_163), (true, ac_204), (false, am_2)]
noncomputable def ac_205 : AC := .inr (1, jl_n [sp_57, jl_x (2, (0, 1, 0)), sp_61])
noncomputable def hq_194 : HP := [(true, ac_163), (true, ac_205), (false, am_2)]
noncomputable def ac_206 : AC := .inr (1, jl_n [sp_60, jl_x (1, (0, 0, 0)), sp_61])
noncomputable def hq_195 : HP := [(true, ac_163), (true, ac_206), (false, am_2)]
noncomputable def ac_207 : AC := .inr (1, jl_n [sp_63, js_2 2 3 4, sp_64])
noncomputable def hq_196 : HP := [(true, ac_163), (true, ac_207), (false, am_2)]
noncomputable def ac_208 : AC := .inr (1, jl_n [sp_63, js_2 2 2 4, sp_64])
noncomputable def hq_197 : HP := [(true, ac_163), (true, ac_208), (false, am_2)]
noncomputable def ac_209 : AC := .inr (1, jl_n [sp_63, js_2 2 1 4, sp_64])
noncomputable def hq_198 : HP := [(true, ac_163), (true, ac_209), (false, am_2)]
noncomputable def ac_210 : AC := .inr (1, jl_n [sp_63, sp_28])
noncomputable def hq_199 : HP := [(true, ac_163), (true, ac_210), (false, am_2)]
noncomputable def ac_211 : AC := .inr (1, jl_n [sp_63, js_2 2 2 3, sp_64])
noncomputable def hq_200 : HP := [(true, ac_163), (true, ac_211), (false, am_2)]
noncomputable def ac_212 : AC := .inr (1, jl_n [sp_63, js_2 2 1 3, sp_64])
noncomputable def hq_201 : HP := [(true, ac_163), (true, ac_212), (false, am_2)]
noncomputable def ac_213 : AC := .inr (1, jl_n [sp_63, js_2 2 0 3, sp_64])
noncomputable def hq_202 : HP := [(true, ac_163), (true, ac_213), (false, am_2)]
noncomputable def ac_214 : AC := .inr (1, jl_n [sp_63, js_2 2 1 2, sp_64])
noncomputable def hq_203 : HP := [(true, ac_163), (true, ac_214), (false, am_2)]
noncomputable def ac_215 : AC := .inr (1, jl_n [sp_63, js_2 2 0 2, sp_64])
noncomputable def hq_204 : HP := [(true, ac_163), (true, ac_215), (false, am_2)]
noncomputable def ac_216 : AC := .inr (1, jl_n [sp_63, js_2 2 0 1, sp_64])
noncomputable def hq_205 : HP := [(true, ac_163), (true, ac_216), (false, am_2)]
noncomputable def ac_217 : AC := .inr (1, jl_n [sp_66, js_2 3 2 4, sp_67])
noncomputable def hq_206 : HP := [(true, ac_163), (true, ac_217), (false, am_2)]
noncomputable def ac_218 : AC := .inr (1, jl_n [sp_66, js_2 3 1 4, sp_67])
noncomputable def hq_207 : HP := [(true, ac_163), (true, ac_218), (false, am_2)]
noncomputable def ac_219 : AC := .inr (1, jl_n [sp_66, sp_28])
noncomputable def hq_208 : HP := [(true, ac_163), (true, ac_219), (false, am_2)]
noncomputable def ac_220 : AC := .inr (1, jl_n [sp_66, js_2 3 1 3, sp_67])
noncomputable def hq_209 : HP := [(true, ac_163), (true, ac_220), (false, am_2)]
noncomputable def ac_221 : AC := .inr (1, jl_n [sp_66, js_2 3 0 3, sp_67])
noncomputable def hq_210 : HP := [(true, ac_163), (true, ac_221), (false, am_2)]
noncomputable def ac_222 : AC := .inr (1, jl_n [sp_66, js_2 3 0 2, sp_67])
noncomputable def hq_211 : HP := [(true, ac_163), (true, ac_222), (false, am_2)]
noncomputable def ac_223 : AC := .inr (1, jl_n [sp_57, sp_43, sp_8])
noncomputable def hq_212 : HP := [(true, ac_163), (true, ac_223), (false, am_2)]
noncomputable def ac_224 : AC := .inr (1, jl_n [sp_57, jl_x (1, (0, 4, 0)), sp_28])
noncomputable def hq_213 : HP := [(true, ac_163), (true, ac_224), (false, am_2)]
noncomputable def ac_225 : AC := .inr (1, jl_n [sp_57, sp_45, sp_8])
noncomputable def hq_214 : HP := [(true, ac_163), (true, ac_225), (false, am_2)]
noncomputable def ac_226 : AC := .inr (1, jl_n [sp_57, jl_x (1, (0, 5, 0)), sp_28])
noncomputable def hq_215 : HP := [(true, ac_163), (true, ac_226), (false, am_2)]
noncomputable def cu_613_0 : List CUT2 := [((31, [lq 0 6 0, lq 1 0 52, lq 2 0 0], [], gi_218, hq_189), [], ([], 40)), ((31, [lq 0 6 0, lq 1 0 52, lq 2 0 0], [], gi_219, hq_190), [], ([], 0)), ((31, [lq 0 6 0, lq 1 0 52, lq 2 0 16, lq 3 0 4], [], gi_220, hq_191), [], ([], 39))]
noncomputable def cu_613_1 : List CUT2 := [((31, [lq 0 6 0, lq 1 0 52, lq 2 0 8, lq 3 0 3], [], gi_220, hq_192), [], ([], 39)), ((31, [lq 0 6 0, lq 1 0 52, lq 2 0 4, lq 3 0 2], [], gi_220, hq_193), [], ([], 39))]
noncomputable def cu_613_2 : List CUT2 := [((31, [lq 0 6 0, lq 1 0 52, lq 2 0 2, lq 3 0 1], [], gi_221, hq_194), [], ([], 39)), ((31, [lq 0 6 0, lq 1 0 52, lq 2 0 1, lq 3 0 0], [], gi_220, hq_195), [], ([], 39))]
noncomputable def cu_613_3 : List CUT2 := [((31, [lq 0 6 0, lq 1 0 52, lq 2 0 24, lq 3 1 72], [], gi_222, hq_196), [], ([], 38)), ((31, [lq 0 6 0, lq 1 0 52, lq 2 0 20, lq 3 1 72], [], gi_223, hq_197), [], ([], 38)), ((31, [lq 0 6 0, lq 1 0 52, lq 2 0 18, lq 3 1 72], [], gi_224, hq_198), [], ([], 38))]
noncomputable def cu_613_4 : List CUT2 := [((31, [lq 0 6 0, lq 1 0 52, lq 2 0 17, lq 3 1 72], [], gi_225, hq_199), [], ([], 38)), ((31, [lq 0 6 0, lq 1 0 52, lq 2 0 12, lq 3 1 72], [], gi_226, hq_200), [], ([], 38)), ((31, [lq 0 6 0, lq 1 0 52, lq 2 0 10, lq 3 1 72], [], gi_227, hq_201), [], ([], 38))]
noncomputable def cu_613_5 : List CUT2 := [((31, [lq 0 6 0, lq 1 0 52, lq 2 0 9, lq 3 1 72], [], gi_228, hq_202), [], ([], 38)), ((31, [lq 0 6 0, lq 1 0 52, lq 2 0 6, lq 3 1 72], [], gi_229, hq_203), [], ([], 38)), ((31, [lq 0 6 0, lq 1 0 52, lq 2 0 5, lq 3 1 72], [], gi_230, hq_204), [], ([], 38))]
noncomputable def cu_613_6 : List CUT2 := [((31, [lq 0 6 0, lq 1 0 52, lq 2 0 3, lq 3 1 72], [], gi_231, hq_205), [], ([], 38)), ((31, [lq 0 6 0, lq 1 0 52, lq 2 0 28, lq 3 1 72], [], gi_223, hq_206), [], ([], 37)), ((31, [lq 0 6 0, lq 1 0 52, lq 2 0 26, lq 3 1 72], [], gi_224, hq_207), [], ([], 37))]
noncomputable def cu_613_7 : List CUT2 := [((31, [lq 0 6 0, lq 1 0 52, lq 2 0 25, lq 3 1 72], [], gi_225, hq_208), [], ([], 37)), ((31, [lq 0 6 0, lq 1 0 52, lq 2 0 22, lq 3 1 72], [], gi_224, hq_207), [], ([], 37)), ((31, [lq 0 6 0, lq 1 0 52, lq 2 0 21, lq 3 1 72], [], gi_225, hq_208), [], ([], 37))]
noncomputable def cu_613_8 : List CUT2 := [((31, [lq 0 6 0, lq 1 0 52, lq 2 0 19, lq 3 1 72], [], gi_225, hq_208), [], ([], 37)), ((31, [lq 0 6 0, lq 1 0 52, lq 2 0 14, lq 3 1 72], [], gi_227, hq_209), [], ([], 37)), ((31, [lq 0 6 0, lq 1 0 52, lq 2 0 13, lq 3 1 72], [], gi_228, hq_210), [], ([], 37))]
noncomputable def cu_613_9 : List CUT2 := [((31, [lq 0 6 0, lq 1 0 52, lq 2 0 11, lq 3 1 72], [], gi_228, hq_210), [], ([], 37)), ((31, [lq 0 6 0, lq 1 0 52, lq 2 0 7, lq 3 1 72], [], gi_230, hq_211), [], ([], 37)), ((31, [lq 0 6 0, lq 1 0 52, lq 2 0 30, lq 3 1 72], [], gi_232, hq_212), [], ([], 36))]
noncomputable def cu_613_10 : List CUT2 := [((31, [lq 0 6 0, lq 1 0 52, lq 2 0 29, lq 3 1 72], [], gi_225, hq_213), [], ([], 36)), ((31, [lq 0 6 0, lq 1 0 52, lq 2 0 27, lq 3 1 72], [], gi_225, hq_213), [], ([], 36)), ((31, [lq 0 6 0, lq 1 0 52, lq 2 0 23, lq 3 1 72], [], gi_225, hq_213), [], ([], 36)), ((31, [lq 0 6 0, lq 1 0 52, lq 2 0 15, lq 3 1 72], [], gi_233, hq_214), [], ([], 36))]
noncomputable def cu_613_11 : List CUT2 := [((31, [lq 0 6 0, lq 1 0 52, lq 2 0 31, lq 3 1 72], [], gi_225, hq_215), [], ([], 35))]
noncomputable def cu_613 : List CUT2 := cu_613_0 ++ (cu_613_1 ++ (cu_613_2 ++ (cu_613_3 ++ (cu_613_4 ++ (cu_613_5 ++ (cu_613_6 ++ (cu_613_7 ++ (cu_613_8 ++ (cu_613_9 ++ (cu_613_10 ++ (cu_613_11)))))))))))
theorem ch_613 : staG tb_X12_readVoter 1 bt_RX12 [] ct_547 rf_613 [] cu_613 64 con_613 = true := by decide +kernel
theorem cc_613_0 : cu_613_0.all (cutG tb_X12_readVoter 1 bt_RX12 [] ct_547 rf_613 [] cu_613 64 con_613) = true := by decide +kernel
theorem cc_613_1 : cu_613_1.all (cutG tb_X12_readVoter 1 bt_RX12 [] ct_547 rf_613 [] cu_613 64 con_613) = true := by decide +kernel
theorem cc_613_2 : cu_613_2.all (cutG tb_X12_readVoter 1 bt_RX12 [] ct_547 rf_613 [] cu_613 64 con_613) = true := by decide +kernel
theorem cc_613_3 : cu_613_3.all (cutG tb_X12_readVoter 1 bt_RX12 [] ct_547 rf_613 [] cu_613 64 con_613) = true := by decide +kernel
theorem cc_613_4 : cu_613_4.all (cutG tb_X12_readVoter 1 bt_RX12 [] ct_547 rf_613 [] cu_613 64 con_613) = true := by decide +kernel
theorem cc_613_5 : cu_613_5.all (cutG tb_X12_readVoter 1 bt_RX12 [] ct_547 rf_613 [] cu_613 64 con_613) = true := by decide +kernel
theorem cc_613_6 : cu_613_6.all (cutG tb_X12_readVoter 1 bt_RX12 [] ct_547 rf_613 [] cu_613 64 con_613) = true := by decide +kernel
theorem cc_613_7 : cu_613_7.all (cutG tb_X12_readVoter 1 bt_RX12 [] ct_547 rf_613 [] cu_613 64 con_613) = true := by decide +kernel
theorem cc_613_8 : cu_613_8.all (cutG tb_X12_readVoter 1 bt_RX12 [] ct_547 rf_613 [] cu_613 64 con_613) = true := by decide +kernel
theorem cc_613_9 : cu_613_9.all (cutG tb_X12_readVoter 1 bt_RX12 [] ct_547 rf_613 [] cu_613 64 con_613) = true := by decide +kernel
theorem cc_613_10 : cu_613_10.all (cutG tb_X12_readVoter 1 bt_RX12 [] ct_547 rf_613 [] cu_613 64 con_613) = true := by decide +kernel
theorem cc_613_11 : cu_613_11.all (cutG tb_X12_readVoter 1 bt_RX12 [] ct_547 rf_613 [] cu_613 64 con_613) = true := by decide +kernel
theorem vl_613 (l : Launch) : Vld2 l vwCl gTbl con_613 := conR_ok3 gT_all (hd_613) rfl pn_RX12 tk_X12_readVoter bo_RX12 xo_RX12 (cto_547 l) ch_613 (cut_app (cut_all cc_613_0) (cut_app (cut_all cc_613_1) (cut_app (cut_all cc_613_2) (cut_app (cut_all cc_613_3) (cut_app (cut_all cc_613_4) (cut_app (cut_all cc_613_5) (cut_app (cut_all cc_613_6) (cut_app (cut_all cc_613_7) (cut_app (cut_all cc_613_8) (cut_app (cut_all cc_613_9) (cut_app (cut_all cc_613_10) (cut_all cc_613_11))))))))))))
