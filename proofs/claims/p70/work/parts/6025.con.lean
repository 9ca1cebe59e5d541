/-! ===== contracts, 25 ===== -/
/-- RookHustingModel power -/
noncomputable def con_1340 : Con2 := ((yX12_power, cX12_power, 8, (some .int)), (3, 66), ([(6, 0, 0), (1, 1, 0), (1, 2, 0)], gi_303, [ac_439, ac_440], []), [((1, 71, 0), gi_527, [(false, ac_439), (false, ac_440)], [], [1])])
theorem hd_1340 : con_1340.1 = (yX12_power, cX12_power, 8, (some .int)) := rfl
theorem ck_RX12_319_1326 : COK2 RX12 vwCl gTbl 319 1 con_1326 := ⟨wd_1807, wd_137, mh_X12_part, .inl ⟨rfl, wd_1805, wd_1806, pd_X12_part⟩⟩
theorem ck_RX12_319_1328 : COK2 RX12 vwCl gTbl 319 1 con_1328 := ⟨wd_1807, wd_137, mh_X12_part, .inl ⟨rfl, wd_1805, wd_1806, pd_X12_part⟩⟩
theorem ck_RX12_319_1330 : COK2 RX12 vwCl gTbl 319 1 con_1330 := ⟨wd_1807, wd_137, mh_X12_part, .inl ⟨rfl, wd_1805, wd_1806, pd_X12_part⟩⟩
theorem ck_RX12_319_1332 : COK2 RX12 vwCl gTbl 319 1 con_1332 := ⟨wd_1807, wd_137, mh_X12_part, .inl ⟨rfl, wd_1805, wd_1806, pd_X12_part⟩⟩
theorem ck_RX12_319_1334 : COK2 RX12 vwCl gTbl 319 1 con_1334 := ⟨wd_1807, wd_137, mh_X12_part, .inl ⟨rfl, wd_1805, wd_1806, pd_X12_part⟩⟩
theorem ck_RX12_319_1336 : COK2 RX12 vwCl gTbl 319 1 con_1336 := ⟨wd_1807, wd_137, mh_X12_part, .inl ⟨rfl, wd_1805, wd_1806, pd_X12_part⟩⟩
theorem ck_RX12_319_1339 : COK2 RX12 vwCl gTbl 319 1 con_1339 := ⟨wd_1807, wd_137, mh_X12_part, .inl ⟨rfl, wd_1805, wd_1806, pd_X12_part⟩⟩
theorem ck_RX12_316_1337 : COK2 RX12 vwCl gTbl 316 1 con_1337 := ⟨wd_1804, wd_137, mh_X12_factorial, .inl ⟨rfl, wd_1802, wd_1803, pd_X12_factorial⟩⟩
theorem ck_RX12_316_1317 : COK2 RX12 vwCl gTbl 316 1 con_1317 := ⟨wd_1804, wd_137, mh_X12_factorial, .inl ⟨rfl, wd_1802, wd_1803, pd_X12_factorial⟩⟩
theorem ck_RX12_316_1318 : COK2 RX12 vwCl gTbl 316 1 con_1318 := ⟨wd_1804, wd_137, mh_X12_factorial, .inl ⟨rfl, wd_1802, wd_1803, pd_X12_factorial⟩⟩
theorem ck_RX12_316_1319 : COK2 RX12 vwCl gTbl 316 1 con_1319 := ⟨wd_1804, wd_137, mh_X12_factorial, .inl ⟨rfl, wd_1802, wd_1803, pd_X12_factorial⟩⟩
theorem ck_RX12_316_1320 : COK2 RX12 vwCl gTbl 316 1 con_1320 := ⟨wd_1804, wd_137, mh_X12_factorial, .inl ⟨rfl, wd_1802, wd_1803, pd_X12_factorial⟩⟩
theorem ck_RX12_316_1321 : COK2 RX12 vwCl gTbl 316 1 con_1321 := ⟨wd_1804, wd_137, mh_X12_factorial, .inl ⟨rfl, wd_1802, wd_1803, pd_X12_factorial⟩⟩
theorem ck_RX12_316_1322 : COK2 RX12 vwCl gTbl 316 1 con_1322 := ⟨wd_1804, wd_137, mh_X12_factorial, .inl ⟨rfl, wd_1802, wd_1803, pd_X12_factorial⟩⟩
theorem ck_RX12_316_1324 : COK2 RX12 vwCl gTbl 316 1 con_1324 := ⟨wd_1804, wd_137, mh_X12_factorial, .inl ⟨rfl, wd_1802, wd_1803, pd_X12_factorial⟩⟩
theorem ck_RX12_252_1323 : COK2 RX12 vwCl gTbl 252 1 con_1323 := ⟨wd_1720, wd_137, mh_X12_bits, .inl ⟨rfl, wd_1718, wd_1719, pd_X12_bits⟩⟩
theorem ck_RX12_298_1313 : COK2 RX12 vwCl gTbl 298 0 con_1313 := ⟨wd_1781, wd_137, mh_X12_hatsIn, .inr (.inr ⟨rfl, wd_1778, wd_1780, wd_86, ⟨_, rfl, pd_X12_hatsIn⟩, 12, _, TX12, 45, rfl, rfl⟩)⟩
theorem ck_RX12_298_1311 : COK2 RX12 vwCl gTbl 298 0 con_1311 := ⟨wd_1781, wd_137, mh_X12_hatsIn, .inr (.inr ⟨rfl, wd_1778, wd_1780, wd_86, ⟨_, rfl, pd_X12_hatsIn⟩, 12, _, TX12, 45, rfl, rfl⟩)⟩
theorem ck_RX12_298_1309 : COK2 RX12 vwCl gTbl 298 0 con_1309 := ⟨wd_1781, wd_137, mh_X12_hatsIn, .inr (.inr ⟨rfl, wd_1778, wd_1780, wd_86, ⟨_, rfl, pd_X12_hatsIn⟩, 12, _, TX12, 45, rfl, rfl⟩)⟩
theorem ck_RX12_298_1306 : COK2 RX12 vwCl gTbl 298 0 con_1306 := ⟨wd_1781, wd_137, mh_X12_hatsIn, .inr (.inr ⟨rfl, wd_1778, wd_1780, wd_86, ⟨_, rfl, pd_X12_hatsIn⟩, 12, _, TX12, 45, rfl, rfl⟩)⟩
theorem ck_RX12_298_1304 : COK2 RX12 vwCl gTbl 298 0 con_1304 := ⟨wd_1781, wd_137, mh_X12_hatsIn, .inr (.inr ⟨rfl, wd_1778, wd_1780, wd_86, ⟨_, rfl, pd_X12_hatsIn⟩, 12, _, TX12, 45, rfl, rfl⟩)⟩
theorem ck_RX12_298_1301 : COK2 RX12 vwCl gTbl 298 0 con_1301 := ⟨wd_1781, wd_137, mh_X12_hatsIn, .inr (.inr ⟨rfl, wd_1778, wd_1780, wd_86, ⟨_, rfl, pd_X12_hatsIn⟩, 12, _, TX12, 45, rfl, rfl⟩)⟩
theorem ck_RX12_298_1298 : COK2 RX12 vwCl gTbl 298 0 con_1298 := ⟨wd_1781, wd_137, mh_X12_hatsIn, .inr (.inr ⟨rfl, wd_1778, wd_1780, wd_86, ⟨_, rfl, pd_X12_hatsIn⟩, 12, _, TX12, 45, rfl, rfl⟩)⟩
theorem ck_RX12_240_1315 : COK2 RX12 vwCl gTbl 240 0 con_1315 := ⟨wd_1680, wd_137, mh_X12_isVoter, .inr (.inr ⟨rfl, wd_1677, wd_1679, wd_70, ⟨_, rfl, pd_X12_isVoter⟩, 12, _, TX12, 45, rfl, rfl⟩)⟩
theorem ck_RX12_240_1312 : COK2 RX12 vwCl gTbl 240 0 con_1312 := ⟨wd_1680, wd_137, mh_X12_isVoter, .inr (.inr ⟨rfl, wd_1677, wd_1679, wd_70, ⟨_, rfl, pd_X12_isVoter⟩, 12, _, TX12, 45, rfl, rfl⟩)⟩
theorem ck_RX12_240_1310 : COK2 RX12 vwCl gTbl 240 0 con_1310 := ⟨wd_1680, wd_137, mh_X12_isVoter, .inr (.inr ⟨rfl, wd_1677, wd_1679, wd_70, ⟨_, rfl, pd_X12_isVoter⟩, 12, _, TX12, 45, rfl, rfl⟩)⟩
theorem ck_RX12_240_1308 : COK2 RX12 vwCl gTbl 240 0 con_1308 := ⟨wd_1680, wd_137, mh_X12_isVoter, .inr (.inr ⟨rfl, wd_1677, wd_1679, wd_70, ⟨_, rfl, pd_X12_isVoter⟩, 12, _, TX12, 45, rfl, rfl⟩)⟩
theorem ck_RX12_240_1305 : COK2 RX12 vwCl gTbl 240 0 con_1305 := ⟨wd_1680, wd_137, mh_X12_isVoter, .inr (.inr ⟨rfl, wd_1677, wd_1679, wd_70, ⟨_, rfl, pd_X12_isVoter⟩, 12, _, TX12, 45, rfl, rfl⟩)⟩
theorem ck_RX12_240_1303 : COK2 RX12 vwCl gTbl 240 0 con_1303 := ⟨wd_1680, wd_137, mh_X12_isVoter, .inr (.inr ⟨rfl, wd_1677, wd_1679, wd_70, ⟨_, rfl, pd_X12_isVoter⟩, 12, _, TX12, 45, rfl, rfl⟩)⟩
theorem ck_RX12_240_1300 : COK2 RX12 vwCl gTbl 240 0 con_1300 := ⟨wd_1680, wd_137, mh_X12_isVoter, .inr (.inr ⟨rfl, wd_1677, wd_1679, wd_70, ⟨_, rfl, pd_X12_isVoter⟩, 12, _, TX12, 45, rfl, rfl⟩)⟩
theorem ck_RX12_240_1297 : COK2 RX12 vwCl gTbl 240 0 con_1297 := ⟨wd_1680, wd_137, mh_X12_isVoter, .inr (.inr ⟨rfl, wd_1677, wd_1679, wd_70, ⟨_, rfl, pd_X12_isVoter⟩, 12, _, TX12, 45, rfl, rfl⟩)⟩
noncomputable def ct_1340 : CTB2 := [(2, 240, 0, con_1297, [0, 1]), (2, 240, 0, con_1300, [0, 1]), (2, 240, 0, con_1303, [0, 1]), (2, 240, 0, con_1305, [0, 1]), (2, 240, 0, con_1308, [0, 1]), (2, 240, 0, con_1310, [0, 1]), (2, 240, 0, con_1312, [0, 1]), (2, 240, 0, con_1315, [0, 1]), (12, 91, 1, con_652, []), (35, 298, 0, con_1298, [0, 1]), (35, 298, 0, con_1301, [0, 1]), (35, 298, 0, con_1304, [0, 1]), (35, 298, 0, con_1306, [0, 1]), (35, 298, 0, con_1309, [0, 1]), (35, 298, 0, con_1311, [0, 1]), (35, 298, 0, con_1313, [0, 1]), (57, 199, 1, con_394, []), (67, 298, 0, con_1298, [0, 1]), (67, 298, 0, con_1301, [0, 1]), (67, 298, 0, con_1304, [0, 1]), (67, 298, 0, con_1306, [0, 1]), (67, 298, 0, con_1309, [0, 1]), (67, 298, 0, con_1311, [0, 1]), (67, 298, 0, con_1313, [0, 1]), (80, 298, 0, con_1298, [0, 1]), (80, 298, 0, con_1301, [0, 1]), (80, 298, 0, con_1304, [0, 1]), (80, 298, 0, con_1306, [0, 1]), (80, 298, 0, con_1309, [0, 1]), (80, 298, 0, con_1311, [0, 1]), (80, 298, 0, con_1313, [0, 1]), (85, 243, 0, con_666, [0, 1]), (111, 252, 1, con_1323, []), (114, 316, 1, con_1324, []), (122, 252, 1, con_1323, []), (126, 316, 1, con_1324, []), (147, 316, 1, con_1322, []), (147, 316, 1, con_1321, []), (147, 316, 1, con_1320, []), (147, 316, 1, con_1319, []), (147, 316, 1, con_1318, []), (147, 316, 1, con_1317, []), (147, 316, 1, con_1337, []), (152, 319, 1, con_1339, []), (152, 319, 1, con_1336, []), (152, 319, 1, con_1334, []), (152, 319, 1, con_1332, []), (152, 319, 1, con_1330, []), (152, 319, 1, con_1328, []), (152, 319, 1, con_1326, [])]
noncomputable def gi_709 : GI := jl_n [gp_182, gp_335, jl_i 7 7, gp_336, jl_i 0 128]
noncomputable def gi_710 : GI := jl_n [gp_211, gp_335, jl_i 6 6, gp_336, jl_i 0 64]
noncomputable def gi_711 : GI := jl_n [gp_52, gp_335, jl_i 5 5, gp_336, jl_i 0 32]
noncomputable def gi_712 : GI := jl_n [gp_210, gp_335, jl_i 4 4, gp_336, jl_i 0 16]
noncomputable def gi_713 : GI := jl_n [gp_209, gp_335, jl_i 3 3, gp_336, jl_i 0 8]
noncomputable def gi_714 : GI := jl_n [jl_z 1, jl_r 2 (jl_i 0 1), jl_z 45, gp_126, jl_i 2 2, gp_336, jl_i 0 4]
noncomputable def gi_715 : GI := jl_n [jl_z 2, gp_335, jl_i 1 1, gp_336, jl_i 0 2]
noncomputable def cu_1340 : List CUT2 := [((46, [lq 0 6 0, lq 1 1 1, lq 2 1 2, lq 3 0 7, lq 4 1 75, lq 5 1 76, lq 6 1 77], [], gi_709, [(false, ac_439), (false, ac_440)]), [], ([(77, (-1))], 128)), ((46, [lq 0 6 0, lq 1 1 1, lq 2 1 2, lq 3 0 6, lq 4 1 75, lq 5 1 76, lq 6 1 77], [], gi_710, [(false, ac_439), (false, ac_440)]), [], ([(77, (-1))], 128)), ((46, [lq 0 6 0, lq 1 1 1, lq 2 1 2, lq 3 0 5, lq 4 1 75, lq 5 1 76, lq 6 1 77], [], gi_711, [(false, ac_439), (false, ac_440)]), [], ([(77, (-1))], 128)), ((46, [lq 0 6 0, lq 1 1 1, lq 2 1 2, lq 3 0 4, lq 4 1 75, lq 5 1 76, lq 6 1 77], [], gi_712, [(false, ac_439), (false, ac_440)]), [], ([(77, (-1))], 128)), ((46, [lq 0 6 0, lq 1 1 1, lq 2 1 2, lq 3 0 3, lq 4 1 75, lq 5 1 76, lq 6 1 77], [], gi_713, [(false, ac_439), (false, ac_440)]), [], ([(77, (-1))], 128)), ((46, [lq 0 6 0, lq 1 1 1, lq 2 1 2, lq 3 0 2, lq 4 1 75, lq 5 1 76, lq 6 1 77], [], gi_714, [(false, ac_439), (false, ac_440)]), [], ([(77, (-1))], 128)), ((46, [lq 0 6 0, lq 1 0 0, lq 2 1 2, lq 3 0 1, lq 4 1 75, lq 5 1 76, lq 6 1 77], [], gi_715, [(false, ac_439), (false, ac_440)]), [], ([(77, (-1))], 128))]
theorem ch_1340 : staG tb_X12_power 1 bt_RX12 [] ct_1340 [(0, [(1, (2, 1, 6), 0, 0)])] [] cu_1340 52 con_1340 = true := by decide +kernel
theorem cc_1340 : cu_1340.all (cutG tb_X12_power 1 bt_RX12 [] ct_1340 [(0, [(1, (2, 1, 6), 0, 0)])] [] cu_1340 52 con_1340) = true := by decide +kernel
theorem cto_1340 (l : Launch) : CTOK2 l RX12 vwCl gTbl ct_1340 := ct2_cons (vl_1297 l) ck_RX12_240_1297 (ct2_cons (vl_1300 l) ck_RX12_240_1300 (ct2_cons (vl_1303 l) ck_RX12_240_1303 (ct2_cons (vl_1305 l) ck_RX12_240_1305 (ct2_cons (vl_1308 l) ck_RX12_240_1308 (ct2_cons (vl_1310 l) ck_RX12_240_1310 (ct2_cons (vl_1312 l) ck_RX12_240_1312 (ct2_cons (vl_1315 l) ck_RX12_240_1315 (ct2_cons (vl_652 l) ck_RX12_91_652 (ct2_cons (vl_1298 l) ck_RX12_298_1298 (ct2_cons (vl_1301 l) ck_RX12_298_1301 (ct2_cons (vl_1304 l) ck_RX12_298_1304 (ct2_cons (vl_1306 l) ck_RX12_298_1306 (ct2_cons (vl_1309 l) ck_RX12_298_1309 (ct2_cons (vl_1311 l) ck_RX12_298_1311 (ct2_cons (vl_1313 l) ck_RX12_298_1313 (ct2_cons (vl_394 l) ck_RX12_199_394 (ct2_cons (vl_1298 l) ck_RX12_298_1298 (ct2_cons (vl_1301 l) ck_RX12_298_1301 (ct2_cons (vl_1304 l) ck_RX12_298_1304 (ct2_cons (vl_1306 l) ck_RX12_298_1306 (ct2_cons (vl_1309 l) ck_RX12_298_1309 (ct2_cons (vl_1311 l) ck_RX12_298_1311 (ct2_cons (vl_1313 l) ck_RX12_298_1313 (ct2_cons (vl_1298 l) ck_RX12_298_1298 (ct2_cons (vl_1301 l) ck_RX12_298_1301 (ct2_cons (vl_1304 l) ck_RX12_298_1304 (ct2_cons (vl_1306 l) ck_RX12_298_1306 (ct2_cons (vl_1309 l) ck_RX12_298_1309 (ct2_cons (vl_1311 l) ck_RX12_298_1311 (ct2_cons (vl_1313 l) ck_RX12_298_1313 (ct2_cons (vl_666 l) ck_RX12_243_666 (ct2_cons (vl_1323 l) ck_RX12_252_1323 (ct2_cons (vl_1324 l) ck_RX12_316_1324 (ct2_cons (vl_1323 l) ck_RX12_252_1323 (ct2_cons (vl_1324 l) ck_RX12_316_1324 (ct2_cons (vl_1322 l) ck_RX12_316_1322 (ct2_cons (vl_1321 l) ck_RX12_316_1321 (ct2_cons (vl_1320 l) ck_RX12_316_1320 (ct2_cons (vl_1319 l) ck_RX12_316_1319 (ct2_cons (vl_1318 l) ck_RX12_316_1318 (ct2_cons (vl_1317 l) ck_RX12_316_1317 (ct2_cons (vl_1337 l) ck_RX12_316_1337 (ct2_cons (vl_1339 l) ck_RX12_319_1339 (ct2_cons (vl_1336 l) ck_RX12_319_1336 (ct2_cons (vl_1334 l) ck_RX12_319_1334 (ct2_cons (vl_1332 l) ck_RX12_319_1332 (ct2_cons (vl_1330 l) ck_RX12_319_1330 (ct2_cons (vl_1328 l) ck_RX12_319_1328 (ct2_cons (vl_1326 l) ck_RX12_319_1326 (ct2_nil))))))))))))))))))))))))))))))))))))))))))))))))))
theorem vl_1340 (l : Launch) : Vld2 l vwCl gTbl con_1340 := conR_ok3 gT_all (hd_1340) rfl pn_RX12 tk_X12_power bo_RX12 xo_RX12 (cto_1340 l) ch_1340 (cut_all cc_1340)
/-- RookHusting isDay -/
noncomputable def gi_716 : GI := jl_n [gp_191, gp_337, jl_z 15]
noncomputable def ac_591 : AC := .inl (4, jl_n [jl_1 22 2, jl_8 37 15])
noncomputable def gi_717 : GI := jl_n [gp_191, gp_337, jl_z 16]
noncomputable def hq_557 : HP := [(false, ac_431), (false, .inl (9, [(6, 2, 0), (8, 19, 0)])), (false, ac_591)]
noncomputable def gi_718 : GI := jl_n [gp_338, jl_z 18, jl_i 1 2147483647, jl_i 0 16, jl_z 16]
noncomputable def con_1341 : Con2 := ((yX11_isDay, cX11_isDay, 2, (some .boolean)), (1, 20), ([(6, 0, 0), (1, 1, 0)], gi_716, [ac_431, .inl (9, [(6, 2, 0), (8, 19, 0)]), ac_591], []), [((0, 0, 0), gi_717, hq_557, [], [1]), ((0, 1, 0), gi_718, hq_557, [], [1])])
theorem hd_1341 : con_1341.1 = (yX11_isDay, cX11_isDay, 2, (some .boolean)) := rfl
noncomputable def cu_1341 : List CUT2 := []
theorem ch_1341 : staG tb_X11_isDay 1 bt_RX11 [] ct_672 [] [] cu_1341 16 con_1341 = true := by decide +kernel
theorem vl_1341 (l : Launch) : Vld2 l vwCl gTbl con_1341 := conR_ok3 gT_all (hd_1341) rfl pn_RX11 tk_X11_isDay bo_RX11 xo_RX11 (cto_672 l) ch_1341 cut_nil
/-- RookHusting cellNow -/
noncomputable def gi_719 : GI := jl_n [jl_z 2, gp_339, gp_340]
noncomputable def ac_592 : AC := .inl (11, jl_n [jl_8 6 2, jl_6 3 1, jl_8 9 2, vp_92, jl_8 12 1, jl_6 17 1, jl_8 17 4, jl_1 18 1, jl_8 20 2])
noncomputable def ac_593 : AC := .inl (4, jl_n [vp_93, jl_8 30 1, jl_1 31 1, jl_8 32 1, jl_1 34 2, vp_94, vp_95, jl_8 42 2, jl_6 11 1])
noncomputable def ac_594 : AC := .inr (1, jl_n [js_1 79 30])
noncomputable def ac_595 : AC := .inr (1, jl_n [js_1 109 30])
noncomputable def ac_596 : AC := .inl (3, jl_n [vp_98, jl_1 118 2])
noncomputable def hc_141 : List AC := [ac_592, am_0, .inl (9, [(6, 4, 0), (6, 12, 0)]), .inl (7, [(6, 5, 0), (6, 6, 0), (6, 7, 0), (1, 25, 0)]), ac_593, am_7, am_1, am_1, am_1, .inl (1, [(6, 4, 0), (8, 44, 0)]), am_4, am_6, .inl (0, [(1, 45, 0), (6, 13, 0), (6, 14, 0), (6, 15, 0)]), ac_594, am_11, ac_595, ac_596, am_2, am_0, am_10, am_0, am_1, am_2, am_9, am_0, am_0, am_12]
noncomputable def rq_4 : RLs := [([(49, 12), (79, (-1))], 4), ([(50, 12), (80, (-1))], 4), ([(51, 12), (81, (-1))], 4), ([(52, 12), (82, (-1))], 4), ([(53, 12), (83, (-1))], 4), ([(54, 12), (84, (-1))], 4), ([(55, 12), (85, (-1))], 4), ([(56, 12), (86, (-1))], 4), ([(57, 12), (87, (-1))], 4), ([(58, 12), (88, (-1))], 4), ([(59, 12), (89, (-1))], 4), ([(60, 12), (90, (-1))], 4), ([(61, 12), (91, (-1))], 4), ([(62, 12), (92, (-1))], 4), ([(63, 12), (93, (-1))], 4), ([(64, 12), (94, (-1))], 4), ([(65, 12), (95, (-1))], 4), ([(66, 12), (96, (-1))], 4), ([(67, 12), (97, (-1))], 4), ([(68, 12), (98, (-1))], 4), ([(69, 12), (99, (-1))], 4), ([(70, 12), (100, (-1))], 4), ([(71, 12), (101, (-1))], 4), ([(72, 12), (102, (-1))], 4), ([(73, 12), (103, (-1))], 4), ([(74, 12), (104, (-1))], 4), ([(75, 12), (105, (-1))], 4), ([(76, 12), (106, (-1))], 4), ([(77, 12), (107, (-1))], 4), ([(78, 12), (108, (-1))], 4)]
noncomputable def gi_720 : GI := jl_n [jl_z 2, gp_339, gp_341]
noncomputable def ac_597 : AC := .inl (11, jl_n [jl_8 6 2, jl_6 3 1, jl_8 9 2, vp_92, jl_8 12 1, jl_6 17 1, jl_8 17 4, jl_c 1, jl_8 20 2])
noncomputable def ac_598 : AC := .inl (3, jl_n [vp_98, jl_1 148 2])
noncomputable def hq_558 : HP := [(true, ac_597), (true, am_0), (false, .inl (9, [(6, 4, 0), (6, 12, 0)])), (true, .inl (7, [(6, 5, 0), (6, 6, 0), (6, 7, 0), (1, 138, 0)])), (false, ac_593), (true, am_7), (true, am_1), (true, am_1), (false, am_1), (false, .inl (1, [(6, 4, 0), (8, 44, 0)])), (false, am_4), (false, am_6), (false, .inl (0, [(1, 45, 0), (6, 13, 0), (6, 14, 0), (6, 15, 0)])), (false, ac_594), (false, am_11), (false, ac_595), (true, ac_598), (false, am_2), (true, am_0), (false, am_10), (true, am_0), (true, am_1), (false, am_2), (false, am_9), (true, am_0), (true, am_0), (true, am_12)]
noncomputable def con_1342 : Con2 := ((yX11_cellNow, cX11_cellNow, 4, (some .int)), (6, 151), ([(6, 0, 0), (6, 1, 0), (1, 2, 0), (1, 3, 0)], gi_719, hc_141, rq_4), [((1, 118, 0), gi_720, hq_558, [], tg_15)])
theorem hd_1342 : con_1342.1 = (yX11_cellNow, cX11_cellNow, 4, (some .int)) := rfl
noncomputable def ct_1342 : CTB2 := [(1, 208, 0, con_929, [0, 2, 3, 4, 5, 6, 7, 8, 9, 10, 11, 12, 13, 14, 15, 16, 17, 18, 19, 20, 21, 1, 22, 23, 24, 25, 26])]
noncomputable def cu_1342 : List CUT2 := []
theorem ch_1342 : staG tb_X11_cellNow 1 bt_RX11 [] ct_1342 [] [] cu_1342 12 con_1342 = true := by decide +kernel
theorem cto_1342 (l : Launch) : CTOK2 l RX11 vwCl gTbl ct_1342 := ct2_cons (vl_929 l) ck_RX11_208_929 (ct2_nil)
theorem vl_1342 (l : Launch) : Vld2 l vwCl gTbl con_1342 := conR_ok3 gT_all (hd_1342) rfl pn_RX11 tk_X11_cellNow bo_RX11 xo_RX11 (cto_1342 l) ch_1342 cut_nil
/-- RookHusting fear -/
noncomputable def gi_721 : GI := jl_n [gp_163, gp_348]
noncomputable def ac_599 : AC := .inl (11, jl_n [vp_56, vp_99, jl_8 11 1, jl_6 4 1, jl_8 16 4, vp_100])
noncomputable def ac_600 : AC := .inl (4, jl_n [jl_1 24 3, vp_102, vp_105, jl_8 37 2, jl_6 12 1])
noncomputable def ac_601 : AC := .inl (3, jl_n [vp_106, jl_1 47 2])
noncomputable def ac_602 : AC := .inr (1, jl_n [js_1 87 30])
noncomputable def ac_603 : AC := .inr (1, jl_n [js_1 117 30])
noncomputable def hc_142 : List AC := [ac_599, .inl (9, [(6, 2, 0), (6, 13, 0)]), ac_600, ac_601, am_0, .inl (7, [(6, 6, 0), (6, 7, 0), (6, 8, 0), (1, 50, 0)]), am_7, am_1, am_1, am_1, .inl (1, [(6, 2, 0), (8, 52, 0)]), am_4, am_6, .inl (0, [(1, 53, 0), (6, 14, 0), (6, 15, 0), (6, 16, 0)]), ac_602, am_11, ac_603, am_2, am_0, am_10, am_0, am_1, am_2, am_9, am_0, am_0, am_12]
noncomputable def rq_5 : RLs := [([(57, 12), (87, (-1))], 4), ([(58, 12), (88, (-1))], 4), ([(59, 12), (89, (-1))], 4), ([(60, 12), (90, (-1))], 4), ([(61, 12), (91, (-1))], 4), ([(62, 12), (92, (-1))], 4), ([(63, 12), (93, (-1))], 4), ([(64, 12), (94, (-1))], 4), ([(65, 12), (95, (-1))], 4), ([(66, 12), (96, (-1))], 4), ([(67, 12), (97, (-1))], 4), ([(68, 12), (98, (-1))], 4), ([(69, 12), (99, (-1))], 4), ([(70, 12), (100, (-1))], 4), ([(71, 12), (101, (-1))], 4), ([(72, 12), (102, (-1))], 4), ([(73, 12), (103, (-1))], 4), ([(74, 12), (104, (-1))], 4), ([(75, 12), (105, (-1))], 4), ([(76, 12), (106, (-1))], 4), ([(77, 12), (107, (-1))], 4), ([(78, 12), (108, (-1))], 4), ([(79, 12), (109, (-1))], 4), ([(80, 12), (110, (-1))], 4), ([(81, 12), (111, (-1))], 4), ([(82, 12), (112, (-1))], 4), ([(83, 12), (113, (-1))], 4), ([(84, 12), (114, (-1))], 4), ([(85, 12), (115, (-1))], 4), ([(86, 12), (116, (-1))], 4)]
noncomputable def gi_722 : GI := jl_n [gp_163, gp_348, gp_351]
noncomputable def ac_604 : AC := .inl (11, jl_n [vp_56, vp_99, jl_8 11 1, jl_6 4 1, jl_8 16 4, jl_1 132 1, jl_8 19 2])
noncomputable def ac_605 : AC := .inl (3, jl_n [vp_106, jl_1 143 2])
noncomputable def hq_559 : HP := [(true, ac_604), (false, .inl (9, [(6, 2, 0), (6, 13, 0)])), (false, ac_600), (true, ac_605), (true, am_0), (true, .inl (7, [(6, 6, 0), (6, 7, 0), (6, 8, 0), (1, 146, 0)])), (true, am_7), (true, am_1), (true, am_1), (false, am_1), (false, .inl (1, [(6, 2, 0), (8, 52, 0)])), (false, am_4), (false, am_6), (false, .inl (0, [(1, 53, 0), (6, 14, 0), (6, 15, 0), (6, 16, 0)])), (false, ac_602), (false, am_11), (false, ac_603), (false, am_2), (true, am_0), (false, am_10), (true, am_0), (true, am_1), (false, am_2), (false, am_9), (true, am_0), (true, am_0), (true, am_12)]
noncomputable def con_1343 : Con2 := ((yX11_fear, cX11_fear, 3, (some .int)), (7, 174), ([(6, 0, 0), (1, 1, 0), (1, 2, 0)], gi_721, hc_142, rq_5), [((1, 117, 0), gi_722, hq_559, [], tg_15)])
theorem hd_1343 : con_1343.1 = (yX11_fear, cX11_fear, 3, (some .int)) := rfl
theorem ck_RX11_266_1342 : COK2 RX11 vwCl gTbl 266 0 con_1342 := ⟨wd_1023, wd_125, mh_X11_cellNow, .inr (.inr ⟨rfl, wd_1020, wd_1022, wd_32, ⟨_, rfl, pd_X11_cellNow⟩, 11, _, TX11, 16, rfl, rfl⟩)⟩
theorem ck_RX11_260_1341 : COK2 RX11 vwCl gTbl 260 0 con_1341 := ⟨wd_1019, wd_125, mh_X11_isDay, .inr (.inr ⟨rfl, wd_1016, wd_1018, wd_31, ⟨_, rfl, pd_X11_isDay⟩, 11, _, TX11, 16, rfl, rfl⟩)⟩
noncomputable def ct_1343 : CTB2 := [(2, 139, 0, con_647, [0, 1, 2]), (10, 260, 0, con_1341, [0, 1, 2]), (26, 266, 0, con_1342, [0, 4, 1, 5, 2, 6, 7, 8, 9, 10, 11, 12, 13, 14, 15, 16, 3, 17, 18, 19, 20, 21, 22, 23, 24, 25, 26])]
noncomputable def cu_1343 : List CUT2 := []
theorem ch_1343 : staG tb_X11_fear 1 bt_RX11 [] ct_1343 [] [] cu_1343 19 con_1343 = true := by decide +kernel
theorem cto_1343 (l : Launch) : CTOK2 l RX11 vwCl gTbl ct_1343 := ct2_cons (vl_647 l) ck_RX11_139_647 (ct2_cons (vl_1341 l) ck_RX11_260_1341 (ct2_cons (vl_1342 l) ck_RX11_266_1342 (ct2_nil)))
theorem vl_1343 (l : Launch) : Vld2 l vwCl gTbl con_1343 := conR_ok3 gT_all (hd_1343) rfl pn_RX11 tk_X11_fear bo_RX11 xo_RX11 (cto_1343 l) ch_1343 cut_nil
/-- RookHustingModel days -/
noncomputable def con_1344 : Con2 := ((yX12_days, cX12_days, 1, (some .int)), (0, 0), ([(6, 0, 0)], gi_298, [ac_435, ac_436], []), [((1, 46, 0), gi_299, [(false, ac_435), (false, ac_436)], [], [1])])
theorem hd_1344 : con_1344.1 = (yX12_days, cX12_days, 1, (some .int)) := rfl
noncomputable def cu_1344 : List CUT2 := []
theorem ch_1344 : staG tb_X12_days 1 bt_RX12 [] ct_2 [] [] cu_1344 7 con_1344 = true := by decide +kernel
theorem vl_1344 (l : Launch) : Vld2 l vwCl gTbl con_1344 := conR_ok3 gT_all (hd_1344) rfl pn_RX12 tk_X12_days bo_RX12 xo_RX12 (cto_2 l) ch_1344 cut_nil
/-- RookHustingModel fearOf -/
noncomputable def gi_723 : GI := jl_n [jl_z 1, gp_339, gp_353, jl_r 5 (jl_m 0 4), gp_124]
noncomputable def ac_606 : AC := .inl (12, jl_n [jl_8 4 1, jl_6 4 1, jl_8 22 17, jl_6 3 2, vp_101, jl_8 48 22])
noncomputable def ac_607 : AC := .inr (1, jl_n [js_1 53 5])
noncomputable def ac_608 : AC := .inr (1, jl_n [js_1 62 9, sp_124])
noncomputable def hc_143 : List AC := [ac_606, ac_607, am_1, ac_608]
noncomputable def gi_724 : GI := jl_n [jl_z 1, gp_339, gp_353, jl_r 5 (jl_m 0 4), gp_124, jl_i 0 2147483647]
noncomputable def hq_560 : HP := [(false, ac_606), (false, ac_607), (false, am_1), (false, ac_608)]
noncomputable def con_1346 : Con2 := ((yX12_fearOf, cX12_fearOf, 5, (some .int)), (1, 21), ([(6, 0, 0), (1, 1, 0), (1, 2, 0)], gi_723, hc_143, []), [((1, 76, 0), gi_724, hq_560, [], [1])])
theorem hd_1346 : con_1346.1 = (yX12_fearOf, cX12_fearOf, 5, (some .int)) := rfl
noncomputable def ct_1346 : CTB2 := [(31, 199, 1, con_394, []), (43, 199, 1, con_394, [])]
noncomputable def gi_725 : GI := jl_n [jl_z 1, jl_i 4 4, gp_354, jl_r 4 (jl_m 0 4), gp_339, jl_i 0 3, jl_i 0 10, gp_122, jl_z 17, gp_355]
noncomputable def gi_726 : GI := jl_n [gp_294, gp_354, jl_r 3 (jl_m 0 4), jl_i 0 4, jl_m 0 4, gp_356]
noncomputable def gi_727 : GI := jl_n [gp_295, gp_354, jl_r 2 (jl_m 0 4), jl_i 0 4, jl_r 2 (jl_m 0 4), gp_356]
noncomputable def gi_728 : GI := jl_n [gp_296, gp_354, jl_m 0 4, jl_i 0 4, jl_r 3 (jl_m 0 4), gp_356]
noncomputable def gi_729 : GI := jl_n [gp_357, gp_353, jl_i 0 4, jl_r 4 (jl_m 0 4), gp_356]
noncomputable def cu_1346 : List CUT2 := [((17, [lq 0 6 0, lq 1 0 4, lq 2 1 2, lq 3 1 79, lq 4 1 80], [], gi_725, hq_560), [], ([(80, (-1))], 17)), ((17, [lq 0 6 0, lq 1 0 3, lq 2 1 2, lq 3 1 79, lq 4 1 80], [], gi_726, hq_560), [], ([(80, (-1))], 17)), ((17, [lq 0 6 0, lq 1 0 2, lq 2 1 2, lq 3 1 79, lq 4 1 80], [], gi_727, hq_560), [], ([(80, (-1))], 17)), ((17, [lq 0 6 0, lq 1 0 1, lq 2 1 2, lq 3 1 79, lq 4 1 80], [], gi_728, hq_560), [], ([(80, (-1))], 17)), ((17, [lq 0 6 0, lq 1 0 0, lq 2 1 2, lq 3 1 79, lq 4 1 80], [], gi_729, hq_560), [], ([(80, (-1))], 17))]
theorem ch_1346 : staG tb_X12_fearOf 1 bt_RX12 [] ct_1346 [(0, [(1, (1, 1, 0), 0, 0)])] [] cu_1346 35 con_1346 = true := by decide +kernel
theorem cc_1346 : cu_1346.all (cutG tb_X12_fearOf 1 bt_RX12 [] ct_1346 [(0, [(1, (1, 1, 0), 0, 0)])] [] cu_1346 35 con_1346) = true := by decide +kernel
theorem cto_1346 (l : Launch) : CTOK2 l RX12 vwCl gTbl ct_1346 := ct2_cons (vl_394 l) ck_RX12_199_394 (ct2_cons (vl_394 l) ck_RX12_199_394 (ct2_nil))
theorem vl_1346 (l : Launch) : Vld2 l vwCl gTbl con_1346 := conR_ok3 gT_all (hd_1346) rfl pn_RX12 tk_X12_fearOf bo_RX12 xo_RX12 (cto_1346 l) ch_1346 (cut_all cc_1346)
/-- RookHustingModel flyTo -/
noncomputable def gi_730 : GI := jl_n [gp_52, jl_i 0 15, gp_173]
noncomputable def ac_609 : AC := .inl (12, jl_n [vp_40, jl_8 26 21, jl_1 28 2, jl_6 3 1, jl_8 48 19])
noncomputable def hc_144 : List AC := [ac_609, ac_440, am_0]
noncomputable def gi_731 : GI := jl_n [gp_52, jl_i 0 15, gp_173, jl_m 0 4]
noncomputable def hq_561 : HP := [(false, ac_609), (false, ac_440), (false, am_0)]
noncomputable def con_1349 : Con2 := ((yX12_flyTo, cX12_flyTo, 5, (some .int)), (1, 25), ([(6, 0, 0), (1, 1, 0), (1, 2, 0)], gi_730, hc_144, []), [((1, 71, 0), gi_731, hq_561, [], [1])])
theorem hd_1349 : con_1349.1 = (yX12_flyTo, cX12_flyTo, 5, (some .int)) := rfl
noncomputable def ct_1349 : CTB2 := [(8, 106, 0, con_650, [0, 1]), (16, 348, 0, con_655, [0, 1]), (21, 199, 1, con_394, [])]
noncomputable def gi_732 : GI := jl_n [gp_52, jl_i 0 15, gp_172, gp_220, gp_221]
noncomputable def cu_1349 : List CUT2 := [((5, [lq 0 6 0, lq 1 1 1, lq 2 1 2, lq 3 1 74, lq 4 1 75], [], gi_732, hq_561), [], ([(75, (-1))], 5))]
theorem ch_1349 : staG tb_X12_flyTo 1 bt_RX12 [] ct_1349 [] [] cu_1349 38 con_1349 = true := by decide +kernel
theorem cc_1349 : cu_1349.all (cutG tb_X12_flyTo 1 bt_RX12 [] ct_1349 [] [] cu_1349 38 con_1349) = true := by decide +kernel
theorem cto_1349 (l : Launch) : CTOK2 l RX12 vwCl gTbl ct_1349 := ct2_cons (vl_650 l) ck_RX12_106_650 (ct2_cons (vl_655 l) ck_RX12_348_655 (ct2_cons (vl_394 l) ck_RX12_199_394 (ct2_nil)))
theorem vl_1349 (l : Launch) : Vld2 l vwCl gTbl con_1349 := conR_ok3 gT_all (hd_1349) rfl pn_RX12 tk_X12_flyTo bo_RX12 xo_RX12 (cto_1349 l) ch_1349 (cut_all cc_1349)
/-- RookHustingModel goDay -/
noncomputable def gi_733 : GI := jl_n [gp_224, gp_358, gp_171, gp_124]
noncomputable def ac_610 : AC := .inl (12, jl_n [jl_8 3 1, jl_6 3 1, jl_8 23 19, vp_107, jl_6 8 1, jl_6 7 4, jl_6 2 1, jl_8 47 14])
noncomputable def hc_145 : List AC := [ac_610, am_13, ac_438, am_0, am_0, am_14, am_15, am_0]
noncomputable def hq_562 : HP := [(false, ac_610), (true, am_13), (false, ac_438), (true, am_0), (true, am_0), (true, am_14), (true, am_15), (false, am_0)]
noncomputable def con_1351 : Con2 := ((yX12_goDay, cX12_goDay, 7, none), (2, 49), ([(6, 0, 0), (1, 1, 0)], gi_733, hc_145, []), [((9, 0, 0), gi_733, hq_562, [], [])])
theorem hd_1351 : con_1351.1 = (yX12_goDay, cX12_goDay, 7, none) := rfl
theorem ck_RX12_354_1349 : COK2 RX12 vwCl gTbl 354 0 con_1349 := ⟨wd_1898, wd_137, mh_X12_flyTo, .inr (.inr ⟨rfl, wd_1895, wd_1897, wd_100, ⟨_, rfl, pd_X12_flyTo⟩, 12, _, TX12, 45, rfl, rfl⟩)⟩
noncomputable def ct_1351 : CTB2 := [(21, 106, 0, con_650, [0, 2]), (94, 199, 1, con_394, []), (108, 106, 0, con_650, [0, 2]), (204, 354, 0, con_1349, [0, 2, 7])]
noncomputable def gi_734 : GI := jl_n [gp_224, gp_358, gp_171, gp_123, jl_z 16, jl_i 0 75, jl_i 5 80, jl_i 0 5]
noncomputable def cu_1351 : List CUT2 := [((18, [lq 0 6 0, lq 1 1 1, lq 2 1 72, lq 3 1 73, lq 4 1 74], [], gi_734, hq_562), [], ([(74, (-1))], 11)), ((105, [lq 0 6 0, lq 1 1 1, lq 2 1 72, lq 3 1 73, lq 4 1 74], [], gi_734, hq_562), [], ([(74, (-1))], 5))]
theorem ch_1351 : staG tb_X12_goDay 1 bt_RX12 [] ct_1351 [] [] cu_1351 104 con_1351 = true := by decide +kernel
theorem cc_1351 : cu_1351.all (cutG tb_X12_goDay 1 bt_RX12 [] ct_1351 [] [] cu_1351 104 con_1351) = true := by decide +kernel
theorem cto_1351 (l : Launch) : CTOK2 l RX12 vwCl gTbl ct_1351 := ct2_cons (vl_650 l) ck_RX12_106_650 (ct2_cons (vl_394 l) ck_RX12_199_394 (ct2_cons (vl_650 l) ck_RX12_106_650 (ct2_cons (vl_1349 l) ck_RX12_354_1349 (ct2_nil))))
theorem vl_1351 (l : Launch) : Vld2 l vwCl gTbl con_1351 := conR_ok3 gT_all (hd_1351) rfl pn_RX12 tk_X12_goDay bo_RX12 xo_RX12 (cto_1351 l) ch_1351 (cut_all cc_1351)
/-- RookHustingModel goAll -/
noncomputable def ac_611 : AC := .inl (12, jl_n [vp_108, jl_6 6 2, jl_1 26 4, jl_6 7 1, vp_43, vp_109, jl_8 46 14])
noncomputable def hc_146 : List AC := [ac_611, ac_436, am_0, am_0, am_7, am_1, am_0, am_13, am_14, am_15]
noncomputable def hq_563 : HP := [(false, ac_611), (false, ac_436), (true, am_0), (true, am_0), (false, am_7), (false, am_1), (true, am_0), (true, am_13), (true, am_14), (true, am_15)]
noncomputable def con_1352 : Con2 := ((yX12_goAll, cX12_goAll, 3, none), (3, 75), ([(6, 0, 0)], gi_495, hc_146, []), [((9, 0, 0), gi_495, hq_563, [], [])])
theorem hd_1352 : con_1352.1 = (yX12_goAll, cX12_goAll, 3, none) := rfl
theorem ck_RX12_360_1351 : COK2 RX12 vwCl gTbl 360 0 con_1351 := ⟨wd_1894, wd_137, mh_X12_goDay, .inr (.inr ⟨rfl, wd_1891, wd_1893, wd_99, ⟨_, rfl, pd_X12_goDay⟩, 12, _, TX12, 45, rfl, rfl⟩)⟩
theorem ck_RX12_103_1344 : COK2 RX12 vwCl gTbl 103 0 con_1344 := ⟨wd_1885, wd_137, mh_X12_days, .inr (.inr ⟨rfl, wd_1882, wd_1884, wd_97, ⟨_, rfl, pd_X12_days⟩, 12, _, TX12, 45, rfl, rfl⟩)⟩
theorem ck_RX12_357_1346 : COK2 RX12 vwCl gTbl 357 0 con_1346 := ⟨wd_1889, wd_137, mh_X12_fearOf, .inr (.inr ⟨rfl, wd_1886, wd_1888, wd_98, ⟨_, rfl, pd_X12_fearOf⟩, 12, _, TX12, 45, rfl, rfl⟩)⟩
noncomputable def ct_1352 : CTB2 := [(4, 106, 0, con_650, [0, 1]), (56, 103, 0, con_1344, [0, 1]), (66, 106, 0, con_650, [0, 1]), (84, 357, 0, con_1346, [0, 4, 5, 1]), (104, 103, 0, con_1344, [0, 1]), (112, 360, 0, con_1351, [0, 7, 1, 3, 2, 8, 9, 6])]
noncomputable def hq_564 : HP := [(false, ac_611), (false, ac_436), (true, am_0), (true, am_0), (false, am_7), (false, am_1), (false, am_0), (false, am_13), (false, am_14), (false, am_15)]
noncomputable def gi_735 : GI := jl_n [gp_280, jl_i 0 17]
noncomputable def hq_565 : HP := [(false, ac_611), (false, ac_436), (true, am_0), (true, am_0), (false, am_7), (false, am_1), (true, am_0), (false, am_13), (false, am_14), (false, am_15)]
noncomputable def gi_736 : GI := jl_n [gp_280, jl_i 0 16, jl_i 0 5]
noncomputable def gi_737 : GI := jl_n [gp_280, jl_i 0 16]
noncomputable def cu_1352 : List CUT2 := [((2, [lq 0 6 0, lq 1 1 70], [], gi_497, hq_564), [], ([(70, (-1))], 148)), ((54, [lq 0 6 0, lq 1 1 70], [], gi_735, hq_565), [], ([(70, (-7))], 142)), ((64, [lq 0 6 0, lq 1 1 70, lq 2 1 71], [], gi_736, hq_565), [], ([(70, (-7)), (71, (-1))], 141)), ((102, [lq 0 6 0, lq 1 1 70], [], gi_737, hq_563), [], ([(70, (-1))], 16))]
theorem ch_1352 : staG tb_X12_goAll 1 bt_RX12 [] ct_1352 [] [] cu_1352 35 con_1352 = true := by decide +kernel
theorem cc_1352 : cu_1352.all (cutG tb_X12_goAll 1 bt_RX12 [] ct_1352 [] [] cu_1352 35 con_1352) = true := by decide +kernel
theorem cto_1352 (l : Launch) : CTOK2 l RX12 vwCl gTbl ct_1352 := ct2_cons (vl_650 l) ck_RX12_106_650 (ct2_cons (vl_1344 l) ck_RX12_103_1344 (ct2_cons (vl_650 l) ck_RX12_106_650 (ct2_cons (vl_1346 l) ck_RX12_357_1346 (ct2_cons (vl_1344 l) ck_RX12_103_1344 (ct2_cons (vl_1351 l) ck_RX12_360_1351 (ct2_nil))))))
theorem vl_1352 (l : Launch) : Vld2 l vwCl gTbl con_1352 := conR_ok3 gT_all (hd_1352) rfl pn_RX12 tk_X12_goAll bo_RX12 xo_RX12 (cto_1352 l) ch_1352 (cut_all cc_1352)
/-- RookHustingModel asksHundred -/
noncomputable def ac_612 : AC := .inl (12, jl_n [vp_45, jl_6 7 3, jl_1 26 4, vp_111])
noncomputable def hc_147 : List AC := [ac_612, ac_436, am_8, am_5, am_7, am_7, am_1, am_0, am_0, am_0, am_13, am_14, am_15]
noncomputable def gi_738 : GI := jl_n [gp_286, gp_15, jl_i 0 30, jl_z 61]
noncomputable def ac_613 : AC := .inl (12, jl_n [vp_85, vp_112, jl_8 46 14])
noncomputable def hq_566 : HP := [(true, ac_613), (false, ac_436), (true, am_8), (true, am_5), (true, am_7), (true, am_7), (true, am_1), (true, am_0), (true, am_0), (true, am_0), (true, am_13), (true, am_14), (true, am_15)]
noncomputable def gi_739 : GI := jl_n [gp_286, gp_15, gp_202, jl_z 60]
noncomputable def con_1353 : Con2 := ((yX12_asksHundred, cX12_asksHundred, 1, (some .boolean)), (8, 188), ([(6, 0, 0)], gi_504, hc_147, []), [((0, 0, 0), gi_738, hq_566, [], tg_1), ((0, 1, 0), gi_739, hq_566, [], tg_1)])
theorem hd_1353 : con_1353.1 = (yX12_asksHundred, cX12_asksHundred, 1, (some .boolean)) := rfl
theorem ck_RX12_363_1352 : COK2 RX12 vwCl gTbl 363 0 con_1352 := ⟨wd_1881, wd_137, mh_X12_goAll, .inr (.inr ⟨rfl, wd_1878, wd_1880, wd_96, ⟨_, rfl, pd_X12_goAll⟩, 12, _, TX12, 45, rfl, rfl⟩)⟩
noncomputable def ct_1353 : CTB2 := [(1, 345, 0, con_934, [0, 1, 2, 3, 4, 5, 6]), (5, 363, 0, con_1352, [0, 1, 7, 8, 5, 6, 9, 10, 11, 12]), (9, 99, 0, con_678, [0, 1])]
noncomputable def cu_1353 : List CUT2 := []
theorem ch_1353 : staG tb_X12_asksHundred 1 bt_RX12 [] ct_1353 [] [] cu_1353 9 con_1353 = true := by decide +kernel
theorem cto_1353 (l : Launch) : CTOK2 l RX12 vwCl gTbl ct_1353 := ct2_cons (vl_934 l) ck_RX12_345_934 (ct2_cons (vl_1352 l) ck_RX12_363_1352 (ct2_cons (vl_678 l) ck_RX12_99_678 (ct2_nil)))
theorem vl_1353 (l : Launch) : Vld2 l vwCl gTbl con_1353 := conR_ok3 gT_all (hd_1353) rfl pn_RX12 tk_X12_asksHundred bo_RX12 xo_RX12 (cto_1353 l) ch_1353 cut_nil
/-- RookHustingModel in -/
noncomputable def gi_740 : GI := jl_n [gp_129, jl_i 0 16]
noncomputable def gi_741 : GI := jl_n [gp_129, gp_359]
noncomputable def con_1354 : Con2 := ((yX12_in, cX12_in, 6, (some .boolean)), (0, 0), ([(4, 0, 0), (3, 0, 0), (4, 2, 0)], gi_740, [], []), [((0, 0, 0), gi_741, [], [], [1]), ((0, 1, 0), [(0, 16), (0, 0), (0, 16), (0, 0)], [], [], [1])])
theorem hd_1354 : con_1354.1 = (yX12_in, cX12_in, 6, (some .boolean)) := rfl
noncomputable def cu_1354 : List CUT2 := []
theorem ch_1354 : staG tb_X12_in 1 bt_RX12 [] ct_2 [] [] cu_1354 11 con_1354 = true := by decide +kernel
theorem vl_1354 (l : Launch) : Vld2 l vwCl gTbl con_1354 := conR_ok3 gT_all (hd_1354) rfl pn_RX12 tk_X12_in bo_RX12 xo_RX12 (cto_2 l) ch_1354 cut_nil
/-- RookHustingModel isDay -/
noncomputable def gi_742 : GI := jl_n [gp_338, gp_205, gp_203]
noncomputable def con_1355 : Con2 := ((yX12_isDay, cX12_isDay, 3, (some .boolean)), (1, 25), ([(6, 0, 0), (4, 1, 0)], gi_300, [ac_437, ac_438], []), [((0, 0, 0), gi_301, [(false, ac_437), (false, ac_438)], [], [1]), ((0, 1, 0), gi_742, [(false, ac_437), (false, ac_438)], [], [1])])
theorem hd_1355 : con_1355.1 = (yX12_isDay, cX12_isDay, 3, (some .boolean)) := rfl
theorem ck_RX12_91_1354 : COK2 RX12 vwCl gTbl 91 1 con_1354 := ⟨wd_1544, wd_137, mh_X12_in, .inl ⟨rfl, wd_1542, wd_1543, pd_X12_in⟩⟩
noncomputable def ct_1355 : CTB2 := [(1, 99, 0, con_678, [0, 1]), (10, 103, 0, con_1344, [0, 1]), (14, 91, 1, con_1354, [])]
noncomputable def cu_1355 : List CUT2 := []
theorem ch_1355 : staG tb_X12_isDay 1 bt_RX12 [] ct_1355 [] [] cu_1355 15 con_1355 = true := by decide +kernel
theorem cto_1355 (l : Launch) : CTOK2 l RX12 vwCl gTbl ct_1355 := ct2_cons (vl_678 l) ck_RX12_99_678 (ct2_cons (vl_1344 l) ck_RX12_103_1344 (ct2_cons (vl_1354 l) ck_RX12_91_1354 (ct2_nil)))
theorem vl_1355 (l : Launch) : Vld2 l vwCl gTbl con_1355 := conR_ok3 gT_all (hd_1355) rfl pn_RX12 tk_X12_isDay bo_RX12 xo_RX12 (cto_1355 l) ch_1355 cut_nil
/-- RookHustingModel asksDay -/
noncomputable def ac_614 : AC := .inl (12, jl_n [vp_59, jl_6 7 3, jl_1 27 4, vp_110, jl_8 47 14])
noncomputable def hc_148 : List AC := [ac_614, ac_438, am_8, am_5, am_7, am_7, am_1, am_0, am_0, am_0, am_13, am_14, am_15]
noncomputable def gi_743 : GI := jl_n [gp_7, gp_282, gp_123, jl_z 60]
noncomputable def ac_615 : AC := .inl (12, jl_n [vp_57, vp_84, vp_112, jl_8 47 14])
noncomputable def hq_567 : HP := [(true, ac_615), (false, ac_438), (true, am_8), (true, am_5), (true, am_7), (true, am_7), (true, am_1), (true, am_0), (true, am_0), (true, am_0), (true, am_13), (true, am_14), (true, am_15)]
noncomputable def gi_744 : GI := jl_n [gp_338, gp_282, gp_15, gp_202, jl_z 60]
noncomputable def con_1356 : Con2 := ((yX12_asksDay, cX12_asksDay, 2, (some .boolean)), (9, 208), ([(6, 0, 0), (1, 1, 0)], gi_507, hc_148, []), [((0, 0, 0), gi_743, hq_567, [], tg_1), ((0, 1, 0), gi_744, hq_567, [], tg_1)])
theorem hd_1356 : con_1356.1 = (yX12_asksDay, cX12_asksDay, 2, (some .boolean)) := rfl
theorem ck_RX12_369_1355 : COK2 RX12 vwCl gTbl 369 0 con_1355 := ⟨wd_1902, wd_137, mh_X12_isDay, .inr (.inr ⟨rfl, wd_1899, wd_1901, wd_101, ⟨_, rfl, pd_X12_isDay⟩, 12, _, TX12, 45, rfl, rfl⟩)⟩
theorem ck_RX12_366_1353 : COK2 RX12 vwCl gTbl 366 0 con_1353 := ⟨wd_1877, wd_137, mh_X12_asksHundred, .inr (.inr ⟨rfl, wd_1874, wd_1876, wd_95, ⟨_, rfl, pd_X12_asksHundred⟩, 12, _, TX12, 45, rfl, rfl⟩)⟩
noncomputable def ct_1356 : CTB2 := [(1, 366, 0, con_1353, [0, 1, 2, 3, 4, 5, 6, 7, 8, 9, 10, 11, 12]), (8, 369, 0, con_1355, [0, 1])]
noncomputable def cu_1356 : List CUT2 := []
theorem ch_1356 : staG tb_X12_asksDay 1 bt_RX12 [] ct_1356 [] [] cu_1356 10 con_1356 = true := by decide +kernel
theorem cto_1356 (l : Launch) : CTOK2 l RX12 vwCl gTbl ct_1356 := ct2_cons (vl_1353 l) ck_RX12_366_1353 (ct2_cons (vl_1355 l) ck_RX12_369_1355 (ct2_nil))
theorem vl_1356 (l : Launch) : Vld2 l vwCl gTbl con_1356 := conR_ok3 gT_all (hd_1356) rfl pn_RX12 tk_X12_asksDay bo_RX12 xo_RX12 (cto_1356 l) ch_1356 cut_nil
/-- RookHustingModel fear -/
noncomputable def gi_745 : GI := jl_n [gp_360]
noncomputable def ac_616 : AC := .inl (12, jl_n [vp_49, jl_6 7 3, jl_1 28 4, vp_110, jl_8 48 14])
noncomputable def hc_149 : List AC := [ac_616, ac_440, am_8, am_5, am_7, am_7, am_1, am_0, am_0, am_0, am_13, am_14, am_15]
noncomputable def gi_746 : GI := jl_n [gp_360, gp_175]
noncomputable def ac_617 : AC := .inl (12, jl_n [vp_47, vp_84, vp_112, jl_8 48 14])
noncomputable def hq_568 : HP := [(true, ac_617), (false, ac_440), (true, am_8), (true, am_5), (true, am_7), (true, am_7), (true, am_1), (true, am_0), (true, am_0), (true, am_0), (true, am_13), (true, am_14), (true, am_15)]
noncomputable def con_1357 : Con2 := ((yX12_fear, cX12_fear, 3, (some .int)), (10, 229), ([(6, 0, 0), (1, 1, 0), (1, 2, 0)], gi_745, hc_149, []), [((1, 71, 0), gi_746, hq_568, [], tg_1)])
theorem hd_1357 : con_1357.1 = (yX12_fear, cX12_fear, 3, (some .int)) := rfl
theorem ck_RX12_378_1356 : COK2 RX12 vwCl gTbl 378 0 con_1356 := ⟨wd_1873, wd_137, mh_X12_asksDay, .inr (.inr ⟨rfl, wd_1870, wd_1872, wd_94, ⟨_, rfl, pd_X12_asksDay⟩, 12, _, TX12, 45, rfl, rfl⟩)⟩
noncomputable def ct_1357 : CTB2 := [(2, 378, 0, con_1356, [0, 1, 2, 3, 4, 5, 6, 7, 8, 9, 10, 11, 12]), (11, 109, 0, con_651, [0, 1])]
noncomputable def cu_1357 : List CUT2 := []
theorem ch_1357 : staG tb_X12_fear 1 bt_RX12 [] ct_1357 [] [] cu_1357 21 con_1357 = true := by decide +kernel
theorem cto_1357 (l : Launch) : CTOK2 l RX12 vwCl gTbl ct_1357 := ct2_cons (vl_1356 l) ck_RX12_378_1356 (ct2_cons (vl_651 l) ck_RX12_109_651 (ct2_nil))
theorem vl_1357 (l : Launch) : Vld2 l vwCl gTbl con_1357 := conR_ok3 gT_all (hd_1357) rfl pn_RX12 tk_X12_fear bo_RX12 xo_RX12 (cto_1357 l) ch_1357 cut_nil
/-- RookHusting cellNow -/
noncomputable def ac_618 : AC := .inl (4, jl_n [vp_93, jl_8 30 1, jl_1 31 1, jl_8 32 1, jl_1 34 2, vp_113, vp_95, jl_8 42 2, jl_6 11 1])
noncomputable def ac_619 : AC := .inl (3, jl_n [vp_114, jl_1 118 2])
noncomputable def hc_150 : List AC := [ac_592, am_0, .inl (9, [(6, 4, 0), (6, 12, 0)]), .inl (7, [(6, 5, 0), (6, 6, 0), (6, 7, 0), (1, 25, 0)]), ac_618, am_7, am_1, am_1, am_1, .inl (1, [(6, 4, 0), (8, 44, 0)]), am_4, am_6, .inl (0, [(1, 45, 0), (6, 13, 0), (6, 14, 0), (6, 15, 0)]), ac_594, am_11, ac_595, ac_619, am_2, am_10, am_0, am_1, am_0, am_2, am_9, am_0, am_0, am_12]
noncomputable def ac_620 : AC := .inl (3, jl_n [vp_114, jl_1 148 2])
noncomputable def hq_569 : HP := [(true, ac_597), (true, am_0), (false, .inl (9, [(6, 4, 0), (6, 12, 0)])), (true, .inl (7, [(6, 5, 0), (6, 6, 0), (6, 7, 0), (1, 138, 0)])), (false, ac_618), (true, am_7), (true, am_1), (true, am_1), (false, am_1), (false, .inl (1, [(6, 4, 0), (8, 44, 0)])), (false, am_4), (false, am_6), (false, .inl (0, [(1, 45, 0), (6, 13, 0), (6, 14, 0), (6, 15, 0)])), (false, ac_594), (false, am_11), (false, ac_595), (true, ac_620), (false, am_2), (false, am_10), (true, am_0), (true, am_1), (true, am_0), (false, am_2), (false, am_9), (true, am_0), (true, am_0), (true, am_12)]
noncomputable def con_1358 : Con2 := ((yX11_cellNow, cX11_cellNow, 4, (some .int)), (6, 151), ([(6, 0, 0), (6, 1, 0), (1, 2, 0), (1, 3, 0)], gi_719, hc_150, rq_4), [((1, 118, 0), gi_720, hq_569, [], tg_15)])
theorem hd_1358 : con_1358.1 = (yX11_cellNow, cX11_cellNow, 4, (some .int)) := rfl
noncomputable def ct_1358 : CTB2 := [(1, 208, 0, con_929, [0, 2, 3, 4, 5, 6, 7, 8, 9, 10, 11, 12, 13, 14, 15, 16, 17, 1, 18, 19, 20, 21, 22, 23, 24, 25, 26])]
noncomputable def cu_1358 : List CUT2 := []
theorem ch_1358 : staG tb_X11_cellNow 1 bt_RX11 [] ct_1358 [] [] cu_1358 12 con_1358 = true := by decide +kernel
theorem cto_1358 (l : Launch) : CTOK2 l RX11 vwCl gTbl ct_1358 := ct2_cons (vl_929 l) ck_RX11_208_929 (ct2_nil)
theorem vl_1358 (l : Launch) : Vld2 l vwCl gTbl con_1358 := conR_ok3 gT_all (hd_1358) rfl pn_RX11 tk_X11_cellNow bo_RX11 xo_RX11 (cto_1358 l) ch_1358 cut_nil
/-- RookHusting rooks -/
noncomputable def ac_621 : AC := .inl (4, jl_n [jl_1 24 3, vp_102, vp_113, jl_6 10 1, vp_104, jl_8 37 2, jl_6 12 1])
noncomputable def ac_622 : AC := .inl (3, jl_n [vp_115, jl_1 47 2])
noncomputable def hc_151 : List AC := [ac_599, .inl (9, [(6, 2, 0), (6, 13, 0)]), ac_621, ac_622, am_0, .inl (7, [(6, 6, 0), (6, 7, 0), (6, 8, 0), (1, 50, 0)]), am_7, am_1, am_1, am_1, .inl (1, [(6, 2, 0), (8, 52, 0)]), am_4, am_6, .inl (0, [(1, 53, 0), (6, 14, 0), (6, 15, 0), (6, 16, 0)]), ac_602, am_11, ac_603, am_2, am_10, am_0, am_1, am_0, am_2, am_9, am_0, am_0, am_12]
noncomputable def ac_623 : AC := .inl (3, jl_n [vp_115, jl_1 143 2])
noncomputable def hq_570 : HP := [(true, ac_604), (false, .inl (9, [(6, 2, 0), (6, 13, 0)])), (false, ac_621), (true, ac_623), (true, am_0), (true, .inl (7, [(6, 6, 0), (6, 7, 0), (6, 8, 0), (1, 146, 0)])), (true, am_7), (true, am_1), (true, am_1), (false, am_1), (false, .inl (1, [(6, 2, 0), (8, 52, 0)])), (false, am_4), (false, am_6), (false, .inl (0, [(1, 53, 0), (6, 14, 0), (6, 15, 0), (6, 16, 0)])), (false, ac_602), (false, am_11), (false, ac_603), (false, am_2), (false, am_10), (true, am_0), (true, am_1), (true, am_0), (false, am_2), (false, am_9), (true, am_0), (true, am_0), (true, am_12)]
noncomputable def con_1359 : Con2 := ((yX11_rooks, cX11_rooks, 3, (some .int)), (7, 174), ([(6, 0, 0), (1, 1, 0), (1, 2, 0)], gi_721, hc_151, rq_5), [((1, 117, 0), gi_722, hq_570, [], tg_15)])
theorem hd_1359 : con_1359.1 = (yX11_rooks, cX11_rooks, 3, (some .int)) := rfl
theorem ck_RX11_266_1358 : COK2 RX11 vwCl gTbl 266 0 con_1358 := ⟨wd_1023, wd_125, mh_X11_cellNow, .inr (.inr ⟨rfl, wd_1020, wd_1022, wd_32, ⟨_, rfl, pd_X11_cellNow⟩, 11, _, TX11, 16, rfl, rfl⟩)⟩
noncomputable def ct_1359 : CTB2 := [(2, 139, 0, con_647, [0, 1, 2]), (10, 260, 0, con_1341, [0, 1, 2]), (26, 266, 0, con_1358, [0, 4, 1, 5, 2, 6, 7, 8, 9, 10, 11, 12, 13, 14, 15, 16, 3, 17, 18, 19, 20, 21, 22, 23, 24, 25, 26])]
noncomputable def cu_1359 : List CUT2 := []
theorem ch_1359 : staG tb_X11_rooks 1 bt_RX11 [] ct_1359 [] [] cu_1359 19 con_1359 = true := by decide +kernel
theorem cto_1359 (l : Launch) : CTOK2 l RX11 vwCl gTbl ct_1359 := ct2_cons (vl_647 l) ck_RX11_139_647 (ct2_cons (vl_1341 l) ck_RX11_260_1341 (ct2_cons (vl_1358 l) ck_RX11_266_1358 (ct2_nil)))
theorem vl_1359 (l : Launch) : Vld2 l vwCl gTbl con_1359 := conR_ok3 gT_all (hd_1359) rfl pn_RX11 tk_X11_rooks bo_RX11 xo_RX11 (cto_1359 l) ch_1359 cut_nil
/-- RookHustingModel rooks -/
noncomputable def con_1360 : Con2 := ((yX12_rooks, cX12_rooks, 3, (some .int)), (10, 229), ([(6, 0, 0), (1, 1, 0), (1, 2, 0)], gi_745, hc_149, []), [((1, 71, 0), gi_746, hq_568, [], tg_1)])
theorem hd_1360 : con_1360.1 = (yX12_rooks, cX12_rooks, 3, (some .int)) := rfl
noncomputable def cu_1360 : List CUT2 := []
theorem ch_1360 : staG tb_X12_rooks 1 bt_RX12 [] ct_1357 [] [] cu_1360 21 con_1360 = true := by decide +kernel
theorem vl_1360 (l : Launch) : Vld2 l vwCl gTbl con_1360 := conR_ok3 gT_all (hd_1360) rfl pn_RX12 tk_X12_rooks bo_RX12 xo_RX12 (cto_1357 l) ch_1360 cut_nil
/-- RookHusting cellNow -/
noncomputable def ac_624 : AC := .inl (3, jl_n [vp_117, jl_1 118 2])
noncomputable def hc_152 : List AC := [ac_592, am_0, .inl (9, [(6, 4, 0), (6, 12, 0)]), .inl (7, [(6, 5, 0), (6, 6, 0), (6, 7, 0), (1, 25, 0)]), ac_593, am_7, am_1, am_1, am_1, .inl (1, [(6, 4, 0), (8, 44, 0)]), am_4, am_6, .inl (0, [(1, 45, 0), (6, 13, 0), (6, 14, 0), (6, 15, 0)]), ac_594, am_11, ac_595, ac_624, am_2, am_0, am_10, am_1, am_0, am_2, am_9, am_0, am_0, am_12]
noncomputable def ac_625 : AC := .inl (3, jl_n [vp_117, jl_1 148 2])
noncomputable def hq_571 : HP := [(true, ac_597), (true, am_0), (false, .inl (9, [(6, 4, 0), (6, 12, 0)])), (true, .inl (7, [(6, 5, 0), (6, 6, 0), (6, 7, 0), (1, 138, 0)])), (false, ac_593), (true, am_7), (true, am_1), (true, am_1), (false, am_1), (false, .inl (1, [(6, 4, 0), (8, 44, 0)])), (false, am_4), (false, am_6), (false, .inl (0, [(1, 45, 0), (6, 13, 0), (6, 14, 0), (6, 15, 0)])), (false, ac_594), (false, am_11), (false, ac_595), (true, ac_625), (false, am_2), (true, am_0), (false, am_10), (true, am_1), (true, am_0), (false, am_2), (false, am_9), (true, am_0), (true, am_0), (true, am_12)]
noncomputable def con_1361 : Con2 := ((yX11_cellNow, cX11_cellNow, 4, (some .int)), (6, 151), ([(6, 0, 0), (6, 1, 0), (1, 2, 0), (1, 3, 0)], gi_719, hc_152, rq_4), [((1, 118, 0), gi_720, hq_571, [], tg_15)])
theorem hd_1361 : con_1361.1 = (yX11_cellNow, cX11_cellNow, 4, (some .int)) := rfl
noncomputable def ct_1361 : CTB2 := [(1, 208, 0, con_929, [0, 2, 3, 4, 5, 6, 7, 8, 9, 10, 11, 12, 13, 14, 15, 16, 17, 18, 19, 1, 20, 21, 22, 23, 24, 25, 26])]
noncomputable def cu_1361 : List CUT2 := []
theorem ch_1361 : staG tb_X11_cellNow 1 bt_RX11 [] ct_1361 [] [] cu_1361 12 con_1361 = true := by decide +kernel
theorem cto_1361 (l : Launch) : CTOK2 l RX11 vwCl gTbl ct_1361 := ct2_cons (vl_929 l) ck_RX11_208_929 (ct2_nil)
theorem vl_1361 (l : Launch) : Vld2 l vwCl gTbl con_1361 := conR_ok3 gT_all (hd_1361) rfl pn_RX11 tk_X11_cellNow bo_RX11 xo_RX11 (cto_1361 l) ch_1361 cut_nil
/-- RookHusting corn -/
noncomputable def ac_626 : AC := .inl (3, jl_n [vp_118, jl_1 47 2])
noncomputable def hc_153 : List AC := [ac_599, .inl (9, [(6, 2, 0), (6, 13, 0)]), ac_600, ac_626, am_0, .inl (7, [(6, 6, 0), (6, 7, 0), (6, 8, 0), (1, 50, 0)]), am_7, am_1, am_1, am_1, .inl (1, [(6, 2, 0), (8, 52, 0)]), am_4, am_6, .inl (0, [(1, 53, 0), (6, 14, 0), (6, 15, 0), (6, 16, 0)]), ac_602, am_11, ac_603, am_2, am_0, am_10, am_1, am_0, am_2, am_9, am_0, am_0, am_12]
noncomputable def ac_627 : AC := .inl (3, jl_n [vp_118, jl_1 143 2])
noncomputable def hq_572 : HP := [(true, ac_604), (false, .inl (9, [(6, 2, 0), (6, 13, 0)])), (false, ac_600), (true, ac_627), (true, am_0), (true, .inl (7, [(6, 6, 0), (6, 7, 0), (6, 8, 0), (1, 146, 0)])), (true, am_7), (true, am_1), (true, am_1), (false, am_1), (false, .inl (1, [(6, 2, 0), (8, 52, 0)])), (false, am_4), (false, am_6), (false, .inl (0, [(1, 53, 0), (6, 14, 0), (6, 15, 0), (6, 16, 0)])), (false, ac_602), (false, am_11), (false, ac_603), (false, am_2), (true, am_0), (false, am_10), (true, am_1), (true, am_0), (false, am_2), (false, am_9), (true, am_0), (true, am_0), (true, am_12)]
noncomputable def con_1362 : Con2 := ((yX11_corn, cX11_corn, 3, (some .int)), (7, 174), ([(6, 0, 0), (1, 1, 0), (1, 2, 0)], gi_721, hc_153, rq_5), [((1, 117, 0), gi_722, hq_572, [], tg_15)])
theorem hd_1362 : con_1362.1 = (yX11_corn, cX11_corn, 3, (some .int)) := rfl
theorem ck_RX11_266_1361 : COK2 RX11 vwCl gTbl 266 0 con_1361 := ⟨wd_1023, wd_125, mh_X11_cellNow, .inr (.inr ⟨rfl, wd_1020, wd_1022, wd_32, ⟨_, rfl, pd_X11_cellNow⟩, 11, _, TX11, 16, rfl, rfl⟩)⟩
noncomputable def ct_1362 : CTB2 := [(2, 139, 0, con_647, [0, 1, 2]), (10, 260, 0, con_1341, [0, 1, 2]), (26, 266, 0, con_1361, [0, 4, 1, 5, 2, 6, 7, 8, 9, 10, 11, 12, 13, 14, 15, 16, 3, 17, 18, 19, 20, 21, 22, 23, 24, 25, 26])]
noncomputable def cu_1362 : List CUT2 := []
theorem ch_1362 : staG tb_X11_corn 1 bt_RX11 [] ct_1362 [] [] cu_1362 19 con_1362 = true := by decide +kernel
theorem cto_1362 (l : Launch) : CTOK2 l RX11 vwCl gTbl ct_1362 := ct2_cons (vl_647 l) ck_RX11_139_647 (ct2_cons (vl_1341 l) ck_RX11_260_1341 (ct2_cons (vl_1361 l) ck_RX11_266_1361 (ct2_nil)))
theorem vl_1362 (l : Launch) : Vld2 l vwCl gTbl con_1362 := conR_ok3 gT_all (hd_1362) rfl pn_RX11 tk_X11_corn bo_RX11 xo_RX11 (cto_1362 l) ch_1362 cut_nil
/-- RookHustingModel corn -/
noncomputable def con_1363 : Con2 := ((yX12_corn, cX12_corn, 3, (some .int)), (10, 229), ([(6, 0, 0), (1, 1, 0), (1, 2, 0)], gi_745, hc_149, []), [((1, 71, 0), gi_746, hq_568, [], tg_1)])
theorem hd_1363 : con_1363.1 = (yX12_corn, cX12_corn, 3, (some .int)) := rfl
noncomputable def cu_1363 : List CUT2 := []
theorem ch_1363 : staG tb_X12_corn 1 bt_RX12 [] ct_1357 [] [] cu_1363 21 con_1363 = true := by decide +kernel
theorem vl_1363 (l : Launch) : Vld2 l vwCl gTbl con_1363 := conR_ok3 gT_all (hd_1363) rfl pn_RX12 tk_X12_corn bo_RX12 xo_RX12 (cto_1357 l) ch_1363 cut_nil
/-- RookHusting isEatingDay -/
noncomputable def gi_747 : GI := jl_n [gp_361, jl_i 0 16, jl_z 15]
noncomputable def ac_628 : AC := .inl (4, jl_n [jl_8 21 1, jl_1 22 1, jl_8 37 15])
noncomputable def gi_748 : GI := jl_n [gp_361, jl_i 0 16, jl_z 16]
noncomputable def hq_573 : HP := [(false, ac_431), (false, .inl (9, [(6, 2, 0), (8, 19, 0)])), (false, ac_628)]
noncomputable def gi_749 : GI := jl_n [gp_224, jl_z 19, jl_i 1 16, jl_z 16]
noncomputable def con_1364 : Con2 := ((yX11_isEatingDay, cX11_isEatingDay, 2, (some .boolean)), (0, 0), ([(6, 0, 0), (1, 1, 0)], gi_747, [ac_431, .inl (9, [(6, 2, 0), (8, 19, 0)]), ac_628], []), [((0, 0, 0), gi_748, hq_573, [], [1]), ((0, 1, 0), gi_749, hq_573, [], [1])])
theorem hd_1364 : con_1364.1 = (yX11_isEatingDay, cX11_isEatingDay, 2, (some .boolean)) := rfl
noncomputable def cu_1364 : List CUT2 := []
theorem ch_1364 : staG tb_X11_isEatingDay 1 bt_RX11 [] ct_3 [] [] cu_1364 13 con_1364 = true := by decide +kernel
theorem vl_1364 (l : Launch) : Vld2 l vwCl gTbl con_1364 := conR_ok3 gT_all (hd_1364) rfl pn_RX11 tk_X11_isEatingDay bo_RX11 xo_RX11 (cto_3 l) ch_1364 cut_nil
/-- RookHusting cellNow -/
noncomputable def gi_750 : GI := jl_n [gp_362, gp_340]
noncomputable def ac_629 : AC := .inl (4, jl_n [vp_93, jl_8 30 1, jl_1 31 1, jl_8 32 1, jl_1 34 2, vp_94, jl_6 9 1, jl_6 25 2, jl_6 12 1, jl_8 42 2, jl_6 11 1])
noncomputable def ac_630 : AC := .inl (3, jl_n [vp_119, jl_6 2 1, vp_120, jl_1 118 2])
noncomputable def hc_154 : List AC := [ac_592, am_0, .inl (9, [(6, 4, 0), (6, 12, 0)]), .inl (7, [(6, 5, 0), (6, 6, 0), (6, 7, 0), (1, 25, 0)]), ac_629, am_7, am_1, am_1, am_1, .inl (1, [(6, 4, 0), (8, 44, 0)]), am_4, am_6, .inl (0, [(1, 45, 0), (6, 13, 0), (6, 14, 0), (6, 15, 0)]), ac_594, am_11, ac_595, ac_630, am_2, am_0, am_10, am_0, am_1, am_0, am_2, am_9, am_0, am_12]
noncomputable def gi_751 : GI := jl_n [gp_362, gp_341]
noncomputable def ac_631 : AC := .inl (3, jl_n [vp_119, jl_6 2 1, vp_120, jl_1 148 2])
noncomputable def hq_574 : HP := [(true, ac_597), (true, am_0), (false, .inl (9, [(6, 4, 0), (6, 12, 0)])), (true, .inl (7, [(6, 5, 0), (6, 6, 0), (6, 7, 0), (1, 138, 0)])), (false, ac_629), (true, am_7), (true, am_1), (true, am_1), (false, am_1), (false, .inl (1, [(6, 4, 0), (8, 44, 0)])), (false, am_4), (false, am_6), (false, .inl (0, [(1, 45, 0), (6, 13, 0), (6, 14, 0), (6, 15, 0)])), (false, ac_594), (false, am_11), (false, ac_595), (true, ac_631), (false, am_2), (true, am_0), (false, am_10), (true, am_0), (true, am_1), (true, am_0), (false, am_2), (false, am_9), (true, am_0), (true, am_12)]
noncomputable def con_1365 : Con2 := ((yX11_cellNow, cX11_cellNow, 4, (some .int)), (6, 151), ([(6, 0, 0), (6, 1, 0), (1, 2, 0), (1, 3, 0)], gi_750, hc_154, rq_4), [((1, 118, 0), gi_751, hq_574, [], tg_15)])
theorem hd_1365 : con_1365.1 = (yX11_cellNow, cX11_cellNow, 4, (some .int)) := rfl
noncomputable def ct_1365 : CTB2 := [(1, 208, 0, con_929, [0, 2, 3, 4, 5, 6, 7, 8, 9, 10, 11, 12, 13, 14, 15, 16, 17, 18, 19, 20, 21, 22, 23, 24, 1, 25, 26])]
noncomputable def cu_1365 : List CUT2 := []
theorem ch_1365 : staG tb_X11_cellNow 1 bt_RX11 [] ct_1365 [] [] cu_1365 12 con_1365 = true := by decide +kernel
theorem cto_1365 (l : Launch) : CTOK2 l RX11 vwCl gTbl ct_1365 := ct2_cons (vl_929 l) ck_RX11_208_929 (ct2_nil)
theorem vl_1365 (l : Launch) : Vld2 l vwCl gTbl con_1365 := conR_ok3 gT_all (hd_1365) rfl pn_RX11 tk_X11_cellNow bo_RX11 xo_RX11 (cto_1365 l) ch_1365 cut_nil
/-- RookHusting eaten -/
noncomputable def gi_752 : GI := jl_n [gp_363, gp_347]
noncomputable def ac_632 : AC := .inl (4, jl_n [vp_121, vp_103, jl_6 25 2, jl_6 13 1, jl_8 37 2, jl_6 12 1])
noncomputable def ac_633 : AC := .inl (3, jl_n [vp_119, jl_6 5 1, vp_120, jl_1 47 2])
noncomputable def hc_155 : List AC := [ac_599, .inl (9, [(6, 2, 0), (6, 13, 0)]), ac_632, ac_633, am_0, .inl (7, [(6, 6, 0), (6, 7, 0), (6, 8, 0), (1, 50, 0)]), am_7, am_1, am_1, am_1, .inl (1, [(6, 2, 0), (8, 52, 0)]), am_4, am_6, .inl (0, [(1, 53, 0), (6, 14, 0), (6, 15, 0), (6, 16, 0)]), ac_602, am_11, ac_603, am_2, am_0, am_10, am_0, am_1, am_0, am_2, am_9, am_0, am_12]
noncomputable def gi_753 : GI := jl_n [gp_363, gp_347, gp_351]
noncomputable def ac_634 : AC := .inl (3, jl_n [vp_119, jl_6 5 1, vp_120, jl_1 143 2])
noncomputable def hq_575 : HP := [(true, ac_604), (false, .inl (9, [(6, 2, 0), (6, 13, 0)])), (false, ac_632), (true, ac_634), (true, am_0), (true, .inl (7, [(6, 6, 0), (6, 7, 0), (6, 8, 0), (1, 146, 0)])), (true, am_7), (true, am_1), (true, am_1), (false, am_1), (false, .inl (1, [(6, 2, 0), (8, 52, 0)])), (false, am_4), (false, am_6), (false, .inl (0, [(1, 53, 0), (6, 14, 0), (6, 15, 0), (6, 16, 0)])), (false, ac_602), (false, am_11), (false, ac_603), (false, am_2), (true, am_0), (false, am_10), (true, am_0), (true, am_1), (true, am_0), (false, am_2), (false, am_9), (true, am_0), (true, am_12)]
noncomputable def con_1366 : Con2 := ((yX11_eaten, cX11_eaten, 3, (some .int)), (7, 174), ([(6, 0, 0), (1, 1, 0), (1, 2, 0)], gi_752, hc_155, rq_5), [((1, 117, 0), gi_753, hq_575, [], tg_15)])
theorem hd_1366 : con_1366.1 = (yX11_eaten, cX11_eaten, 3, (some .int)) := rfl
theorem ck_RX11_266_1365 : COK2 RX11 vwCl gTbl 266 0 con_1365 := ⟨wd_1023, wd_125, mh_X11_cellNow, .inr (.inr ⟨rfl, wd_1020, wd_1022, wd_32, ⟨_, rfl, pd_X11_cellNow⟩, 11, _, TX11, 16, rfl, rfl⟩)⟩
theorem ck_RX11_272_1364 : COK2 RX11 vwCl gTbl 272 0 con_1364 := ⟨wd_1039, wd_125, mh_X11_isEatingDay, .inr (.inr ⟨rfl, wd_1036, wd_1038, wd_33, ⟨_, rfl, pd_X11_isEatingDay⟩, 11, _, TX11, 16, rfl, rfl⟩)⟩
noncomputable def ct_1366 : CTB2 := [(2, 139, 0, con_647, [0, 1, 2]), (10, 272, 0, con_1364, [0, 1, 2]), (26, 266, 0, con_1365, [0, 4, 1, 5, 2, 6, 7, 8, 9, 10, 11, 12, 13, 14, 15, 16, 3, 17, 18, 19, 20, 21, 22, 23, 24, 25, 26])]
noncomputable def cu_1366 : List CUT2 := []
theorem ch_1366 : staG tb_X11_eaten 1 bt_RX11 [] ct_1366 [] [] cu_1366 19 con_1366 = true := by decide +kernel
theorem cto_1366 (l : Launch) : CTOK2 l RX11 vwCl gTbl ct_1366 := ct2_cons (vl_647 l) ck_RX11_139_647 (ct2_cons (vl_1364 l) ck_RX11_272_1364 (ct2_cons (vl_1365 l) ck_RX11_266_1365 (ct2_nil)))
theorem vl_1366 (l : Launch) : Vld2 l vwCl gTbl con_1366 := conR_ok3 gT_all (hd_1366) rfl pn_RX11 tk_X11_eaten bo_RX11 xo_RX11 (cto_1366 l) ch_1366 cut_nil
/-- RookHustingModel in -/
noncomputable def gi_754 : GI := jl_n [gp_129, jl_m 0 15]
noncomputable def gi_755 : GI := jl_n [gp_129, jl_m 0 15, jl_z 1]
noncomputable def con_1367 : Con2 := ((yX12_in, cX12_in, 6, (some .boolean)), (0, 0), ([(4, 0, 0), (3, 0, 0), (4, 2, 0)], gi_754, [], []), [((0, 0, 0), gi_755, [], [], [1]), ((0, 1, 0), [(0, 15), (0, 0), (0, 15), (0, 0)], [], [], [1])])
theorem hd_1367 : con_1367.1 = (yX12_in, cX12_in, 6, (some .boolean)) := rfl
noncomputable def cu_1367 : List CUT2 := []
theorem ch_1367 : staG tb_X12_in 1 bt_RX12 [] ct_2 [] [] cu_1367 11 con_1367 = true := by decide +kernel
theorem vl_1367 (l : Launch) : Vld2 l vwCl gTbl con_1367 := conR_ok3 gT_all (hd_1367) rfl pn_RX12 tk_X12_in bo_RX12 xo_RX12 (cto_2 l) ch_1367 cut_nil
/-- RookHustingModel isAhead -/
noncomputable def gi_756 : GI := jl_n [gp_224, jl_z 45, gp_364, gp_203]
noncomputable def con_1368 : Con2 := ((yX12_isAhead, cX12_isAhead, 3, (some .boolean)), (1, 25), ([(6, 0, 0), (4, 1, 0)], gi_300, [ac_437, ac_438], []), [((0, 0, 0), gi_301, [(false, ac_437), (false, ac_438)], [], [1]), ((0, 1, 0), gi_756, [(false, ac_437), (false, ac_438)], [], [1])])
theorem hd_1368 : con_1368.1 = (yX12_isAhead, cX12_isAhead, 3, (some .boolean)) := rfl
theorem ck_RX12_91_1367 : COK2 RX12 vwCl gTbl 91 1 con_1367 := ⟨wd_1544, wd_137, mh_X12_in, .inl ⟨rfl, wd_1542, wd_1543, pd_X12_in⟩⟩
noncomputable def ct_1368 : CTB2 := [(1, 99, 0, con_678, [0, 1]), (10, 103, 0, con_1344, [0, 1]), (16, 91, 1, con_1367, [])]
noncomputable def cu_1368 : List CUT2 := []
theorem ch_1368 : staG tb_X12_isAhead 1 bt_RX12 [] ct_1368 [] [] cu_1368 17 con_1368 = true := by decide +kernel
theorem cto_1368 (l : Launch) : CTOK2 l RX12 vwCl gTbl ct_1368 := ct2_cons (vl_678 l) ck_RX12_99_678 (ct2_cons (vl_1344 l) ck_RX12_103_1344 (ct2_cons (vl_1367 l) ck_RX12_91_1367 (ct2_nil)))
theorem vl_1368 (l : Launch) : Vld2 l vwCl gTbl con_1368 := conR_ok3 gT_all (hd_1368) rfl pn_RX12 tk_X12_isAhead bo_RX12 xo_RX12 (cto_1368 l) ch_1368 cut_nil
/-- RookHustingModel asksAhead -/
noncomputable def gi_757 : GI := jl_n [gp_224, gp_282, gp_364, gp_202, jl_z 60]
noncomputable def con_1369 : Con2 := ((yX12_asksAhead, cX12_asksAhead, 2, (some .boolean)), (9, 208), ([(6, 0, 0), (1, 1, 0)], gi_507, hc_148, []), [((0, 0, 0), gi_743, hq_567, [], tg_1), ((0, 1, 0), gi_757, hq_567, [], tg_1)])
theorem hd_1369 : con_1369.1 = (yX12_asksAhead, cX12_asksAhead, 2, (some .boolean)) := rfl
theorem ck_RX12_372_1368 : COK2 RX12 vwCl gTbl 372 0 con_1368 := ⟨wd_1922, wd_137, mh_X12_isAhead, .inr (.inr ⟨rfl, wd_1919, wd_1921, wd_103, ⟨_, rfl, pd_X12_isAhead⟩, 12, _, TX12, 45, rfl, rfl⟩)⟩
noncomputable def ct_1369 : CTB2 := [(1, 366, 0, con_1353, [0, 1, 2, 3, 4, 5, 6, 7, 8, 9, 10, 11, 12]), (8, 372, 0, con_1368, [0, 1])]
noncomputable def cu_1369 : List CUT2 := []
theorem ch_1369 : staG tb_X12_asksAhead 1 bt_RX12 [] ct_1369 [] [] cu_1369 10 con_1369 = true := by decide +kernel
theorem cto_1369 (l : Launch) : CTOK2 l RX12 vwCl gTbl ct_1369 := ct2_cons (vl_1353 l) ck_RX12_366_1353 (ct2_cons (vl_1368 l) ck_RX12_372_1368 (ct2_nil))
theorem vl_1369 (l : Launch) : Vld2 l vwCl gTbl con_1369 := conR_ok3 gT_all (hd_1369) rfl pn_RX12 tk_X12_asksAhead bo_RX12 xo_RX12 (cto_1369 l) ch_1369 cut_nil
/-- RookHustingModel eaten -/
noncomputable def con_1370 : Con2 := ((yX12_eaten, cX12_eaten, 3, (some .int)), (10, 229), ([(6, 0, 0), (1, 1, 0), (1, 2, 0)], gi_745, hc_149, []), [((1, 71, 0), gi_746, hq_568, [], tg_1)])
theorem hd_1370 : con_1370.1 = (yX12_eaten, cX12_eaten, 3, (some .int)) := rfl
theorem ck_RX12_381_1369 : COK2 RX12 vwCl gTbl 381 0 con_1369 := ⟨wd_1918, wd_137, mh_X12_asksAhead, .inr (.inr ⟨rfl, wd_1915, wd_1917, wd_102, ⟨_, rfl, pd_X12_asksAhead⟩, 12, _, TX12, 45, rfl, rfl⟩)⟩
noncomputable def ct_1370 : CTB2 := [(2, 381, 0, con_1369, [0, 1, 2, 3, 4, 5, 6, 7, 8, 9, 10, 11, 12]), (11, 109, 0, con_651, [0, 1])]
noncomputable def cu_1370 : List CUT2 := []
theorem ch_1370 : staG tb_X12_eaten 1 bt_RX12 [] ct_1370 [] [] cu_1370 21 con_1370 = true := by decide +kernel
theorem cto_1370 (l : Launch) : CTOK2 l RX12 vwCl gTbl ct_1370 := ct2_cons (vl_1369 l) ck_RX12_381_1369 (ct2_cons (vl_651 l) ck_RX12_109_651 (ct2_nil))
theorem vl_1370 (l : Launch) : Vld2 l vwCl gTbl con_1370 := conR_ok3 gT_all (hd_1370) rfl pn_RX12 tk_X12_eaten bo_RX12 xo_RX12 (cto_1370 l) ch_1370 cut_nil
/-- RookHusting cellNow -/
noncomputable def ac_635 : AC := .inl (3, jl_n [vp_122, jl_6 2 1, jl_6 22 1, jl_1 118 2])
noncomputable def hc_156 : List AC := [ac_592, am_12, .inl (9, [(6, 4, 0), (6, 12, 0)]), .inl (7, [(6, 5, 0), (6, 6, 0), (6, 7, 0), (1, 25, 0)]), ac_629, am_7, am_1, am_1, am_1, .inl (1, [(6, 4, 0), (8, 44, 0)]), am_4, am_6, .inl (0, [(1, 45, 0), (6, 13, 0), (6, 14, 0), (6, 15, 0)]), ac_594, am_11, ac_595, ac_635, am_2, am_0, am_10, am_0, am_1, am_0, am_2, am_9, am_0, am_0]
noncomputable def gi_758 : GI := jl_n [gp_362, gp_340, jl_m 0 4, gp_267]
noncomputable def ac_636 : AC := .inl (3, jl_n [vp_122, jl_6 2 1, jl_6 22 1, jl_1 148 2])
noncomputable def hq_576 : HP := [(true, ac_597), (true, am_12), (false, .inl (9, [(6, 4, 0), (6, 12, 0)])), (true, .inl (7, [(6, 5, 0), (6, 6, 0), (6, 7, 0), (1, 138, 0)])), (false, ac_629), (true, am_7), (true, am_1), (true, am_1), (false, am_1), (false, .inl (1, [(6, 4, 0), (8, 44, 0)])), (false, am_4), (false, am_6), (false, .inl (0, [(1, 45, 0), (6, 13, 0), (6, 14, 0), (6, 15, 0)])), (false, ac_594), (false, am_11), (false, ac_595), (true, ac_636), (false, am_2), (true, am_0), (false, am_10), (true, am_0), (true, am_1), (true, am_0), (false, am_2), (false, am_9), (true, am_0), (true, am_0)]
noncomputable def con_1371 : Con2 := ((yX11_cellNow, cX11_cellNow, 4, (some .int)), (6, 151), ([(6, 0, 0), (6, 1, 0), (1, 2, 0), (1, 3, 0)], gi_750, hc_156, rq_4), [((1, 118, 0), gi_758, hq_576, [], tg_15)])
theorem hd_1371 : con_1371.1 = (yX11_cellNow, cX11_cellNow, 4, (some .int)) := rfl
noncomputable def ct_1371 : CTB2 := [(1, 208, 0, con_929, [0, 2, 3, 4, 5, 6, 7, 8, 9, 10, 11, 12, 13, 14, 15, 16, 17, 18, 19, 20, 21, 22, 23, 24, 25, 26, 1])]
noncomputable def cu_1371 : List CUT2 := []
theorem ch_1371 : staG tb_X11_cellNow 1 bt_RX11 [] ct_1371 [] [] cu_1371 12 con_1371 = true := by decide +kernel
theorem cto_1371 (l : Launch) : CTOK2 l RX11 vwCl gTbl ct_1371 := ct2_cons (vl_929 l) ck_RX11_208_929 (ct2_nil)
theorem vl_1371 (l : Launch) : Vld2 l vwCl gTbl con_1371 := conR_ok3 gT_all (hd_1371) rfl pn_RX11 tk_X11_cellNow bo_RX11 xo_RX11 (cto_1371 l) ch_1371 cut_nil
/-- RookHusting flies -/
noncomputable def ac_637 : AC := .inl (3, jl_n [vp_122, jl_6 5 1, jl_6 22 1, jl_1 47 2])
noncomputable def hc_157 : List AC := [ac_599, .inl (9, [(6, 2, 0), (6, 13, 0)]), ac_632, ac_637, am_12, .inl (7, [(6, 6, 0), (6, 7, 0), (6, 8, 0), (1, 50, 0)]), am_7, am_1, am_1, am_1, .inl (1, [(6, 2, 0), (8, 52, 0)]), am_4, am_6, .inl (0, [(1, 53, 0), (6, 14, 0), (6, 15, 0), (6, 16, 0)]), ac_602, am_11, ac_603, am_2, am_0, am_10, am_0, am_1, am_0, am_2, am_9, am_0, am_0]
noncomputable def gi_759 : GI := jl_n [gp_363, gp_347, jl_m 1 4, gp_350]
noncomputable def ac_638 : AC := .inl (3, jl_n [vp_122, jl_6 5 1, jl_6 22 1, jl_1 143 2])
noncomputable def hq_577 : HP := [(true, ac_604), (false, .inl (9, [(6, 2, 0), (6, 13, 0)])), (false, ac_632), (true, ac_638), (true, am_12), (true, .inl (7, [(6, 6, 0), (6, 7, 0), (6, 8, 0), (1, 146, 0)])), (true, am_7), (true, am_1), (true, am_1), (false, am_1), (false, .inl (1, [(6, 2, 0), (8, 52, 0)])), (false, am_4), (false, am_6), (false, .inl (0, [(1, 53, 0), (6, 14, 0), (6, 15, 0), (6, 16, 0)])), (false, ac_602), (false, am_11), (false, ac_603), (false, am_2), (true, am_0), (false, am_10), (true, am_0), (true, am_1), (true, am_0), (false, am_2), (false, am_9), (true, am_0), (true, am_0)]
noncomputable def con_1372 : Con2 := ((yX11_flies, cX11_flies, 3, (some .int)), (7, 174), ([(6, 0, 0), (1, 1, 0), (1, 2, 0)], gi_752, hc_157, rq_5), [((1, 117, 0), gi_759, hq_577, [], tg_15)])
theorem hd_1372 : con_1372.1 = (yX11_flies, cX11_flies, 3, (some .int)) := rfl
theorem ck_RX11_266_1371 : COK2 RX11 vwCl gTbl 266 0 con_1371 := ⟨wd_1023, wd_125, mh_X11_cellNow, .inr (.inr ⟨rfl, wd_1020, wd_1022, wd_32, ⟨_, rfl, pd_X11_cellNow⟩, 11, _, TX11, 16, rfl, rfl⟩)⟩
noncomputable def ct_1372 : CTB2 := [(2, 139, 0, con_647, [0, 1, 2]), (10, 272, 0, con_1364, [0, 1, 2]), (26, 266, 0, con_1371, [0, 4, 1, 5, 2, 6, 7, 8, 9, 10, 11, 12, 13, 14, 15, 16, 3, 17, 18, 19, 20, 21, 22, 23, 24, 25, 26])]
noncomputable def cu_1372 : List CUT2 := []
theorem ch_1372 : staG tb_X11_flies 1 bt_RX11 [] ct_1372 [] [] cu_1372 19 con_1372 = true := by decide +kernel
theorem cto_1372 (l : Launch) : CTOK2 l RX11 vwCl gTbl ct_1372 := ct2_cons (vl_647 l) ck_RX11_139_647 (ct2_cons (vl_1364 l) ck_RX11_272_1364 (ct2_cons (vl_1371 l) ck_RX11_266_1371 (ct2_nil)))
theorem vl_1372 (l : Launch) : Vld2 l vwCl gTbl con_1372 := conR_ok3 gT_all (hd_1372) rfl pn_RX11 tk_X11_flies bo_RX11 xo_RX11 (cto_1372 l) ch_1372 cut_nil
/-- RookHustingModel flies -/
noncomputable def gi_760 : GI := jl_n [gp_360, jl_m 1 4, jl_z 45]
noncomputable def con_1373 : Con2 := ((yX12_flies, cX12_flies, 3, (some .int)), (10, 229), ([(6, 0, 0), (1, 1, 0), (1, 2, 0)], gi_745, hc_149, []), [((1, 71, 0), gi_760, hq_568, [], tg_1)])
theorem hd_1373 : con_1373.1 = (yX12_flies, cX12_flies, 3, (some .int)) := rfl
noncomputable def cu_1373 : List CUT2 := []
theorem ch_1373 : staG tb_X12_flies 1 bt_RX12 [] ct_1370 [] [] cu_1373 21 con_1373 = true := by decide +kernel
theorem vl_1373 (l : Launch) : Vld2 l vwCl gTbl con_1373 := conR_ok3 gT_all (hd_1373) rfl pn_RX12 tk_X12_flies bo_RX12 xo_RX12 (cto_1370 l) ch_1373 cut_nil
/-- RookHusting$Harvest sumOf -/
noncomputable def gi_761 : GI := jl_n [gp_357, gp_244]
noncomputable def ac_639 : AC := .inl (3, jl_n [vp_38, jl_8 10 4, vp_66])
noncomputable def gi_762 : GI := jl_n [gp_357, gp_245, gp_7]
noncomputable def hq_578 : HP := [(false, ac_639), (false, am_0)]
noncomputable def con_1374 : Con2 := ((yX3_sumOf, cX3_sumOf, 5, (some .int)), (0, 0), ([(6, 0, 0), (6, 1, 0), (1, 2, 0)], gi_761, [ac_639, am_0], []), [((1, 12, 0), gi_762, hq_578, [], [1])])
theorem hd_1374 : con_1374.1 = (yX3_sumOf, cX3_sumOf, 5, (some .int)) := rfl
noncomputable def gi_763 : GI := jl_n [gp_357, gp_245, gp_365]
noncomputable def cu_1374 : List CUT2 := [((5, [lq 0 6 0, lq 1 6 1, lq 2 1 2, lq 3 1 15, lq 4 1 16], [], gi_763, hq_578), [], ([(16, (-1))], 5))]
theorem ch_1374 : staG tb_X3_sumOf 1 bt_RX3 [] ct_873 [] [] cu_1374 19 con_1374 = true := by decide +kernel
theorem cc_1374 : cu_1374.all (cutG tb_X3_sumOf 1 bt_RX3 [] ct_873 [] [] cu_1374 19 con_1374) = true := by decide +kernel
theorem vl_1374 (l : Launch) : Vld2 l vwCl gTbl con_1374 := conR_ok3 gT_all (hd_1374) rfl pn_RX3 tk_X3_sumOf bo_RX3 xo_RX3 (cto_873 l) ch_1374 (cut_all cc_1374)
/-- RookHusting sumNow -/
noncomputable def gi_764 : GI := jl_n [gp_357, gp_340]
noncomputable def ac_640 : AC := .inl (11, jl_n [vp_33, jl_8 8 2, vp_92, jl_8 11 1, jl_6 17 1, jl_8 16 4, vp_100])
noncomputable def ac_641 : AC := .inl (4, jl_n [vp_123, vp_94, vp_95, jl_8 41 2, jl_6 11 1])
noncomputable def ac_642 : AC := .inr (1, jl_n [js_1 78 30])
noncomputable def ac_643 : AC := .inr (1, jl_n [js_1 108 30])
noncomputable def ac_644 : AC := .inl (3, jl_n [vp_117, jl_1 117 2])
noncomputable def hc_158 : List AC := [ac_640, am_0, .inl (9, [(6, 4, 0), (6, 12, 0)]), .inl (7, [(6, 5, 0), (6, 6, 0), (6, 7, 0), (1, 24, 0)]), ac_641, am_7, am_1, am_1, am_1, .inl (1, [(6, 4, 0), (8, 43, 0)]), am_4, am_6, .inl (0, [(1, 44, 0), (6, 13, 0), (6, 14, 0), (6, 15, 0)]), ac_642, am_11, ac_643, ac_644, am_2, am_0, am_10, am_1, am_0, am_2, am_9, am_0, am_0, am_12]
noncomputable def rq_6 : RLs := [([(48, 12), (78, (-1))], 4), ([(49, 12), (79, (-1))], 4), ([(50, 12), (80, (-1))], 4), ([(51, 12), (81, (-1))], 4), ([(52, 12), (82, (-1))], 4), ([(53, 12), (83, (-1))], 4), ([(54, 12), (84, (-1))], 4), ([(55, 12), (85, (-1))], 4), ([(56, 12), (86, (-1))], 4), ([(57, 12), (87, (-1))], 4), ([(58, 12), (88, (-1))], 4), ([(59, 12), (89, (-1))], 4), ([(60, 12), (90, (-1))], 4), ([(61, 12), (91, (-1))], 4), ([(62, 12), (92, (-1))], 4), ([(63, 12), (93, (-1))], 4), ([(64, 12), (94, (-1))], 4), ([(65, 12), (95, (-1))], 4), ([(66, 12), (96, (-1))], 4), ([(67, 12), (97, (-1))], 4), ([(68, 12), (98, (-1))], 4), ([(69, 12), (99, (-1))], 4), ([(70, 12), (100, (-1))], 4), ([(71, 12), (101, (-1))], 4), ([(72, 12), (102, (-1))], 4), ([(73, 12), (103, (-1))], 4), ([(74, 12), (104, (-1))], 4), ([(75, 12), (105, (-1))], 4), ([(76, 12), (106, (-1))], 4), ([(77, 12), (107, (-1))], 4)]
noncomputable def gi_765 : GI := jl_n [gp_357, gp_341]
noncomputable def ac_645 : AC := .inl (11, jl_n [vp_33, jl_8 8 2, vp_92, jl_8 11 1, jl_6 17 1, jl_8 16 4, jl_c 1, jl_8 19 2])
noncomputable def ac_646 : AC := .inl (3, jl_n [vp_117, jl_1 147 2])
noncomputable def hq_579 : HP := [(true, ac_645), (true, am_0), (false, .inl (9, [(6, 4, 0), (6, 12, 0)])), (true, .inl (7, [(6, 5, 0), (6, 6, 0), (6, 7, 0), (1, 137, 0)])), (false, ac_641), (true, am_7), (true, am_1), (true, am_1), (false, am_1), (false, .inl (1, [(6, 4, 0), (8, 43, 0)])), (false, am_4), (false, am_6), (false, .inl (0, [(1, 44, 0), (6, 13, 0), (6, 14, 0), (6, 15, 0)])), (false, ac_642), (false, am_11), (false, ac_643), (true, ac_646), (false, am_2), (true, am_0), (false, am_10), (true, am_1), (true, am_0), (false, am_2), (false, am_9), (true, am_0), (true, am_0), (true, am_12)]
noncomputable def con_1375 : Con2 := ((yX11_sumNow, cX11_sumNow, 3, (some .int)), (6, 151), ([(6, 0, 0), (6, 1, 0), (1, 2, 0)], gi_764, hc_158, rq_6), [((1, 117, 0), gi_765, hq_579, [], tg_15)])
theorem hd_1375 : con_1375.1 = (yX11_sumNow, cX11_sumNow, 3, (some .int)) := rfl
theorem ck_RX11_300_1374 : COK2 RX11 vwCl gTbl 300 0 con_1374 := ⟨wd_1055, wd_134, mh_X3_sumOf, .inr (.inr ⟨rfl, wd_1052, wd_1053, wd_1054, ⟨_, rfl, pd_X3_sumOf⟩, 3, _, TX3, 9, rfl, rfl⟩)⟩
noncomputable def ct_1375 : CTB2 := [(1, 208, 0, con_929, [0, 2, 3, 4, 5, 6, 7, 8, 9, 10, 11, 12, 13, 14, 15, 16, 17, 18, 19, 1, 20, 21, 22, 23, 24, 25, 26]), (10, 300, 0, con_1374, [16, 1])]
noncomputable def cu_1375 : List CUT2 := []
theorem ch_1375 : staG tb_X11_sumNow 1 bt_RX11 [] ct_1375 [] [] cu_1375 10 con_1375 = true := by decide +kernel
theorem cto_1375 (l : Launch) : CTOK2 l RX11 vwCl gTbl ct_1375 := ct2_cons (vl_929 l) ck_RX11_208_929 (ct2_cons (vl_1374 l) ck_RX11_300_1374 (ct2_nil))
theorem vl_1375 (l : Launch) : Vld2 l vwCl gTbl con_1375 := conR_ok3 gT_all (hd_1375) rfl pn_RX11 tk_X11_sumNow bo_RX11 xo_RX11 (cto_1375 l) ch_1375 cut_nil
/-- RookHusting all -/
noncomputable def gi_766 : GI := jl_n [gp_7, gp_348]
noncomputable def ac_647 : AC := .inl (11, jl_n [vp_60, vp_99, jl_8 10 1, jl_6 4 1, jl_8 15 4, vp_81])
noncomputable def ac_648 : AC := .inl (4, jl_n [jl_1 23 3, vp_64, vp_105, vp_124])
noncomputable def ac_649 : AC := .inl (3, jl_n [vp_118, jl_1 46 2])
noncomputable def ac_650 : AC := .inr (1, jl_n [js_1 86 30])
noncomputable def ac_651 : AC := .inr (1, jl_n [js_1 116 30])
noncomputable def hc_159 : List AC := [ac_647, .inl (9, [(6, 2, 0), (6, 13, 0)]), ac_648, ac_649, am_0, .inl (7, [(6, 6, 0), (6, 7, 0), (6, 8, 0), (1, 49, 0)]), am_7, am_1, am_1, am_1, .inl (1, [(6, 2, 0), (8, 51, 0)]), am_4, am_6, .inl (0, [(1, 52, 0), (6, 14, 0), (6, 15, 0), (6, 16, 0)]), ac_650, am_11, ac_651, am_2, am_0, am_10, am_1, am_0, am_2, am_9, am_0, am_0, am_12]
noncomputable def rq_7 : RLs := [([(56, 12), (86, (-1))], 4), ([(57, 12), (87, (-1))], 4), ([(58, 12), (88, (-1))], 4), ([(59, 12), (89, (-1))], 4), ([(60, 12), (90, (-1))], 4), ([(61, 12), (91, (-1))], 4), ([(62, 12), (92, (-1))], 4), ([(63, 12), (93, (-1))], 4), ([(64, 12), (94, (-1))], 4), ([(65, 12), (95, (-1))], 4), ([(66, 12), (96, (-1))], 4), ([(67, 12), (97, (-1))], 4), ([(68, 12), (98, (-1))], 4), ([(69, 12), (99, (-1))], 4), ([(70, 12), (100, (-1))], 4), ([(71, 12), (101, (-1))], 4), ([(72, 12), (102, (-1))], 4), ([(73, 12), (103, (-1))], 4), ([(74, 12), (104, (-1))], 4), ([(75, 12), (105, (-1))], 4), ([(76, 12), (106, (-1))], 4), ([(77, 12), (107, (-1))], 4), ([(78, 12), (108, (-1))], 4), ([(79, 12), (109, (-1))], 4), ([(80, 12), (110, (-1))], 4), ([(81, 12), (111, (-1))], 4), ([(82, 12), (112, (-1))], 4), ([(83, 12), (113, (-1))], 4), ([(84, 12), (114, (-1))], 4), ([(85, 12), (115, (-1))], 4)]
noncomputable def gi_767 : GI := jl_n [gp_7, gp_348, gp_351]
noncomputable def ac_652 : AC := .inl (11, jl_n [vp_60, vp_99, jl_8 10 1, jl_6 4 1, jl_8 15 4, jl_1 131 1, jl_8 18 2])
noncomputable def ac_653 : AC := .inl (3, jl_n [vp_118, jl_1 142 2])
noncomputable def hq_580 : HP := [(true, ac_652), (false, .inl (9, [(6, 2, 0), (6, 13, 0)])), (false, ac_648), (true, ac_653), (true, am_0), (true, .inl (7, [(6, 6, 0), (6, 7, 0), (6, 8, 0), (1, 145, 0)])), (true, am_7), (true, am_1), (true, am_1), (false, am_1), (false, .inl (1, [(6, 2, 0), (8, 51, 0)])), (false, am_4), (false, am_6), (false, .inl (0, [(1, 52, 0), (6, 14, 0), (6, 15, 0), (6, 16, 0)])), (false, ac_650), (false, am_11), (false, ac_651), (false, am_2), (true, am_0), (false, am_10), (true, am_1), (true, am_0), (false, am_2), (false, am_9), (true, am_0), (true, am_0), (true, am_12)]
noncomputable def con_1376 : Con2 := ((yX11_all, cX11_all, 2, (some .int)), (7, 173), ([(6, 0, 0), (1, 1, 0)], gi_766, hc_159, rq_7), [((1, 116, 0), gi_767, hq_580, [], tg_15)])
theorem hd_1376 : con_1376.1 = (yX11_all, cX11_all, 2, (some .int)) := rfl
theorem ck_RX11_281_1375 : COK2 RX11 vwCl gTbl 281 0 con_1375 := ⟨wd_1051, wd_125, mh_X11_sumNow, .inr (.inr ⟨rfl, wd_1048, wd_1050, wd_34, ⟨_, rfl, pd_X11_sumNow⟩, 11, _, TX11, 16, rfl, rfl⟩)⟩
noncomputable def ct_1376 : CTB2 := [(2, 260, 0, con_1341, [0, 1, 2]), (17, 281, 0, con_1375, [0, 4, 1, 5, 2, 6, 7, 8, 9, 10, 11, 12, 13, 14, 15, 16, 3, 17, 18, 19, 20, 21, 22, 23, 24, 25, 26])]
noncomputable def cu_1376 : List CUT2 := []
theorem ch_1376 : staG tb_X11_all 1 bt_RX11 [] ct_1376 [] [] cu_1376 14 con_1376 = true := by decide +kernel
theorem cto_1376 (l : Launch) : CTOK2 l RX11 vwCl gTbl ct_1376 := ct2_cons (vl_1341 l) ck_RX11_260_1341 (ct2_cons (vl_1375 l) ck_RX11_281_1375 (ct2_nil))
theorem vl_1376 (l : Launch) : Vld2 l vwCl gTbl con_1376 := conR_ok3 gT_all (hd_1376) rfl pn_RX11 tk_X11_all bo_RX11 xo_RX11 (cto_1376 l) ch_1376 cut_nil
/-- RookHustingModel allCorn -/
noncomputable def gi_768 : GI := jl_n [gp_338, gp_165]
noncomputable def ac_654 : AC := .inl (12, jl_n [vp_36, jl_8 29 25, jl_6 3 1, jl_8 47 17])
noncomputable def hc_160 : List AC := [ac_654, ac_438, am_0]
noncomputable def gi_769 : GI := jl_n [gp_338, gp_165, jl_t]
noncomputable def hq_581 : HP := [(false, ac_654), (false, ac_438), (false, am_0)]
noncomputable def con_1377 : Con2 := ((yX12_allCorn, cX12_allCorn, 4, (some .int)), (1, 20), ([(6, 0, 0), (1, 1, 0)], gi_768, hc_160, []), [((1, 70, 0), gi_769, hq_581, [], [1])])
theorem hd_1377 : con_1377.1 = (yX12_allCorn, cX12_allCorn, 4, (some .int)) := rfl
noncomputable def ct_1377 : CTB2 := [(6, 106, 0, con_650, [0, 1])]
noncomputable def gi_770 : GI := jl_n [gp_338, gp_292, jl_z 16, gp_207]
noncomputable def cu_1377 : List CUT2 := [((4, [lq 0 6 0, lq 1 1 1, lq 2 1 72, lq 3 1 73], [], gi_770, hq_581), [], ([(73, (-1))], 5))]
theorem ch_1377 : staG tb_X12_allCorn 1 bt_RX12 [] ct_1377 [] [] cu_1377 20 con_1377 = true := by decide +kernel
theorem cc_1377 : cu_1377.all (cutG tb_X12_allCorn 1 bt_RX12 [] ct_1377 [] [] cu_1377 20 con_1377) = true := by decide +kernel
theorem cto_1377 (l : Launch) : CTOK2 l RX12 vwCl gTbl ct_1377 := ct2_cons (vl_650 l) ck_RX12_106_650 (ct2_nil)
theorem vl_1377 (l : Launch) : Vld2 l vwCl gTbl con_1377 := conR_ok3 gT_all (hd_1377) rfl pn_RX12 tk_X12_allCorn bo_RX12 xo_RX12 (cto_1377 l) ch_1377 (cut_all cc_1377)
/-- RookHustingModel all -/
noncomputable def gi_771 : GI := jl_n [gp_288, gp_175]
noncomputable def con_1378 : Con2 := ((yX12_all, cX12_all, 2, (some .int)), (10, 229), ([(6, 0, 0), (1, 1, 0)], gi_507, hc_148, []), [((1, 70, 0), gi_771, hq_567, [], tg_1)])
theorem hd_1378 : con_1378.1 = (yX12_all, cX12_all, 2, (some .int)) := rfl
theorem ck_RX12_375_1377 : COK2 RX12 vwCl gTbl 375 0 con_1377 := ⟨wd_1934, wd_137, mh_X12_allCorn, .inr (.inr ⟨rfl, wd_1931, wd_1933, wd_104, ⟨_, rfl, pd_X12_allCorn⟩, 12, _, TX12, 45, rfl, rfl⟩)⟩
noncomputable def ct_1378 : CTB2 := [(2, 378, 0, con_1356, [0, 1, 2, 3, 4, 5, 6, 7, 8, 9, 10, 11, 12]), (10, 375, 0, con_1377, [0, 1, 7])]
noncomputable def cu_1378 : List CUT2 := []
theorem ch_1378 : staG tb_X12_all 1 bt_RX12 [] ct_1378 [] [] cu_1378 11 con_1378 = true := by decide +kernel
theorem cto_1378 (l : Launch) : CTOK2 l RX12 vwCl gTbl ct_1378 := ct2_cons (vl_1356 l) ck_RX12_378_1356 (ct2_cons (vl_1377 l) ck_RX12_375_1377 (ct2_nil))
theorem vl_1378 (l : Launch) : Vld2 l vwCl gTbl con_1378 := conR_ok3 gT_all (hd_1378) rfl pn_RX12 tk_X12_all bo_RX12 xo_RX12 (cto_1378 l) ch_1378 cut_nil
/-- RookHusting$Harvest fieldOfMost -/
noncomputable def ac_655 : AC := .inl (3, jl_n [vp_40, jl_8 10 5, vp_66])
noncomputable def gi_772 : GI := jl_n [gp_357, gp_244, jl_m 0 4]
noncomputable def hq_582 : HP := [(false, ac_655), (false, am_0)]
noncomputable def con_1379 : Con2 := ((yX3_fieldOfMost, cX3_fieldOfMost, 5, (some .int)), (0, 0), ([(6, 0, 0), (6, 1, 0), (1, 2, 0)], gi_761, [ac_655, am_0], []), [((1, 12, 0), gi_772, hq_582, [], [1])])
theorem hd_1379 : con_1379.1 = (yX3_fieldOfMost, cX3_fieldOfMost, 5, (some .int)) := rfl
noncomputable def gi_773 : GI := jl_n [gp_357, gp_245, jl_z 4, gp_221]
noncomputable def cu_1379 : List CUT2 := [((5, [lq 0 6 0, lq 1 6 1, lq 2 1 2, lq 3 1 15, lq 4 1 16], [], gi_773, hq_582), [], ([(16, (-1))], 5))]
theorem ch_1379 : staG tb_X3_fieldOfMost 1 bt_RX3 [] ct_873 [] [] cu_1379 29 con_1379 = true := by decide +kernel
theorem cc_1379 : cu_1379.all (cutG tb_X3_fieldOfMost 1 bt_RX3 [] ct_873 [] [] cu_1379 29 con_1379) = true := by decide +kernel
theorem vl_1379 (l : Launch) : Vld2 l vwCl gTbl con_1379 := conR_ok3 gT_all (hd_1379) rfl pn_RX3 tk_X3_fieldOfMost bo_RX3 xo_RX3 (cto_873 l) ch_1379 (cut_all cc_1379)
/-- RookHusting mostNow -/
noncomputable def ac_656 : AC := .inl (4, jl_n [vp_123, vp_113, vp_95, jl_8 41 2, jl_6 11 1])
noncomputable def ac_657 : AC := .inl (3, jl_n [vp_114, jl_1 117 2])
noncomputable def hc_161 : List AC := [ac_640, am_0, .inl (9, [(6, 4, 0), (6, 12, 0)]), .inl (7, [(6, 5, 0), (6, 6, 0), (6, 7, 0), (1, 24, 0)]), ac_656, am_7, am_1, am_1, am_1, .inl (1, [(6, 4, 0), (8, 43, 0)]), am_4, am_6, .inl (0, [(1, 44, 0), (6, 13, 0), (6, 14, 0), (6, 15, 0)]), ac_642, am_11, ac_643, ac_657, am_2, am_10, am_0, am_1, am_0, am_2, am_9, am_0, am_0, am_12]
noncomputable def gi_774 : GI := jl_n [gp_357, gp_340, jl_m 0 4, gp_267]
noncomputable def ac_658 : AC := .inl (3, jl_n [vp_114, jl_1 147 2])
noncomputable def hq_583 : HP := [(true, ac_645), (true, am_0), (false, .inl (9, [(6, 4, 0), (6, 12, 0)])), (true, .inl (7, [(6, 5, 0), (6, 6, 0), (6, 7, 0), (1, 137, 0)])), (false, ac_656), (true, am_7), (true, am_1), (true, am_1), (false, am_1), (false, .inl (1, [(6, 4, 0), (8, 43, 0)])), (false, am_4), (false, am_6), (false, .inl (0, [(1, 44, 0), (6, 13, 0), (6, 14, 0), (6, 15, 0)])), (false, ac_642), (false, am_11), (false, ac_643), (true, ac_658), (false, am_2), (false, am_10), (true, am_0), (true, am_1), (true, am_0), (false, am_2), (false, am_9), (true, am_0), (true, am_0), (true, am_12)]
noncomputable def con_1380 : Con2 := ((yX11_mostNow, cX11_mostNow, 3, (some .int)), (6, 151), ([(6, 0, 0), (6, 1, 0), (1, 2, 0)], gi_764, hc_161, rq_6), [((1, 117, 0), gi_774, hq_583, [], tg_15)])
theorem hd_1380 : con_1380.1 = (yX11_mostNow, cX11_mostNow, 3, (some .int)) := rfl
theorem ck_RX11_464_1379 : COK2 RX11 vwCl gTbl 464 0 con_1379 := ⟨wd_1067, wd_134, mh_X3_fieldOfMost, .inr (.inr ⟨rfl, wd_1064, wd_1065, wd_1066, ⟨_, rfl, pd_X3_fieldOfMost⟩, 3, _, TX3, 9, rfl, rfl⟩)⟩
noncomputable def ct_1380 : CTB2 := [(1, 208, 0, con_929, [0, 2, 3, 4, 5, 6, 7, 8, 9, 10, 11, 12, 13, 14, 15, 16, 17, 1, 18, 19, 20, 21, 22, 23, 24, 25, 26]), (10, 464, 0, con_1379, [16, 1])]
noncomputable def cu_1380 : List CUT2 := []
theorem ch_1380 : staG tb_X11_mostNow 1 bt_RX11 [] ct_1380 [] [] cu_1380 10 con_1380 = true := by decide +kernel
theorem cto_1380 (l : Launch) : CTOK2 l RX11 vwCl gTbl ct_1380 := ct2_cons (vl_929 l) ck_RX11_208_929 (ct2_cons (vl_1379 l) ck_RX11_464_1379 (ct2_nil))
theorem vl_1380 (l : Launch) : Vld2 l vwCl gTbl con_1380 := conR_ok3 gT_all (hd_1380) rfl pn_RX11 tk_X11_mostNow bo_RX11 xo_RX11 (cto_1380 l) ch_1380 cut_nil
/-- RookHusting black -/
noncomputable def ac_659 : AC := .inl (4, jl_n [jl_1 23 3, vp_64, vp_113, jl_6 10 1, vp_104, vp_124])
noncomputable def ac_660 : AC := .inl (3, jl_n [vp_115, jl_1 46 2])
noncomputable def hc_162 : List AC := [ac_647, .inl (9, [(6, 2, 0), (6, 13, 0)]), ac_659, ac_660, am_0, .inl (7, [(6, 6, 0), (6, 7, 0), (6, 8, 0), (1, 49, 0)]), am_7, am_1, am_1, am_1, .inl (1, [(6, 2, 0), (8, 51, 0)]), am_4, am_6, .inl (0, [(1, 52, 0), (6, 14, 0), (6, 15, 0), (6, 16, 0)]), ac_650, am_11, ac_651, am_2, am_10, am_0, am_1, am_0, am_2, am_9, am_0, am_0, am_12]
noncomputable def gi_775 : GI := jl_n [gp_7, gp_348, jl_m 1 4, gp_350]
noncomputable def ac_661 : AC := .inl (3, jl_n [vp_115, jl_1 142 2])
noncomputable def hq_584 : HP := [(true, ac_652), (false, .inl (9, [(6, 2, 0), (6, 13, 0)])), (false, ac_659), (true, ac_661), (true, am_0), (true, .inl (7, [(6, 6, 0), (6, 7, 0), (6, 8, 0), (1, 145, 0)])), (true, am_7), (true, am_1), (true, am_1), (false, am_1), (false, .inl (1, [(6, 2, 0), (8, 51, 0)])), (false, am_4), (false, am_6), (false, .inl (0, [(1, 52, 0), (6, 14, 0), (6, 15, 0), (6, 16, 0)])), (false, ac_650), (false, am_11), (false, ac_651), (false, am_2), (false, am_10), (true, am_0), (true, am_1), (true, am_0), (false, am_2), (false, am_9), (true, am_0), (true, am_0), (true, am_12)]
noncomputable def con_1381 : Con2 := ((yX11_black, cX11_black, 2, (some .int)), (7, 173), ([(6, 0, 0), (1, 1, 0)], gi_766, hc_162, rq_7), [((1, 116, 0), gi_775, hq_584, [], tg_15)])
theorem hd_1381 : con_1381.1 = (yX11_black, cX11_black, 2, (some .int)) := rfl
theorem ck_RX11_285_1380 : COK2 RX11 vwCl gTbl 285 0 con_1380 := ⟨wd_1063, wd_125, mh_X11_mostNow, .inr (.inr ⟨rfl, wd_1060, wd_1062, wd_35, ⟨_, rfl, pd_X11_mostNow⟩, 11, _, TX11, 16, rfl, rfl⟩)⟩
noncomputable def ct_1381 : CTB2 := [(2, 260, 0, con_1341, [0, 1, 2]), (17, 285, 0, con_1380, [0, 4, 1, 5, 2, 6, 7, 8, 9, 10, 11, 12, 13, 14, 15, 16, 3, 17, 18, 19, 20, 21, 22, 23, 24, 25, 26])]
noncomputable def cu_1381 : List CUT2 := []
theorem ch_1381 : staG tb_X11_black 1 bt_RX11 [] ct_1381 [] [] cu_1381 14 con_1381 = true := by decide +kernel
theorem cto_1381 (l : Launch) : CTOK2 l RX11 vwCl gTbl ct_1381 := ct2_cons (vl_1341 l) ck_RX11_260_1341 (ct2_cons (vl_1380 l) ck_RX11_285_1380 (ct2_nil))
theorem vl_1381 (l : Launch) : Vld2 l vwCl gTbl con_1381 := conR_ok3 gT_all (hd_1381) rfl pn_RX11 tk_X11_black bo_RX11 xo_RX11 (cto_1381 l) ch_1381 cut_nil
/-- RookHustingModel black -/
noncomputable def con_1382 : Con2 := ((yX12_black, cX12_black, 4, (some .int)), (10, 229), ([(6, 0, 0), (1, 1, 0)], gi_507, hc_148, []), [((1, 70, 0), gi_508, hq_567, [], tg_1)])
theorem hd_1382 : con_1382.1 = (yX12_black, cX12_black, 4, (some .int)) := rfl
noncomputable def ct_1382 : CTB2 := [(2, 378, 0, con_1356, [0, 1, 2, 3, 4, 5, 6, 7, 8, 9, 10, 11, 12]), (17, 106, 0, con_650, [0, 1])]
noncomputable def gi_776 : GI := jl_n [gp_338, gp_282, gp_15, gp_202, jl_z 16, jl_m 0 4, gp_284]
noncomputable def cu_1382 : List CUT2 := [((15, [lq 0 6 0, lq 1 1 1, lq 2 1 72, lq 3 1 73], [], gi_776, hq_567), [], ([(73, (-1))], 5))]
theorem ch_1382 : staG tb_X12_black 1 bt_RX12 [] ct_1382 [] [] cu_1382 31 con_1382 = true := by decide +kernel
theorem cc_1382 : cu_1382.all (cutG tb_X12_black 1 bt_RX12 [] ct_1382 [] [] cu_1382 31 con_1382) = true := by decide +kernel
theorem cto_1382 (l : Launch) : CTOK2 l RX12 vwCl gTbl ct_1382 := ct2_cons (vl_1356 l) ck_RX12_378_1356 (ct2_cons (vl_650 l) ck_RX12_106_650 (ct2_nil))
theorem vl_1382 (l : Launch) : Vld2 l vwCl gTbl con_1382 := conR_ok3 gT_all (hd_1382) rfl pn_RX12 tk_X12_black bo_RX12 xo_RX12 (cto_1382 l) ch_1382 (cut_all cc_1382)
/-- RookHusting$Harvest firstZero -/
noncomputable def gi_777 : GI := jl_n [gp_23, gp_366]
noncomputable def ac_662 : AC := .inl (3, jl_n [jl_6 2 1, jl_8 11 7, jl_1 12 1])
noncomputable def gi_778 : GI := jl_n [gp_23, gp_366, jl_m 0 16]
noncomputable def hq_585 : HP := [(false, ac_662), (false, am_0)]
noncomputable def con_1383 : Con2 := ((yX3_firstZero, cX3_firstZero, 4, (some .int)), (0, 0), ([(6, 0, 0), (6, 1, 0), (1, 2, 0)], gi_777, [ac_662, am_0], []), [((1, 12, 0), gi_778, hq_585, [], [1])])
theorem hd_1383 : con_1383.1 = (yX3_firstZero, cX3_firstZero, 4, (some .int)) := rfl
noncomputable def gi_779 : GI := jl_n [gp_23, gp_366, jl_z 3, jl_i 0 17]
noncomputable def cu_1383 : List CUT2 := [((2, [lq 0 6 0, lq 1 6 1, lq 2 1 2, lq 3 1 15], [], gi_779, hq_585), [], ([(15, (-1))], 17))]
theorem ch_1383 : staG tb_X3_firstZero 1 bt_RX3 [] ct_873 [] [] cu_1383 17 con_1383 = true := by decide +kernel
theorem cc_1383 : cu_1383.all (cutG tb_X3_firstZero 1 bt_RX3 [] ct_873 [] [] cu_1383 17 con_1383) = true := by decide +kernel
theorem vl_1383 (l : Launch) : Vld2 l vwCl gTbl con_1383 := conR_ok3 gT_all (hd_1383) rfl pn_RX3 tk_X3_firstZero bo_RX3 xo_RX3 (cto_873 l) ch_1383 (cut_all cc_1383)
/-- RookHusting firstZeroNow -/
noncomputable def gi_780 : GI := jl_n [gp_368]
noncomputable def ac_663 : AC := .inl (3, jl_n [vp_98, jl_1 117 2])
noncomputable def hc_163 : List AC := [ac_640, am_0, .inl (9, [(6, 4, 0), (6, 12, 0)]), .inl (7, [(6, 5, 0), (6, 6, 0), (6, 7, 0), (1, 24, 0)]), ac_641, am_7, am_1, am_1, am_1, .inl (1, [(6, 4, 0), (8, 43, 0)]), am_4, am_6, .inl (0, [(1, 44, 0), (6, 13, 0), (6, 14, 0), (6, 15, 0)]), ac_642, am_11, ac_643, ac_663, am_2, am_0, am_10, am_0, am_1, am_2, am_9, am_0, am_0, am_12]
noncomputable def gi_781 : GI := jl_n [gp_368, jl_m 0 16, gp_267]
noncomputable def ac_664 : AC := .inl (3, jl_n [vp_98, jl_1 147 2])
noncomputable def hq_586 : HP := [(true, ac_645), (true, am_0), (false, .inl (9, [(6, 4, 0), (6, 12, 0)])), (true, .inl (7, [(6, 5, 0), (6, 6, 0), (6, 7, 0), (1, 137, 0)])), (false, ac_641), (true, am_7), (true, am_1), (true, am_1), (false, am_1), (false, .inl (1, [(6, 4, 0), (8, 43, 0)])), (false, am_4), (false, am_6), (false, .inl (0, [(1, 44, 0), (6, 13, 0), (6, 14, 0), (6, 15, 0)])), (false, ac_642), (false, am_11), (false, ac_643), (true, ac_664), (false, am_2), (true, am_0), (false, am_10), (true, am_0), (true, am_1), (false, am_2), (false, am_9), (true, am_0), (true, am_0), (true, am_12)]
noncomputable def con_1384 : Con2 := ((yX11_firstZeroNow, cX11_firstZeroNow, 3, (some .int)), (6, 151), ([(6, 0, 0), (6, 1, 0), (1, 2, 0)], gi_780, hc_163, rq_6), [((1, 117, 0), gi_781, hq_586, [], tg_15)])
theorem hd_1384 : con_1384.1 = (yX11_firstZeroNow, cX11_firstZeroNow, 3, (some .int)) := rfl
theorem ck_RX11_467_1383 : COK2 RX11 vwCl gTbl 467 0 con_1383 := ⟨wd_1083, wd_134, mh_X3_firstZero, .inr (.inr ⟨rfl, wd_1080, wd_1081, wd_1082, ⟨_, rfl, pd_X3_firstZero⟩, 3, _, TX3, 9, rfl, rfl⟩)⟩
noncomputable def ct_1384 : CTB2 := [(1, 208, 0, con_929, [0, 2, 3, 4, 5, 6, 7, 8, 9, 10, 11, 12, 13, 14, 15, 16, 17, 18, 19, 20, 21, 1, 22, 23, 24, 25, 26]), (10, 467, 0, con_1383, [16, 1])]
noncomputable def cu_1384 : List CUT2 := []
theorem ch_1384 : staG tb_X11_firstZeroNow 1 bt_RX11 [] ct_1384 [] [] cu_1384 10 con_1384 = true := by decide +kernel
theorem cto_1384 (l : Launch) : CTOK2 l RX11 vwCl gTbl ct_1384 := ct2_cons (vl_929 l) ck_RX11_208_929 (ct2_cons (vl_1383 l) ck_RX11_467_1383 (ct2_nil))
theorem vl_1384 (l : Launch) : Vld2 l vwCl gTbl con_1384 := conR_ok3 gT_all (hd_1384) rfl pn_RX11 tk_X11_firstZeroNow bo_RX11 xo_RX11 (cto_1384 l) ch_1384 cut_nil
/-- RookHusting shoulder -/
noncomputable def gi_782 : GI := jl_n [gp_270, gp_347]
noncomputable def ac_665 : AC := .inl (4, jl_n [vp_82, vp_105, vp_124])
noncomputable def ac_666 : AC := .inl (3, jl_n [vp_106, jl_1 46 2])
noncomputable def hc_164 : List AC := [ac_647, .inl (9, [(6, 2, 0), (6, 13, 0)]), ac_665, ac_666, am_0, .inl (7, [(6, 6, 0), (6, 7, 0), (6, 8, 0), (1, 49, 0)]), am_7, am_1, am_1, am_1, .inl (1, [(6, 2, 0), (8, 51, 0)]), am_4, am_6, .inl (0, [(1, 52, 0), (6, 14, 0), (6, 15, 0), (6, 16, 0)]), ac_650, am_11, ac_651, am_2, am_0, am_10, am_0, am_1, am_2, am_9, am_0, am_0, am_12]
noncomputable def gi_783 : GI := jl_n [gp_270, gp_347, jl_m 1 16, gp_350]
noncomputable def ac_667 : AC := .inl (3, jl_n [vp_106, jl_1 142 2])
noncomputable def hq_587 : HP := [(true, ac_652), (false, .inl (9, [(6, 2, 0), (6, 13, 0)])), (false, ac_665), (true, ac_667), (true, am_0), (true, .inl (7, [(6, 6, 0), (6, 7, 0), (6, 8, 0), (1, 145, 0)])), (true, am_7), (true, am_1), (true, am_1), (false, am_1), (false, .inl (1, [(6, 2, 0), (8, 51, 0)])), (false, am_4), (false, am_6), (false, .inl (0, [(1, 52, 0), (6, 14, 0), (6, 15, 0), (6, 16, 0)])), (false, ac_650), (false, am_11), (false, ac_651), (false, am_2), (true, am_0), (false, am_10), (true, am_0), (true, am_1), (false, am_2), (false, am_9), (true, am_0), (true, am_0), (true, am_12)]
noncomputable def con_1385 : Con2 := ((yX11_shoulder, cX11_shoulder, 2, (some .int)), (7, 173), ([(6, 0, 0), (1, 1, 0)], gi_782, hc_164, rq_7), [((1, 116, 0), gi_783, hq_587, [], tg_15)])
theorem hd_1385 : con_1385.1 = (yX11_shoulder, cX11_shoulder, 2, (some .int)) := rfl
theorem ck_RX11_288_1384 : COK2 RX11 vwCl gTbl 288 0 con_1384 := ⟨wd_1079, wd_125, mh_X11_firstZeroNow, .inr (.inr ⟨rfl, wd_1076, wd_1078, wd_36, ⟨_, rfl, pd_X11_firstZeroNow⟩, 11, _, TX11, 16, rfl, rfl⟩)⟩
noncomputable def ct_1385 : CTB2 := [(2, 139, 0, con_647, [0, 1, 2]), (17, 288, 0, con_1384, [0, 4, 1, 5, 2, 6, 7, 8, 9, 10, 11, 12, 13, 14, 15, 16, 3, 17, 18, 19, 20, 21, 22, 23, 24, 25, 26])]
noncomputable def cu_1385 : List CUT2 := []
theorem ch_1385 : staG tb_X11_shoulder 1 bt_RX11 [] ct_1385 [] [] cu_1385 14 con_1385 = true := by decide +kernel
theorem cto_1385 (l : Launch) : CTOK2 l RX11 vwCl gTbl ct_1385 := ct2_cons (vl_647 l) ck_RX11_139_647 (ct2_cons (vl_1384 l) ck_RX11_288_1384 (ct2_nil))
theorem vl_1385 (l : Launch) : Vld2 l vwCl gTbl con_1385 := conR_ok3 gT_all (hd_1385) rfl pn_RX11 tk_X11_shoulder bo_RX11 xo_RX11 (cto_1385 l) ch_1385 cut_nil
/-- RookHustingModel asksField -/
noncomputable def gi_784 : GI := jl_n [gp_370, jl_z 60]
noncomputable def con_1386 : Con2 := ((yX12_asksField, cX12_asksField, 2, (some .boolean)), (9, 208), ([(6, 0, 0), (1, 1, 0)], gi_507, hc_148, []), [((0, 0, 0), gi_743, hq_567, [], tg_1), ((0, 1, 0), gi_784, hq_567, [], tg_1)])
theorem hd_1386 : con_1386.1 = (yX12_asksField, cX12_asksField, 2, (some .boolean)) := rfl
noncomputable def ct_1386 : CTB2 := [(1, 366, 0, con_1353, [0, 1, 2, 3, 4, 5, 6, 7, 8, 9, 10, 11, 12]), (8, 109, 0, con_651, [0, 1])]
noncomputable def cu_1386 : List CUT2 := []
theorem ch_1386 : staG tb_X12_asksField 1 bt_RX12 [] ct_1386 [] [] cu_1386 10 con_1386 = true := by decide +kernel
theorem cto_1386 (l : Launch) : CTOK2 l RX12 vwCl gTbl ct_1386 := ct2_cons (vl_1353 l) ck_RX12_366_1353 (ct2_cons (vl_651 l) ck_RX12_109_651 (ct2_nil))
theorem vl_1386 (l : Launch) : Vld2 l vwCl gTbl con_1386 := conR_ok3 gT_all (hd_1386) rfl pn_RX12 tk_X12_asksField bo_RX12 xo_RX12 (cto_1386 l) ch_1386 cut_nil
/-- RookHustingModel shoulder -/
noncomputable def gi_785 : GI := jl_n [gp_288, jl_m 1 16, jl_z 45]
noncomputable def con_1387 : Con2 := ((yX12_shoulder, cX12_shoulder, 3, (some .int)), (10, 229), ([(6, 0, 0), (1, 1, 0)], gi_507, hc_148, []), [((1, 70, 0), gi_785, hq_567, [], tg_1)])
theorem hd_1387 : con_1387.1 = (yX12_shoulder, cX12_shoulder, 3, (some .int)) := rfl
theorem ck_RX12_384_1386 : COK2 RX12 vwCl gTbl 384 0 con_1386 := ⟨wd_1946, wd_137, mh_X12_asksField, .inr (.inr ⟨rfl, wd_1943, wd_1945, wd_105, ⟨_, rfl, pd_X12_asksField⟩, 12, _, TX12, 45, rfl, rfl⟩)⟩
noncomputable def ct_1387 : CTB2 := [(2, 384, 0, con_1386, [0, 1, 2, 3, 4, 5, 6, 7, 8, 9, 10, 11, 12]), (15, 103, 0, con_1344, [0, 1])]
noncomputable def gi_786 : GI := jl_n [gp_370, jl_z 16, jl_i 0 17, jl_z 45]
noncomputable def cu_1387 : List CUT2 := [((13, [lq 0 6 0, lq 1 1 1, lq 2 1 72], [], gi_786, hq_567), [], ([(72, (-1))], 17))]
theorem ch_1387 : staG tb_X12_shoulder 1 bt_RX12 [] ct_1387 [] [] cu_1387 18 con_1387 = true := by decide +kernel
theorem cc_1387 : cu_1387.all (cutG tb_X12_shoulder 1 bt_RX12 [] ct_1387 [] [] cu_1387 18 con_1387) = true := by decide +kernel
theorem cto_1387 (l : Launch) : CTOK2 l RX12 vwCl gTbl ct_1387 := ct2_cons (vl_1386 l) ck_RX12_384_1386 (ct2_cons (vl_1344 l) ck_RX12_103_1344 (ct2_nil))
theorem vl_1387 (l : Launch) : Vld2 l vwCl gTbl con_1387 := conR_ok3 gT_all (hd_1387) rfl pn_RX12 tk_X12_shoulder bo_RX12 xo_RX12 (cto_1387 l) ch_1387 (cut_all cc_1387)
/-- RookHusting$Harvest firstZero -/
noncomputable def ac_668 : AC := .inl (3, jl_n [vp_38, jl_8 11 5, jl_1 12 1])
noncomputable def hq_588 : HP := [(false, ac_668), (false, am_0)]
noncomputable def con_1388 : Con2 := ((yX3_firstZero, cX3_firstZero, 4, (some .int)), (0, 0), ([(6, 0, 0), (6, 1, 0), (1, 2, 0)], gi_777, [ac_668, am_0], []), [((1, 12, 0), gi_778, hq_588, [], [1])])
theorem hd_1388 : con_1388.1 = (yX3_firstZero, cX3_firstZero, 4, (some .int)) := rfl
noncomputable def cu_1388 : List CUT2 := [((2, [lq 0 6 0, lq 1 6 1, lq 2 1 2, lq 3 1 15], [], gi_779, hq_588), [], ([(15, (-1))], 17))]
theorem ch_1388 : staG tb_X3_firstZero 1 bt_RX3 [] ct_873 [] [] cu_1388 17 con_1388 = true := by decide +kernel
theorem cc_1388 : cu_1388.all (cutG tb_X3_firstZero 1 bt_RX3 [] ct_873 [] [] cu_1388 17 con_1388) = true := by decide +kernel
theorem vl_1388 (l : Launch) : Vld2 l vwCl gTbl con_1388 := conR_ok3 gT_all (hd_1388) rfl pn_RX3 tk_X3_firstZero bo_RX3 xo_RX3 (cto_873 l) ch_1388 (cut_all cc_1388)
/-- RookHusting firstZeroNow -/
noncomputable def con_1389 : Con2 := ((yX11_firstZeroNow, cX11_firstZeroNow, 3, (some .int)), (6, 151), ([(6, 0, 0), (6, 1, 0), (1, 2, 0)], gi_780, hc_158, rq_6), [((1, 117, 0), gi_781, hq_579, [], tg_15)])
theorem hd_1389 : con_1389.1 = (yX11_firstZeroNow, cX11_firstZeroNow, 3, (some .int)) := rfl
theorem ck_RX11_467_1388 : COK2 RX11 vwCl gTbl 467 0 con_1388 := ⟨wd_1083, wd_134, mh_X3_firstZero, .inr (.inr ⟨rfl, wd_1080, wd_1081, wd_1082, ⟨_, rfl, pd_X3_firstZero⟩, 3, _, TX3, 9, rfl, rfl⟩)⟩
noncomputable def ct_1389 : CTB2 := [(1, 208, 0, con_929, [0, 2, 3, 4, 5, 6, 7, 8, 9, 10, 11, 12, 13, 14, 15, 16, 17, 18, 19, 1, 20, 21, 22, 23, 24, 25, 26]), (10, 467, 0, con_1388, [16, 1])]
noncomputable def cu_1389 : List CUT2 := []
theorem ch_1389 : staG tb_X11_firstZeroNow 1 bt_RX11 [] ct_1389 [] [] cu_1389 10 con_1389 = true := by decide +kernel
theorem cto_1389 (l : Launch) : CTOK2 l RX11 vwCl gTbl ct_1389 := ct2_cons (vl_929 l) ck_RX11_208_929 (ct2_cons (vl_1388 l) ck_RX11_467_1388 (ct2_nil))
theorem vl_1389 (l : Launch) : Vld2 l vwCl gTbl con_1389 := conR_ok3 gT_all (hd_1389) rfl pn_RX11 tk_X11_firstZeroNow bo_RX11 xo_RX11 (cto_1389 l) ch_1389 cut_nil
/-- RookHusting bare -/
noncomputable def hc_165 : List AC := [ac_647, .inl (9, [(6, 2, 0), (6, 13, 0)]), ac_665, ac_649, am_0, .inl (7, [(6, 6, 0), (6, 7, 0), (6, 8, 0), (1, 49, 0)]), am_7, am_1, am_1, am_1, .inl (1, [(6, 2, 0), (8, 51, 0)]), am_4, am_6, .inl (0, [(1, 52, 0), (6, 14, 0), (6, 15, 0), (6, 16, 0)]), ac_650, am_11, ac_651, am_2, am_0, am_10, am_1, am_0, am_2, am_9, am_0, am_0, am_12]
noncomputable def hq_589 : HP := [(true, ac_652), (false, .inl (9, [(6, 2, 0), (6, 13, 0)])), (false, ac_665), (true, ac_653), (true, am_0), (true, .inl (7, [(6, 6, 0), (6, 7, 0), (6, 8, 0), (1, 145, 0)])), (true, am_7), (true, am_1), (true, am_1), (false, am_1), (false, .inl (1, [(6, 2, 0), (8, 51, 0)])), (false, am_4), (false, am_6), (false, .inl (0, [(1, 52, 0), (6, 14, 0), (6, 15, 0), (6, 16, 0)])), (false, ac_650), (false, am_11), (false, ac_651), (false, am_2), (true, am_0), (false, am_10), (true, am_1), (true, am_0), (false, am_2), (false, am_9), (true, am_0), (true, am_0), (true, am_12)]
noncomputable def con_1390 : Con2 := ((yX11_bare, cX11_bare, 2, (some .int)), (7, 173), ([(6, 0, 0), (1, 1, 0)], gi_782, hc_165, rq_7), [((1, 116, 0), gi_783, hq_589, [], tg_15)])
theorem hd_1390 : con_1390.1 = (yX11_bare, cX11_bare, 2, (some .int)) := rfl
theorem ck_RX11_288_1389 : COK2 RX11 vwCl gTbl 288 0 con_1389 := ⟨wd_1079, wd_125, mh_X11_firstZeroNow, .inr (.inr ⟨rfl, wd_1076, wd_1078, wd_36, ⟨_, rfl, pd_X11_firstZeroNow⟩, 11, _, TX11, 16, rfl, rfl⟩)⟩
noncomputable def ct_1390 : CTB2 := [(2, 139, 0, con_647, [0, 1, 2]), (17, 288, 0, con_1389, [0, 4, 1, 5, 2, 6, 7, 8, 9, 10, 11, 12, 13, 14, 15, 16, 3, 17, 18, 19, 20, 21, 22, 23, 24, 25, 26])]
noncomputable def cu_1390 : List CUT2 := []
theorem ch_1390 : staG tb_X11_bare 1 bt_RX11 [] ct_1390 [] [] cu_1390 14 con_1390 = true := by decide +kernel
theorem cto_1390 (l : Launch) : CTOK2 l RX11 vwCl gTbl ct_1390 := ct2_cons (vl_647 l) ck_RX11_139_647 (ct2_cons (vl_1389 l) ck_RX11_288_1389 (ct2_nil))
theorem vl_1390 (l : Launch) : Vld2 l vwCl gTbl con_1390 := conR_ok3 gT_all (hd_1390) rfl pn_RX11 tk_X11_bare bo_RX11 xo_RX11 (cto_1390 l) ch_1390 cut_nil
/-- RookHustingModel bare -/
noncomputable def con_1391 : Con2 := ((yX12_bare, cX12_bare, 3, (some .int)), (10, 229), ([(6, 0, 0), (1, 1, 0)], gi_507, hc_148, []), [((1, 70, 0), gi_785, hq_567, [], tg_1)])
theorem hd_1391 : con_1391.1 = (yX12_bare, cX12_bare, 3, (some .int)) := rfl
noncomputable def cu_1391 : List CUT2 := [((13, [lq 0 6 0, lq 1 1 1, lq 2 1 72], [], gi_786, hq_567), [], ([(72, (-1))], 17))]
theorem ch_1391 : staG tb_X12_bare 1 bt_RX12 [] ct_1387 [] [] cu_1391 18 con_1391 = true := by decide +kernel
theorem cc_1391 : cu_1391.all (cutG tb_X12_bare 1 bt_RX12 [] ct_1387 [] [] cu_1391 18 con_1391) = true := by decide +kernel
theorem vl_1391 (l : Launch) : Vld2 l vwCl gTbl con_1391 := conR_ok3 gT_all (hd_1391) rfl pn_RX12 tk_X12_bare bo_RX12 xo_RX12 (cto_1387 l) ch_1391 (cut_all cc_1391)
/-- RookHusting$Harvest daysEaten -/
noncomputable def gi_787 : GI := jl_n [gp_52, gp_366]
noncomputable def ac_669 : AC := .inl (3, jl_n [jl_8 5 3, jl_6 2 1, jl_8 10 4, jl_1 11 1])
noncomputable def gi_788 : GI := jl_n [gp_52, gp_366, jl_t]
noncomputable def hq_590 : HP := [(false, ac_669), (false, am_0)]
noncomputable def con_1396 : Con2 := ((yX3_daysEaten, cX3_daysEaten, 4, (some .int)), (0, 0), ([(6, 0, 0), (1, 1, 0)], gi_787, [ac_669, am_0], []), [((1, 11, 0), gi_788, hq_590, [], [1])])
theorem hd_1396 : con_1396.1 = (yX3_daysEaten, cX3_daysEaten, 4, (some .int)) := rfl
noncomputable def gi_789 : GI := jl_n [gp_52, jl_z 8, gp_371, gp_337]
noncomputable def cu_1396 : List CUT2 := [((4, [lq 0 6 0, lq 1 1 1, lq 2 1 13, lq 3 1 14], [], gi_789, hq_590), [], ([(14, (-1))], 16))]
theorem ch_1396 : staG tb_X3_daysEaten 1 bt_RX3 [] ct_873 [] [] cu_1396 19 con_1396 = true := by decide +kernel
theorem cc_1396 : cu_1396.all (cutG tb_X3_daysEaten 1 bt_RX3 [] ct_873 [] [] cu_1396 19 con_1396) = true := by decide +kernel
theorem vl_1396 (l : Launch) : Vld2 l vwCl gTbl con_1396 := conR_ok3 gT_all (hd_1396) rfl pn_RX3 tk_X3_daysEaten bo_RX3 xo_RX3 (cto_873 l) ch_1396 (cut_all cc_1396)
/-- RookHusting kept -/
noncomputable def gi_790 : GI := jl_n [gp_373]
noncomputable def ac_670 : AC := .inl (11, jl_n [vp_125, vp_71, vp_72])
noncomputable def ac_671 : AC := .inl (4, jl_n [jl_1 22 3, jl_8 23 1, vp_107, vp_74, jl_8 35 2, jl_6 10 1])
noncomputable def hc_166 : List AC := [ac_670, .inl (9, [(6, 2, 0), (6, 11, 0)]), ac_671, .inl (7, [(6, 4, 0), (6, 5, 0), (6, 6, 0), (1, 39, 0)]), am_7, am_1, am_1, am_1, .inl (1, [(6, 2, 0), (8, 41, 0)]), am_4, am_6, .inl (0, [(1, 42, 0), (6, 12, 0), (6, 13, 0), (6, 14, 0)]), ac_508, am_11, ac_509, ac_510, am_2, am_0, am_10, am_0, am_1, am_0, am_2, am_9, am_0, am_0, am_12]
noncomputable def gi_791 : GI := jl_n [gp_373, gp_374]
noncomputable def ac_672 : AC := .inl (11, jl_n [vp_125, vp_71, jl_1 130 1, jl_8 17 2])
noncomputable def ac_673 : AC := .inl (3, jl_n [vp_77, jl_1 145 2])
noncomputable def hq_591 : HP := [(true, ac_672), (false, .inl (9, [(6, 2, 0), (6, 11, 0)])), (false, ac_671), (true, .inl (7, [(6, 4, 0), (6, 5, 0), (6, 6, 0), (1, 135, 0)])), (true, am_7), (true, am_1), (true, am_1), (false, am_1), (false, .inl (1, [(6, 2, 0), (8, 41, 0)])), (false, am_4), (false, am_6), (false, .inl (0, [(1, 42, 0), (6, 12, 0), (6, 13, 0), (6, 14, 0)])), (false, ac_508), (false, am_11), (false, ac_509), (true, ac_673), (false, am_2), (true, am_0), (false, am_10), (true, am_0), (true, am_1), (true, am_0), (false, am_2), (false, am_9), (true, am_0), (true, am_0), (true, am_12)]
noncomputable def con_1397 : Con2 := ((yX11_kept, cX11_kept, 3, (some .int)), (6, 151), ([(6, 0, 0)], gi_790, hc_166, rq_2), [((1, 115, 0), gi_791, hq_591, [], tg_15)])
theorem hd_1397 : con_1397.1 = (yX11_kept, cX11_kept, 3, (some .int)) := rfl
theorem ck_RX11_294_1396 : COK2 RX11 vwCl gTbl 294 0 con_1396 := ⟨wd_1095, wd_134, mh_X3_daysEaten, .inr (.inr ⟨rfl, wd_1092, wd_1093, wd_1094, ⟨_, rfl, pd_X3_daysEaten⟩, 3, _, TX3, 9, rfl, rfl⟩)⟩
noncomputable def ct_1397 : CTB2 := [(1, 219, 0, con_671, [0, 1, 2]), (11, 208, 0, con_929, [0, 1, 3, 2, 4, 5, 6, 7, 8, 9, 10, 11, 12, 13, 14, 15, 16, 17, 18, 19, 20, 21, 22, 23, 24, 25, 26]), (37, 294, 0, con_1396, [15, 24])]
noncomputable def gi_792 : GI := jl_n [gp_375, gp_274, gp_7, jl_i 0 5, gp_267]
noncomputable def ac_674 : AC := .inl (11, jl_n [vp_125, vp_71, jl_c 1, jl_8 17 2])
noncomputable def ac_675 : AC := .inl (3, jl_n [vp_77, jl_1 147 2])
noncomputable def hq_592 : HP := [(true, ac_674), (false, .inl (9, [(6, 2, 0), (6, 11, 0)])), (false, ac_671), (true, .inl (7, [(6, 4, 0), (6, 5, 0), (6, 6, 0), (1, 137, 0)])), (true, am_7), (true, am_1), (true, am_1), (false, am_1), (false, .inl (1, [(6, 2, 0), (8, 41, 0)])), (false, am_4), (false, am_6), (false, .inl (0, [(1, 42, 0), (6, 12, 0), (6, 13, 0), (6, 14, 0)])), (false, ac_508), (false, am_11), (false, ac_509), (true, ac_675), (false, am_2), (true, am_0), (false, am_10), (true, am_0), (true, am_1), (true, am_0), (false, am_2), (false, am_9), (true, am_0), (true, am_0), (true, am_12)]
noncomputable def cu_1397 : List CUT2 := [((18, [lq 0 6 0, lq 1 1 116, lq 2 1 117], [], gi_792, hq_592), rq_2, ([(117, (-1))], 5))]
theorem ch_1397 : staG tb_X11_kept 1 bt_RX11 [] ct_1397 [] [] cu_1397 22 con_1397 = true := by decide +kernel
theorem cc_1397 : cu_1397.all (cutG tb_X11_kept 1 bt_RX11 [] ct_1397 [] [] cu_1397 22 con_1397) = true := by decide +kernel
theorem cto_1397 (l : Launch) : CTOK2 l RX11 vwCl gTbl ct_1397 := ct2_cons (vl_671 l) ck_RX11_219_671 (ct2_cons (vl_929 l) ck_RX11_208_929 (ct2_cons (vl_1396 l) ck_RX11_294_1396 (ct2_nil)))
theorem vl_1397 (l : Launch) : Vld2 l vwCl gTbl con_1397 := conR_ok3 gT_all (hd_1397) rfl pn_RX11 tk_X11_kept bo_RX11 xo_RX11 (cto_1397 l) ch_1397 (cut_all cc_1397)
/-- RookHustingModel kept -/
noncomputable def gi_793 : GI := jl_n [gp_287, gp_175]
noncomputable def con_1398 : Con2 := ((yX12_kept, cX12_kept, 3, (some .int)), (9, 208), ([(6, 0, 0)], gi_504, hc_147, []), [((1, 69, 0), gi_793, hq_566, [], tg_1)])
theorem hd_1398 : con_1398.1 = (yX12_kept, cX12_kept, 3, (some .int)) := rfl
noncomputable def ct_1398 : CTB2 := [(1, 366, 0, con_1353, [0, 1, 2, 3, 4, 5, 6, 7, 8, 9, 10, 11, 12]), (16, 106, 0, con_650, [0, 1]), (29, 103, 0, con_1344, [0, 1])]
noncomputable def gi_794 : GI := jl_n [gp_376, gp_207, jl_z 45]
noncomputable def cu_1398 : List CUT2 := [((14, [lq 0 6 0, lq 1 1 70, lq 2 1 71], [], gi_794, hq_566), [], ([(71, (-1))], 5))]
theorem ch_1398 : staG tb_X12_kept 1 bt_RX12 [] ct_1398 [] [] cu_1398 30 con_1398 = true := by decide +kernel
theorem cc_1398 : cu_1398.all (cutG tb_X12_kept 1 bt_RX12 [] ct_1398 [] [] cu_1398 30 con_1398) = true := by decide +kernel
theorem cto_1398 (l : Launch) : CTOK2 l RX12 vwCl gTbl ct_1398 := ct2_cons (vl_1353 l) ck_RX12_366_1353 (ct2_cons (vl_650 l) ck_RX12_106_650 (ct2_cons (vl_1344 l) ck_RX12_103_1344 (ct2_nil)))
theorem vl_1398 (l : Launch) : Vld2 l vwCl gTbl con_1398 := conR_ok3 gT_all (hd_1398) rfl pn_RX12 tk_X12_kept bo_RX12 xo_RX12 (cto_1398 l) ch_1398 (cut_all cc_1398)
/-- RookHusting$Harvest sumOf -/
noncomputable def gi_795 : GI := jl_n [jl_z 2, jl_i 1 15, gp_244]
noncomputable def ac_676 : AC := .inl (3, jl_n [jl_8 6 3, jl_6 2 1, jl_8 10 3, vp_66])
noncomputable def gi_796 : GI := jl_n [jl_z 2, jl_i 1 15, gp_245, gp_7]
noncomputable def hq_593 : HP := [(false, ac_676), (false, am_0)]
noncomputable def con_1419 : Con2 := ((yX3_sumOf, cX3_sumOf, 5, (some .int)), (0, 0), ([(6, 0, 0), (6, 1, 0), (1, 2, 0)], gi_795, [ac_676, am_0], []), [((1, 12, 0), gi_796, hq_593, [], [1])])
theorem hd_1419 : con_1419.1 = (yX3_sumOf, cX3_sumOf, 5, (some .int)) := rfl
noncomputable def gi_797 : GI := jl_n [jl_z 2, jl_i 1 15, gp_245, gp_365]
noncomputable def cu_1419 : List CUT2 := [((5, [lq 0 6 0, lq 1 6 1, lq 2 1 2, lq 3 1 15, lq 4 1 16], [], gi_797, hq_593), [], ([(16, (-1))], 5))]
theorem ch_1419 : staG tb_X3_sumOf 1 bt_RX3 [] ct_873 [] [] cu_1419 19 con_1419 = true := by decide +kernel
theorem cc_1419 : cu_1419.all (cutG tb_X3_sumOf 1 bt_RX3 [] ct_873 [] [] cu_1419 19 con_1419) = true := by decide +kernel
theorem vl_1419 (l : Launch) : Vld2 l vwCl gTbl con_1419 := conR_ok3 gT_all (hd_1419) rfl pn_RX3 tk_X3_sumOf bo_RX3 xo_RX3 (cto_873 l) ch_1419 (cut_all cc_1419)
/-- RookHusting$Harvest sumOf -/
noncomputable def gi_798 : GI := jl_n [gp_247, gp_244]
noncomputable def gi_799 : GI := jl_n [gp_248, gp_7]
noncomputable def con_1421 : Con2 := ((yX3_sumOf, cX3_sumOf, 5, (some .int)), (0, 0), ([(6, 0, 0), (6, 1, 0), (1, 2, 0)], gi_798, [ac_676, am_0], []), [((1, 12, 0), gi_799, hq_593, [], [1])])
theorem hd_1421 : con_1421.1 = (yX3_sumOf, cX3_sumOf, 5, (some .int)) := rfl
noncomputable def gi_800 : GI := jl_n [gp_248, gp_365]
noncomputable def cu_1421 : List CUT2 := [((5, [lq 0 6 0, lq 1 6 1, lq 2 1 2, lq 3 1 15, lq 4 1 16], [], gi_800, hq_593), [], ([(16, (-1))], 5))]
theorem ch_1421 : staG tb_X3_sumOf 1 bt_RX3 [] ct_873 [] [] cu_1421 19 con_1421 = true := by decide +kernel
theorem cc_1421 : cu_1421.all (cutG tb_X3_sumOf 1 bt_RX3 [] ct_873 [] [] cu_1421 19 con_1421) = true := by decide +kernel
theorem vl_1421 (l : Launch) : Vld2 l vwCl gTbl con_1421 := conR_ok3 gT_all (hd_1421) rfl pn_RX3 tk_X3_sumOf bo_RX3 xo_RX3 (cto_873 l) ch_1421 (cut_all cc_1421)
/-- RookHusting worst -/
noncomputable def gi_801 : GI := jl_n [gp_373, jl_m 1 15, gp_276]
noncomputable def con_1422 : Con2 := ((yX11_worst, cX11_worst, 3, (some .int)), (6, 151), ([(6, 0, 0)], gi_790, hc_166, rq_2), [((1, 115, 0), gi_801, hq_591, [], tg_15)])
theorem hd_1422 : con_1422.1 = (yX11_worst, cX11_worst, 3, (some .int)) := rfl
theorem ck_RX11_300_1421 : COK2 RX11 vwCl gTbl 300 0 con_1421 := ⟨wd_1055, wd_134, mh_X3_sumOf, .inr (.inr ⟨rfl, wd_1052, wd_1053, wd_1054, ⟨_, rfl, pd_X3_sumOf⟩, 3, _, TX3, 9, rfl, rfl⟩)⟩
theorem ck_RX11_300_1419 : COK2 RX11 vwCl gTbl 300 0 con_1419 := ⟨wd_1055, wd_134, mh_X3_sumOf, .inr (.inr ⟨rfl, wd_1052, wd_1053, wd_1054, ⟨_, rfl, pd_X3_sumOf⟩, 3, _, TX3, 9, rfl, rfl⟩)⟩
noncomputable def ct_1422 : CTB2 := [(1, 219, 0, con_671, [0, 1, 2]), (11, 208, 0, con_929, [0, 1, 3, 2, 4, 5, 6, 7, 8, 9, 10, 11, 12, 13, 14, 15, 16, 17, 18, 19, 20, 21, 22, 23, 24, 25, 26]), (44, 300, 0, con_1419, [15, 24]), (59, 300, 0, con_1421, [15, 24])]
noncomputable def gi_802 : GI := jl_n [gp_375, gp_274, gp_224, jl_i 1 16, gp_267]
noncomputable def cu_1422 : List CUT2 := [((18, [lq 0 6 0, lq 1 1 116, lq 2 1 117], [], gi_802, hq_592), rq_2, ([(117, (-1))], 16))]
theorem ch_1422 : staG tb_X11_worst 1 bt_RX11 [] ct_1422 [] [] cu_1422 28 con_1422 = true := by decide +kernel
theorem cc_1422 : cu_1422.all (cutG tb_X11_worst 1 bt_RX11 [] ct_1422 [] [] cu_1422 28 con_1422) = true := by decide +kernel
theorem cto_1422 (l : Launch) : CTOK2 l RX11 vwCl gTbl ct_1422 := ct2_cons (vl_671 l) ck_RX11_219_671 (ct2_cons (vl_929 l) ck_RX11_208_929 (ct2_cons (vl_1419 l) ck_RX11_300_1419 (ct2_cons (vl_1421 l) ck_RX11_300_1421 (ct2_nil))))
theorem vl_1422 (l : Launch) : Vld2 l vwCl gTbl con_1422 := conR_ok3 gT_all (hd_1422) rfl pn_RX11 tk_X11_worst bo_RX11 xo_RX11 (cto_1422 l) ch_1422 (cut_all cc_1422)
/-- RookHustingModel worst -/
noncomputable def gi_803 : GI := jl_n [gp_287, jl_m 1 15, jl_z 45]
noncomputable def con_1423 : Con2 := ((yX12_worst, cX12_worst, 3, (some .int)), (9, 208), ([(6, 0, 0)], gi_504, hc_147, []), [((1, 69, 0), gi_803, hq_566, [], tg_1)])
theorem hd_1423 : con_1423.1 = (yX12_worst, cX12_worst, 3, (some .int)) := rfl
noncomputable def ct_1423 : CTB2 := [(1, 366, 0, con_1353, [0, 1, 2, 3, 4, 5, 6, 7, 8, 9, 10, 11, 12]), (16, 103, 0, con_1344, [0, 1]), (24, 375, 0, con_1377, [0, 1, 7]), (31, 375, 0, con_1377, [0, 1, 7]), (37, 375, 0, con_1377, [0, 1, 7]), (44, 375, 0, con_1377, [0, 1, 7])]
noncomputable def gi_804 : GI := jl_n [gp_376, jl_i 0 15, jl_i 1 16, jl_z 45]
noncomputable def cu_1423 : List CUT2 := [((14, [lq 0 6 0, lq 1 1 70, lq 2 1 71], [], gi_804, hq_566), [], ([(71, (-1))], 16))]
theorem ch_1423 : staG tb_X12_worst 1 bt_RX12 [] ct_1423 [] [] cu_1423 31 con_1423 = true := by decide +kernel
theorem cc_1423 : cu_1423.all (cutG tb_X12_worst 1 bt_RX12 [] ct_1423 [] [] cu_1423 31 con_1423) = true := by decide +kernel
theorem cto_1423 (l : Launch) : CTOK2 l RX12 vwCl gTbl ct_1423 := ct2_cons (vl_1353 l) ck_RX12_366_1353 (ct2_cons (vl_1344 l) ck_RX12_103_1344 (ct2_cons (vl_1377 l) ck_RX12_375_1377 (ct2_cons (vl_1377 l) ck_RX12_375_1377 (ct2_cons (vl_1377 l) ck_RX12_375_1377 (ct2_cons (vl_1377 l) ck_RX12_375_1377 (ct2_nil))))))
theorem vl_1423 (l : Launch) : Vld2 l vwCl gTbl con_1423 := conR_ok3 gT_all (hd_1423) rfl pn_RX12 tk_X12_worst bo_RX12 xo_RX12 (cto_1423 l) ch_1423 (cut_all cc_1423)
/-- RookHusting$Election hatsFirst -/
noncomputable def gi_805 : GI := jl_n [gp_52, gp_196]
noncomputable def ac_677 : AC := .inl (4, jl_n [jl_8 11 7, jl_1 12 1, jl_8 17 5, jl_6 4 1, jl_8 20 2, jl_6 3 1])
noncomputable def hc_167 : List AC := [.inl (1, [(6, 1, 0), (8, 3, 0)]), ac_677, am_4, am_6]
noncomputable def gi_806 : GI := jl_n [gp_52, gp_197]
noncomputable def hq_594 : HP := [(false, .inl (1, [(6, 1, 0), (8, 3, 0)])), (false, ac_677), (false, am_4), (false, am_6)]
noncomputable def con_1424 : Con2 := ((yX1_hatsFirst, cX1_hatsFirst, 4, (some .int)), (0, 0), ([(6, 0, 0), (1, 1, 0)], gi_805, hc_167, []), [((1, 21, 0), gi_806, hq_594, [], [1])])
theorem hd_1424 : con_1424.1 = (yX1_hatsFirst, cX1_hatsFirst, 4, (some .int)) := rfl
noncomputable def gi_807 : GI := jl_n [gp_52, gp_195, jl_z 11, gp_212]
noncomputable def cu_1424 : List CUT2 := [((4, [lq 0 6 0, lq 1 1 1, lq 2 1 23, lq 3 1 24], [], gi_807, hq_594), [], ([(24, (-1))], 7))]
theorem ch_1424 : staG tb_X1_hatsFirst 1 bt_RX1 [] ct_862 [] [] cu_1424 28 con_1424 = true := by decide +kernel
theorem cc_1424 : cu_1424.all (cutG tb_X1_hatsFirst 1 bt_RX1 [] ct_862 [] [] cu_1424 28 con_1424) = true := by decide +kernel
theorem vl_1424 (l : Launch) : Vld2 l vwCl gTbl con_1424 := conR_ok3 gT_all (hd_1424) rfl pn_RX1 tk_X1_hatsFirst bo_RX1 xo_RX1 (cto_862 l) ch_1424 (cut_all cc_1424)
/-- RookHusting loved -/
noncomputable def gi_808 : GI := jl_n [gp_7, gp_291]
noncomputable def ac_678 : AC := .inl (4, jl_n [jl_8 26 6, jl_1 28 2, jl_8 33 5, jl_6 6 1, jl_8 36 2, jl_6 5 1])
noncomputable def hc_168 : List AC := [ac_539, .inl (9, [(6, 2, 0), (8, 19, 0)]), ac_678, .inl (1, [(6, 2, 0), (8, 38, 0)]), am_4, am_6]
noncomputable def gi_809 : GI := jl_n [gp_7, gp_291, jl_t]
noncomputable def hq_595 : HP := [(false, ac_539), (false, .inl (9, [(6, 2, 0), (8, 19, 0)])), (false, ac_678), (false, .inl (1, [(6, 2, 0), (8, 38, 0)])), (false, am_4), (false, am_6)]
noncomputable def con_1425 : Con2 := ((yX11_loved, cX11_loved, 2, (some .int)), (1, 23), ([(6, 0, 0), (1, 1, 0)], gi_808, hc_168, []), [((1, 39, 0), gi_809, hq_595, [], [1])])
theorem hd_1425 : con_1425.1 = (yX11_loved, cX11_loved, 2, (some .int)) := rfl
theorem ck_RX11_251_1424 : COK2 RX11 vwCl gTbl 251 0 con_1424 := ⟨wd_995, wd_132, mh_X1_hatsFirst, .inr (.inr ⟨rfl, wd_992, wd_993, wd_994, ⟨_, rfl, pd_X1_hatsFirst⟩, 1, _, TX1, 2, rfl, rfl⟩)⟩
noncomputable def ct_1425 : CTB2 := [(2, 156, 0, con_657, [0, 1, 2]), (13, 251, 0, con_1424, [3, 2, 4, 5])]
noncomputable def cu_1425 : List CUT2 := []
theorem ch_1425 : staG tb_X11_loved 1 bt_RX11 [] ct_1425 [] [] cu_1425 12 con_1425 = true := by decide +kernel
theorem cto_1425 (l : Launch) : CTOK2 l RX11 vwCl gTbl ct_1425 := ct2_cons (vl_657 l) ck_RX11_156_657 (ct2_cons (vl_1424 l) ck_RX11_251_1424 (ct2_nil))
theorem vl_1425 (l : Launch) : Vld2 l vwCl gTbl con_1425 := conR_ok3 gT_all (hd_1425) rfl pn_RX11 tk_X11_loved bo_RX11 xo_RX11 (cto_1425 l) ch_1425 cut_nil
/-- RookHustingModel loved -/
noncomputable def con_1426 : Con2 := ((yX12_loved, cX12_loved, 4, (some .int)), (2, 46), ([(6, 0, 0), (1, 1, 0)], gi_316, [ac_437, ac_438], []), [((1, 70, 0), gi_567, [(false, ac_437), (false, ac_438)], [], [1])])
theorem hd_1426 : con_1426.1 = (yX12_loved, cX12_loved, 4, (some .int)) := rfl
noncomputable def ct_1426 : CTB2 := [(2, 236, 0, con_660, [0, 1]), (64, 243, 0, con_666, [0, 1])]
noncomputable def gi_810 : GI := jl_n [gp_52, jl_z 45, gp_140, gp_289, gp_212]
noncomputable def cu_1426 : List CUT2 := [((15, [lq 0 6 0, lq 1 1 1, lq 2 1 72, lq 3 1 73], [], gi_810, [(false, ac_437), (false, ac_438)]), [], ([(73, (-1))], 7))]
theorem ch_1426 : staG tb_X12_loved 1 bt_RX12 [] ct_1426 [] [] cu_1426 41 con_1426 = true := by decide +kernel
theorem cc_1426 : cu_1426.all (cutG tb_X12_loved 1 bt_RX12 [] ct_1426 [] [] cu_1426 41 con_1426) = true := by decide +kernel
theorem cto_1426 (l : Launch) : CTOK2 l RX12 vwCl gTbl ct_1426 := ct2_cons (vl_660 l) ck_RX12_236_660 (ct2_cons (vl_666 l) ck_RX12_243_666 (ct2_nil))
theorem vl_1426 (l : Launch) : Vld2 l vwCl gTbl con_1426 := conR_ok3 gT_all (hd_1426) rfl pn_RX12 tk_X12_loved bo_RX12 xo_RX12 (cto_1426 l) ch_1426 (cut_all cc_1426)
/-- RookHusting$Election hatsWithout -/
noncomputable def con_1427 : Con2 := ((yX1_hatsWithout, cX1_hatsWithout, 4, (some .int)), (0, 0), ([(6, 0, 0), (1, 1, 0)], gi_805, hc_167, []), [((1, 21, 0), gi_806, hq_594, [], [1])])
theorem hd_1427 : con_1427.1 = (yX1_hatsWithout, cX1_hatsWithout, 4, (some .int)) := rfl
noncomputable def cu_1427 : List CUT2 := [((4, [lq 0 6 0, lq 1 1 1, lq 2 1 23, lq 3 1 24], [], gi_807, hq_594), [], ([(24, (-1))], 7))]
theorem ch_1427 : staG tb_X1_hatsWithout 1 bt_RX1 [] ct_862 [] [] cu_1427 29 con_1427 = true := by decide +kernel
theorem cc_1427 : cu_1427.all (cutG tb_X1_hatsWithout 1 bt_RX1 [] ct_862 [] [] cu_1427 29 con_1427) = true := by decide +kernel
theorem vl_1427 (l : Launch) : Vld2 l vwCl gTbl con_1427 := conR_ok3 gT_all (hd_1427) rfl pn_RX1 tk_X1_hatsWithout bo_RX1 xo_RX1 (cto_862 l) ch_1427 (cut_all cc_1427)
/-- RookHusting shunned -/
noncomputable def con_1428 : Con2 := ((yX11_shunned, cX11_shunned, 2, (some .int)), (1, 23), ([(6, 0, 0), (1, 1, 0)], gi_808, hc_168, []), [((1, 39, 0), gi_809, hq_595, [], [1])])
theorem hd_1428 : con_1428.1 = (yX11_shunned, cX11_shunned, 2, (some .int)) := rfl
theorem ck_RX11_254_1427 : COK2 RX11 vwCl gTbl 254 0 con_1427 := ⟨wd_1003, wd_132, mh_X1_hatsWithout, .inr (.inr ⟨rfl, wd_1000, wd_1001, wd_1002, ⟨_, rfl, pd_X1_hatsWithout⟩, 1, _, TX1, 2, rfl, rfl⟩)⟩
noncomputable def ct_1428 : CTB2 := [(2, 156, 0, con_657, [0, 1, 2]), (13, 254, 0, con_1427, [3, 2, 4, 5])]
noncomputable def cu_1428 : List CUT2 := []
theorem ch_1428 : staG tb_X11_shunned 1 bt_RX11 [] ct_1428 [] [] cu_1428 12 con_1428 = true := by decide +kernel
theorem cto_1428 (l : Launch) : CTOK2 l RX11 vwCl gTbl ct_1428 := ct2_cons (vl_657 l) ck_RX11_156_657 (ct2_cons (vl_1427 l) ck_RX11_254_1427 (ct2_nil))
theorem vl_1428 (l : Launch) : Vld2 l vwCl gTbl con_1428 := conR_ok3 gT_all (hd_1428) rfl pn_RX11 tk_X11_shunned bo_RX11 xo_RX11 (cto_1428 l) ch_1428 cut_nil
/-- RookHustingModel shunned -/
noncomputable def con_1429 : Con2 := ((yX12_shunned, cX12_shunned, 4, (some .int)), (2, 46), ([(6, 0, 0), (1, 1, 0)], gi_316, [ac_437, ac_438], []), [((1, 70, 0), gi_567, [(false, ac_437), (false, ac_438)], [], [1])])
theorem hd_1429 : con_1429.1 = (yX12_shunned, cX12_shunned, 4, (some .int)) := rfl
noncomputable def ct_1429 : CTB2 := [(2, 236, 0, con_660, [0, 1]), (31, 283, 0, con_943, [0, 1]), (43, 243, 0, con_666, [0, 1])]
noncomputable def cu_1429 : List CUT2 := [((15, [lq 0 6 0, lq 1 1 1, lq 2 1 72, lq 3 1 73], [], gi_810, [(false, ac_437), (false, ac_438)]), [], ([(73, (-1))], 7))]
theorem ch_1429 : staG tb_X12_shunned 1 bt_RX12 [] ct_1429 [] [] cu_1429 23 con_1429 = true := by decide +kernel
theorem cc_1429 : cu_1429.all (cutG tb_X12_shunned 1 bt_RX12 [] ct_1429 [] [] cu_1429 23 con_1429) = true := by decide +kernel
theorem cto_1429 (l : Launch) : CTOK2 l RX12 vwCl gTbl ct_1429 := ct2_cons (vl_660 l) ck_RX12_236_660 (ct2_cons (vl_943 l) ck_RX12_283_943 (ct2_cons (vl_666 l) ck_RX12_243_666 (ct2_nil)))
theorem vl_1429 (l : Launch) : Vld2 l vwCl gTbl con_1429 := conR_ok3 gT_all (hd_1429) rfl pn_RX12 tk_X12_shunned bo_RX12 xo_RX12 (cto_1429 l) ch_1429 (cut_all cc_1429)
/-- RookHusting$Election swingVoters -/
noncomputable def gi_811 : GI := jl_n [jl_z 5, gp_300, jl_z 9]
noncomputable def ac_679 : AC := .inl (4, jl_n [jl_8 5 2, jl_1 6 1, jl_8 9 3, jl_1 11 2, jl_8 16 5, jl_6 4 1, jl_8 19 2, jl_6 3 1])
noncomputable def hc_169 : List AC := [.inl (1, [(6, 1, 0), (8, 2, 0)]), ac_679, am_4, am_6]
noncomputable def gi_812 : GI := jl_n [jl_z 5, gp_300, jl_z 9, jl_t]
noncomputable def hq_596 : HP := [(false, .inl (1, [(6, 1, 0), (8, 2, 0)])), (false, ac_679), (false, am_4), (false, am_6)]
noncomputable def con_1430 : Con2 := ((yX1_swingVoters, cX1_swingVoters, 4, (some .int)), (5, 127), ([(6, 0, 0)], gi_811, hc_169, []), [((1, 20, 0), gi_812, hq_596, [], [1])])
theorem hd_1430 : con_1430.1 = (yX1_swingVoters, cX1_swingVoters, 4, (some .int)) := rfl
noncomputable def ct_1430 : CTB2 := [(4, 87, 0, con_959, [0, 1, 2, 3]), (25, 87, 0, con_959, [0, 1, 2, 3])]
noncomputable def gi_813 : GI := jl_n [jl_z 5, gp_300, jl_z 10, jl_t, jl_m 0 4, jl_i 0 7]
noncomputable def cu_1430 : List CUT2 := [((10, [lq 0 6 0, lq 1 1 21, lq 2 1 22, lq 3 1 23], [], gi_813, hq_596), [], ([(23, (-1))], 7))]
theorem ch_1430 : staG tb_X1_swingVoters 1 bt_RX1 [] ct_1430 [] [] cu_1430 23 con_1430 = true := by decide +kernel
theorem cc_1430 : cu_1430.all (cutG tb_X1_swingVoters 1 bt_RX1 [] ct_1430 [] [] cu_1430 23 con_1430) = true := by decide +kernel
theorem cto_1430 (l : Launch) : CTOK2 l RX1 vwCl gTbl ct_1430 := ct2_cons (vl_959 l) ck_RX1_87_959 (ct2_cons (vl_959 l) ck_RX1_87_959 (ct2_nil))
theorem vl_1430 (l : Launch) : Vld2 l vwCl gTbl con_1430 := conR_ok3 gT_all (hd_1430) rfl pn_RX1 tk_X1_swingVoters bo_RX1 xo_RX1 (cto_1430 l) ch_1430 (cut_all cc_1430)
/-- RookHusting swings -/
noncomputable def gi_814 : GI := jl_n [jl_z 19, gp_326]
noncomputable def ac_680 : AC := .inl (4, jl_n [jl_1 20 1, jl_8 21 1, vp_11, vp_87, jl_6 6 1, jl_8 35 2, jl_6 5 1])
noncomputable def hc_170 : List AC := [ac_533, .inl (9, [(6, 2, 0), (8, 18, 0)]), ac_680, .inl (1, [(6, 2, 0), (8, 37, 0)]), am_4, am_6]
noncomputable def gi_815 : GI := jl_n [jl_z 19, gp_326, jl_t]
noncomputable def hq_597 : HP := [(false, ac_533), (false, .inl (9, [(6, 2, 0), (8, 18, 0)])), (false, ac_680), (false, .inl (1, [(6, 2, 0), (8, 37, 0)])), (false, am_4), (false, am_6)]
noncomputable def con_1431 : Con2 := ((yX11_swings, cX11_swings, 1, (some .int)), (6, 150), ([(6, 0, 0)], gi_814, hc_170, []), [((1, 38, 0), gi_815, hq_597, [], [1])])
theorem hd_1431 : con_1431.1 = (yX11_swings, cX11_swings, 1, (some .int)) := rfl
theorem ck_RX11_257_1430 : COK2 RX11 vwCl gTbl 257 0 con_1430 := ⟨wd_1011, wd_132, mh_X1_swingVoters, .inr (.inr ⟨rfl, wd_1008, wd_1009, wd_1010, ⟨_, rfl, pd_X1_swingVoters⟩, 1, _, TX1, 2, rfl, rfl⟩)⟩
noncomputable def ct_1431 : CTB2 := [(1, 219, 0, con_671, [0, 1, 2]), (11, 257, 0, con_1430, [3, 2, 4, 5])]
noncomputable def cu_1431 : List CUT2 := []
theorem ch_1431 : staG tb_X11_swings 1 bt_RX11 [] ct_1431 [] [] cu_1431 10 con_1431 = true := by decide +kernel
theorem cto_1431 (l : Launch) : CTOK2 l RX11 vwCl gTbl ct_1431 := ct2_cons (vl_671 l) ck_RX11_219_671 (ct2_cons (vl_1430 l) ck_RX11_257_1430 (ct2_nil))
theorem vl_1431 (l : Launch) : Vld2 l vwCl gTbl con_1431 := conR_ok3 gT_all (hd_1431) rfl pn_RX11 tk_X11_swings bo_RX11 xo_RX11 (cto_1431 l) ch_1431 cut_nil
/-- RookHustingModel swings -/
noncomputable def con_1432 : Con2 := ((yX12_swings, cX12_swings, 4, (some .int)), (5, 121), ([(6, 0, 0)], gi_332, hc_73, []), [((1, 69, 0), gi_630, hq_539, [], tg_1)])
theorem hd_1432 : con_1432.1 = (yX12_swings, cX12_swings, 4, (some .int)) := rfl
noncomputable def ct_1432 : CTB2 := [(1, 99, 0, con_678, [0, 1]), (11, 249, 0, con_669, [0, 1, 2, 3]), (16, 269, 0, con_702, [0, 1]), (16, 269, 0, con_797, [0, 1]), (16, 269, 0, con_828, [0, 1]), (16, 269, 0, con_844, [0, 1]), (16, 269, 0, con_852, [0, 1]), (16, 269, 0, con_857, [0, 1]), (25, 277, 0, con_763, [0, 1, 2, 3]), (25, 277, 0, con_811, [0, 1, 2, 3]), (25, 277, 0, con_835, [0, 1, 2, 3]), (25, 277, 0, con_847, [0, 1, 2, 3]), (25, 277, 0, con_854, [0, 1, 2, 3]), (25, 277, 0, con_860, [0, 1, 2, 3]), (54, 269, 0, con_702, [0, 1]), (54, 269, 0, con_797, [0, 1]), (54, 269, 0, con_828, [0, 1]), (54, 269, 0, con_844, [0, 1]), (54, 269, 0, con_852, [0, 1]), (54, 269, 0, con_857, [0, 1]), (63, 277, 0, con_763, [0, 1, 2, 3]), (63, 277, 0, con_811, [0, 1, 2, 3]), (63, 277, 0, con_835, [0, 1, 2, 3]), (63, 277, 0, con_847, [0, 1, 2, 3]), (63, 277, 0, con_854, [0, 1, 2, 3]), (63, 277, 0, con_860, [0, 1, 2, 3])]
noncomputable def gi_816 : GI := jl_n [gp_377, jl_i 5 5, gp_378]
noncomputable def ac_681 : AC := .inl (12, jl_n [vp_44, jl_1 91 1, jl_8 46 27])
noncomputable def hq_598 : HP := [(true, ac_681), (false, ac_436), (true, am_8), (true, am_5)]
noncomputable def gi_817 : GI := jl_n [gp_377, jl_i 4 4, gp_378]
noncomputable def gi_818 : GI := jl_n [gp_377, jl_i 3 3, gp_378]
noncomputable def gi_819 : GI := jl_n [gp_377, jl_i 2 2, gp_378]
noncomputable def gi_820 : GI := jl_n [gp_377, jl_i 1 1, gp_378]
noncomputable def gi_821 : GI := jl_n [gp_185, gp_215, gp_378]
noncomputable def cu_1432 : List CUT2 := [((33, [lq 0 6 0, lq 1 1 70, lq 2 1 71, lq 3 1 72], [], gi_816, hq_598), [], ([(72, (-1))], 7)), ((33, [lq 0 6 0, lq 1 1 70, lq 2 1 71, lq 3 1 72], [], gi_817, hq_598), [], ([(72, (-1))], 7)), ((33, [lq 0 6 0, lq 1 1 70, lq 2 1 71, lq 3 1 72], [], gi_818, hq_598), [], ([(72, (-1))], 7)), ((33, [lq 0 6 0, lq 1 1 70, lq 2 1 71, lq 3 1 72], [], gi_819, hq_598), [], ([(72, (-1))], 7)), ((33, [lq 0 6 0, lq 1 1 70, lq 2 1 71, lq 3 1 72], [], gi_820, hq_598), [], ([(72, (-1))], 7)), ((33, [lq 0 6 0, lq 1 1 70, lq 2 1 71, lq 3 1 72], [], gi_821, hq_598), [], ([(72, (-1))], 7))]
theorem ch_1432 : staG tb_X12_swings 1 bt_RX12 [] ct_1432 [(10, [(1, (2, 1, 5), 0, 0)])] [] cu_1432 33 con_1432 = true := by decide +kernel
theorem cc_1432 : cu_1432.all (cutG tb_X12_swings 1 bt_RX12 [] ct_1432 [(10, [(1, (2, 1, 5), 0, 0)])] [] cu_1432 33 con_1432) = true := by decide +kernel
theorem cto_1432 (l : Launch) : CTOK2 l RX12 vwCl gTbl ct_1432 := ct2_cons (vl_678 l) ck_RX12_99_678 (ct2_cons (vl_669 l) ck_RX12_249_669 (ct2_cons (vl_702 l) ck_RX12_269_702 (ct2_cons (vl_797 l) ck_RX12_269_797 (ct2_cons (vl_828 l) ck_RX12_269_828 (ct2_cons (vl_844 l) ck_RX12_269_844 (ct2_cons (vl_852 l) ck_RX12_269_852 (ct2_cons (vl_857 l) ck_RX12_269_857 (ct2_cons (vl_763 l) ck_RX12_277_763 (ct2_cons (vl_811 l) ck_RX12_277_811 (ct2_cons (vl_835 l) ck_RX12_277_835 (ct2_cons (vl_847 l) ck_RX12_277_847 (ct2_cons (vl_854 l) ck_RX12_277_854 (ct2_cons (vl_860 l) ck_RX12_277_860 (ct2_cons (vl_702 l) ck_RX12_269_702 (ct2_cons (vl_797 l) ck_RX12_269_797 (ct2_cons (vl_828 l) ck_RX12_269_828 (ct2_cons (vl_844 l) ck_RX12_269_844 (ct2_cons (vl_852 l) ck_RX12_269_852 (ct2_cons (vl_857 l) ck_RX12_269_857 (ct2_cons (vl_763 l) ck_RX12_277_763 (ct2_cons (vl_811 l) ck_RX12_277_811 (ct2_cons (vl_835 l) ck_RX12_277_835 (ct2_cons (vl_847 l) ck_RX12_277_847 (ct2_cons (vl_854 l) ck_RX12_277_854 (ct2_cons (vl_860 l) ck_RX12_277_860 (ct2_nil))))))))))))))))))))))))))
theorem vl_1432 (l : Launch) : Vld2 l vwCl gTbl con_1432 := conR_ok3 gT_all (hd_1432) rfl pn_RX12 tk_X12_swings bo_RX12 xo_RX12 (cto_1432 l) ch_1432 (cut_all cc_1432)
/-- RookHusting tired -/
noncomputable def ac_682 : AC := .inl (4, jl_n [jl_8 26 6, jl_1 27 1, jl_8 31 4, jl_6 5 2, jl_8 37 4])
noncomputable def hc_171 : List AC := [ac_431, .inl (9, [(6, 2, 0), (8, 19, 0)]), ac_682, am_2, am_9]
noncomputable def gi_822 : GI := jl_n [gp_7, gp_177, jl_m 1 48]
noncomputable def hq_599 : HP := [(false, ac_431), (false, .inl (9, [(6, 2, 0), (8, 19, 0)])), (false, ac_682), (false, am_2), (false, am_9)]
noncomputable def con_1433 : Con2 := ((yX11_tired, cX11_tired, 4, (some .int)), (1, 21), ([(6, 0, 0), (1, 1, 0)], gi_311, hc_171, []), [((1, 37, 0), gi_822, hq_599, [], [1])])
theorem hd_1433 : con_1433.1 = (yX11_tired, cX11_tired, 4, (some .int)) := rfl
noncomputable def ct_1433 : CTB2 := [(2, 156, 0, con_657, [0, 1, 2])]
noncomputable def cu_1433 : List CUT2 := []
theorem ch_1433 : staG tb_X11_tired 1 bt_RX11 [] ct_1433 [] [] cu_1433 32 con_1433 = true := by decide +kernel
theorem cto_1433 (l : Launch) : CTOK2 l RX11 vwCl gTbl ct_1433 := ct2_cons (vl_657 l) ck_RX11_156_657 (ct2_nil)
theorem vl_1433 (l : Launch) : Vld2 l vwCl gTbl con_1433 := conR_ok3 gT_all (hd_1433) rfl pn_RX11 tk_X11_tired bo_RX11 xo_RX11 (cto_1433 l) ch_1433 cut_nil
/-- RookHustingModel tired -/
noncomputable def gi_823 : GI := jl_n [gp_179, jl_m 1 79]
noncomputable def con_1434 : Con2 := ((yX12_tired, cX12_tired, 4, (some .int)), (2, 46), ([(6, 0, 0), (1, 1, 0)], gi_316, [ac_437, ac_438], []), [((1, 70, 0), gi_823, [(false, ac_437), (false, ac_438)], [], [1])])
theorem hd_1434 : con_1434.1 = (yX12_tired, cX12_tired, 4, (some .int)) := rfl
noncomputable def ct_1434 : CTB2 := [(2, 236, 0, con_660, [0, 1])]
noncomputable def cu_1434 : List CUT2 := []
theorem ch_1434 : staG tb_X12_tired 1 bt_RX12 [] ct_1434 [] [] cu_1434 38 con_1434 = true := by decide +kernel
theorem cto_1434 (l : Launch) : CTOK2 l RX12 vwCl gTbl ct_1434 := ct2_cons (vl_660 l) ck_RX12_236_660 (ct2_nil)
theorem vl_1434 (l : Launch) : Vld2 l vwCl gTbl con_1434 := conR_ok3 gT_all (hd_1434) rfl pn_RX12 tk_X12_tired bo_RX12 xo_RX12 (cto_1434 l) ch_1434 cut_nil
/-- RookHusting guards -/
noncomputable def con_1435 : Con2 := ((yX11_guards, cX11_guards, 3, (some .int)), (6, 151), ([(6, 0, 0)], gi_790, hc_166, rq_2), [((1, 115, 0), gi_791, hq_591, [], tg_15)])
theorem hd_1435 : con_1435.1 = (yX11_guards, cX11_guards, 3, (some .int)) := rfl
noncomputable def ct_1435 : CTB2 := [(1, 219, 0, con_671, [0, 1, 2]), (11, 208, 0, con_929, [0, 1, 3, 2, 4, 5, 6, 7, 8, 9, 10, 11, 12, 13, 14, 15, 16, 17, 18, 19, 20, 21, 22, 23, 24, 25, 26]), (37, 211, 0, con_868, [3, 4])]
noncomputable def cu_1435 : List CUT2 := [((18, [lq 0 6 0, lq 1 1 116, lq 2 1 117], [], gi_792, hq_592), rq_2, ([(117, (-1))], 5))]
theorem ch_1435 : staG tb_X11_guards 1 bt_RX11 [] ct_1435 [] [] cu_1435 23 con_1435 = true := by decide +kernel
theorem cc_1435 : cu_1435.all (cutG tb_X11_guards 1 bt_RX11 [] ct_1435 [] [] cu_1435 23 con_1435) = true := by decide +kernel
theorem cto_1435 (l : Launch) : CTOK2 l RX11 vwCl gTbl ct_1435 := ct2_cons (vl_671 l) ck_RX11_219_671 (ct2_cons (vl_929 l) ck_RX11_208_929 (ct2_cons (vl_868 l) ck_RX11_211_868 (ct2_nil)))
theorem vl_1435 (l : Launch) : Vld2 l vwCl gTbl con_1435 := conR_ok3 gT_all (hd_1435) rfl pn_RX11 tk_X11_guards bo_RX11 xo_RX11 (cto_1435 l) ch_1435 (cut_all cc_1435)
/-- RookHustingModel guards -/
noncomputable def con_1436 : Con2 := ((yX12_guards, cX12_guards, 3, (some .int)), (8, 188), ([(6, 0, 0)], gi_504, hc_107, []), [((1, 69, 0), gi_793, hq_504, [], tg_1)])
theorem hd_1436 : con_1436.1 = (yX12_guards, cX12_guards, 3, (some .int)) := rfl
noncomputable def ct_1436 : CTB2 := [(1, 345, 0, con_934, [0, 1, 2, 3, 4, 5, 6]), (5, 99, 0, con_678, [0, 1]), (20, 106, 0, con_650, [0, 1])]
noncomputable def cu_1436 : List CUT2 := [((18, [lq 0 6 0, lq 1 1 70, lq 2 1 71], [], gi_794, hq_504), [], ([(71, (-1))], 5))]
theorem ch_1436 : staG tb_X12_guards 1 bt_RX12 [] ct_1436 [] [] cu_1436 24 con_1436 = true := by decide +kernel
theorem cc_1436 : cu_1436.all (cutG tb_X12_guards 1 bt_RX12 [] ct_1436 [] [] cu_1436 24 con_1436) = true := by decide +kernel
theorem cto_1436 (l : Launch) : CTOK2 l RX12 vwCl gTbl ct_1436 := ct2_cons (vl_934 l) ck_RX12_345_934 (ct2_cons (vl_678 l) ck_RX12_99_678 (ct2_cons (vl_650 l) ck_RX12_106_650 (ct2_nil)))
theorem vl_1436 (l : Launch) : Vld2 l vwCl gTbl con_1436 := conR_ok3 gT_all (hd_1436) rfl pn_RX12 tk_X12_guards bo_RX12 xo_RX12 (cto_1436 l) ch_1436 (cut_all cc_1436)
/-- RookHusting eats -/
noncomputable def ac_683 : AC := .inl (11, jl_n [vp_60, vp_126, jl_8 10 1, jl_6 5 1, jl_8 15 4, vp_81])
noncomputable def ac_684 : AC := .inl (4, jl_n [vp_82, jl_6 4 1, jl_6 19 1, jl_6 11 1, jl_6 24 2, jl_6 14 1, jl_8 36 2, jl_6 13 1])
noncomputable def ac_685 : AC := .inl (3, jl_n [jl_6 22 1, jl_6 20 1, jl_6 6 1, vp_75, jl_1 46 2])
noncomputable def hc_172 : List AC := [ac_683, .inl (9, [(6, 2, 0), (6, 14, 0)]), ac_684, am_10, ac_685, am_0, .inl (7, [(6, 7, 0), (6, 8, 0), (6, 9, 0), (1, 49, 0)]), am_7, am_1, am_1, am_1, .inl (1, [(6, 2, 0), (8, 51, 0)]), am_4, am_6, .inl (0, [(1, 52, 0), (6, 15, 0), (6, 16, 0), (6, 17, 0)]), ac_650, am_11, ac_651, am_2, am_0, am_1, am_0, am_2, am_9, am_0, am_0, am_12]
noncomputable def gi_824 : GI := jl_n [gp_270, gp_347, gp_351]
noncomputable def ac_686 : AC := .inl (11, jl_n [vp_60, vp_126, jl_8 10 1, jl_6 5 1, jl_8 15 4, jl_1 131 1, jl_8 18 2])
noncomputable def ac_687 : AC := .inl (3, jl_n [jl_6 22 1, jl_6 20 1, jl_6 6 1, vp_75, jl_1 142 2])
noncomputable def hq_600 : HP := [(true, ac_686), (false, .inl (9, [(6, 2, 0), (6, 14, 0)])), (false, ac_684), (false, am_10), (true, ac_687), (true, am_0), (true, .inl (7, [(6, 7, 0), (6, 8, 0), (6, 9, 0), (1, 145, 0)])), (true, am_7), (true, am_1), (true, am_1), (false, am_1), (false, .inl (1, [(6, 2, 0), (8, 51, 0)])), (false, am_4), (false, am_6), (false, .inl (0, [(1, 52, 0), (6, 15, 0), (6, 16, 0), (6, 17, 0)])), (false, ac_650), (false, am_11), (false, ac_651), (false, am_2), (true, am_0), (true, am_1), (true, am_0), (false, am_2), (false, am_9), (true, am_0), (true, am_0), (true, am_12)]
noncomputable def con_1437 : Con2 := ((yX11_eats, cX11_eats, 2, (some .int)), (7, 174), ([(6, 0, 0), (1, 1, 0)], gi_782, hc_172, rq_7), [((1, 116, 0), gi_824, hq_600, [], tg_15)])
theorem hd_1437 : con_1437.1 = (yX11_eats, cX11_eats, 2, (some .int)) := rfl
noncomputable def ct_1437 : CTB2 := [(2, 139, 0, con_647, [0, 1, 2]), (42, 266, 0, con_1361, [0, 5, 1, 6, 2, 7, 8, 9, 10, 11, 12, 13, 14, 15, 16, 17, 4, 18, 19, 3, 20, 21, 22, 23, 24, 25, 26])]
noncomputable def cu_1437 : List CUT2 := []
theorem ch_1437 : staG tb_X11_eats 1 bt_RX11 [] ct_1437 [] [] cu_1437 24 con_1437 = true := by decide +kernel
theorem cto_1437 (l : Launch) : CTOK2 l RX11 vwCl gTbl ct_1437 := ct2_cons (vl_647 l) ck_RX11_139_647 (ct2_cons (vl_1361 l) ck_RX11_266_1361 (ct2_nil))
theorem vl_1437 (l : Launch) : Vld2 l vwCl gTbl con_1437 := conR_ok3 gT_all (hd_1437) rfl pn_RX11 tk_X11_eats bo_RX11 xo_RX11 (cto_1437 l) ch_1437 cut_nil
/-- RookHustingModel eats -/
noncomputable def con_1438 : Con2 := ((yX12_eats, cX12_eats, 2, (some .int)), (10, 229), ([(6, 0, 0), (1, 1, 0)], gi_507, hc_148, []), [((1, 70, 0), gi_771, hq_567, [], tg_1)])
theorem hd_1438 : con_1438.1 = (yX12_eats, cX12_eats, 2, (some .int)) := rfl
noncomputable def ct_1438 : CTB2 := [(2, 384, 0, con_1386, [0, 1, 2, 3, 4, 5, 6, 7, 8, 9, 10, 11, 12]), (20, 103, 0, con_1344, [0, 1])]
noncomputable def cu_1438 : List CUT2 := []
theorem ch_1438 : staG tb_X12_eats 1 bt_RX12 [] ct_1438 [] [] cu_1438 22 con_1438 = true := by decide +kernel
theorem cto_1438 (l : Launch) : CTOK2 l RX12 vwCl gTbl ct_1438 := ct2_cons (vl_1386 l) ck_RX12_384_1386 (ct2_cons (vl_1344 l) ck_RX12_103_1344 (ct2_nil))
theorem vl_1438 (l : Launch) : Vld2 l vwCl gTbl con_1438 := conR_ok3 gT_all (hd_1438) rfl pn_RX12 tk_X12_eats bo_RX12 xo_RX12 (cto_1438 l) ch_1438 cut_nil
/-- RookHusting quiet -/
noncomputable def gi_825 : GI := jl_n [gp_275, gp_374]
noncomputable def con_1439 : Con2 := ((yX11_quiet, cX11_quiet, 4, (some .int)), (6, 151), ([(6, 0, 0), (1, 1, 0)], gi_493, hc_104, rq_3), [((1, 116, 0), gi_825, hq_498, [], tg_15)])
theorem hd_1439 : con_1439.1 = (yX11_quiet, cX11_quiet, 4, (some .int)) := rfl
noncomputable def ct_1439 : CTB2 := [(2, 272, 0, con_1364, [0, 1, 2]), (12, 208, 0, con_929, [0, 1, 3, 2, 4, 5, 6, 7, 8, 9, 10, 11, 12, 13, 14, 15, 16, 17, 18, 19, 20, 21, 22, 23, 24, 25, 26])]
noncomputable def gi_826 : GI := jl_n [gp_224, gp_269, gp_117, gp_211, gp_379, gp_193, jl_i 0 5, gp_267]
noncomputable def ac_688 : AC := .inl (11, jl_n [vp_79, vp_80, jl_8 15 4, jl_c 1, jl_8 18 2])
noncomputable def ac_689 : AC := .inl (3, jl_n [vp_77, jl_1 149 2])
noncomputable def hq_601 : HP := [(true, ac_688), (false, .inl (9, [(6, 2, 0), (6, 11, 0)])), (false, ac_514), (true, .inl (7, [(6, 4, 0), (6, 5, 0), (6, 6, 0), (1, 139, 0)])), (true, am_7), (true, am_1), (true, am_1), (false, am_1), (false, .inl (1, [(6, 2, 0), (8, 42, 0)])), (false, am_4), (false, am_6), (false, .inl (0, [(1, 43, 0), (6, 12, 0), (6, 13, 0), (6, 14, 0)])), (false, ac_515), (false, am_11), (false, ac_516), (true, ac_689), (false, am_2), (true, am_0), (false, am_10), (true, am_0), (true, am_1), (true, am_0), (false, am_2), (false, am_9), (true, am_0), (true, am_0), (true, am_12)]
noncomputable def cu_1439 : List CUT2 := [((19, [lq 0 6 0, lq 1 1 1, lq 2 1 118, lq 3 1 119], [], gi_826, hq_601), rq_3, ([(119, (-1))], 5))]
theorem ch_1439 : staG tb_X11_quiet 1 bt_RX11 [] ct_1439 [] [] cu_1439 27 con_1439 = true := by decide +kernel
theorem cc_1439 : cu_1439.all (cutG tb_X11_quiet 1 bt_RX11 [] ct_1439 [] [] cu_1439 27 con_1439) = true := by decide +kernel
theorem cto_1439 (l : Launch) : CTOK2 l RX11 vwCl gTbl ct_1439 := ct2_cons (vl_1364 l) ck_RX11_272_1364 (ct2_cons (vl_929 l) ck_RX11_208_929 (ct2_nil))
theorem vl_1439 (l : Launch) : Vld2 l vwCl gTbl con_1439 := conR_ok3 gT_all (hd_1439) rfl pn_RX11 tk_X11_quiet bo_RX11 xo_RX11 (cto_1439 l) ch_1439 (cut_all cc_1439)
/-- RookHustingModel quiet -/
noncomputable def con_1440 : Con2 := ((yX12_quiet, cX12_quiet, 4, (some .int)), (10, 229), ([(6, 0, 0), (1, 1, 0)], gi_507, hc_148, []), [((1, 70, 0), gi_771, hq_567, [], tg_1)])
theorem hd_1440 : con_1440.1 = (yX12_quiet, cX12_quiet, 4, (some .int)) := rfl
noncomputable def ct_1440 : CTB2 := [(2, 381, 0, con_1369, [0, 1, 2, 3, 4, 5, 6, 7, 8, 9, 10, 11, 12]), (17, 106, 0, con_650, [0, 1])]
noncomputable def gi_827 : GI := jl_n [gp_224, gp_282, gp_364, gp_202, jl_z 16, gp_207, jl_z 45]
noncomputable def cu_1440 : List CUT2 := [((15, [lq 0 6 0, lq 1 1 1, lq 2 1 72, lq 3 1 73], [], gi_827, hq_567), [], ([(73, (-1))], 5))]
theorem ch_1440 : staG tb_X12_quiet 1 bt_RX12 [] ct_1440 [] [] cu_1440 25 con_1440 = true := by decide +kernel
theorem cc_1440 : cu_1440.all (cutG tb_X12_quiet 1 bt_RX12 [] ct_1440 [] [] cu_1440 25 con_1440) = true := by decide +kernel
theorem cto_1440 (l : Launch) : CTOK2 l RX12 vwCl gTbl ct_1440 := ct2_cons (vl_1369 l) ck_RX12_381_1369 (ct2_cons (vl_650 l) ck_RX12_106_650 (ct2_nil))
theorem vl_1440 (l : Launch) : Vld2 l vwCl gTbl con_1440 := conR_ok3 gT_all (hd_1440) rfl pn_RX12 tk_X12_quiet bo_RX12 xo_RX12 (cto_1440 l) ch_1440 (cut_all cc_1440)
/-- RookHusting peace -/
noncomputable def gi_828 : GI := jl_n [gp_373, jl_m 1 2147483647, gp_276]
noncomputable def con_1441 : Con2 := ((yX11_peace, cX11_peace, 4, (some .int)), (6, 151), ([(6, 0, 0)], gi_790, hc_166, rq_2), [((1, 115, 0), gi_828, hq_591, [], tg_15)])
theorem hd_1441 : con_1441.1 = (yX11_peace, cX11_peace, 4, (some .int)) := rfl
noncomputable def ct_1441 : CTB2 := [(1, 219, 0, con_671, [0, 1, 2]), (11, 208, 0, con_929, [0, 1, 3, 2, 4, 5, 6, 7, 8, 9, 10, 11, 12, 13, 14, 15, 16, 17, 18, 19, 20, 21, 22, 23, 24, 25, 26]), (46, 300, 0, con_1421, [15, 24])]
noncomputable def gi_829 : GI := jl_n [gp_375, gp_274, gp_380, gp_337, gp_267]
noncomputable def ac_690 : AC := .inl (3, jl_n [vp_77, jl_1 148 2])
noncomputable def hq_602 : HP := [(true, ac_674), (false, .inl (9, [(6, 2, 0), (6, 11, 0)])), (false, ac_671), (true, .inl (7, [(6, 4, 0), (6, 5, 0), (6, 6, 0), (1, 138, 0)])), (true, am_7), (true, am_1), (true, am_1), (false, am_1), (false, .inl (1, [(6, 2, 0), (8, 41, 0)])), (false, am_4), (false, am_6), (false, .inl (0, [(1, 42, 0), (6, 12, 0), (6, 13, 0), (6, 14, 0)])), (false, ac_508), (false, am_11), (false, ac_509), (true, ac_690), (false, am_2), (true, am_0), (false, am_10), (true, am_0), (true, am_1), (true, am_0), (false, am_2), (false, am_9), (true, am_0), (true, am_0), (true, am_12)]
noncomputable def cu_1441 : List CUT2 := [((20, [lq 0 6 0, lq 1 1 116, lq 2 1 117, lq 3 1 118], [], gi_829, hq_602), rq_2, ([(118, (-1))], 16))]
theorem ch_1441 : staG tb_X11_peace 1 bt_RX11 [] ct_1441 [] [] cu_1441 28 con_1441 = true := by decide +kernel
theorem cc_1441 : cu_1441.all (cutG tb_X11_peace 1 bt_RX11 [] ct_1441 [] [] cu_1441 28 con_1441) = true := by decide +kernel
theorem cto_1441 (l : Launch) : CTOK2 l RX11 vwCl gTbl ct_1441 := ct2_cons (vl_671 l) ck_RX11_219_671 (ct2_cons (vl_929 l) ck_RX11_208_929 (ct2_cons (vl_1421 l) ck_RX11_300_1421 (ct2_nil)))
theorem vl_1441 (l : Launch) : Vld2 l vwCl gTbl con_1441 := conR_ok3 gT_all (hd_1441) rfl pn_RX11 tk_X11_peace bo_RX11 xo_RX11 (cto_1441 l) ch_1441 (cut_all cc_1441)
/-- RookHustingModel peace -/
noncomputable def gi_830 : GI := jl_n [gp_287, jl_m 1 2147483647, jl_z 45]
noncomputable def con_1442 : Con2 := ((yX12_peace, cX12_peace, 4, (some .int)), (9, 208), ([(6, 0, 0)], gi_504, hc_147, []), [((1, 69, 0), gi_830, hq_566, [], tg_1)])
theorem hd_1442 : con_1442.1 = (yX12_peace, cX12_peace, 4, (some .int)) := rfl
noncomputable def ct_1442 : CTB2 := [(1, 366, 0, con_1353, [0, 1, 2, 3, 4, 5, 6, 7, 8, 9, 10, 11, 12]), (18, 103, 0, con_1344, [0, 1]), (26, 375, 0, con_1377, [0, 1, 7]), (33, 375, 0, con_1377, [0, 1, 7])]
noncomputable def gi_831 : GI := jl_n [gp_376, jl_i 0 2147483647, gp_337, jl_z 45]
noncomputable def cu_1442 : List CUT2 := [((16, [lq 0 6 0, lq 1 1 70, lq 2 1 71, lq 3 1 72], [], gi_831, hq_566), [], ([(72, (-1))], 16))]
theorem ch_1442 : staG tb_X12_peace 1 bt_RX12 [] ct_1442 [] [] cu_1442 27 con_1442 = true := by decide +kernel
theorem cc_1442 : cu_1442.all (cutG tb_X12_peace 1 bt_RX12 [] ct_1442 [] [] cu_1442 27 con_1442) = true := by decide +kernel
theorem cto_1442 (l : Launch) : CTOK2 l RX12 vwCl gTbl ct_1442 := ct2_cons (vl_1353 l) ck_RX12_366_1353 (ct2_cons (vl_1344 l) ck_RX12_103_1344 (ct2_cons (vl_1377 l) ck_RX12_375_1377 (ct2_cons (vl_1377 l) ck_RX12_375_1377 (ct2_nil))))
theorem vl_1442 (l : Launch) : Vld2 l vwCl gTbl con_1442 := conR_ok3 gT_all (hd_1442) rfl pn_RX12 tk_X12_peace bo_RX12 xo_RX12 (cto_1442 l) ch_1442 (cut_all cc_1442)
/-- RookHusting bold -/
noncomputable def con_1443 : Con2 := ((yX11_bold, cX11_bold, 2, (some .int)), (6, 151), ([(6, 0, 0), (1, 1, 0)], gi_493, hc_104, rq_3), [((1, 116, 0), gi_825, hq_498, [], tg_15)])
theorem hd_1443 : con_1443.1 = (yX11_bold, cX11_bold, 2, (some .int)) := rfl
noncomputable def ct_1443 : CTB2 := [(2, 139, 0, con_647, [0, 1, 2]), (12, 208, 0, con_929, [0, 1, 3, 2, 4, 5, 6, 7, 8, 9, 10, 11, 12, 13, 14, 15, 16, 17, 18, 19, 20, 21, 22, 23, 24, 25, 26]), (20, 294, 0, con_1396, [15, 24])]
noncomputable def cu_1443 : List CUT2 := []
theorem ch_1443 : staG tb_X11_bold 1 bt_RX11 [] ct_1443 [] [] cu_1443 13 con_1443 = true := by decide +kernel
theorem cto_1443 (l : Launch) : CTOK2 l RX11 vwCl gTbl ct_1443 := ct2_cons (vl_647 l) ck_RX11_139_647 (ct2_cons (vl_929 l) ck_RX11_208_929 (ct2_cons (vl_1396 l) ck_RX11_294_1396 (ct2_nil)))
theorem vl_1443 (l : Launch) : Vld2 l vwCl gTbl con_1443 := conR_ok3 gT_all (hd_1443) rfl pn_RX11 tk_X11_bold bo_RX11 xo_RX11 (cto_1443 l) ch_1443 cut_nil
/-- RookHustingModel bold -/
noncomputable def con_1444 : Con2 := ((yX12_bold, cX12_bold, 4, (some .int)), (10, 229), ([(6, 0, 0), (1, 1, 0)], gi_507, hc_148, []), [((1, 70, 0), gi_771, hq_567, [], tg_1)])
theorem hd_1444 : con_1444.1 = (yX12_bold, cX12_bold, 4, (some .int)) := rfl
noncomputable def ct_1444 : CTB2 := [(2, 384, 0, con_1386, [0, 1, 2, 3, 4, 5, 6, 7, 8, 9, 10, 11, 12]), (17, 103, 0, con_1344, [0, 1])]
noncomputable def gi_832 : GI := jl_n [gp_370, gp_174, jl_i 0 16, jl_z 45]
noncomputable def cu_1444 : List CUT2 := [((15, [lq 0 6 0, lq 1 1 1, lq 2 1 72, lq 3 1 73], [], gi_832, hq_567), [], ([(73, (-1))], 16))]
theorem ch_1444 : staG tb_X12_bold 1 bt_RX12 [] ct_1444 [] [] cu_1444 23 con_1444 = true := by decide +kernel
theorem cc_1444 : cu_1444.all (cutG tb_X12_bold 1 bt_RX12 [] ct_1444 [] [] cu_1444 23 con_1444) = true := by decide +kernel
theorem cto_1444 (l : Launch) : CTOK2 l RX12 vwCl gTbl ct_1444 := ct2_cons (vl_1386 l) ck_RX12_384_1386 (ct2_cons (vl_1344 l) ck_RX12_103_1344 (ct2_nil))
theorem vl_1444 (l : Launch) : Vld2 l vwCl gTbl con_1444 := conR_ok3 gT_all (hd_1444) rfl pn_RX12 tk_X12_bold bo_RX12 xo_RX12 (cto_1444 l) ch_1444 (cut_all cc_1444)
/-- RookHusting$Harvest mostRooks -/
noncomputable def ac_691 : AC := .inl (3, jl_n [vp_36, jl_8 10 6, jl_1 11 1])
noncomputable def gi_833 : GI := jl_n [gp_52, gp_366, jl_i 0 2147483647]
noncomputable def hq_603 : HP := [(false, ac_691), (false, am_0)]
noncomputable def con_1445 : Con2 := ((yX3_mostRooks, cX3_mostRooks, 4, (some .int)), (1, 13), ([(6, 0, 0), (1, 1, 0)], gi_787, [ac_691, am_0], []), [((1, 11, 0), gi_833, hq_603, [], [1])])
theorem hd_1445 : con_1445.1 = (yX3_mostRooks, cX3_mostRooks, 4, (some .int)) := rfl
noncomputable def gi_834 : GI := jl_n [gp_52, jl_z 8, gp_371, jl_i 0 2147483647, jl_i 0 17]
noncomputable def cu_1445 : List CUT2 := [((4, [lq 0 6 0, lq 1 1 1, lq 2 1 13, lq 3 1 14], [], gi_834, hq_603), [], ([(14, (-1))], 17))]
theorem ch_1445 : staG tb_X3_mostRooks 1 bt_RX3 [] ct_873 [] [] cu_1445 20 con_1445 = true := by decide +kernel
theorem cc_1445 : cu_1445.all (cutG tb_X3_mostRooks 1 bt_RX3 [] ct_873 [] [] cu_1445 20 con_1445) = true := by decide +kernel
theorem vl_1445 (l : Launch) : Vld2 l vwCl gTbl con_1445 := conR_ok3 gT_all (hd_1445) rfl pn_RX3 tk_X3_mostRooks bo_RX3 xo_RX3 (cto_873 l) ch_1445 (cut_all cc_1445)
