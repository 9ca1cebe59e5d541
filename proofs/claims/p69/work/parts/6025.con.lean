/-! ===== contracts, 25 ===== -/
/-- RookHustingModel power -/
noncomputable def con_1096 : Con2 := ((yX12_power, cX12_power, 8, (some .int)), (3, 66), ([(6, 0, 0), (1, 1, 0), (1, 2, 0)], gi_304, [ac_439, ac_440], []), [((1, 71, 0), gi_528, [(false, ac_439), (false, ac_440)], [], [1])])
theorem hd_1096 : con_1096.1 = (yX12_power, cX12_power, 8, (some .int)) := rfl
theorem ck_RX12_319_1082 : COK2 RX12 vwCl gTbl 319 1 con_1082 := ⟨wd_1807, wd_137, mh_X12_part, .inl ⟨rfl, wd_1805, wd_1806, pd_X12_part⟩⟩
theorem ck_RX12_319_1084 : COK2 RX12 vwCl gTbl 319 1 con_1084 := ⟨wd_1807, wd_137, mh_X12_part, .inl ⟨rfl, wd_1805, wd_1806, pd_X12_part⟩⟩
theorem ck_RX12_319_1086 : COK2 RX12 vwCl gTbl 319 1 con_1086 := ⟨wd_1807, wd_137, mh_X12_part, .inl ⟨rfl, wd_1805, wd_1806, pd_X12_part⟩⟩
theorem ck_RX12_319_1088 : COK2 RX12 vwCl gTbl 319 1 con_1088 := ⟨wd_1807, wd_137, mh_X12_part, .inl ⟨rfl, wd_1805, wd_1806, pd_X12_part⟩⟩
theorem ck_RX12_319_1090 : COK2 RX12 vwCl gTbl 319 1 con_1090 := ⟨wd_1807, wd_137, mh_X12_part, .inl ⟨rfl, wd_1805, wd_1806, pd_X12_part⟩⟩
theorem ck_RX12_319_1092 : COK2 RX12 vwCl gTbl 319 1 con_1092 := ⟨wd_1807, wd_137, mh_X12_part, .inl ⟨rfl, wd_1805, wd_1806, pd_X12_part⟩⟩
theorem ck_RX12_319_1095 : COK2 RX12 vwCl gTbl 319 1 con_1095 := ⟨wd_1807, wd_137, mh_X12_part, .inl ⟨rfl, wd_1805, wd_1806, pd_X12_part⟩⟩
theorem ck_RX12_316_1093 : COK2 RX12 vwCl gTbl 316 1 con_1093 := ⟨wd_1804, wd_137, mh_X12_factorial, .inl ⟨rfl, wd_1802, wd_1803, pd_X12_factorial⟩⟩
theorem ck_RX12_316_1073 : COK2 RX12 vwCl gTbl 316 1 con_1073 := ⟨wd_1804, wd_137, mh_X12_factorial, .inl ⟨rfl, wd_1802, wd_1803, pd_X12_factorial⟩⟩
theorem ck_RX12_316_1074 : COK2 RX12 vwCl gTbl 316 1 con_1074 := ⟨wd_1804, wd_137, mh_X12_factorial, .inl ⟨rfl, wd_1802, wd_1803, pd_X12_factorial⟩⟩
theorem ck_RX12_316_1075 : COK2 RX12 vwCl gTbl 316 1 con_1075 := ⟨wd_1804, wd_137, mh_X12_factorial, .inl ⟨rfl, wd_1802, wd_1803, pd_X12_factorial⟩⟩
theorem ck_RX12_316_1076 : COK2 RX12 vwCl gTbl 316 1 con_1076 := ⟨wd_1804, wd_137, mh_X12_factorial, .inl ⟨rfl, wd_1802, wd_1803, pd_X12_factorial⟩⟩
theorem ck_RX12_316_1077 : COK2 RX12 vwCl gTbl 316 1 con_1077 := ⟨wd_1804, wd_137, mh_X12_factorial, .inl ⟨rfl, wd_1802, wd_1803, pd_X12_factorial⟩⟩
theorem ck_RX12_316_1078 : COK2 RX12 vwCl gTbl 316 1 con_1078 := ⟨wd_1804, wd_137, mh_X12_factorial, .inl ⟨rfl, wd_1802, wd_1803, pd_X12_factorial⟩⟩
theorem ck_RX12_316_1080 : COK2 RX12 vwCl gTbl 316 1 con_1080 := ⟨wd_1804, wd_137, mh_X12_factorial, .inl ⟨rfl, wd_1802, wd_1803, pd_X12_factorial⟩⟩
theorem ck_RX12_252_1079 : COK2 RX12 vwCl gTbl 252 1 con_1079 := ⟨wd_1720, wd_137, mh_X12_bits, .inl ⟨rfl, wd_1718, wd_1719, pd_X12_bits⟩⟩
theorem ck_RX12_298_1069 : COK2 RX12 vwCl gTbl 298 0 con_1069 := ⟨wd_1781, wd_137, mh_X12_hatsIn, .inr (.inr ⟨rfl, wd_1778, wd_1780, wd_86, ⟨_, rfl, pd_X12_hatsIn⟩, 12, _, TX12, 45, rfl, rfl⟩)⟩
theorem ck_RX12_298_1067 : COK2 RX12 vwCl gTbl 298 0 con_1067 := ⟨wd_1781, wd_137, mh_X12_hatsIn, .inr (.inr ⟨rfl, wd_1778, wd_1780, wd_86, ⟨_, rfl, pd_X12_hatsIn⟩, 12, _, TX12, 45, rfl, rfl⟩)⟩
theorem ck_RX12_298_1065 : COK2 RX12 vwCl gTbl 298 0 con_1065 := ⟨wd_1781, wd_137, mh_X12_hatsIn, .inr (.inr ⟨rfl, wd_1778, wd_1780, wd_86, ⟨_, rfl, pd_X12_hatsIn⟩, 12, _, TX12, 45, rfl, rfl⟩)⟩
theorem ck_RX12_298_1062 : COK2 RX12 vwCl gTbl 298 0 con_1062 := ⟨wd_1781, wd_137, mh_X12_hatsIn, .inr (.inr ⟨rfl, wd_1778, wd_1780, wd_86, ⟨_, rfl, pd_X12_hatsIn⟩, 12, _, TX12, 45, rfl, rfl⟩)⟩
theorem ck_RX12_298_1060 : COK2 RX12 vwCl gTbl 298 0 con_1060 := ⟨wd_1781, wd_137, mh_X12_hatsIn, .inr (.inr ⟨rfl, wd_1778, wd_1780, wd_86, ⟨_, rfl, pd_X12_hatsIn⟩, 12, _, TX12, 45, rfl, rfl⟩)⟩
theorem ck_RX12_298_1057 : COK2 RX12 vwCl gTbl 298 0 con_1057 := ⟨wd_1781, wd_137, mh_X12_hatsIn, .inr (.inr ⟨rfl, wd_1778, wd_1780, wd_86, ⟨_, rfl, pd_X12_hatsIn⟩, 12, _, TX12, 45, rfl, rfl⟩)⟩
theorem ck_RX12_298_1054 : COK2 RX12 vwCl gTbl 298 0 con_1054 := ⟨wd_1781, wd_137, mh_X12_hatsIn, .inr (.inr ⟨rfl, wd_1778, wd_1780, wd_86, ⟨_, rfl, pd_X12_hatsIn⟩, 12, _, TX12, 45, rfl, rfl⟩)⟩
theorem ck_RX12_240_1071 : COK2 RX12 vwCl gTbl 240 0 con_1071 := ⟨wd_1680, wd_137, mh_X12_isVoter, .inr (.inr ⟨rfl, wd_1677, wd_1679, wd_70, ⟨_, rfl, pd_X12_isVoter⟩, 12, _, TX12, 45, rfl, rfl⟩)⟩
theorem ck_RX12_240_1068 : COK2 RX12 vwCl gTbl 240 0 con_1068 := ⟨wd_1680, wd_137, mh_X12_isVoter, .inr (.inr ⟨rfl, wd_1677, wd_1679, wd_70, ⟨_, rfl, pd_X12_isVoter⟩, 12, _, TX12, 45, rfl, rfl⟩)⟩
theorem ck_RX12_240_1066 : COK2 RX12 vwCl gTbl 240 0 con_1066 := ⟨wd_1680, wd_137, mh_X12_isVoter, .inr (.inr ⟨rfl, wd_1677, wd_1679, wd_70, ⟨_, rfl, pd_X12_isVoter⟩, 12, _, TX12, 45, rfl, rfl⟩)⟩
theorem ck_RX12_240_1064 : COK2 RX12 vwCl gTbl 240 0 con_1064 := ⟨wd_1680, wd_137, mh_X12_isVoter, .inr (.inr ⟨rfl, wd_1677, wd_1679, wd_70, ⟨_, rfl, pd_X12_isVoter⟩, 12, _, TX12, 45, rfl, rfl⟩)⟩
theorem ck_RX12_240_1061 : COK2 RX12 vwCl gTbl 240 0 con_1061 := ⟨wd_1680, wd_137, mh_X12_isVoter, .inr (.inr ⟨rfl, wd_1677, wd_1679, wd_70, ⟨_, rfl, pd_X12_isVoter⟩, 12, _, TX12, 45, rfl, rfl⟩)⟩
theorem ck_RX12_240_1059 : COK2 RX12 vwCl gTbl 240 0 con_1059 := ⟨wd_1680, wd_137, mh_X12_isVoter, .inr (.inr ⟨rfl, wd_1677, wd_1679, wd_70, ⟨_, rfl, pd_X12_isVoter⟩, 12, _, TX12, 45, rfl, rfl⟩)⟩
theorem ck_RX12_240_1056 : COK2 RX12 vwCl gTbl 240 0 con_1056 := ⟨wd_1680, wd_137, mh_X12_isVoter, .inr (.inr ⟨rfl, wd_1677, wd_1679, wd_70, ⟨_, rfl, pd_X12_isVoter⟩, 12, _, TX12, 45, rfl, rfl⟩)⟩
theorem ck_RX12_240_1053 : COK2 RX12 vwCl gTbl 240 0 con_1053 := ⟨wd_1680, wd_137, mh_X12_isVoter, .inr (.inr ⟨rfl, wd_1677, wd_1679, wd_70, ⟨_, rfl, pd_X12_isVoter⟩, 12, _, TX12, 45, rfl, rfl⟩)⟩
noncomputable def ct_1096 : CTB2 := [(2, 240, 0, con_1053, [0, 1]), (2, 240, 0, con_1056, [0, 1]), (2, 240, 0, con_1059, [0, 1]), (2, 240, 0, con_1061, [0, 1]), (2, 240, 0, con_1064, [0, 1]), (2, 240, 0, con_1066, [0, 1]), (2, 240, 0, con_1068, [0, 1]), (2, 240, 0, con_1071, [0, 1]), (12, 91, 1, con_648, []), (35, 298, 0, con_1054, [0, 1]), (35, 298, 0, con_1057, [0, 1]), (35, 298, 0, con_1060, [0, 1]), (35, 298, 0, con_1062, [0, 1]), (35, 298, 0, con_1065, [0, 1]), (35, 298, 0, con_1067, [0, 1]), (35, 298, 0, con_1069, [0, 1]), (57, 199, 1, con_390, []), (67, 298, 0, con_1054, [0, 1]), (67, 298, 0, con_1057, [0, 1]), (67, 298, 0, con_1060, [0, 1]), (67, 298, 0, con_1062, [0, 1]), (67, 298, 0, con_1065, [0, 1]), (67, 298, 0, con_1067, [0, 1]), (67, 298, 0, con_1069, [0, 1]), (80, 298, 0, con_1054, [0, 1]), (80, 298, 0, con_1057, [0, 1]), (80, 298, 0, con_1060, [0, 1]), (80, 298, 0, con_1062, [0, 1]), (80, 298, 0, con_1065, [0, 1]), (80, 298, 0, con_1067, [0, 1]), (80, 298, 0, con_1069, [0, 1]), (85, 243, 0, con_662, [0, 1]), (111, 252, 1, con_1079, []), (114, 316, 1, con_1080, []), (122, 252, 1, con_1079, []), (126, 316, 1, con_1080, []), (147, 316, 1, con_1078, []), (147, 316, 1, con_1077, []), (147, 316, 1, con_1076, []), (147, 316, 1, con_1075, []), (147, 316, 1, con_1074, []), (147, 316, 1, con_1073, []), (147, 316, 1, con_1093, []), (152, 319, 1, con_1095, []), (152, 319, 1, con_1092, []), (152, 319, 1, con_1090, []), (152, 319, 1, con_1088, []), (152, 319, 1, con_1086, []), (152, 319, 1, con_1084, []), (152, 319, 1, con_1082, [])]
noncomputable def gi_710 : GI := jl_n [jl_z 1, jl_i 0 6, jl_i 0 1, jl_z 45, jl_i 0 16, jl_i 0 3, jl_i 0 10, jl_i 0 5, jl_i 0 8, jl_i 0 5, jl_i 7 7, jl_i 0 30, jl_i 0 2147483647, jl_z 18, jl_r 2 (jl_t), jl_i 0 128]
noncomputable def gi_711 : GI := jl_n [jl_z 1, jl_i 0 5, jl_i 0 1, jl_z 45, jl_i 0 16, jl_i 0 3, jl_i 0 10, jl_i 0 5, jl_i 0 8, jl_i 0 5, jl_i 6 6, jl_i 0 30, jl_i 0 2147483647, jl_z 18, jl_r 2 (jl_t), jl_i 0 64]
noncomputable def gi_712 : GI := jl_n [jl_z 1, jl_i 0 4, jl_i 0 1, jl_z 45, jl_i 0 16, jl_i 0 3, jl_i 0 10, jl_i 0 5, jl_i 0 8, jl_i 0 5, jl_i 5 5, jl_i 0 30, jl_i 0 2147483647, jl_z 18, jl_r 2 (jl_t), jl_i 0 32]
noncomputable def gi_713 : GI := jl_n [jl_z 1, jl_i 0 3, jl_i 0 1, jl_z 45, jl_i 0 16, jl_i 0 3, jl_i 0 10, jl_i 0 5, jl_i 0 8, jl_i 0 5, jl_i 4 4, jl_i 0 30, jl_i 0 2147483647, jl_z 18, jl_r 2 (jl_t), jl_i 0 16]
noncomputable def gi_714 : GI := jl_n [jl_z 1, jl_i 0 2, jl_i 0 1, jl_z 45, jl_i 0 16, jl_i 0 3, jl_i 0 10, jl_i 0 5, jl_i 0 8, jl_i 0 5, jl_i 3 3, jl_i 0 30, jl_i 0 2147483647, jl_z 18, jl_r 2 (jl_t), jl_i 0 8]
noncomputable def gi_715 : GI := jl_n [jl_z 1, jl_r 2 (jl_i 0 1), jl_z 45, jl_i 0 16, jl_i 0 3, jl_i 0 10, jl_i 0 5, jl_i 0 8, jl_i 0 5, jl_i 2 2, jl_i 0 30, jl_i 0 2147483647, jl_z 18, jl_r 2 (jl_t), jl_i 0 4]
noncomputable def gi_716 : GI := jl_n [jl_z 2, jl_i 0 1, jl_z 45, jl_i 0 16, jl_i 0 3, jl_i 0 10, jl_i 0 5, jl_i 0 8, jl_i 0 5, jl_i 1 1, jl_i 0 30, jl_i 0 2147483647, jl_z 18, jl_r 2 (jl_t), jl_i 0 2]
noncomputable def cu_1096 : List CUT2 := [((46, [(0, (6, 0, 0)), (1, (1, 1, 0)), (2, (1, 2, 0)), (3, (0, 7, 0)), (4, (1, 75, 0)), (5, (1, 76, 0)), (6, (1, 77, 0))], [], gi_710, [(false, ac_439), (false, ac_440)]), [], ([(77, (-1))], 128)), ((46, [(0, (6, 0, 0)), (1, (1, 1, 0)), (2, (1, 2, 0)), (3, (0, 6, 0)), (4, (1, 75, 0)), (5, (1, 76, 0)), (6, (1, 77, 0))], [], gi_711, [(false, ac_439), (false, ac_440)]), [], ([(77, (-1))], 128)), ((46, [(0, (6, 0, 0)), (1, (1, 1, 0)), (2, (1, 2, 0)), (3, (0, 5, 0)), (4, (1, 75, 0)), (5, (1, 76, 0)), (6, (1, 77, 0))], [], gi_712, [(false, ac_439), (false, ac_440)]), [], ([(77, (-1))], 128)), ((46, [(0, (6, 0, 0)), (1, (1, 1, 0)), (2, (1, 2, 0)), (3, (0, 4, 0)), (4, (1, 75, 0)), (5, (1, 76, 0)), (6, (1, 77, 0))], [], gi_713, [(false, ac_439), (false, ac_440)]), [], ([(77, (-1))], 128)), ((46, [(0, (6, 0, 0)), (1, (1, 1, 0)), (2, (1, 2, 0)), (3, (0, 3, 0)), (4, (1, 75, 0)), (5, (1, 76, 0)), (6, (1, 77, 0))], [], gi_714, [(false, ac_439), (false, ac_440)]), [], ([(77, (-1))], 128)), ((46, [(0, (6, 0, 0)), (1, (1, 1, 0)), (2, (1, 2, 0)), (3, (0, 2, 0)), (4, (1, 75, 0)), (5, (1, 76, 0)), (6, (1, 77, 0))], [], gi_715, [(false, ac_439), (false, ac_440)]), [], ([(77, (-1))], 128)), ((46, [(0, (6, 0, 0)), (1, (0, 0, 0)), (2, (1, 2, 0)), (3, (0, 1, 0)), (4, (1, 75, 0)), (5, (1, 76, 0)), (6, (1, 77, 0))], [], gi_716, [(false, ac_439), (false, ac_440)]), [], ([(77, (-1))], 128))]
theorem ch_1096 : staG tb_X12_power 1 bt_RX12 [] ct_1096 [(0, [(1, (2, 1, 6), 0, 0)])] [] cu_1096 52 con_1096 = true := by decide +kernel
theorem cc_1096 : cu_1096.all (cutG tb_X12_power 1 bt_RX12 [] ct_1096 [(0, [(1, (2, 1, 6), 0, 0)])] [] cu_1096 52 con_1096) = true := by decide +kernel
theorem cto_1096 (l : Launch) : CTOK2 l RX12 vwCl gTbl ct_1096 := ct2_cons (vl_1053 l) ck_RX12_240_1053 (ct2_cons (vl_1056 l) ck_RX12_240_1056 (ct2_cons (vl_1059 l) ck_RX12_240_1059 (ct2_cons (vl_1061 l) ck_RX12_240_1061 (ct2_cons (vl_1064 l) ck_RX12_240_1064 (ct2_cons (vl_1066 l) ck_RX12_240_1066 (ct2_cons (vl_1068 l) ck_RX12_240_1068 (ct2_cons (vl_1071 l) ck_RX12_240_1071 (ct2_cons (vl_648 l) ck_RX12_91_648 (ct2_cons (vl_1054 l) ck_RX12_298_1054 (ct2_cons (vl_1057 l) ck_RX12_298_1057 (ct2_cons (vl_1060 l) ck_RX12_298_1060 (ct2_cons (vl_1062 l) ck_RX12_298_1062 (ct2_cons (vl_1065 l) ck_RX12_298_1065 (ct2_cons (vl_1067 l) ck_RX12_298_1067 (ct2_cons (vl_1069 l) ck_RX12_298_1069 (ct2_cons (vl_390 l) ck_RX12_199_390 (ct2_cons (vl_1054 l) ck_RX12_298_1054 (ct2_cons (vl_1057 l) ck_RX12_298_1057 (ct2_cons (vl_1060 l) ck_RX12_298_1060 (ct2_cons (vl_1062 l) ck_RX12_298_1062 (ct2_cons (vl_1065 l) ck_RX12_298_1065 (ct2_cons (vl_1067 l) ck_RX12_298_1067 (ct2_cons (vl_1069 l) ck_RX12_298_1069 (ct2_cons (vl_1054 l) ck_RX12_298_1054 (ct2_cons (vl_1057 l) ck_RX12_298_1057 (ct2_cons (vl_1060 l) ck_RX12_298_1060 (ct2_cons (vl_1062 l) ck_RX12_298_1062 (ct2_cons (vl_1065 l) ck_RX12_298_1065 (ct2_cons (vl_1067 l) ck_RX12_298_1067 (ct2_cons (vl_1069 l) ck_RX12_298_1069 (ct2_cons (vl_662 l) ck_RX12_243_662 (ct2_cons (vl_1079 l) ck_RX12_252_1079 (ct2_cons (vl_1080 l) ck_RX12_316_1080 (ct2_cons (vl_1079 l) ck_RX12_252_1079 (ct2_cons (vl_1080 l) ck_RX12_316_1080 (ct2_cons (vl_1078 l) ck_RX12_316_1078 (ct2_cons (vl_1077 l) ck_RX12_316_1077 (ct2_cons (vl_1076 l) ck_RX12_316_1076 (ct2_cons (vl_1075 l) ck_RX12_316_1075 (ct2_cons (vl_1074 l) ck_RX12_316_1074 (ct2_cons (vl_1073 l) ck_RX12_316_1073 (ct2_cons (vl_1093 l) ck_RX12_316_1093 (ct2_cons (vl_1095 l) ck_RX12_319_1095 (ct2_cons (vl_1092 l) ck_RX12_319_1092 (ct2_cons (vl_1090 l) ck_RX12_319_1090 (ct2_cons (vl_1088 l) ck_RX12_319_1088 (ct2_cons (vl_1086 l) ck_RX12_319_1086 (ct2_cons (vl_1084 l) ck_RX12_319_1084 (ct2_cons (vl_1082 l) ck_RX12_319_1082 (ct2_nil))))))))))))))))))))))))))))))))))))))))))))))))))
theorem vl_1096 (l : Launch) : Vld2 l vwCl gTbl con_1096 := conR_ok3 gT_all (hd_1096) rfl pn_RX12 tk_X12_power bo_RX12 xo_RX12 (cto_1096 l) ch_1096 (cut_all cc_1096)
/-- RookHusting isDay -/
noncomputable def gi_717 : GI := jl_n [jl_z 1, jl_t, jl_z 18, jl_t, jl_i 0 16, jl_z 15]
noncomputable def ac_591 : AC := .inl (4, jl_n [jl_1 22 2, jl_8 37 15])
noncomputable def gi_718 : GI := jl_n [jl_z 1, jl_t, jl_z 18, jl_t, jl_i 0 16, jl_z 16]
noncomputable def hq_557 : HP := [(false, ac_431), (false, .inl (9, [(6, 2, 0), (8, 19, 0)])), (false, ac_591)]
noncomputable def gi_719 : GI := jl_n [jl_z 1, jl_i 0 16, jl_z 18, jl_i 1 2147483647, jl_i 0 16, jl_z 16]
noncomputable def con_1097 : Con2 := ((yX11_isDay, cX11_isDay, 2, (some .boolean)), (1, 20), ([(6, 0, 0), (1, 1, 0)], gi_717, [ac_431, .inl (9, [(6, 2, 0), (8, 19, 0)]), ac_591], []), [((0, 0, 0), gi_718, hq_557, [], [1]), ((0, 1, 0), gi_719, hq_557, [], [1])])
theorem hd_1097 : con_1097.1 = (yX11_isDay, cX11_isDay, 2, (some .boolean)) := rfl
noncomputable def ct_1097 : CTB2 := [(1, 219, 0, con_667, [0, 1, 2])]
noncomputable def cu_1097 : List CUT2 := []
theorem ch_1097 : staG tb_X11_isDay 1 bt_RX11 [] ct_1097 [] [] cu_1097 16 con_1097 = true := by decide +kernel
theorem cto_1097 (l : Launch) : CTOK2 l RX11 vwCl gTbl ct_1097 := ct2_cons (vl_667 l) ck_RX11_219_667 (ct2_nil)
theorem vl_1097 (l : Launch) : Vld2 l vwCl gTbl con_1097 := conR_ok3 gT_all (hd_1097) rfl pn_RX11 tk_X11_isDay bo_RX11 xo_RX11 (cto_1097 l) ch_1097 cut_nil
/-- RookHusting cellNow -/
noncomputable def gi_720 : GI := jl_n [jl_z 2, jl_i 0 4, jl_i 0 16, jl_z 13, jl_i 0 1, jl_z 7, jl_t, jl_z 1, jl_i 0 16, jl_i 0 3, jl_z 1, jl_i 0 5, jl_z 1, jl_i 0 5, jl_i 0 7, jl_z 11, jl_i 0 30, jl_z 3, jl_r 30 (jl_i 0 1), jl_r 30 (jl_m 0 15), jl_z 7, jl_i 0 5, jl_i 0 16]
noncomputable def ac_592 : AC := .inl (11, jl_n [jl_8 6 2, jl_6 3 1, jl_8 9 2, jl_6 10 1, jl_6 4 1, jl_8 12 1, jl_6 17 1, jl_8 17 4, jl_1 18 1, jl_8 20 2])
noncomputable def ac_593 : AC := .inl (4, jl_n [jl_8 27 1, jl_1 29 2, jl_8 30 1, jl_1 31 1, jl_8 32 1, jl_1 34 2, jl_6 20 1, jl_6 18 1, jl_6 9 1, jl_6 24 2, jl_6 12 1, jl_8 42 2, jl_6 11 1])
noncomputable def ac_594 : AC := .inr (1, jl_n [js_1 79 30])
noncomputable def ac_595 : AC := .inr (1, jl_n [js_1 109 30])
noncomputable def ac_596 : AC := .inl (3, jl_n [jl_6 2 1, jl_6 19 1, jl_6 21 1, jl_6 27 3, jl_6 22 1, jl_1 118 2])
noncomputable def hc_141 : List AC := [ac_592, .inr (1, [(85, (2, (-2147483648), 2147483647))]), .inl (9, [(6, 4, 0), (6, 12, 0)]), .inl (7, [(6, 5, 0), (6, 6, 0), (6, 7, 0), (1, 25, 0)]), ac_593, .inr (1, [(5, (2, (-1), 4))]), .inr (1, [(5, (2, (-2147483648), 2147483647))]), .inr (1, [(5, (2, (-2147483648), 2147483647))]), .inr (1, [(5, (2, (-2147483648), 2147483647))]), .inl (1, [(6, 4, 0), (8, 44, 0)]), .inr (1, [(35, (2, (-2147483648), 2147483647))]), .inr (1, [(7, (2, 0, 9))]), .inl (0, [(1, 45, 0), (6, 13, 0), (6, 14, 0), (6, 15, 0)]), ac_594, .inr (1, [(30, (2, 0, 4))]), ac_595, ac_596, .inr (1, [(5, (2, 0, 40))]), .inr (1, [(85, (2, (-2147483648), 2147483647))]), .inr (1, [(5, (2, 0, 300))]), .inr (1, [(85, (2, (-2147483648), 2147483647))]), .inr (1, [(5, (2, (-2147483648), 2147483647))]), .inr (1, [(5, (2, 0, 40))]), .inr (1, [(5, (2, 0, 9))]), .inr (1, [(85, (2, (-2147483648), 2147483647))]), .inr (1, [(85, (2, (-2147483648), 2147483647))]), .inr (1, [(85, (2, (-1), 4))])]
noncomputable def rq_4 : RLs := [([(49, 12), (79, (-1))], 4), ([(50, 12), (80, (-1))], 4), ([(51, 12), (81, (-1))], 4), ([(52, 12), (82, (-1))], 4), ([(53, 12), (83, (-1))], 4), ([(54, 12), (84, (-1))], 4), ([(55, 12), (85, (-1))], 4), ([(56, 12), (86, (-1))], 4), ([(57, 12), (87, (-1))], 4), ([(58, 12), (88, (-1))], 4), ([(59, 12), (89, (-1))], 4), ([(60, 12), (90, (-1))], 4), ([(61, 12), (91, (-1))], 4), ([(62, 12), (92, (-1))], 4), ([(63, 12), (93, (-1))], 4), ([(64, 12), (94, (-1))], 4), ([(65, 12), (95, (-1))], 4), ([(66, 12), (96, (-1))], 4), ([(67, 12), (97, (-1))], 4), ([(68, 12), (98, (-1))], 4), ([(69, 12), (99, (-1))], 4), ([(70, 12), (100, (-1))], 4), ([(71, 12), (101, (-1))], 4), ([(72, 12), (102, (-1))], 4), ([(73, 12), (103, (-1))], 4), ([(74, 12), (104, (-1))], 4), ([(75, 12), (105, (-1))], 4), ([(76, 12), (106, (-1))], 4), ([(77, 12), (107, (-1))], 4), ([(78, 12), (108, (-1))], 4)]
noncomputable def gi_721 : GI := jl_n [jl_z 2, jl_i 0 4, jl_i 0 16, jl_z 13, jl_i 0 1, jl_z 7, jl_t, jl_z 1, jl_i 0 16, jl_i 0 3, jl_z 1, jl_i 0 5, jl_z 1, jl_i 0 5, jl_i 0 7, jl_z 11, jl_i 0 30, jl_z 3, jl_r 30 (jl_i 0 1), jl_r 30 (jl_m 0 15), jl_z 7, jl_i 0 5, jl_i 0 16, jl_t, jl_z 19, jl_t, jl_z 7, jl_i 0 5, jl_i 0 16]
noncomputable def ac_597 : AC := .inl (11, jl_n [jl_8 6 2, jl_6 3 1, jl_8 9 2, jl_6 10 1, jl_6 4 1, jl_8 12 1, jl_6 17 1, jl_8 17 4, jl_c 1, jl_8 20 2])
noncomputable def ac_598 : AC := .inl (3, jl_n [jl_6 2 1, jl_6 19 1, jl_6 21 1, jl_6 27 3, jl_6 22 1, jl_1 148 2])
noncomputable def hq_558 : HP := [(true, ac_597), (true, .inr (1, [(85, (2, (-2147483648), 2147483647))])), (false, .inl (9, [(6, 4, 0), (6, 12, 0)])), (true, .inl (7, [(6, 5, 0), (6, 6, 0), (6, 7, 0), (1, 138, 0)])), (false, ac_593), (true, .inr (1, [(5, (2, (-1), 4))])), (true, .inr (1, [(5, (2, (-2147483648), 2147483647))])), (true, .inr (1, [(5, (2, (-2147483648), 2147483647))])), (false, .inr (1, [(5, (2, (-2147483648), 2147483647))])), (false, .inl (1, [(6, 4, 0), (8, 44, 0)])), (false, .inr (1, [(35, (2, (-2147483648), 2147483647))])), (false, .inr (1, [(7, (2, 0, 9))])), (false, .inl (0, [(1, 45, 0), (6, 13, 0), (6, 14, 0), (6, 15, 0)])), (false, ac_594), (false, .inr (1, [(30, (2, 0, 4))])), (false, ac_595), (true, ac_598), (false, .inr (1, [(5, (2, 0, 40))])), (true, .inr (1, [(85, (2, (-2147483648), 2147483647))])), (false, .inr (1, [(5, (2, 0, 300))])), (true, .inr (1, [(85, (2, (-2147483648), 2147483647))])), (true, .inr (1, [(5, (2, (-2147483648), 2147483647))])), (false, .inr (1, [(5, (2, 0, 40))])), (false, .inr (1, [(5, (2, 0, 9))])), (true, .inr (1, [(85, (2, (-2147483648), 2147483647))])), (true, .inr (1, [(85, (2, (-2147483648), 2147483647))])), (true, .inr (1, [(85, (2, (-1), 4))]))]
noncomputable def con_1098 : Con2 := ((yX11_cellNow, cX11_cellNow, 4, (some .int)), (6, 151), ([(6, 0, 0), (6, 1, 0), (1, 2, 0), (1, 3, 0)], gi_720, hc_141, rq_4), [((1, 118, 0), gi_721, hq_558, [], [1, 1, 1, 1, 1, 1, 1, 1, 1, 1, 1, 1, 1, 1, 1, 1, 1, 1, 1, 1, 1, 1, 1, 1, 1, 1, 1, 1, 1, 1])])
theorem hd_1098 : con_1098.1 = (yX11_cellNow, cX11_cellNow, 4, (some .int)) := rfl
noncomputable def ct_1098 : CTB2 := [(1, 208, 0, con_900, [0, 2, 3, 4, 5, 6, 7, 8, 9, 10, 11, 12, 13, 14, 15, 16, 17, 18, 19, 20, 21, 1, 22, 23, 24, 25, 26])]
noncomputable def cu_1098 : List CUT2 := []
theorem ch_1098 : staG tb_X11_cellNow 1 bt_RX11 [] ct_1098 [] [] cu_1098 12 con_1098 = true := by decide +kernel
theorem cto_1098 (l : Launch) : CTOK2 l RX11 vwCl gTbl ct_1098 := ct2_cons (vl_900 l) ck_RX11_208_900 (ct2_nil)
theorem vl_1098 (l : Launch) : Vld2 l vwCl gTbl con_1098 := conR_ok3 gT_all (hd_1098) rfl pn_RX11 tk_X11_cellNow bo_RX11 xo_RX11 (cto_1098 l) ch_1098 cut_nil
/-- RookHusting fear -/
noncomputable def gi_722 : GI := jl_n [jl_z 1, jl_r 2 (jl_t), jl_z 13, jl_i 0 1, jl_z 4, jl_t, jl_i 0 16, jl_i 0 3, jl_z 1, jl_i 0 5, jl_z 1, jl_i 0 5, jl_i 0 7, jl_z 16, jl_i 0 5, jl_i 0 16, jl_z 3, jl_t, jl_z 2, jl_i 0 30, jl_z 3, jl_r 30 (jl_i 0 1), jl_r 30 (jl_m 0 15)]
noncomputable def ac_599 : AC := .inl (11, jl_n [jl_8 5 2, jl_6 2 1, jl_8 8 2, jl_6 11 1, jl_6 6 1, jl_8 11 1, jl_6 4 1, jl_8 16 4, jl_1 17 1, jl_8 19 2])
noncomputable def ac_600 : AC := .inl (4, jl_n [jl_1 24 3, jl_8 25 1, jl_1 26 1, jl_8 27 1, jl_1 29 2, jl_6 20 1, jl_6 18 1, jl_6 10 1, jl_6 24 2, jl_6 13 1, jl_8 37 2, jl_6 12 1])
noncomputable def ac_601 : AC := .inl (3, jl_n [jl_6 5 1, jl_6 19 1, jl_6 21 1, jl_6 27 3, jl_6 22 1, jl_1 47 2])
noncomputable def ac_602 : AC := .inr (1, jl_n [js_1 87 30])
noncomputable def ac_603 : AC := .inr (1, jl_n [js_1 117 30])
noncomputable def hc_142 : List AC := [ac_599, .inl (9, [(6, 2, 0), (6, 13, 0)]), ac_600, ac_601, .inr (1, [(85, (2, (-2147483648), 2147483647))]), .inl (7, [(6, 6, 0), (6, 7, 0), (6, 8, 0), (1, 50, 0)]), .inr (1, [(5, (2, (-1), 4))]), .inr (1, [(5, (2, (-2147483648), 2147483647))]), .inr (1, [(5, (2, (-2147483648), 2147483647))]), .inr (1, [(5, (2, (-2147483648), 2147483647))]), .inl (1, [(6, 2, 0), (8, 52, 0)]), .inr (1, [(35, (2, (-2147483648), 2147483647))]), .inr (1, [(7, (2, 0, 9))]), .inl (0, [(1, 53, 0), (6, 14, 0), (6, 15, 0), (6, 16, 0)]), ac_602, .inr (1, [(30, (2, 0, 4))]), ac_603, .inr (1, [(5, (2, 0, 40))]), .inr (1, [(85, (2, (-2147483648), 2147483647))]), .inr (1, [(5, (2, 0, 300))]), .inr (1, [(85, (2, (-2147483648), 2147483647))]), .inr (1, [(5, (2, (-2147483648), 2147483647))]), .inr (1, [(5, (2, 0, 40))]), .inr (1, [(5, (2, 0, 9))]), .inr (1, [(85, (2, (-2147483648), 2147483647))]), .inr (1, [(85, (2, (-2147483648), 2147483647))]), .inr (1, [(85, (2, (-1), 4))])]
noncomputable def rq_5 : RLs := [([(57, 12), (87, (-1))], 4), ([(58, 12), (88, (-1))], 4), ([(59, 12), (89, (-1))], 4), ([(60, 12), (90, (-1))], 4), ([(61, 12), (91, (-1))], 4), ([(62, 12), (92, (-1))], 4), ([(63, 12), (93, (-1))], 4), ([(64, 12), (94, (-1))], 4), ([(65, 12), (95, (-1))], 4), ([(66, 12), (96, (-1))], 4), ([(67, 12), (97, (-1))], 4), ([(68, 12), (98, (-1))], 4), ([(69, 12), (99, (-1))], 4), ([(70, 12), (100, (-1))], 4), ([(71, 12), (101, (-1))], 4), ([(72, 12), (102, (-1))], 4), ([(73, 12), (103, (-1))], 4), ([(74, 12), (104, (-1))], 4), ([(75, 12), (105, (-1))], 4), ([(76, 12), (106, (-1))], 4), ([(77, 12), (107, (-1))], 4), ([(78, 12), (108, (-1))], 4), ([(79, 12), (109, (-1))], 4), ([(80, 12), (110, (-1))], 4), ([(81, 12), (111, (-1))], 4), ([(82, 12), (112, (-1))], 4), ([(83, 12), (113, (-1))], 4), ([(84, 12), (114, (-1))], 4), ([(85, 12), (115, (-1))], 4), ([(86, 12), (116, (-1))], 4)]
noncomputable def gi_723 : GI := jl_n [jl_z 1, jl_r 2 (jl_t), jl_z 13, jl_i 0 1, jl_z 4, jl_t, jl_i 0 16, jl_i 0 3, jl_z 1, jl_i 0 5, jl_z 1, jl_i 0 5, jl_i 0 7, jl_z 16, jl_i 0 5, jl_i 0 16, jl_z 3, jl_t, jl_z 2, jl_i 0 30, jl_z 3, jl_r 30 (jl_i 0 1), jl_r 30 (jl_m 0 15), jl_t, jl_z 13, jl_i 0 1, jl_z 9, jl_i 0 5, jl_i 0 16, jl_z 3, jl_t]
noncomputable def ac_604 : AC := .inl (11, jl_n [jl_8 5 2, jl_6 2 1, jl_8 8 2, jl_6 11 1, jl_6 6 1, jl_8 11 1, jl_6 4 1, jl_8 16 4, jl_1 132 1, jl_8 19 2])
noncomputable def ac_605 : AC := .inl (3, jl_n [jl_6 5 1, jl_6 19 1, jl_6 21 1, jl_6 27 3, jl_6 22 1, jl_1 143 2])
noncomputable def hq_559 : HP := [(true, ac_604), (false, .inl (9, [(6, 2, 0), (6, 13, 0)])), (false, ac_600), (true, ac_605), (true, .inr (1, [(85, (2, (-2147483648), 2147483647))])), (true, .inl (7, [(6, 6, 0), (6, 7, 0), (6, 8, 0), (1, 146, 0)])), (true, .inr (1, [(5, (2, (-1), 4))])), (true, .inr (1, [(5, (2, (-2147483648), 2147483647))])), (true, .inr (1, [(5, (2, (-2147483648), 2147483647))])), (false, .inr (1, [(5, (2, (-2147483648), 2147483647))])), (false, .inl (1, [(6, 2, 0), (8, 52, 0)])), (false, .inr (1, [(35, (2, (-2147483648), 2147483647))])), (false, .inr (1, [(7, (2, 0, 9))])), (false, .inl (0, [(1, 53, 0), (6, 14, 0), (6, 15, 0), (6, 16, 0)])), (false, ac_602), (false, .inr (1, [(30, (2, 0, 4))])), (false, ac_603), (false, .inr (1, [(5, (2, 0, 40))])), (true, .inr (1, [(85, (2, (-2147483648), 2147483647))])), (false, .inr (1, [(5, (2, 0, 300))])), (true, .inr (1, [(85, (2, (-2147483648), 2147483647))])), (true, .inr (1, [(5, (2, (-2147483648), 2147483647))])), (false, .inr (1, [(5, (2, 0, 40))])), (false, .inr (1, [(5, (2, 0, 9))])), (true, .inr (1, [(85, (2, (-2147483648), 2147483647))])), (true, .inr (1, [(85, (2, (-2147483648), 2147483647))])), (true, .inr (1, [(85, (2, (-1), 4))]))]
noncomputable def con_1099 : Con2 := ((yX11_fear, cX11_fear, 3, (some .int)), (7, 174), ([(6, 0, 0), (1, 1, 0), (1, 2, 0)], gi_722, hc_142, rq_5), [((1, 117, 0), gi_723, hq_559, [], [1, 1, 1, 1, 1, 1, 1, 1, 1, 1, 1, 1, 1, 1, 1, 1, 1, 1, 1, 1, 1, 1, 1, 1, 1, 1, 1, 1, 1, 1])])
theorem hd_1099 : con_1099.1 = (yX11_fear, cX11_fear, 3, (some .int)) := rfl
theorem ck_RX11_266_1098 : COK2 RX11 vwCl gTbl 266 0 con_1098 := ⟨wd_1023, wd_125, mh_X11_cellNow, .inr (.inr ⟨rfl, wd_1020, wd_1022, wd_32, ⟨_, rfl, pd_X11_cellNow⟩, 11, _, TX11, 16, rfl, rfl⟩)⟩
theorem ck_RX11_260_1097 : COK2 RX11 vwCl gTbl 260 0 con_1097 := ⟨wd_1019, wd_125, mh_X11_isDay, .inr (.inr ⟨rfl, wd_1016, wd_1018, wd_31, ⟨_, rfl, pd_X11_isDay⟩, 11, _, TX11, 16, rfl, rfl⟩)⟩
noncomputable def ct_1099 : CTB2 := [(2, 139, 0, con_643, [0, 1, 2]), (10, 260, 0, con_1097, [0, 1, 2]), (26, 266, 0, con_1098, [0, 4, 1, 5, 2, 6, 7, 8, 9, 10, 11, 12, 13, 14, 15, 16, 3, 17, 18, 19, 20, 21, 22, 23, 24, 25, 26])]
noncomputable def cu_1099 : List CUT2 := []
theorem ch_1099 : staG tb_X11_fear 1 bt_RX11 [] ct_1099 [] [] cu_1099 19 con_1099 = true := by decide +kernel
theorem cto_1099 (l : Launch) : CTOK2 l RX11 vwCl gTbl ct_1099 := ct2_cons (vl_643 l) ck_RX11_139_643 (ct2_cons (vl_1097 l) ck_RX11_260_1097 (ct2_cons (vl_1098 l) ck_RX11_266_1098 (ct2_nil)))
theorem vl_1099 (l : Launch) : Vld2 l vwCl gTbl con_1099 := conR_ok3 gT_all (hd_1099) rfl pn_RX11 tk_X11_fear bo_RX11 xo_RX11 (cto_1099 l) ch_1099 cut_nil
/-- RookHustingModel days -/
noncomputable def con_1100 : Con2 := ((yX12_days, cX12_days, 1, (some .int)), (0, 0), ([(6, 0, 0)], gi_299, [ac_435, ac_436], []), [((1, 46, 0), gi_300, [(false, ac_435), (false, ac_436)], [], [1])])
theorem hd_1100 : con_1100.1 = (yX12_days, cX12_days, 1, (some .int)) := rfl
noncomputable def ct_1100 : CTB2 := []
noncomputable def cu_1100 : List CUT2 := []
theorem ch_1100 : staG tb_X12_days 1 bt_RX12 [] ct_1100 [] [] cu_1100 7 con_1100 = true := by decide +kernel
theorem cto_1100 (l : Launch) : CTOK2 l RX12 vwCl gTbl ct_1100 := ct2_nil
theorem vl_1100 (l : Launch) : Vld2 l vwCl gTbl con_1100 := conR_ok3 gT_all (hd_1100) rfl pn_RX12 tk_X12_days bo_RX12 xo_RX12 (cto_1100 l) ch_1100 cut_nil
/-- RookHustingModel fearOf -/
noncomputable def gi_724 : GI := jl_n [jl_z 1, jl_i 0 4, jl_i 0 16, jl_z 22, jl_t, jl_z 22, jl_r 5 (jl_m 0 4), jl_i 0 16, jl_i 0 3, jl_i 0 10, jl_i 0 5, jl_i 0 8, jl_i 0 5, jl_i 0 7, jl_i 0 30, jl_i 0 2147483647, jl_z 14]
noncomputable def ac_606 : AC := .inl (12, jl_n [jl_8 4 1, jl_6 4 1, jl_8 22 17, jl_6 3 2, jl_8 25 1, jl_1 26 1, jl_8 48 22])
noncomputable def ac_607 : AC := .inr (1, jl_n [js_1 53 5])
noncomputable def ac_608 : AC := .inr (1, jl_n [js_1 62 9, js_2 10 0 300, js_2 16 0 4, js_2 10 0 40, js_2 1 0 9, js_2 1 0 5, js_2 5 0 4, js_2 1 0 9, js_2 1 0 5, js_2 5 0 4, js_2 1 0 9, js_2 1 0 5, js_2 5 0 4, js_2 1 0 9, js_2 1 0 5, js_2 5 0 4, js_2 1 0 9, js_2 1 0 5, js_2 5 0 4, js_2 1 0 9, js_2 1 0 5, js_2 5 0 4, js_2 1 0 9, js_2 1 0 5, js_2 5 0 4, jl_x (30, (12, 0, 0))])
noncomputable def hc_143 : List AC := [ac_606, ac_607, .inr (1, [(5, (2, (-2147483648), 2147483647))]), ac_608]
noncomputable def gi_725 : GI := jl_n [jl_z 1, jl_i 0 4, jl_i 0 16, jl_z 22, jl_t, jl_z 22, jl_r 5 (jl_m 0 4), jl_i 0 16, jl_i 0 3, jl_i 0 10, jl_i 0 5, jl_i 0 8, jl_i 0 5, jl_i 0 7, jl_i 0 30, jl_i 0 2147483647, jl_z 14, jl_i 0 2147483647]
noncomputable def hq_560 : HP := [(false, ac_606), (false, ac_607), (false, .inr (1, [(5, (2, (-2147483648), 2147483647))])), (false, ac_608)]
noncomputable def con_1102 : Con2 := ((yX12_fearOf, cX12_fearOf, 5, (some .int)), (1, 21), ([(6, 0, 0), (1, 1, 0), (1, 2, 0)], gi_724, hc_143, []), [((1, 76, 0), gi_725, hq_560, [], [1])])
theorem hd_1102 : con_1102.1 = (yX12_fearOf, cX12_fearOf, 5, (some .int)) := rfl
noncomputable def ct_1102 : CTB2 := [(31, 199, 1, con_390, []), (43, 199, 1, con_390, [])]
noncomputable def gi_726 : GI := jl_n [jl_z 1, jl_i 4 4, jl_i 0 16, jl_z 22, jl_t, jl_z 22, jl_r 4 (jl_m 0 4), jl_i 0 4, jl_i 0 16, jl_i 0 3, jl_i 0 10, jl_i 0 5, jl_i 0 8, jl_i 0 5, jl_i 0 7, jl_i 0 30, jl_i 0 2147483647, jl_z 17, jl_m 999 16, jl_i 0 17]
noncomputable def gi_727 : GI := jl_n [jl_z 1, jl_i 3 3, jl_i 0 16, jl_z 22, jl_t, jl_z 22, jl_r 3 (jl_m 0 4), jl_i 0 4, jl_m 0 4, jl_i 0 16, jl_i 0 3, jl_i 0 10, jl_i 0 5, jl_i 0 8, jl_i 0 5, jl_i 0 7, jl_i 0 30, jl_i 0 2147483647, jl_z 17, jl_m 999 16, jl_i 0 17]
noncomputable def gi_728 : GI := jl_n [jl_z 1, jl_i 2 2, jl_i 0 16, jl_z 22, jl_t, jl_z 22, jl_r 2 (jl_m 0 4), jl_i 0 4, jl_r 2 (jl_m 0 4), jl_i 0 16, jl_i 0 3, jl_i 0 10, jl_i 0 5, jl_i 0 8, jl_i 0 5, jl_i 0 7, jl_i 0 30, jl_i 0 2147483647, jl_z 17, jl_m 999 16, jl_i 0 17]
noncomputable def gi_729 : GI := jl_n [jl_z 1, jl_i 1 1, jl_i 0 16, jl_z 22, jl_t, jl_z 22, jl_m 0 4, jl_i 0 4, jl_r 3 (jl_m 0 4), jl_i 0 16, jl_i 0 3, jl_i 0 10, jl_i 0 5, jl_i 0 8, jl_i 0 5, jl_i 0 7, jl_i 0 30, jl_i 0 2147483647, jl_z 17, jl_m 999 16, jl_i 0 17]
noncomputable def gi_730 : GI := jl_n [jl_z 2, jl_i 0 16, jl_z 22, jl_t, jl_z 22, jl_i 0 4, jl_r 4 (jl_m 0 4), jl_i 0 16, jl_i 0 3, jl_i 0 10, jl_i 0 5, jl_i 0 8, jl_i 0 5, jl_i 0 7, jl_i 0 30, jl_i 0 2147483647, jl_z 17, jl_m 999 16, jl_i 0 17]
noncomputable def cu_1102 : List CUT2 := [((17, [(0, (6, 0, 0)), (1, (0, 4, 0)), (2, (1, 2, 0)), (3, (1, 79, 0)), (4, (1, 80, 0))], [], gi_726, hq_560), [], ([(80, (-1))], 17)), ((17, [(0, (6, 0, 0)), (1, (0, 3, 0)), (2, (1, 2, 0)), (3, (1, 79, 0)), (4, (1, 80, 0))], [], gi_727, hq_560), [], ([(80, (-1))], 17)), ((17, [(0, (6, 0, 0)), (1, (0, 2, 0)), (2, (1, 2, 0)), (3, (1, 79, 0)), (4, (1, 80, 0))], [], gi_728, hq_560), [], ([(80, (-1))], 17)), ((17, [(0, (6, 0, 0)), (1, (0, 1, 0)), (2, (1, 2, 0)), (3, (1, 79, 0)), (4, (1, 80, 0))], [], gi_729, hq_560), [], ([(80, (-1))], 17)), ((17, [(0, (6, 0, 0)), (1, (0, 0, 0)), (2, (1, 2, 0)), (3, (1, 79, 0)), (4, (1, 80, 0))], [], gi_730, hq_560), [], ([(80, (-1))], 17))]
theorem ch_1102 : staG tb_X12_fearOf 1 bt_RX12 [] ct_1102 [(0, [(1, (1, 1, 0), 0, 0)])] [] cu_1102 35 con_1102 = true := by decide +kernel
theorem cc_1102 : cu_1102.all (cutG tb_X12_fearOf 1 bt_RX12 [] ct_1102 [(0, [(1, (1, 1, 0), 0, 0)])] [] cu_1102 35 con_1102) = true := by decide +kernel
theorem cto_1102 (l : Launch) : CTOK2 l RX12 vwCl gTbl ct_1102 := ct2_cons (vl_390 l) ck_RX12_199_390 (ct2_cons (vl_390 l) ck_RX12_199_390 (ct2_nil))
theorem vl_1102 (l : Launch) : Vld2 l vwCl gTbl con_1102 := conR_ok3 gT_all (hd_1102) rfl pn_RX12 tk_X12_fearOf bo_RX12 xo_RX12 (cto_1102 l) ch_1102 (cut_all cc_1102)
/-- RookHustingModel flyTo -/
noncomputable def gi_731 : GI := jl_n [jl_z 1, jl_i 0 4, jl_i 0 15, jl_z 23, jl_r 2 (jl_m 0 4), jl_z 20, jl_i 0 16, jl_i 0 3, jl_i 0 10, jl_i 0 5, jl_i 0 8, jl_i 0 5, jl_i 0 7, jl_i 0 30, jl_i 0 2147483647, jl_z 14]
noncomputable def ac_609 : AC := .inl (12, jl_n [jl_8 4 1, jl_6 2 1, jl_8 26 21, jl_1 28 2, jl_6 3 1, jl_8 48 19])
noncomputable def hc_144 : List AC := [ac_609, ac_440, .inr (1, [(85, (2, (-2147483648), 2147483647))])]
noncomputable def gi_732 : GI := jl_n [jl_z 1, jl_i 0 4, jl_i 0 15, jl_z 23, jl_r 2 (jl_m 0 4), jl_z 20, jl_i 0 16, jl_i 0 3, jl_i 0 10, jl_i 0 5, jl_i 0 8, jl_i 0 5, jl_i 0 7, jl_i 0 30, jl_i 0 2147483647, jl_z 14, jl_m 0 4]
noncomputable def hq_561 : HP := [(false, ac_609), (false, ac_440), (false, .inr (1, [(85, (2, (-2147483648), 2147483647))]))]
noncomputable def con_1105 : Con2 := ((yX12_flyTo, cX12_flyTo, 5, (some .int)), (1, 25), ([(6, 0, 0), (1, 1, 0), (1, 2, 0)], gi_731, hc_144, []), [((1, 71, 0), gi_732, hq_561, [], [1])])
theorem hd_1105 : con_1105.1 = (yX12_flyTo, cX12_flyTo, 5, (some .int)) := rfl
noncomputable def ct_1105 : CTB2 := [(8, 106, 0, con_646, [0, 1]), (16, 348, 0, con_651, [0, 1]), (21, 199, 1, con_390, [])]
noncomputable def gi_733 : GI := jl_n [jl_z 1, jl_i 0 4, jl_i 0 15, jl_z 23, jl_r 2 (jl_m 0 4), jl_z 20, jl_i 0 16, jl_i 0 3, jl_i 0 10, jl_i 0 5, jl_i 0 8, jl_i 0 5, jl_i 0 7, jl_i 0 30, jl_i 0 2147483647, jl_z 17, jl_m 0 4, jl_i 0 5]
noncomputable def cu_1105 : List CUT2 := [((5, [(0, (6, 0, 0)), (1, (1, 1, 0)), (2, (1, 2, 0)), (3, (1, 74, 0)), (4, (1, 75, 0))], [], gi_733, hq_561), [], ([(75, (-1))], 5))]
theorem ch_1105 : staG tb_X12_flyTo 1 bt_RX12 [] ct_1105 [] [] cu_1105 38 con_1105 = true := by decide +kernel
theorem cc_1105 : cu_1105.all (cutG tb_X12_flyTo 1 bt_RX12 [] ct_1105 [] [] cu_1105 38 con_1105) = true := by decide +kernel
theorem cto_1105 (l : Launch) : CTOK2 l RX12 vwCl gTbl ct_1105 := ct2_cons (vl_646 l) ck_RX12_106_646 (ct2_cons (vl_651 l) ck_RX12_348_651 (ct2_cons (vl_390 l) ck_RX12_199_390 (ct2_nil)))
theorem vl_1105 (l : Launch) : Vld2 l vwCl gTbl con_1105 := conR_ok3 gT_all (hd_1105) rfl pn_RX12 tk_X12_flyTo bo_RX12 xo_RX12 (cto_1105 l) ch_1105 (cut_all cc_1105)
/-- RookHustingModel goDay -/
noncomputable def gi_734 : GI := jl_n [jl_z 1, jl_i 0 15, jl_z 21, jl_t, jl_z 1, jl_r 2 (jl_m 0 4), jl_z 20, jl_i 0 16, jl_i 0 3, jl_i 0 10, jl_i 0 5, jl_i 0 8, jl_i 0 5, jl_i 0 7, jl_i 0 30, jl_i 0 2147483647, jl_z 14]
noncomputable def ac_610 : AC := .inl (12, jl_n [jl_8 3 1, jl_6 3 1, jl_8 23 19, jl_1 24 1, jl_8 25 1, jl_1 27 2, jl_6 8 1, jl_6 7 4, jl_6 2 1, jl_8 47 14])
noncomputable def hc_145 : List AC := [ac_610, .inr (1, [(16, (2, (-2147483648), 2147483647))]), ac_438, .inr (1, [(85, (2, (-2147483648), 2147483647))]), .inr (1, [(85, (2, (-2147483648), 2147483647))]), .inr (1, [(80, (2, (-2147483648), 2147483647))]), .inr (1, [(80, (2, (-1), 4))]), .inr (1, [(85, (2, (-2147483648), 2147483647))])]
noncomputable def hq_562 : HP := [(false, ac_610), (true, .inr (1, [(16, (2, (-2147483648), 2147483647))])), (false, ac_438), (true, .inr (1, [(85, (2, (-2147483648), 2147483647))])), (true, .inr (1, [(85, (2, (-2147483648), 2147483647))])), (true, .inr (1, [(80, (2, (-2147483648), 2147483647))])), (true, .inr (1, [(80, (2, (-1), 4))])), (false, .inr (1, [(85, (2, (-2147483648), 2147483647))]))]
noncomputable def con_1107 : Con2 := ((yX12_goDay, cX12_goDay, 7, none), (2, 49), ([(6, 0, 0), (1, 1, 0)], gi_734, hc_145, []), [((9, 0, 0), gi_734, hq_562, [], [])])
theorem hd_1107 : con_1107.1 = (yX12_goDay, cX12_goDay, 7, none) := rfl
theorem ck_RX12_354_1105 : COK2 RX12 vwCl gTbl 354 0 con_1105 := ⟨wd_1898, wd_137, mh_X12_flyTo, .inr (.inr ⟨rfl, wd_1895, wd_1897, wd_100, ⟨_, rfl, pd_X12_flyTo⟩, 12, _, TX12, 45, rfl, rfl⟩)⟩
noncomputable def ct_1107 : CTB2 := [(21, 106, 0, con_646, [0, 2]), (94, 199, 1, con_390, []), (108, 106, 0, con_646, [0, 2]), (204, 354, 0, con_1105, [0, 2, 7])]
noncomputable def gi_735 : GI := jl_n [jl_z 1, jl_i 0 15, jl_z 21, jl_t, jl_z 1, jl_r 2 (jl_m 0 4), jl_z 20, jl_i 0 16, jl_i 0 3, jl_i 0 10, jl_i 0 5, jl_i 0 8, jl_i 0 5, jl_i 0 7, jl_i 0 30, jl_i 0 2147483647, jl_z 16, jl_i 0 75, jl_i 5 80, jl_i 0 5]
noncomputable def cu_1107 : List CUT2 := [((18, [(0, (6, 0, 0)), (1, (1, 1, 0)), (2, (1, 72, 0)), (3, (1, 73, 0)), (4, (1, 74, 0))], [], gi_735, hq_562), [], ([(74, (-1))], 11)), ((105, [(0, (6, 0, 0)), (1, (1, 1, 0)), (2, (1, 72, 0)), (3, (1, 73, 0)), (4, (1, 74, 0))], [], gi_735, hq_562), [], ([(74, (-1))], 5))]
theorem ch_1107 : staG tb_X12_goDay 1 bt_RX12 [] ct_1107 [] [] cu_1107 104 con_1107 = true := by decide +kernel
theorem cc_1107 : cu_1107.all (cutG tb_X12_goDay 1 bt_RX12 [] ct_1107 [] [] cu_1107 104 con_1107) = true := by decide +kernel
theorem cto_1107 (l : Launch) : CTOK2 l RX12 vwCl gTbl ct_1107 := ct2_cons (vl_646 l) ck_RX12_106_646 (ct2_cons (vl_390 l) ck_RX12_199_390 (ct2_cons (vl_646 l) ck_RX12_106_646 (ct2_cons (vl_1105 l) ck_RX12_354_1105 (ct2_nil))))
theorem vl_1107 (l : Launch) : Vld2 l vwCl gTbl con_1107 := conR_ok3 gT_all (hd_1107) rfl pn_RX12 tk_X12_goDay bo_RX12 xo_RX12 (cto_1107 l) ch_1107 (cut_all cc_1107)
/-- RookHustingModel goAll -/
noncomputable def ac_611 : AC := .inl (12, jl_n [jl_8 2 1, jl_6 2 1, jl_8 20 17, jl_6 6 2, jl_1 26 4, jl_6 7 1, jl_6 4 1, jl_6 3 1, jl_6 10 2, jl_6 8 1, jl_8 46 14])
noncomputable def hc_146 : List AC := [ac_611, ac_436, .inr (1, [(85, (2, (-2147483648), 2147483647))]), .inr (1, [(85, (2, (-2147483648), 2147483647))]), .inr (1, [(5, (2, (-1), 4))]), .inr (1, [(5, (2, (-2147483648), 2147483647))]), .inr (1, [(85, (2, (-2147483648), 2147483647))]), .inr (1, [(16, (2, (-2147483648), 2147483647))]), .inr (1, [(80, (2, (-2147483648), 2147483647))]), .inr (1, [(80, (2, (-1), 4))])]
noncomputable def hq_563 : HP := [(false, ac_611), (false, ac_436), (true, .inr (1, [(85, (2, (-2147483648), 2147483647))])), (true, .inr (1, [(85, (2, (-2147483648), 2147483647))])), (false, .inr (1, [(5, (2, (-1), 4))])), (false, .inr (1, [(5, (2, (-2147483648), 2147483647))])), (true, .inr (1, [(85, (2, (-2147483648), 2147483647))])), (true, .inr (1, [(16, (2, (-2147483648), 2147483647))])), (true, .inr (1, [(80, (2, (-2147483648), 2147483647))])), (true, .inr (1, [(80, (2, (-1), 4))]))]
noncomputable def con_1108 : Con2 := ((yX12_goAll, cX12_goAll, 3, none), (3, 75), ([(6, 0, 0)], gi_496, hc_146, []), [((9, 0, 0), gi_496, hq_563, [], [])])
theorem hd_1108 : con_1108.1 = (yX12_goAll, cX12_goAll, 3, none) := rfl
theorem ck_RX12_360_1107 : COK2 RX12 vwCl gTbl 360 0 con_1107 := ⟨wd_1894, wd_137, mh_X12_goDay, .inr (.inr ⟨rfl, wd_1891, wd_1893, wd_99, ⟨_, rfl, pd_X12_goDay⟩, 12, _, TX12, 45, rfl, rfl⟩)⟩
theorem ck_RX12_103_1100 : COK2 RX12 vwCl gTbl 103 0 con_1100 := ⟨wd_1885, wd_137, mh_X12_days, .inr (.inr ⟨rfl, wd_1882, wd_1884, wd_97, ⟨_, rfl, pd_X12_days⟩, 12, _, TX12, 45, rfl, rfl⟩)⟩
theorem ck_RX12_357_1102 : COK2 RX12 vwCl gTbl 357 0 con_1102 := ⟨wd_1889, wd_137, mh_X12_fearOf, .inr (.inr ⟨rfl, wd_1886, wd_1888, wd_98, ⟨_, rfl, pd_X12_fearOf⟩, 12, _, TX12, 45, rfl, rfl⟩)⟩
noncomputable def ct_1108 : CTB2 := [(4, 106, 0, con_646, [0, 1]), (56, 103, 0, con_1100, [0, 1]), (66, 106, 0, con_646, [0, 1]), (84, 357, 0, con_1102, [0, 4, 5, 1]), (104, 103, 0, con_1100, [0, 1]), (112, 360, 0, con_1107, [0, 7, 1, 3, 2, 8, 9, 6])]
noncomputable def hq_564 : HP := [(false, ac_611), (false, ac_436), (true, .inr (1, [(85, (2, (-2147483648), 2147483647))])), (true, .inr (1, [(85, (2, (-2147483648), 2147483647))])), (false, .inr (1, [(5, (2, (-1), 4))])), (false, .inr (1, [(5, (2, (-2147483648), 2147483647))])), (false, .inr (1, [(85, (2, (-2147483648), 2147483647))])), (false, .inr (1, [(16, (2, (-2147483648), 2147483647))])), (false, .inr (1, [(80, (2, (-2147483648), 2147483647))])), (false, .inr (1, [(80, (2, (-1), 4))]))]
noncomputable def gi_736 : GI := jl_n [jl_z 22, jl_r 2 (jl_t), jl_r 2 (jl_m 0 4), jl_z 20, jl_i 0 16, jl_i 0 3, jl_i 0 10, jl_i 0 5, jl_i 0 8, jl_i 0 5, jl_i 0 7, jl_i 0 30, jl_i 0 2147483647, jl_z 15, jl_i 0 17]
noncomputable def hq_565 : HP := [(false, ac_611), (false, ac_436), (true, .inr (1, [(85, (2, (-2147483648), 2147483647))])), (true, .inr (1, [(85, (2, (-2147483648), 2147483647))])), (false, .inr (1, [(5, (2, (-1), 4))])), (false, .inr (1, [(5, (2, (-2147483648), 2147483647))])), (true, .inr (1, [(85, (2, (-2147483648), 2147483647))])), (false, .inr (1, [(16, (2, (-2147483648), 2147483647))])), (false, .inr (1, [(80, (2, (-2147483648), 2147483647))])), (false, .inr (1, [(80, (2, (-1), 4))]))]
noncomputable def gi_737 : GI := jl_n [jl_z 22, jl_r 2 (jl_t), jl_r 2 (jl_m 0 4), jl_z 20, jl_i 0 16, jl_i 0 3, jl_i 0 10, jl_i 0 5, jl_i 0 8, jl_i 0 5, jl_i 0 7, jl_i 0 30, jl_i 0 2147483647, jl_z 15, jl_i 0 16, jl_i 0 5]
noncomputable def gi_738 : GI := jl_n [jl_z 22, jl_r 2 (jl_t), jl_r 2 (jl_m 0 4), jl_z 20, jl_i 0 16, jl_i 0 3, jl_i 0 10, jl_i 0 5, jl_i 0 8, jl_i 0 5, jl_i 0 7, jl_i 0 30, jl_i 0 2147483647, jl_z 15, jl_i 0 16]
noncomputable def cu_1108 : List CUT2 := [((2, [(0, (6, 0, 0)), (1, (1, 70, 0))], [], gi_498, hq_564), [], ([(70, (-1))], 148)), ((54, [(0, (6, 0, 0)), (1, (1, 70, 0))], [], gi_736, hq_565), [], ([(70, (-7))], 142)), ((64, [(0, (6, 0, 0)), (1, (1, 70, 0)), (2, (1, 71, 0))], [], gi_737, hq_565), [], ([(70, (-7)), (71, (-1))], 141)), ((102, [(0, (6, 0, 0)), (1, (1, 70, 0))], [], gi_738, hq_563), [], ([(70, (-1))], 16))]
theorem ch_1108 : staG tb_X12_goAll 1 bt_RX12 [] ct_1108 [] [] cu_1108 35 con_1108 = true := by decide +kernel
theorem cc_1108 : cu_1108.all (cutG tb_X12_goAll 1 bt_RX12 [] ct_1108 [] [] cu_1108 35 con_1108) = true := by decide +kernel
theorem cto_1108 (l : Launch) : CTOK2 l RX12 vwCl gTbl ct_1108 := ct2_cons (vl_646 l) ck_RX12_106_646 (ct2_cons (vl_1100 l) ck_RX12_103_1100 (ct2_cons (vl_646 l) ck_RX12_106_646 (ct2_cons (vl_1102 l) ck_RX12_357_1102 (ct2_cons (vl_1100 l) ck_RX12_103_1100 (ct2_cons (vl_1107 l) ck_RX12_360_1107 (ct2_nil))))))
theorem vl_1108 (l : Launch) : Vld2 l vwCl gTbl con_1108 := conR_ok3 gT_all (hd_1108) rfl pn_RX12 tk_X12_goAll bo_RX12 xo_RX12 (cto_1108 l) ch_1108 (cut_all cc_1108)
/-- RookHustingModel asksHundred -/
noncomputable def ac_612 : AC := .inl (12, jl_n [jl_8 2 1, jl_6 2 1, jl_8 16 13, jl_6 4 1, jl_6 3 1, jl_1 19 1, jl_6 7 3, jl_1 26 4, jl_6 10 1, jl_6 9 1, jl_6 8 1, jl_6 13 2, jl_6 11 1, jl_8 46 14])
noncomputable def hc_147 : List AC := [ac_612, ac_436, .inr (1, [(7, (2, 0, 5))]), .inr (1, [(35, (2, 0, 4))]), .inr (1, [(5, (2, (-1), 4))]), .inr (1, [(5, (2, (-1), 4))]), .inr (1, [(5, (2, (-2147483648), 2147483647))]), .inr (1, [(85, (2, (-2147483648), 2147483647))]), .inr (1, [(85, (2, (-2147483648), 2147483647))]), .inr (1, [(85, (2, (-2147483648), 2147483647))]), .inr (1, [(16, (2, (-2147483648), 2147483647))]), .inr (1, [(80, (2, (-2147483648), 2147483647))]), .inr (1, [(80, (2, (-1), 4))])]
noncomputable def gi_739 : GI := jl_n [jl_z 18, jl_i 0 128, jl_z 3, jl_r 2 (jl_t), jl_r 2 (jl_m 0 4), jl_z 20, jl_i 0 16, jl_i 0 3, jl_i 0 10, jl_i 0 5, jl_i 0 8, jl_i 0 5, jl_i 0 7, jl_i 0 30, jl_z 61]
noncomputable def ac_613 : AC := .inl (12, jl_n [jl_8 2 1, jl_6 2 1, jl_8 16 13, jl_6 4 1, jl_6 3 1, jl_c 0, jl_6 7 3, jl_c 0, jl_c 0, jl_x (0, (-1), 0), jl_x (0, (-1), 0), jl_6 10 1, jl_6 9 1, jl_6 8 1, jl_6 13 2, jl_6 11 1, jl_8 46 14])
noncomputable def hq_566 : HP := [(true, ac_613), (false, ac_436), (true, .inr (1, [(7, (2, 0, 5))])), (true, .inr (1, [(35, (2, 0, 4))])), (true, .inr (1, [(5, (2, (-1), 4))])), (true, .inr (1, [(5, (2, (-1), 4))])), (true, .inr (1, [(5, (2, (-2147483648), 2147483647))])), (true, .inr (1, [(85, (2, (-2147483648), 2147483647))])), (true, .inr (1, [(85, (2, (-2147483648), 2147483647))])), (true, .inr (1, [(85, (2, (-2147483648), 2147483647))])), (true, .inr (1, [(16, (2, (-2147483648), 2147483647))])), (true, .inr (1, [(80, (2, (-2147483648), 2147483647))])), (true, .inr (1, [(80, (2, (-1), 4))]))]
noncomputable def gi_740 : GI := jl_n [jl_z 18, jl_i 0 128, jl_z 3, jl_r 2 (jl_t), jl_r 2 (jl_m 0 4), jl_z 20, jl_i 0 16, jl_i 0 3, jl_i 0 10, jl_i 0 5, jl_i 0 8, jl_i 0 5, jl_i 0 7, jl_i 0 30, jl_i 1 2147483647, jl_z 60]
noncomputable def con_1109 : Con2 := ((yX12_asksHundred, cX12_asksHundred, 1, (some .boolean)), (8, 188), ([(6, 0, 0)], gi_505, hc_147, []), [((0, 0, 0), gi_739, hq_566, [], [1, 1, 1, 1, 1, 1, 1, 1, 1, 1, 1, 1, 1, 1, 1, 1, 1, 1, 1, 1, 1, 1, 1, 1, 1, 1, 1, 1, 1, 1, 1, 1, 1, 1, 1, 1, 1, 1, 1, 1, 1, 1, 1, 1, 1, 1]), ((0, 1, 0), gi_740, hq_566, [], [1, 1, 1, 1, 1, 1, 1, 1, 1, 1, 1, 1, 1, 1, 1, 1, 1, 1, 1, 1, 1, 1, 1, 1, 1, 1, 1, 1, 1, 1, 1, 1, 1, 1, 1, 1, 1, 1, 1, 1, 1, 1, 1, 1, 1, 1])])
theorem hd_1109 : con_1109.1 = (yX12_asksHundred, cX12_asksHundred, 1, (some .boolean)) := rfl
theorem ck_RX12_363_1108 : COK2 RX12 vwCl gTbl 363 0 con_1108 := ⟨wd_1881, wd_137, mh_X12_goAll, .inr (.inr ⟨rfl, wd_1878, wd_1880, wd_96, ⟨_, rfl, pd_X12_goAll⟩, 12, _, TX12, 45, rfl, rfl⟩)⟩
noncomputable def ct_1109 : CTB2 := [(1, 345, 0, con_905, [0, 1, 2, 3, 4, 5, 6]), (5, 363, 0, con_1108, [0, 1, 7, 8, 5, 6, 9, 10, 11, 12]), (9, 99, 0, con_673, [0, 1])]
noncomputable def cu_1109 : List CUT2 := []
theorem ch_1109 : staG tb_X12_asksHundred 1 bt_RX12 [] ct_1109 [] [] cu_1109 9 con_1109 = true := by decide +kernel
theorem cto_1109 (l : Launch) : CTOK2 l RX12 vwCl gTbl ct_1109 := ct2_cons (vl_905 l) ck_RX12_345_905 (ct2_cons (vl_1108 l) ck_RX12_363_1108 (ct2_cons (vl_673 l) ck_RX12_99_673 (ct2_nil)))
theorem vl_1109 (l : Launch) : Vld2 l vwCl gTbl con_1109 := conR_ok3 gT_all (hd_1109) rfl pn_RX12 tk_X12_asksHundred bo_RX12 xo_RX12 (cto_1109 l) ch_1109 cut_nil
/-- RookHustingModel in -/
noncomputable def gi_741 : GI := jl_n [jl_u, jl_z 1, jl_i 0 16]
noncomputable def gi_742 : GI := jl_n [jl_u, jl_z 1, jl_i 0 16, jl_z 1]
noncomputable def con_1110 : Con2 := ((yX12_in, cX12_in, 6, (some .boolean)), (0, 0), ([(4, 0, 0), (3, 0, 0), (4, 2, 0)], gi_741, [], []), [((0, 0, 0), gi_742, [], [], [1]), ((0, 1, 0), [(0, 16), (0, 0), (0, 16), (0, 0)], [], [], [1])])
theorem hd_1110 : con_1110.1 = (yX12_in, cX12_in, 6, (some .boolean)) := rfl
noncomputable def ct_1110 : CTB2 := []
noncomputable def cu_1110 : List CUT2 := []
theorem ch_1110 : staG tb_X12_in 1 bt_RX12 [] ct_1110 [] [] cu_1110 11 con_1110 = true := by decide +kernel
theorem cto_1110 (l : Launch) : CTOK2 l RX12 vwCl gTbl ct_1110 := ct2_nil
theorem vl_1110 (l : Launch) : Vld2 l vwCl gTbl con_1110 := conR_ok3 gT_all (hd_1110) rfl pn_RX12 tk_X12_in bo_RX12 xo_RX12 (cto_1110 l) ch_1110 cut_nil
/-- RookHustingModel isDay -/
noncomputable def gi_743 : GI := jl_n [jl_z 1, jl_i 0 16, jl_z 45, jl_i 0 16, jl_i 0 3, jl_i 0 10, jl_i 0 5, jl_i 0 8, jl_i 0 5, jl_i 0 7, jl_i 0 30, jl_i 1 2147483647, jl_z 15]
noncomputable def con_1111 : Con2 := ((yX12_isDay, cX12_isDay, 3, (some .boolean)), (1, 25), ([(6, 0, 0), (4, 1, 0)], gi_301, [ac_437, ac_438], []), [((0, 0, 0), gi_302, [(false, ac_437), (false, ac_438)], [], [1]), ((0, 1, 0), gi_743, [(false, ac_437), (false, ac_438)], [], [1])])
theorem hd_1111 : con_1111.1 = (yX12_isDay, cX12_isDay, 3, (some .boolean)) := rfl
theorem ck_RX12_91_1110 : COK2 RX12 vwCl gTbl 91 1 con_1110 := ⟨wd_1544, wd_137, mh_X12_in, .inl ⟨rfl, wd_1542, wd_1543, pd_X12_in⟩⟩
noncomputable def ct_1111 : CTB2 := [(1, 99, 0, con_673, [0, 1]), (10, 103, 0, con_1100, [0, 1]), (14, 91, 1, con_1110, [])]
noncomputable def cu_1111 : List CUT2 := []
theorem ch_1111 : staG tb_X12_isDay 1 bt_RX12 [] ct_1111 [] [] cu_1111 15 con_1111 = true := by decide +kernel
theorem cto_1111 (l : Launch) : CTOK2 l RX12 vwCl gTbl ct_1111 := ct2_cons (vl_673 l) ck_RX12_99_673 (ct2_cons (vl_1100 l) ck_RX12_103_1100 (ct2_cons (vl_1110 l) ck_RX12_91_1110 (ct2_nil)))
theorem vl_1111 (l : Launch) : Vld2 l vwCl gTbl con_1111 := conR_ok3 gT_all (hd_1111) rfl pn_RX12 tk_X12_isDay bo_RX12 xo_RX12 (cto_1111 l) ch_1111 cut_nil
/-- RookHustingModel asksDay -/
noncomputable def ac_614 : AC := .inl (12, jl_n [jl_8 3 1, jl_6 2 1, jl_8 17 13, jl_6 4 1, jl_6 3 1, jl_1 20 1, jl_6 7 3, jl_1 27 4, jl_6 10 1, jl_6 9 1, jl_6 8 1, jl_6 13 2, jl_6 11 1, jl_8 47 14])
noncomputable def hc_148 : List AC := [ac_614, ac_438, .inr (1, [(7, (2, 0, 5))]), .inr (1, [(35, (2, 0, 4))]), .inr (1, [(5, (2, (-1), 4))]), .inr (1, [(5, (2, (-1), 4))]), .inr (1, [(5, (2, (-2147483648), 2147483647))]), .inr (1, [(85, (2, (-2147483648), 2147483647))]), .inr (1, [(85, (2, (-2147483648), 2147483647))]), .inr (1, [(85, (2, (-2147483648), 2147483647))]), .inr (1, [(16, (2, (-2147483648), 2147483647))]), .inr (1, [(80, (2, (-2147483648), 2147483647))]), .inr (1, [(80, (2, (-1), 4))])]
noncomputable def gi_744 : GI := jl_n [jl_z 1, jl_t, jl_z 17, jl_i 0 128, jl_z 3, jl_r 2 (jl_t), jl_r 2 (jl_m 0 4), jl_z 20, jl_i 0 16, jl_i 0 3, jl_i 0 10, jl_i 0 5, jl_i 0 8, jl_i 0 5, jl_i 0 7, jl_i 0 30, jl_i 0 2147483647, jl_z 60]
noncomputable def ac_615 : AC := .inl (12, jl_n [jl_8 3 1, jl_6 2 1, jl_8 17 13, jl_6 4 1, jl_6 3 1, jl_c 0, jl_6 7 3, jl_c 0, jl_c 0, jl_x (0, (-1), 0), jl_x (0, (-1), 0), jl_6 10 1, jl_6 9 1, jl_6 8 1, jl_6 13 2, jl_6 11 1, jl_8 47 14])
noncomputable def hq_567 : HP := [(true, ac_615), (false, ac_438), (true, .inr (1, [(7, (2, 0, 5))])), (true, .inr (1, [(35, (2, 0, 4))])), (true, .inr (1, [(5, (2, (-1), 4))])), (true, .inr (1, [(5, (2, (-1), 4))])), (true, .inr (1, [(5, (2, (-2147483648), 2147483647))])), (true, .inr (1, [(85, (2, (-2147483648), 2147483647))])), (true, .inr (1, [(85, (2, (-2147483648), 2147483647))])), (true, .inr (1, [(85, (2, (-2147483648), 2147483647))])), (true, .inr (1, [(16, (2, (-2147483648), 2147483647))])), (true, .inr (1, [(80, (2, (-2147483648), 2147483647))])), (true, .inr (1, [(80, (2, (-1), 4))]))]
noncomputable def gi_745 : GI := jl_n [jl_z 1, jl_i 0 16, jl_z 17, jl_i 0 128, jl_z 3, jl_r 2 (jl_t), jl_r 2 (jl_m 0 4), jl_z 20, jl_i 0 16, jl_i 0 3, jl_i 0 10, jl_i 0 5, jl_i 0 8, jl_i 0 5, jl_i 0 7, jl_i 0 30, jl_i 1 2147483647, jl_z 60]
noncomputable def con_1112 : Con2 := ((yX12_asksDay, cX12_asksDay, 2, (some .boolean)), (9, 208), ([(6, 0, 0), (1, 1, 0)], gi_508, hc_148, []), [((0, 0, 0), gi_744, hq_567, [], [1, 1, 1, 1, 1, 1, 1, 1, 1, 1, 1, 1, 1, 1, 1, 1, 1, 1, 1, 1, 1, 1, 1, 1, 1, 1, 1, 1, 1, 1, 1, 1, 1, 1, 1, 1, 1, 1, 1, 1, 1, 1, 1, 1, 1, 1]), ((0, 1, 0), gi_745, hq_567, [], [1, 1, 1, 1, 1, 1, 1, 1, 1, 1, 1, 1, 1, 1, 1, 1, 1, 1, 1, 1, 1, 1, 1, 1, 1, 1, 1, 1, 1, 1, 1, 1, 1, 1, 1, 1, 1, 1, 1, 1, 1, 1, 1, 1, 1, 1])])
theorem hd_1112 : con_1112.1 = (yX12_asksDay, cX12_asksDay, 2, (some .boolean)) := rfl
theorem ck_RX12_369_1111 : COK2 RX12 vwCl gTbl 369 0 con_1111 := ⟨wd_1902, wd_137, mh_X12_isDay, .inr (.inr ⟨rfl, wd_1899, wd_1901, wd_101, ⟨_, rfl, pd_X12_isDay⟩, 12, _, TX12, 45, rfl, rfl⟩)⟩
theorem ck_RX12_366_1109 : COK2 RX12 vwCl gTbl 366 0 con_1109 := ⟨wd_1877, wd_137, mh_X12_asksHundred, .inr (.inr ⟨rfl, wd_1874, wd_1876, wd_95, ⟨_, rfl, pd_X12_asksHundred⟩, 12, _, TX12, 45, rfl, rfl⟩)⟩
noncomputable def ct_1112 : CTB2 := [(1, 366, 0, con_1109, [0, 1, 2, 3, 4, 5, 6, 7, 8, 9, 10, 11, 12]), (8, 369, 0, con_1111, [0, 1])]
noncomputable def cu_1112 : List CUT2 := []
theorem ch_1112 : staG tb_X12_asksDay 1 bt_RX12 [] ct_1112 [] [] cu_1112 10 con_1112 = true := by decide +kernel
theorem cto_1112 (l : Launch) : CTOK2 l RX12 vwCl gTbl ct_1112 := ct2_cons (vl_1109 l) ck_RX12_366_1109 (ct2_cons (vl_1111 l) ck_RX12_369_1111 (ct2_nil))
theorem vl_1112 (l : Launch) : Vld2 l vwCl gTbl con_1112 := conR_ok3 gT_all (hd_1112) rfl pn_RX12 tk_X12_asksDay bo_RX12 xo_RX12 (cto_1112 l) ch_1112 cut_nil
/-- RookHustingModel fear -/
noncomputable def gi_746 : GI := jl_n [jl_z 1, jl_r 2 (jl_t), jl_z 17, jl_i 0 128, jl_z 3, jl_r 2 (jl_t), jl_r 2 (jl_m 0 4), jl_z 20, jl_i 0 16, jl_i 0 3, jl_i 0 10, jl_i 0 5, jl_i 0 8, jl_i 0 5, jl_i 0 7, jl_i 0 30, jl_i 0 2147483647, jl_z 14]
noncomputable def ac_616 : AC := .inl (12, jl_n [jl_8 4 1, jl_6 2 1, jl_8 18 13, jl_6 4 1, jl_6 3 1, jl_1 21 1, jl_6 7 3, jl_1 28 4, jl_6 10 1, jl_6 9 1, jl_6 8 1, jl_6 13 2, jl_6 11 1, jl_8 48 14])
noncomputable def hc_149 : List AC := [ac_616, ac_440, .inr (1, [(7, (2, 0, 5))]), .inr (1, [(35, (2, 0, 4))]), .inr (1, [(5, (2, (-1), 4))]), .inr (1, [(5, (2, (-1), 4))]), .inr (1, [(5, (2, (-2147483648), 2147483647))]), .inr (1, [(85, (2, (-2147483648), 2147483647))]), .inr (1, [(85, (2, (-2147483648), 2147483647))]), .inr (1, [(85, (2, (-2147483648), 2147483647))]), .inr (1, [(16, (2, (-2147483648), 2147483647))]), .inr (1, [(80, (2, (-2147483648), 2147483647))]), .inr (1, [(80, (2, (-1), 4))])]
noncomputable def gi_747 : GI := jl_n [jl_z 1, jl_r 2 (jl_t), jl_z 17, jl_i 0 128, jl_z 3, jl_r 2 (jl_t), jl_r 2 (jl_m 0 4), jl_z 20, jl_i 0 16, jl_i 0 3, jl_i 0 10, jl_i 0 5, jl_i 0 8, jl_i 0 5, jl_i 0 7, jl_i 0 30, jl_i 0 2147483647, jl_z 14, jl_t, jl_z 45]
noncomputable def ac_617 : AC := .inl (12, jl_n [jl_8 4 1, jl_6 2 1, jl_8 18 13, jl_6 4 1, jl_6 3 1, jl_c 0, jl_6 7 3, jl_c 0, jl_c 0, jl_x (0, (-1), 0), jl_x (0, (-1), 0), jl_6 10 1, jl_6 9 1, jl_6 8 1, jl_6 13 2, jl_6 11 1, jl_8 48 14])
noncomputable def hq_568 : HP := [(true, ac_617), (false, ac_440), (true, .inr (1, [(7, (2, 0, 5))])), (true, .inr (1, [(35, (2, 0, 4))])), (true, .inr (1, [(5, (2, (-1), 4))])), (true, .inr (1, [(5, (2, (-1), 4))])), (true, .inr (1, [(5, (2, (-2147483648), 2147483647))])), (true, .inr (1, [(85, (2, (-2147483648), 2147483647))])), (true, .inr (1, [(85, (2, (-2147483648), 2147483647))])), (true, .inr (1, [(85, (2, (-2147483648), 2147483647))])), (true, .inr (1, [(16, (2, (-2147483648), 2147483647))])), (true, .inr (1, [(80, (2, (-2147483648), 2147483647))])), (true, .inr (1, [(80, (2, (-1), 4))]))]
noncomputable def con_1113 : Con2 := ((yX12_fear, cX12_fear, 3, (some .int)), (10, 229), ([(6, 0, 0), (1, 1, 0), (1, 2, 0)], gi_746, hc_149, []), [((1, 71, 0), gi_747, hq_568, [], [1, 1, 1, 1, 1, 1, 1, 1, 1, 1, 1, 1, 1, 1, 1, 1, 1, 1, 1, 1, 1, 1, 1, 1, 1, 1, 1, 1, 1, 1, 1, 1, 1, 1, 1, 1, 1, 1, 1, 1, 1, 1, 1, 1, 1, 1])])
theorem hd_1113 : con_1113.1 = (yX12_fear, cX12_fear, 3, (some .int)) := rfl
theorem ck_RX12_378_1112 : COK2 RX12 vwCl gTbl 378 0 con_1112 := ⟨wd_1873, wd_137, mh_X12_asksDay, .inr (.inr ⟨rfl, wd_1870, wd_1872, wd_94, ⟨_, rfl, pd_X12_asksDay⟩, 12, _, TX12, 45, rfl, rfl⟩)⟩
noncomputable def ct_1113 : CTB2 := [(2, 378, 0, con_1112, [0, 1, 2, 3, 4, 5, 6, 7, 8, 9, 10, 11, 12]), (11, 109, 0, con_647, [0, 1])]
noncomputable def cu_1113 : List CUT2 := []
theorem ch_1113 : staG tb_X12_fear 1 bt_RX12 [] ct_1113 [] [] cu_1113 21 con_1113 = true := by decide +kernel
theorem cto_1113 (l : Launch) : CTOK2 l RX12 vwCl gTbl ct_1113 := ct2_cons (vl_1112 l) ck_RX12_378_1112 (ct2_cons (vl_647 l) ck_RX12_109_647 (ct2_nil))
theorem vl_1113 (l : Launch) : Vld2 l vwCl gTbl con_1113 := conR_ok3 gT_all (hd_1113) rfl pn_RX12 tk_X12_fear bo_RX12 xo_RX12 (cto_1113 l) ch_1113 cut_nil
/-- RookHusting cellNow -/
noncomputable def ac_618 : AC := .inl (4, jl_n [jl_8 27 1, jl_1 29 2, jl_8 30 1, jl_1 31 1, jl_8 32 1, jl_1 34 2, jl_6 19 1, jl_6 18 1, jl_6 9 1, jl_6 24 2, jl_6 12 1, jl_8 42 2, jl_6 11 1])
noncomputable def ac_619 : AC := .inl (3, jl_n [jl_6 22 1, jl_6 2 1, jl_6 20 1, jl_6 27 3, jl_6 21 1, jl_1 118 2])
noncomputable def hc_150 : List AC := [ac_592, .inr (1, [(85, (2, (-2147483648), 2147483647))]), .inl (9, [(6, 4, 0), (6, 12, 0)]), .inl (7, [(6, 5, 0), (6, 6, 0), (6, 7, 0), (1, 25, 0)]), ac_618, .inr (1, [(5, (2, (-1), 4))]), .inr (1, [(5, (2, (-2147483648), 2147483647))]), .inr (1, [(5, (2, (-2147483648), 2147483647))]), .inr (1, [(5, (2, (-2147483648), 2147483647))]), .inl (1, [(6, 4, 0), (8, 44, 0)]), .inr (1, [(35, (2, (-2147483648), 2147483647))]), .inr (1, [(7, (2, 0, 9))]), .inl (0, [(1, 45, 0), (6, 13, 0), (6, 14, 0), (6, 15, 0)]), ac_594, .inr (1, [(30, (2, 0, 4))]), ac_595, ac_619, .inr (1, [(5, (2, 0, 40))]), .inr (1, [(5, (2, 0, 300))]), .inr (1, [(85, (2, (-2147483648), 2147483647))]), .inr (1, [(5, (2, (-2147483648), 2147483647))]), .inr (1, [(85, (2, (-2147483648), 2147483647))]), .inr (1, [(5, (2, 0, 40))]), .inr (1, [(5, (2, 0, 9))]), .inr (1, [(85, (2, (-2147483648), 2147483647))]), .inr (1, [(85, (2, (-2147483648), 2147483647))]), .inr (1, [(85, (2, (-1), 4))])]
noncomputable def ac_620 : AC := .inl (3, jl_n [jl_6 22 1, jl_6 2 1, jl_6 20 1, jl_6 27 3, jl_6 21 1, jl_1 148 2])
noncomputable def hq_569 : HP := [(true, ac_597), (true, .inr (1, [(85, (2, (-2147483648), 2147483647))])), (false, .inl (9, [(6, 4, 0), (6, 12, 0)])), (true, .inl (7, [(6, 5, 0), (6, 6, 0), (6, 7, 0), (1, 138, 0)])), (false, ac_618), (true, .inr (1, [(5, (2, (-1), 4))])), (true, .inr (1, [(5, (2, (-2147483648), 2147483647))])), (true, .inr (1, [(5, (2, (-2147483648), 2147483647))])), (false, .inr (1, [(5, (2, (-2147483648), 2147483647))])), (false, .inl (1, [(6, 4, 0), (8, 44, 0)])), (false, .inr (1, [(35, (2, (-2147483648), 2147483647))])), (false, .inr (1, [(7, (2, 0, 9))])), (false, .inl (0, [(1, 45, 0), (6, 13, 0), (6, 14, 0), (6, 15, 0)])), (false, ac_594), (false, .inr (1, [(30, (2, 0, 4))])), (false, ac_595), (true, ac_620), (false, .inr (1, [(5, (2, 0, 40))])), (false, .inr (1, [(5, (2, 0, 300))])), (true, .inr (1, [(85, (2, (-2147483648), 2147483647))])), (true, .inr (1, [(5, (2, (-2147483648), 2147483647))])), (true, .inr (1, [(85, (2, (-2147483648), 2147483647))])), (false, .inr (1, [(5, (2, 0, 40))])), (false, .inr (1, [(5, (2, 0, 9))])), (true, .inr (1, [(85, (2, (-2147483648), 2147483647))])), (true, .inr (1, [(85, (2, (-2147483648), 2147483647))])), (true, .inr (1, [(85, (2, (-1), 4))]))]
noncomputable def con_1114 : Con2 := ((yX11_cellNow, cX11_cellNow, 4, (some .int)), (6, 151), ([(6, 0, 0), (6, 1, 0), (1, 2, 0), (1, 3, 0)], gi_720, hc_150, rq_4), [((1, 118, 0), gi_721, hq_569, [], [1, 1, 1, 1, 1, 1, 1, 1, 1, 1, 1, 1, 1, 1, 1, 1, 1, 1, 1, 1, 1, 1, 1, 1, 1, 1, 1, 1, 1, 1])])
theorem hd_1114 : con_1114.1 = (yX11_cellNow, cX11_cellNow, 4, (some .int)) := rfl
noncomputable def ct_1114 : CTB2 := [(1, 208, 0, con_900, [0, 2, 3, 4, 5, 6, 7, 8, 9, 10, 11, 12, 13, 14, 15, 16, 17, 1, 18, 19, 20, 21, 22, 23, 24, 25, 26])]
noncomputable def cu_1114 : List CUT2 := []
theorem ch_1114 : staG tb_X11_cellNow 1 bt_RX11 [] ct_1114 [] [] cu_1114 12 con_1114 = true := by decide +kernel
theorem cto_1114 (l : Launch) : CTOK2 l RX11 vwCl gTbl ct_1114 := ct2_cons (vl_900 l) ck_RX11_208_900 (ct2_nil)
theorem vl_1114 (l : Launch) : Vld2 l vwCl gTbl con_1114 := conR_ok3 gT_all (hd_1114) rfl pn_RX11 tk_X11_cellNow bo_RX11 xo_RX11 (cto_1114 l) ch_1114 cut_nil
/-- RookHusting rooks -/
noncomputable def ac_621 : AC := .inl (4, jl_n [jl_1 24 3, jl_8 25 1, jl_1 26 1, jl_8 27 1, jl_1 29 2, jl_6 19 1, jl_6 18 1, jl_6 10 1, jl_6 24 2, jl_6 13 1, jl_8 37 2, jl_6 12 1])
noncomputable def ac_622 : AC := .inl (3, jl_n [jl_6 22 1, jl_6 5 1, jl_6 20 1, jl_6 27 3, jl_6 21 1, jl_1 47 2])
noncomputable def hc_151 : List AC := [ac_599, .inl (9, [(6, 2, 0), (6, 13, 0)]), ac_621, ac_622, .inr (1, [(85, (2, (-2147483648), 2147483647))]), .inl (7, [(6, 6, 0), (6, 7, 0), (6, 8, 0), (1, 50, 0)]), .inr (1, [(5, (2, (-1), 4))]), .inr (1, [(5, (2, (-2147483648), 2147483647))]), .inr (1, [(5, (2, (-2147483648), 2147483647))]), .inr (1, [(5, (2, (-2147483648), 2147483647))]), .inl (1, [(6, 2, 0), (8, 52, 0)]), .inr (1, [(35, (2, (-2147483648), 2147483647))]), .inr (1, [(7, (2, 0, 9))]), .inl (0, [(1, 53, 0), (6, 14, 0), (6, 15, 0), (6, 16, 0)]), ac_602, .inr (1, [(30, (2, 0, 4))]), ac_603, .inr (1, [(5, (2, 0, 40))]), .inr (1, [(5, (2, 0, 300))]), .inr (1, [(85, (2, (-2147483648), 2147483647))]), .inr (1, [(5, (2, (-2147483648), 2147483647))]), .inr (1, [(85, (2, (-2147483648), 2147483647))]), .inr (1, [(5, (2, 0, 40))]), .inr (1, [(5, (2, 0, 9))]), .inr (1, [(85, (2, (-2147483648), 2147483647))]), .inr (1, [(85, (2, (-2147483648), 2147483647))]), .inr (1, [(85, (2, (-1), 4))])]
noncomputable def ac_623 : AC := .inl (3, jl_n [jl_6 22 1, jl_6 5 1, jl_6 20 1, jl_6 27 3, jl_6 21 1, jl_1 143 2])
noncomputable def hq_570 : HP := [(true, ac_604), (false, .inl (9, [(6, 2, 0), (6, 13, 0)])), (false, ac_621), (true, ac_623), (true, .inr (1, [(85, (2, (-2147483648), 2147483647))])), (true, .inl (7, [(6, 6, 0), (6, 7, 0), (6, 8, 0), (1, 146, 0)])), (true, .inr (1, [(5, (2, (-1), 4))])), (true, .inr (1, [(5, (2, (-2147483648), 2147483647))])), (true, .inr (1, [(5, (2, (-2147483648), 2147483647))])), (false, .inr (1, [(5, (2, (-2147483648), 2147483647))])), (false, .inl (1, [(6, 2, 0), (8, 52, 0)])), (false, .inr (1, [(35, (2, (-2147483648), 2147483647))])), (false, .inr (1, [(7, (2, 0, 9))])), (false, .inl (0, [(1, 53, 0), (6, 14, 0), (6, 15, 0), (6, 16, 0)])), (false, ac_602), (false, .inr (1, [(30, (2, 0, 4))])), (false, ac_603), (false, .inr (1, [(5, (2, 0, 40))])), (false, .inr (1, [(5, (2, 0, 300))])), (true, .inr (1, [(85, (2, (-2147483648), 2147483647))])), (true, .inr (1, [(5, (2, (-2147483648), 2147483647))])), (true, .inr (1, [(85, (2, (-2147483648), 2147483647))])), (false, .inr (1, [(5, (2, 0, 40))])), (false, .inr (1, [(5, (2, 0, 9))])), (true, .inr (1, [(85, (2, (-2147483648), 2147483647))])), (true, .inr (1, [(85, (2, (-2147483648), 2147483647))])), (true, .inr (1, [(85, (2, (-1), 4))]))]
noncomputable def con_1115 : Con2 := ((yX11_rooks, cX11_rooks, 3, (some .int)), (7, 174), ([(6, 0, 0), (1, 1, 0), (1, 2, 0)], gi_722, hc_151, rq_5), [((1, 117, 0), gi_723, hq_570, [], [1, 1, 1, 1, 1, 1, 1, 1, 1, 1, 1, 1, 1, 1, 1, 1, 1, 1, 1, 1, 1, 1, 1, 1, 1, 1, 1, 1, 1, 1])])
theorem hd_1115 : con_1115.1 = (yX11_rooks, cX11_rooks, 3, (some .int)) := rfl
theorem ck_RX11_266_1114 : COK2 RX11 vwCl gTbl 266 0 con_1114 := ⟨wd_1023, wd_125, mh_X11_cellNow, .inr (.inr ⟨rfl, wd_1020, wd_1022, wd_32, ⟨_, rfl, pd_X11_cellNow⟩, 11, _, TX11, 16, rfl, rfl⟩)⟩
noncomputable def ct_1115 : CTB2 := [(2, 139, 0, con_643, [0, 1, 2]), (10, 260, 0, con_1097, [0, 1, 2]), (26, 266, 0, con_1114, [0, 4, 1, 5, 2, 6, 7, 8, 9, 10, 11, 12, 13, 14, 15, 16, 3, 17, 18, 19, 20, 21, 22, 23, 24, 25, 26])]
noncomputable def cu_1115 : List CUT2 := []
theorem ch_1115 : staG tb_X11_rooks 1 bt_RX11 [] ct_1115 [] [] cu_1115 19 con_1115 = true := by decide +kernel
theorem cto_1115 (l : Launch) : CTOK2 l RX11 vwCl gTbl ct_1115 := ct2_cons (vl_643 l) ck_RX11_139_643 (ct2_cons (vl_1097 l) ck_RX11_260_1097 (ct2_cons (vl_1114 l) ck_RX11_266_1114 (ct2_nil)))
theorem vl_1115 (l : Launch) : Vld2 l vwCl gTbl con_1115 := conR_ok3 gT_all (hd_1115) rfl pn_RX11 tk_X11_rooks bo_RX11 xo_RX11 (cto_1115 l) ch_1115 cut_nil
/-- RookHustingModel rooks -/
noncomputable def con_1116 : Con2 := ((yX12_rooks, cX12_rooks, 3, (some .int)), (10, 229), ([(6, 0, 0), (1, 1, 0), (1, 2, 0)], gi_746, hc_149, []), [((1, 71, 0), gi_747, hq_568, [], [1, 1, 1, 1, 1, 1, 1, 1, 1, 1, 1, 1, 1, 1, 1, 1, 1, 1, 1, 1, 1, 1, 1, 1, 1, 1, 1, 1, 1, 1, 1, 1, 1, 1, 1, 1, 1, 1, 1, 1, 1, 1, 1, 1, 1, 1])])
theorem hd_1116 : con_1116.1 = (yX12_rooks, cX12_rooks, 3, (some .int)) := rfl
noncomputable def ct_1116 : CTB2 := [(2, 378, 0, con_1112, [0, 1, 2, 3, 4, 5, 6, 7, 8, 9, 10, 11, 12]), (11, 109, 0, con_647, [0, 1])]
noncomputable def cu_1116 : List CUT2 := []
theorem ch_1116 : staG tb_X12_rooks 1 bt_RX12 [] ct_1116 [] [] cu_1116 21 con_1116 = true := by decide +kernel
theorem cto_1116 (l : Launch) : CTOK2 l RX12 vwCl gTbl ct_1116 := ct2_cons (vl_1112 l) ck_RX12_378_1112 (ct2_cons (vl_647 l) ck_RX12_109_647 (ct2_nil))
theorem vl_1116 (l : Launch) : Vld2 l vwCl gTbl con_1116 := conR_ok3 gT_all (hd_1116) rfl pn_RX12 tk_X12_rooks bo_RX12 xo_RX12 (cto_1116 l) ch_1116 cut_nil
/-- RookHusting cellNow -/
noncomputable def ac_624 : AC := .inl (3, jl_n [jl_6 22 1, jl_6 19 1, jl_6 2 1, jl_6 27 3, jl_6 21 1, jl_1 118 2])
noncomputable def hc_152 : List AC := [ac_592, .inr (1, [(85, (2, (-2147483648), 2147483647))]), .inl (9, [(6, 4, 0), (6, 12, 0)]), .inl (7, [(6, 5, 0), (6, 6, 0), (6, 7, 0), (1, 25, 0)]), ac_593, .inr (1, [(5, (2, (-1), 4))]), .inr (1, [(5, (2, (-2147483648), 2147483647))]), .inr (1, [(5, (2, (-2147483648), 2147483647))]), .inr (1, [(5, (2, (-2147483648), 2147483647))]), .inl (1, [(6, 4, 0), (8, 44, 0)]), .inr (1, [(35, (2, (-2147483648), 2147483647))]), .inr (1, [(7, (2, 0, 9))]), .inl (0, [(1, 45, 0), (6, 13, 0), (6, 14, 0), (6, 15, 0)]), ac_594, .inr (1, [(30, (2, 0, 4))]), ac_595, ac_624, .inr (1, [(5, (2, 0, 40))]), .inr (1, [(85, (2, (-2147483648), 2147483647))]), .inr (1, [(5, (2, 0, 300))]), .inr (1, [(5, (2, (-2147483648), 2147483647))]), .inr (1, [(85, (2, (-2147483648), 2147483647))]), .inr (1, [(5, (2, 0, 40))]), .inr (1, [(5, (2, 0, 9))]), .inr (1, [(85, (2, (-2147483648), 2147483647))]), .inr (1, [(85, (2, (-2147483648), 2147483647))]), .inr (1, [(85, (2, (-1), 4))])]
noncomputable def ac_625 : AC := .inl (3, jl_n [jl_6 22 1, jl_6 19 1, jl_6 2 1, jl_6 27 3, jl_6 21 1, jl_1 148 2])
noncomputable def hq_571 : HP := [(true, ac_597), (true, .inr (1, [(85, (2, (-2147483648), 2147483647))])), (false, .inl (9, [(6, 4, 0), (6, 12, 0)])), (true, .inl (7, [(6, 5, 0), (6, 6, 0), (6, 7, 0), (1, 138, 0)])), (false, ac_593), (true, .inr (1, [(5, (2, (-1), 4))])), (true, .inr (1, [(5, (2, (-2147483648), 2147483647))])), (true, .inr (1, [(5, (2, (-2147483648), 2147483647))])), (false, .inr (1, [(5, (2, (-2147483648), 2147483647))])), (false, .inl (1, [(6, 4, 0), (8, 44, 0)])), (false, .inr (1, [(35, (2, (-2147483648), 2147483647))])), (false, .inr (1, [(7, (2, 0, 9))])), (false, .inl (0, [(1, 45, 0), (6, 13, 0), (6, 14, 0), (6, 15, 0)])), (false, ac_594), (false, .inr (1, [(30, (2, 0, 4))])), (false, ac_595), (true, ac_625), (false, .inr (1, [(5, (2, 0, 40))])), (true, .inr (1, [(85, (2, (-2147483648), 2147483647))])), (false, .inr (1, [(5, (2, 0, 300))])), (true, .inr (1, [(5, (2, (-2147483648), 2147483647))])), (true, .inr (1, [(85, (2, (-2147483648), 2147483647))])), (false, .inr (1, [(5, (2, 0, 40))])), (false, .inr (1, [(5, (2, 0, 9))])), (true, .inr (1, [(85, (2, (-2147483648), 2147483647))])), (true, .inr (1, [(85, (2, (-2147483648), 2147483647))])), (true, .inr (1, [(85, (2, (-1), 4))]))]
noncomputable def con_1117 : Con2 := ((yX11_cellNow, cX11_cellNow, 4, (some .int)), (6, 151), ([(6, 0, 0), (6, 1, 0), (1, 2, 0), (1, 3, 0)], gi_720, hc_152, rq_4), [((1, 118, 0), gi_721, hq_571, [], [1, 1, 1, 1, 1, 1, 1, 1, 1, 1, 1, 1, 1, 1, 1, 1, 1, 1, 1, 1, 1, 1, 1, 1, 1, 1, 1, 1, 1, 1])])
theorem hd_1117 : con_1117.1 = (yX11_cellNow, cX11_cellNow, 4, (some .int)) := rfl
noncomputable def ct_1117 : CTB2 := [(1, 208, 0, con_900, [0, 2, 3, 4, 5, 6, 7, 8, 9, 10, 11, 12, 13, 14, 15, 16, 17, 18, 19, 1, 20, 21, 22, 23, 24, 25, 26])]
noncomputable def cu_1117 : List CUT2 := []
theorem ch_1117 : staG tb_X11_cellNow 1 bt_RX11 [] ct_1117 [] [] cu_1117 12 con_1117 = true := by decide +kernel
theorem cto_1117 (l : Launch) : CTOK2 l RX11 vwCl gTbl ct_1117 := ct2_cons (vl_900 l) ck_RX11_208_900 (ct2_nil)
theorem vl_1117 (l : Launch) : Vld2 l vwCl gTbl con_1117 := conR_ok3 gT_all (hd_1117) rfl pn_RX11 tk_X11_cellNow bo_RX11 xo_RX11 (cto_1117 l) ch_1117 cut_nil
/-- RookHusting corn -/
noncomputable def ac_626 : AC := .inl (3, jl_n [jl_6 22 1, jl_6 19 1, jl_6 5 1, jl_6 27 3, jl_6 21 1, jl_1 47 2])
noncomputable def hc_153 : List AC := [ac_599, .inl (9, [(6, 2, 0), (6, 13, 0)]), ac_600, ac_626, .inr (1, [(85, (2, (-2147483648), 2147483647))]), .inl (7, [(6, 6, 0), (6, 7, 0), (6, 8, 0), (1, 50, 0)]), .inr (1, [(5, (2, (-1), 4))]), .inr (1, [(5, (2, (-2147483648), 2147483647))]), .inr (1, [(5, (2, (-2147483648), 2147483647))]), .inr (1, [(5, (2, (-2147483648), 2147483647))]), .inl (1, [(6, 2, 0), (8, 52, 0)]), .inr (1, [(35, (2, (-2147483648), 2147483647))]), .inr (1, [(7, (2, 0, 9))]), .inl (0, [(1, 53, 0), (6, 14, 0), (6, 15, 0), (6, 16, 0)]), ac_602, .inr (1, [(30, (2, 0, 4))]), ac_603, .inr (1, [(5, (2, 0, 40))]), .inr (1, [(85, (2, (-2147483648), 2147483647))]), .inr (1, [(5, (2, 0, 300))]), .inr (1, [(5, (2, (-2147483648), 2147483647))]), .inr (1, [(85, (2, (-2147483648), 2147483647))]), .inr (1, [(5, (2, 0, 40))]), .inr (1, [(5, (2, 0, 9))]), .inr (1, [(85, (2, (-2147483648), 2147483647))]), .inr (1, [(85, (2, (-2147483648), 2147483647))]), .inr (1, [(85, (2, (-1), 4))])]
noncomputable def ac_627 : AC := .inl (3, jl_n [jl_6 22 1, jl_6 19 1, jl_6 5 1, jl_6 27 3, jl_6 21 1, jl_1 143 2])
noncomputable def hq_572 : HP := [(true, ac_604), (false, .inl (9, [(6, 2, 0), (6, 13, 0)])), (false, ac_600), (true, ac_627), (true, .inr (1, [(85, (2, (-2147483648), 2147483647))])), (true, .inl (7, [(6, 6, 0), (6, 7, 0), (6, 8, 0), (1, 146, 0)])), (true, .inr (1, [(5, (2, (-1), 4))])), (true, .inr (1, [(5, (2, (-2147483648), 2147483647))])), (true, .inr (1, [(5, (2, (-2147483648), 2147483647))])), (false, .inr (1, [(5, (2, (-2147483648), 2147483647))])), (false, .inl (1, [(6, 2, 0), (8, 52, 0)])), (false, .inr (1, [(35, (2, (-2147483648), 2147483647))])), (false, .inr (1, [(7, (2, 0, 9))])), (false, .inl (0, [(1, 53, 0), (6, 14, 0), (6, 15, 0), (6, 16, 0)])), (false, ac_602), (false, .inr (1, [(30, (2, 0, 4))])), (false, ac_603), (false, .inr (1, [(5, (2, 0, 40))])), (true, .inr (1, [(85, (2, (-2147483648), 2147483647))])), (false, .inr (1, [(5, (2, 0, 300))])), (true, .inr (1, [(5, (2, (-2147483648), 2147483647))])), (true, .inr (1, [(85, (2, (-2147483648), 2147483647))])), (false, .inr (1, [(5, (2, 0, 40))])), (false, .inr (1, [(5, (2, 0, 9))])), (true, .inr (1, [(85, (2, (-2147483648), 2147483647))])), (true, .inr (1, [(85, (2, (-2147483648), 2147483647))])), (true, .inr (1, [(85, (2, (-1), 4))]))]
noncomputable def con_1118 : Con2 := ((yX11_corn, cX11_corn, 3, (some .int)), (7, 174), ([(6, 0, 0), (1, 1, 0), (1, 2, 0)], gi_722, hc_153, rq_5), [((1, 117, 0), gi_723, hq_572, [], [1, 1, 1, 1, 1, 1, 1, 1, 1, 1, 1, 1, 1, 1, 1, 1, 1, 1, 1, 1, 1, 1, 1, 1, 1, 1, 1, 1, 1, 1])])
theorem hd_1118 : con_1118.1 = (yX11_corn, cX11_corn, 3, (some .int)) := rfl
theorem ck_RX11_266_1117 : COK2 RX11 vwCl gTbl 266 0 con_1117 := ⟨wd_1023, wd_125, mh_X11_cellNow, .inr (.inr ⟨rfl, wd_1020, wd_1022, wd_32, ⟨_, rfl, pd_X11_cellNow⟩, 11, _, TX11, 16, rfl, rfl⟩)⟩
noncomputable def ct_1118 : CTB2 := [(2, 139, 0, con_643, [0, 1, 2]), (10, 260, 0, con_1097, [0, 1, 2]), (26, 266, 0, con_1117, [0, 4, 1, 5, 2, 6, 7, 8, 9, 10, 11, 12, 13, 14, 15, 16, 3, 17, 18, 19, 20, 21, 22, 23, 24, 25, 26])]
noncomputable def cu_1118 : List CUT2 := []
theorem ch_1118 : staG tb_X11_corn 1 bt_RX11 [] ct_1118 [] [] cu_1118 19 con_1118 = true := by decide +kernel
theorem cto_1118 (l : Launch) : CTOK2 l RX11 vwCl gTbl ct_1118 := ct2_cons (vl_643 l) ck_RX11_139_643 (ct2_cons (vl_1097 l) ck_RX11_260_1097 (ct2_cons (vl_1117 l) ck_RX11_266_1117 (ct2_nil)))
theorem vl_1118 (l : Launch) : Vld2 l vwCl gTbl con_1118 := conR_ok3 gT_all (hd_1118) rfl pn_RX11 tk_X11_corn bo_RX11 xo_RX11 (cto_1118 l) ch_1118 cut_nil
/-- RookHustingModel corn -/
noncomputable def con_1119 : Con2 := ((yX12_corn, cX12_corn, 3, (some .int)), (10, 229), ([(6, 0, 0), (1, 1, 0), (1, 2, 0)], gi_746, hc_149, []), [((1, 71, 0), gi_747, hq_568, [], [1, 1, 1, 1, 1, 1, 1, 1, 1, 1, 1, 1, 1, 1, 1, 1, 1, 1, 1, 1, 1, 1, 1, 1, 1, 1, 1, 1, 1, 1, 1, 1, 1, 1, 1, 1, 1, 1, 1, 1, 1, 1, 1, 1, 1, 1])])
theorem hd_1119 : con_1119.1 = (yX12_corn, cX12_corn, 3, (some .int)) := rfl
noncomputable def ct_1119 : CTB2 := [(2, 378, 0, con_1112, [0, 1, 2, 3, 4, 5, 6, 7, 8, 9, 10, 11, 12]), (11, 109, 0, con_647, [0, 1])]
noncomputable def cu_1119 : List CUT2 := []
theorem ch_1119 : staG tb_X12_corn 1 bt_RX12 [] ct_1119 [] [] cu_1119 21 con_1119 = true := by decide +kernel
theorem cto_1119 (l : Launch) : CTOK2 l RX12 vwCl gTbl ct_1119 := ct2_cons (vl_1112 l) ck_RX12_378_1112 (ct2_cons (vl_647 l) ck_RX12_109_647 (ct2_nil))
theorem vl_1119 (l : Launch) : Vld2 l vwCl gTbl con_1119 := conR_ok3 gT_all (hd_1119) rfl pn_RX12 tk_X12_corn bo_RX12 xo_RX12 (cto_1119 l) ch_1119 cut_nil
/-- RookHusting isEatingDay -/
noncomputable def gi_748 : GI := jl_n [jl_z 1, jl_t, jl_z 19, jl_i 0 16, jl_z 15]
noncomputable def ac_628 : AC := .inl (4, jl_n [jl_8 21 1, jl_1 22 1, jl_8 37 15])
noncomputable def gi_749 : GI := jl_n [jl_z 1, jl_t, jl_z 19, jl_i 0 16, jl_z 16]
noncomputable def hq_573 : HP := [(false, ac_431), (false, .inl (9, [(6, 2, 0), (8, 19, 0)])), (false, ac_628)]
noncomputable def gi_750 : GI := jl_n [jl_z 1, jl_i 0 15, jl_z 19, jl_i 1 16, jl_z 16]
noncomputable def con_1120 : Con2 := ((yX11_isEatingDay, cX11_isEatingDay, 2, (some .boolean)), (0, 0), ([(6, 0, 0), (1, 1, 0)], gi_748, [ac_431, .inl (9, [(6, 2, 0), (8, 19, 0)]), ac_628], []), [((0, 0, 0), gi_749, hq_573, [], [1]), ((0, 1, 0), gi_750, hq_573, [], [1])])
theorem hd_1120 : con_1120.1 = (yX11_isEatingDay, cX11_isEatingDay, 2, (some .boolean)) := rfl
noncomputable def ct_1120 : CTB2 := []
noncomputable def cu_1120 : List CUT2 := []
theorem ch_1120 : staG tb_X11_isEatingDay 1 bt_RX11 [] ct_1120 [] [] cu_1120 13 con_1120 = true := by decide +kernel
theorem cto_1120 (l : Launch) : CTOK2 l RX11 vwCl gTbl ct_1120 := ct2_nil
theorem vl_1120 (l : Launch) : Vld2 l vwCl gTbl con_1120 := conR_ok3 gT_all (hd_1120) rfl pn_RX11 tk_X11_isEatingDay bo_RX11 xo_RX11 (cto_1120 l) ch_1120 cut_nil
/-- RookHusting cellNow -/
noncomputable def gi_751 : GI := jl_n [jl_z 2, jl_i 0 4, jl_i 0 15, jl_z 13, jl_i 0 1, jl_z 7, jl_t, jl_z 1, jl_i 0 16, jl_i 0 3, jl_z 1, jl_i 0 5, jl_z 1, jl_i 0 5, jl_i 0 7, jl_z 11, jl_i 0 30, jl_z 3, jl_r 30 (jl_i 0 1), jl_r 30 (jl_m 0 15), jl_z 7, jl_i 0 5, jl_i 0 16]
noncomputable def ac_629 : AC := .inl (4, jl_n [jl_8 27 1, jl_1 29 2, jl_8 30 1, jl_1 31 1, jl_8 32 1, jl_1 34 2, jl_6 20 1, jl_6 18 1, jl_6 9 1, jl_6 25 2, jl_6 12 1, jl_8 42 2, jl_6 11 1])
noncomputable def ac_630 : AC := .inl (3, jl_n [jl_6 23 1, jl_6 19 1, jl_6 21 1, jl_6 2 1, jl_6 27 2, jl_6 22 1, jl_1 118 2])
noncomputable def hc_154 : List AC := [ac_592, .inr (1, [(85, (2, (-2147483648), 2147483647))]), .inl (9, [(6, 4, 0), (6, 12, 0)]), .inl (7, [(6, 5, 0), (6, 6, 0), (6, 7, 0), (1, 25, 0)]), ac_629, .inr (1, [(5, (2, (-1), 4))]), .inr (1, [(5, (2, (-2147483648), 2147483647))]), .inr (1, [(5, (2, (-2147483648), 2147483647))]), .inr (1, [(5, (2, (-2147483648), 2147483647))]), .inl (1, [(6, 4, 0), (8, 44, 0)]), .inr (1, [(35, (2, (-2147483648), 2147483647))]), .inr (1, [(7, (2, 0, 9))]), .inl (0, [(1, 45, 0), (6, 13, 0), (6, 14, 0), (6, 15, 0)]), ac_594, .inr (1, [(30, (2, 0, 4))]), ac_595, ac_630, .inr (1, [(5, (2, 0, 40))]), .inr (1, [(85, (2, (-2147483648), 2147483647))]), .inr (1, [(5, (2, 0, 300))]), .inr (1, [(85, (2, (-2147483648), 2147483647))]), .inr (1, [(5, (2, (-2147483648), 2147483647))]), .inr (1, [(85, (2, (-2147483648), 2147483647))]), .inr (1, [(5, (2, 0, 40))]), .inr (1, [(5, (2, 0, 9))]), .inr (1, [(85, (2, (-2147483648), 2147483647))]), .inr (1, [(85, (2, (-1), 4))])]
noncomputable def gi_752 : GI := jl_n [jl_z 2, jl_i 0 4, jl_i 0 15, jl_z 13, jl_i 0 1, jl_z 7, jl_t, jl_z 1, jl_i 0 16, jl_i 0 3, jl_z 1, jl_i 0 5, jl_z 1, jl_i 0 5, jl_i 0 7, jl_z 11, jl_i 0 30, jl_z 3, jl_r 30 (jl_i 0 1), jl_r 30 (jl_m 0 15), jl_z 7, jl_i 0 5, jl_i 0 16, jl_t, jl_z 19, jl_t, jl_z 7, jl_i 0 5, jl_i 0 16]
noncomputable def ac_631 : AC := .inl (3, jl_n [jl_6 23 1, jl_6 19 1, jl_6 21 1, jl_6 2 1, jl_6 27 2, jl_6 22 1, jl_1 148 2])
noncomputable def hq_574 : HP := [(true, ac_597), (true, .inr (1, [(85, (2, (-2147483648), 2147483647))])), (false, .inl (9, [(6, 4, 0), (6, 12, 0)])), (true, .inl (7, [(6, 5, 0), (6, 6, 0), (6, 7, 0), (1, 138, 0)])), (false, ac_629), (true, .inr (1, [(5, (2, (-1), 4))])), (true, .inr (1, [(5, (2, (-2147483648), 2147483647))])), (true, .inr (1, [(5, (2, (-2147483648), 2147483647))])), (false, .inr (1, [(5, (2, (-2147483648), 2147483647))])), (false, .inl (1, [(6, 4, 0), (8, 44, 0)])), (false, .inr (1, [(35, (2, (-2147483648), 2147483647))])), (false, .inr (1, [(7, (2, 0, 9))])), (false, .inl (0, [(1, 45, 0), (6, 13, 0), (6, 14, 0), (6, 15, 0)])), (false, ac_594), (false, .inr (1, [(30, (2, 0, 4))])), (false, ac_595), (true, ac_631), (false, .inr (1, [(5, (2, 0, 40))])), (true, .inr (1, [(85, (2, (-2147483648), 2147483647))])), (false, .inr (1, [(5, (2, 0, 300))])), (true, .inr (1, [(85, (2, (-2147483648), 2147483647))])), (true, .inr (1, [(5, (2, (-2147483648), 2147483647))])), (true, .inr (1, [(85, (2, (-2147483648), 2147483647))])), (false, .inr (1, [(5, (2, 0, 40))])), (false, .inr (1, [(5, (2, 0, 9))])), (true, .inr (1, [(85, (2, (-2147483648), 2147483647))])), (true, .inr (1, [(85, (2, (-1), 4))]))]
noncomputable def con_1121 : Con2 := ((yX11_cellNow, cX11_cellNow, 4, (some .int)), (6, 151), ([(6, 0, 0), (6, 1, 0), (1, 2, 0), (1, 3, 0)], gi_751, hc_154, rq_4), [((1, 118, 0), gi_752, hq_574, [], [1, 1, 1, 1, 1, 1, 1, 1, 1, 1, 1, 1, 1, 1, 1, 1, 1, 1, 1, 1, 1, 1, 1, 1, 1, 1, 1, 1, 1, 1])])
theorem hd_1121 : con_1121.1 = (yX11_cellNow, cX11_cellNow, 4, (some .int)) := rfl
noncomputable def ct_1121 : CTB2 := [(1, 208, 0, con_900, [0, 2, 3, 4, 5, 6, 7, 8, 9, 10, 11, 12, 13, 14, 15, 16, 17, 18, 19, 20, 21, 22, 23, 24, 1, 25, 26])]
noncomputable def cu_1121 : List CUT2 := []
theorem ch_1121 : staG tb_X11_cellNow 1 bt_RX11 [] ct_1121 [] [] cu_1121 12 con_1121 = true := by decide +kernel
theorem cto_1121 (l : Launch) : CTOK2 l RX11 vwCl gTbl ct_1121 := ct2_cons (vl_900 l) ck_RX11_208_900 (ct2_nil)
theorem vl_1121 (l : Launch) : Vld2 l vwCl gTbl con_1121 := conR_ok3 gT_all (hd_1121) rfl pn_RX11 tk_X11_cellNow bo_RX11 xo_RX11 (cto_1121 l) ch_1121 cut_nil
/-- RookHusting eaten -/
noncomputable def gi_753 : GI := jl_n [jl_z 1, jl_r 2 (jl_t), jl_z 13, jl_i 0 1, jl_z 5, jl_i 0 16, jl_i 0 3, jl_z 1, jl_i 0 5, jl_z 1, jl_i 0 5, jl_i 0 7, jl_z 16, jl_i 0 5, jl_i 0 16, jl_z 3, jl_t, jl_z 2, jl_i 0 30, jl_z 3, jl_r 30 (jl_i 0 1), jl_r 30 (jl_m 0 15)]
noncomputable def ac_632 : AC := .inl (4, jl_n [jl_8 22 1, jl_1 24 2, jl_8 25 1, jl_1 26 1, jl_8 27 1, jl_1 29 2, jl_6 20 1, jl_6 18 1, jl_6 10 1, jl_6 25 2, jl_6 13 1, jl_8 37 2, jl_6 12 1])
noncomputable def ac_633 : AC := .inl (3, jl_n [jl_6 23 1, jl_6 19 1, jl_6 21 1, jl_6 5 1, jl_6 27 2, jl_6 22 1, jl_1 47 2])
noncomputable def hc_155 : List AC := [ac_599, .inl (9, [(6, 2, 0), (6, 13, 0)]), ac_632, ac_633, .inr (1, [(85, (2, (-2147483648), 2147483647))]), .inl (7, [(6, 6, 0), (6, 7, 0), (6, 8, 0), (1, 50, 0)]), .inr (1, [(5, (2, (-1), 4))]), .inr (1, [(5, (2, (-2147483648), 2147483647))]), .inr (1, [(5, (2, (-2147483648), 2147483647))]), .inr (1, [(5, (2, (-2147483648), 2147483647))]), .inl (1, [(6, 2, 0), (8, 52, 0)]), .inr (1, [(35, (2, (-2147483648), 2147483647))]), .inr (1, [(7, (2, 0, 9))]), .inl (0, [(1, 53, 0), (6, 14, 0), (6, 15, 0), (6, 16, 0)]), ac_602, .inr (1, [(30, (2, 0, 4))]), ac_603, .inr (1, [(5, (2, 0, 40))]), .inr (1, [(85, (2, (-2147483648), 2147483647))]), .inr (1, [(5, (2, 0, 300))]), .inr (1, [(85, (2, (-2147483648), 2147483647))]), .inr (1, [(5, (2, (-2147483648), 2147483647))]), .inr (1, [(85, (2, (-2147483648), 2147483647))]), .inr (1, [(5, (2, 0, 40))]), .inr (1, [(5, (2, 0, 9))]), .inr (1, [(85, (2, (-2147483648), 2147483647))]), .inr (1, [(85, (2, (-1), 4))])]
noncomputable def gi_754 : GI := jl_n [jl_z 1, jl_r 2 (jl_t), jl_z 13, jl_i 0 1, jl_z 5, jl_i 0 16, jl_i 0 3, jl_z 1, jl_i 0 5, jl_z 1, jl_i 0 5, jl_i 0 7, jl_z 16, jl_i 0 5, jl_i 0 16, jl_z 3, jl_t, jl_z 2, jl_i 0 30, jl_z 3, jl_r 30 (jl_i 0 1), jl_r 30 (jl_m 0 15), jl_t, jl_z 13, jl_i 0 1, jl_z 9, jl_i 0 5, jl_i 0 16, jl_z 3, jl_t]
noncomputable def ac_634 : AC := .inl (3, jl_n [jl_6 23 1, jl_6 19 1, jl_6 21 1, jl_6 5 1, jl_6 27 2, jl_6 22 1, jl_1 143 2])
noncomputable def hq_575 : HP := [(true, ac_604), (false, .inl (9, [(6, 2, 0), (6, 13, 0)])), (false, ac_632), (true, ac_634), (true, .inr (1, [(85, (2, (-2147483648), 2147483647))])), (true, .inl (7, [(6, 6, 0), (6, 7, 0), (6, 8, 0), (1, 146, 0)])), (true, .inr (1, [(5, (2, (-1), 4))])), (true, .inr (1, [(5, (2, (-2147483648), 2147483647))])), (true, .inr (1, [(5, (2, (-2147483648), 2147483647))])), (false, .inr (1, [(5, (2, (-2147483648), 2147483647))])), (false, .inl (1, [(6, 2, 0), (8, 52, 0)])), (false, .inr (1, [(35, (2, (-2147483648), 2147483647))])), (false, .inr (1, [(7, (2, 0, 9))])), (false, .inl (0, [(1, 53, 0), (6, 14, 0), (6, 15, 0), (6, 16, 0)])), (false, ac_602), (false, .inr (1, [(30, (2, 0, 4))])), (false, ac_603), (false, .inr (1, [(5, (2, 0, 40))])), (true, .inr (1, [(85, (2, (-2147483648), 2147483647))])), (false, .inr (1, [(5, (2, 0, 300))])), (true, .inr (1, [(85, (2, (-2147483648), 2147483647))])), (true, .inr (1, [(5, (2, (-2147483648), 2147483647))])), (true, .inr (1, [(85, (2, (-2147483648), 2147483647))])), (false, .inr (1, [(5, (2, 0, 40))])), (false, .inr (1, [(5, (2, 0, 9))])), (true, .inr (1, [(85, (2, (-2147483648), 2147483647))])), (true, .inr (1, [(85, (2, (-1), 4))]))]
noncomputable def con_1122 : Con2 := ((yX11_eaten, cX11_eaten, 3, (some .int)), (7, 174), ([(6, 0, 0), (1, 1, 0), (1, 2, 0)], gi_753, hc_155, rq_5), [((1, 117, 0), gi_754, hq_575, [], [1, 1, 1, 1, 1, 1, 1, 1, 1, 1, 1, 1, 1, 1, 1, 1, 1, 1, 1, 1, 1, 1, 1, 1, 1, 1, 1, 1, 1, 1])])
theorem hd_1122 : con_1122.1 = (yX11_eaten, cX11_eaten, 3, (some .int)) := rfl
theorem ck_RX11_266_1121 : COK2 RX11 vwCl gTbl 266 0 con_1121 := ⟨wd_1023, wd_125, mh_X11_cellNow, .inr (.inr ⟨rfl, wd_1020, wd_1022, wd_32, ⟨_, rfl, pd_X11_cellNow⟩, 11, _, TX11, 16, rfl, rfl⟩)⟩
theorem ck_RX11_272_1120 : COK2 RX11 vwCl gTbl 272 0 con_1120 := ⟨wd_1039, wd_125, mh_X11_isEatingDay, .inr (.inr ⟨rfl, wd_1036, wd_1038, wd_33, ⟨_, rfl, pd_X11_isEatingDay⟩, 11, _, TX11, 16, rfl, rfl⟩)⟩
noncomputable def ct_1122 : CTB2 := [(2, 139, 0, con_643, [0, 1, 2]), (10, 272, 0, con_1120, [0, 1, 2]), (26, 266, 0, con_1121, [0, 4, 1, 5, 2, 6, 7, 8, 9, 10, 11, 12, 13, 14, 15, 16, 3, 17, 18, 19, 20, 21, 22, 23, 24, 25, 26])]
noncomputable def cu_1122 : List CUT2 := []
theorem ch_1122 : staG tb_X11_eaten 1 bt_RX11 [] ct_1122 [] [] cu_1122 19 con_1122 = true := by decide +kernel
theorem cto_1122 (l : Launch) : CTOK2 l RX11 vwCl gTbl ct_1122 := ct2_cons (vl_643 l) ck_RX11_139_643 (ct2_cons (vl_1120 l) ck_RX11_272_1120 (ct2_cons (vl_1121 l) ck_RX11_266_1121 (ct2_nil)))
theorem vl_1122 (l : Launch) : Vld2 l vwCl gTbl con_1122 := conR_ok3 gT_all (hd_1122) rfl pn_RX11 tk_X11_eaten bo_RX11 xo_RX11 (cto_1122 l) ch_1122 cut_nil
/-- RookHustingModel in -/
noncomputable def gi_755 : GI := jl_n [jl_u, jl_z 1, jl_m 0 15]
noncomputable def gi_756 : GI := jl_n [jl_u, jl_z 1, jl_m 0 15, jl_z 1]
noncomputable def con_1123 : Con2 := ((yX12_in, cX12_in, 6, (some .boolean)), (0, 0), ([(4, 0, 0), (3, 0, 0), (4, 2, 0)], gi_755, [], []), [((0, 0, 0), gi_756, [], [], [1]), ((0, 1, 0), [(0, 15), (0, 0), (0, 15), (0, 0)], [], [], [1])])
theorem hd_1123 : con_1123.1 = (yX12_in, cX12_in, 6, (some .boolean)) := rfl
noncomputable def ct_1123 : CTB2 := []
noncomputable def cu_1123 : List CUT2 := []
theorem ch_1123 : staG tb_X12_in 1 bt_RX12 [] ct_1123 [] [] cu_1123 11 con_1123 = true := by decide +kernel
theorem cto_1123 (l : Launch) : CTOK2 l RX12 vwCl gTbl ct_1123 := ct2_nil
theorem vl_1123 (l : Launch) : Vld2 l vwCl gTbl con_1123 := conR_ok3 gT_all (hd_1123) rfl pn_RX12 tk_X12_in bo_RX12 xo_RX12 (cto_1123 l) ch_1123 cut_nil
/-- RookHustingModel isAhead -/
noncomputable def gi_757 : GI := jl_n [jl_z 1, jl_i 0 15, jl_z 45, jl_i 1 16, jl_i 0 3, jl_i 0 10, jl_i 0 5, jl_i 0 8, jl_i 0 5, jl_i 0 7, jl_i 0 30, jl_i 1 2147483647, jl_z 15]
noncomputable def con_1124 : Con2 := ((yX12_isAhead, cX12_isAhead, 3, (some .boolean)), (1, 25), ([(6, 0, 0), (4, 1, 0)], gi_301, [ac_437, ac_438], []), [((0, 0, 0), gi_302, [(false, ac_437), (false, ac_438)], [], [1]), ((0, 1, 0), gi_757, [(false, ac_437), (false, ac_438)], [], [1])])
theorem hd_1124 : con_1124.1 = (yX12_isAhead, cX12_isAhead, 3, (some .boolean)) := rfl
theorem ck_RX12_91_1123 : COK2 RX12 vwCl gTbl 91 1 con_1123 := ⟨wd_1544, wd_137, mh_X12_in, .inl ⟨rfl, wd_1542, wd_1543, pd_X12_in⟩⟩
noncomputable def ct_1124 : CTB2 := [(1, 99, 0, con_673, [0, 1]), (10, 103, 0, con_1100, [0, 1]), (16, 91, 1, con_1123, [])]
noncomputable def cu_1124 : List CUT2 := []
theorem ch_1124 : staG tb_X12_isAhead 1 bt_RX12 [] ct_1124 [] [] cu_1124 17 con_1124 = true := by decide +kernel
theorem cto_1124 (l : Launch) : CTOK2 l RX12 vwCl gTbl ct_1124 := ct2_cons (vl_673 l) ck_RX12_99_673 (ct2_cons (vl_1100 l) ck_RX12_103_1100 (ct2_cons (vl_1123 l) ck_RX12_91_1123 (ct2_nil)))
theorem vl_1124 (l : Launch) : Vld2 l vwCl gTbl con_1124 := conR_ok3 gT_all (hd_1124) rfl pn_RX12 tk_X12_isAhead bo_RX12 xo_RX12 (cto_1124 l) ch_1124 cut_nil
/-- RookHustingModel asksAhead -/
noncomputable def gi_758 : GI := jl_n [jl_z 1, jl_i 0 15, jl_z 17, jl_i 0 128, jl_z 3, jl_r 2 (jl_t), jl_r 2 (jl_m 0 4), jl_z 20, jl_i 1 16, jl_i 0 3, jl_i 0 10, jl_i 0 5, jl_i 0 8, jl_i 0 5, jl_i 0 7, jl_i 0 30, jl_i 1 2147483647, jl_z 60]
noncomputable def con_1125 : Con2 := ((yX12_asksAhead, cX12_asksAhead, 2, (some .boolean)), (9, 208), ([(6, 0, 0), (1, 1, 0)], gi_508, hc_148, []), [((0, 0, 0), gi_744, hq_567, [], [1, 1, 1, 1, 1, 1, 1, 1, 1, 1, 1, 1, 1, 1, 1, 1, 1, 1, 1, 1, 1, 1, 1, 1, 1, 1, 1, 1, 1, 1, 1, 1, 1, 1, 1, 1, 1, 1, 1, 1, 1, 1, 1, 1, 1, 1]), ((0, 1, 0), gi_758, hq_567, [], [1, 1, 1, 1, 1, 1, 1, 1, 1, 1, 1, 1, 1, 1, 1, 1, 1, 1, 1, 1, 1, 1, 1, 1, 1, 1, 1, 1, 1, 1, 1, 1, 1, 1, 1, 1, 1, 1, 1, 1, 1, 1, 1, 1, 1, 1])])
theorem hd_1125 : con_1125.1 = (yX12_asksAhead, cX12_asksAhead, 2, (some .boolean)) := rfl
theorem ck_RX12_372_1124 : COK2 RX12 vwCl gTbl 372 0 con_1124 := ⟨wd_1922, wd_137, mh_X12_isAhead, .inr (.inr ⟨rfl, wd_1919, wd_1921, wd_103, ⟨_, rfl, pd_X12_isAhead⟩, 12, _, TX12, 45, rfl, rfl⟩)⟩
noncomputable def ct_1125 : CTB2 := [(1, 366, 0, con_1109, [0, 1, 2, 3, 4, 5, 6, 7, 8, 9, 10, 11, 12]), (8, 372, 0, con_1124, [0, 1])]
noncomputable def cu_1125 : List CUT2 := []
theorem ch_1125 : staG tb_X12_asksAhead 1 bt_RX12 [] ct_1125 [] [] cu_1125 10 con_1125 = true := by decide +kernel
theorem cto_1125 (l : Launch) : CTOK2 l RX12 vwCl gTbl ct_1125 := ct2_cons (vl_1109 l) ck_RX12_366_1109 (ct2_cons (vl_1124 l) ck_RX12_372_1124 (ct2_nil))
theorem vl_1125 (l : Launch) : Vld2 l vwCl gTbl con_1125 := conR_ok3 gT_all (hd_1125) rfl pn_RX12 tk_X12_asksAhead bo_RX12 xo_RX12 (cto_1125 l) ch_1125 cut_nil
/-- RookHustingModel eaten -/
noncomputable def con_1126 : Con2 := ((yX12_eaten, cX12_eaten, 3, (some .int)), (10, 229), ([(6, 0, 0), (1, 1, 0), (1, 2, 0)], gi_746, hc_149, []), [((1, 71, 0), gi_747, hq_568, [], [1, 1, 1, 1, 1, 1, 1, 1, 1, 1, 1, 1, 1, 1, 1, 1, 1, 1, 1, 1, 1, 1, 1, 1, 1, 1, 1, 1, 1, 1, 1, 1, 1, 1, 1, 1, 1, 1, 1, 1, 1, 1, 1, 1, 1, 1])])
theorem hd_1126 : con_1126.1 = (yX12_eaten, cX12_eaten, 3, (some .int)) := rfl
theorem ck_RX12_381_1125 : COK2 RX12 vwCl gTbl 381 0 con_1125 := ⟨wd_1918, wd_137, mh_X12_asksAhead, .inr (.inr ⟨rfl, wd_1915, wd_1917, wd_102, ⟨_, rfl, pd_X12_asksAhead⟩, 12, _, TX12, 45, rfl, rfl⟩)⟩
noncomputable def ct_1126 : CTB2 := [(2, 381, 0, con_1125, [0, 1, 2, 3, 4, 5, 6, 7, 8, 9, 10, 11, 12]), (11, 109, 0, con_647, [0, 1])]
noncomputable def cu_1126 : List CUT2 := []
theorem ch_1126 : staG tb_X12_eaten 1 bt_RX12 [] ct_1126 [] [] cu_1126 21 con_1126 = true := by decide +kernel
theorem cto_1126 (l : Launch) : CTOK2 l RX12 vwCl gTbl ct_1126 := ct2_cons (vl_1125 l) ck_RX12_381_1125 (ct2_cons (vl_647 l) ck_RX12_109_647 (ct2_nil))
theorem vl_1126 (l : Launch) : Vld2 l vwCl gTbl con_1126 := conR_ok3 gT_all (hd_1126) rfl pn_RX12 tk_X12_eaten bo_RX12 xo_RX12 (cto_1126 l) ch_1126 cut_nil
/-- RookHusting cellNow -/
noncomputable def ac_635 : AC := .inl (3, jl_n [jl_6 23 1, jl_6 19 1, jl_6 21 1, jl_6 27 2, jl_6 2 1, jl_6 22 1, jl_1 118 2])
noncomputable def hc_156 : List AC := [ac_592, .inr (1, [(85, (2, (-1), 4))]), .inl (9, [(6, 4, 0), (6, 12, 0)]), .inl (7, [(6, 5, 0), (6, 6, 0), (6, 7, 0), (1, 25, 0)]), ac_629, .inr (1, [(5, (2, (-1), 4))]), .inr (1, [(5, (2, (-2147483648), 2147483647))]), .inr (1, [(5, (2, (-2147483648), 2147483647))]), .inr (1, [(5, (2, (-2147483648), 2147483647))]), .inl (1, [(6, 4, 0), (8, 44, 0)]), .inr (1, [(35, (2, (-2147483648), 2147483647))]), .inr (1, [(7, (2, 0, 9))]), .inl (0, [(1, 45, 0), (6, 13, 0), (6, 14, 0), (6, 15, 0)]), ac_594, .inr (1, [(30, (2, 0, 4))]), ac_595, ac_635, .inr (1, [(5, (2, 0, 40))]), .inr (1, [(85, (2, (-2147483648), 2147483647))]), .inr (1, [(5, (2, 0, 300))]), .inr (1, [(85, (2, (-2147483648), 2147483647))]), .inr (1, [(5, (2, (-2147483648), 2147483647))]), .inr (1, [(85, (2, (-2147483648), 2147483647))]), .inr (1, [(5, (2, 0, 40))]), .inr (1, [(5, (2, 0, 9))]), .inr (1, [(85, (2, (-2147483648), 2147483647))]), .inr (1, [(85, (2, (-2147483648), 2147483647))])]
noncomputable def gi_759 : GI := jl_n [jl_z 2, jl_i 0 4, jl_i 0 15, jl_z 13, jl_i 0 1, jl_z 7, jl_t, jl_z 1, jl_i 0 16, jl_i 0 3, jl_z 1, jl_i 0 5, jl_z 1, jl_i 0 5, jl_i 0 7, jl_z 11, jl_i 0 30, jl_z 3, jl_r 30 (jl_i 0 1), jl_r 30 (jl_m 0 15), jl_z 7, jl_i 0 5, jl_i 0 16, jl_m 0 4, jl_z 19, jl_t, jl_z 7, jl_i 0 5, jl_i 0 16]
noncomputable def ac_636 : AC := .inl (3, jl_n [jl_6 23 1, jl_6 19 1, jl_6 21 1, jl_6 27 2, jl_6 2 1, jl_6 22 1, jl_1 148 2])
noncomputable def hq_576 : HP := [(true, ac_597), (true, .inr (1, [(85, (2, (-1), 4))])), (false, .inl (9, [(6, 4, 0), (6, 12, 0)])), (true, .inl (7, [(6, 5, 0), (6, 6, 0), (6, 7, 0), (1, 138, 0)])), (false, ac_629), (true, .inr (1, [(5, (2, (-1), 4))])), (true, .inr (1, [(5, (2, (-2147483648), 2147483647))])), (true, .inr (1, [(5, (2, (-2147483648), 2147483647))])), (false, .inr (1, [(5, (2, (-2147483648), 2147483647))])), (false, .inl (1, [(6, 4, 0), (8, 44, 0)])), (false, .inr (1, [(35, (2, (-2147483648), 2147483647))])), (false, .inr (1, [(7, (2, 0, 9))])), (false, .inl (0, [(1, 45, 0), (6, 13, 0), (6, 14, 0), (6, 15, 0)])), (false, ac_594), (false, .inr (1, [(30, (2, 0, 4))])), (false, ac_595), (true, ac_636), (false, .inr (1, [(5, (2, 0, 40))])), (true, .inr (1, [(85, (2, (-2147483648), 2147483647))])), (false, .inr (1, [(5, (2, 0, 300))])), (true, .inr (1, [(85, (2, (-2147483648), 2147483647))])), (true, .inr (1, [(5, (2, (-2147483648), 2147483647))])), (true, .inr (1, [(85, (2, (-2147483648), 2147483647))])), (false, .inr (1, [(5, (2, 0, 40))])), (false, .inr (1, [(5, (2, 0, 9))])), (true, .inr (1, [(85, (2, (-2147483648), 2147483647))])), (true, .inr (1, [(85, (2, (-2147483648), 2147483647))]))]
noncomputable def con_1127 : Con2 := ((yX11_cellNow, cX11_cellNow, 4, (some .int)), (6, 151), ([(6, 0, 0), (6, 1, 0), (1, 2, 0), (1, 3, 0)], gi_751, hc_156, rq_4), [((1, 118, 0), gi_759, hq_576, [], [1, 1, 1, 1, 1, 1, 1, 1, 1, 1, 1, 1, 1, 1, 1, 1, 1, 1, 1, 1, 1, 1, 1, 1, 1, 1, 1, 1, 1, 1])])
theorem hd_1127 : con_1127.1 = (yX11_cellNow, cX11_cellNow, 4, (some .int)) := rfl
noncomputable def ct_1127 : CTB2 := [(1, 208, 0, con_900, [0, 2, 3, 4, 5, 6, 7, 8, 9, 10, 11, 12, 13, 14, 15, 16, 17, 18, 19, 20, 21, 22, 23, 24, 25, 26, 1])]
noncomputable def cu_1127 : List CUT2 := []
theorem ch_1127 : staG tb_X11_cellNow 1 bt_RX11 [] ct_1127 [] [] cu_1127 12 con_1127 = true := by decide +kernel
theorem cto_1127 (l : Launch) : CTOK2 l RX11 vwCl gTbl ct_1127 := ct2_cons (vl_900 l) ck_RX11_208_900 (ct2_nil)
theorem vl_1127 (l : Launch) : Vld2 l vwCl gTbl con_1127 := conR_ok3 gT_all (hd_1127) rfl pn_RX11 tk_X11_cellNow bo_RX11 xo_RX11 (cto_1127 l) ch_1127 cut_nil
/-- RookHusting flies -/
noncomputable def ac_637 : AC := .inl (3, jl_n [jl_6 23 1, jl_6 19 1, jl_6 21 1, jl_6 27 2, jl_6 5 1, jl_6 22 1, jl_1 47 2])
noncomputable def hc_157 : List AC := [ac_599, .inl (9, [(6, 2, 0), (6, 13, 0)]), ac_632, ac_637, .inr (1, [(85, (2, (-1), 4))]), .inl (7, [(6, 6, 0), (6, 7, 0), (6, 8, 0), (1, 50, 0)]), .inr (1, [(5, (2, (-1), 4))]), .inr (1, [(5, (2, (-2147483648), 2147483647))]), .inr (1, [(5, (2, (-2147483648), 2147483647))]), .inr (1, [(5, (2, (-2147483648), 2147483647))]), .inl (1, [(6, 2, 0), (8, 52, 0)]), .inr (1, [(35, (2, (-2147483648), 2147483647))]), .inr (1, [(7, (2, 0, 9))]), .inl (0, [(1, 53, 0), (6, 14, 0), (6, 15, 0), (6, 16, 0)]), ac_602, .inr (1, [(30, (2, 0, 4))]), ac_603, .inr (1, [(5, (2, 0, 40))]), .inr (1, [(85, (2, (-2147483648), 2147483647))]), .inr (1, [(5, (2, 0, 300))]), .inr (1, [(85, (2, (-2147483648), 2147483647))]), .inr (1, [(5, (2, (-2147483648), 2147483647))]), .inr (1, [(85, (2, (-2147483648), 2147483647))]), .inr (1, [(5, (2, 0, 40))]), .inr (1, [(5, (2, 0, 9))]), .inr (1, [(85, (2, (-2147483648), 2147483647))]), .inr (1, [(85, (2, (-2147483648), 2147483647))])]
noncomputable def gi_760 : GI := jl_n [jl_z 1, jl_r 2 (jl_t), jl_z 13, jl_i 0 1, jl_z 5, jl_i 0 16, jl_i 0 3, jl_z 1, jl_i 0 5, jl_z 1, jl_i 0 5, jl_i 0 7, jl_z 16, jl_i 0 5, jl_i 0 16, jl_z 3, jl_t, jl_z 2, jl_i 0 30, jl_z 3, jl_r 30 (jl_i 0 1), jl_r 30 (jl_m 0 15), jl_m 1 4, jl_z 13, jl_i 0 1, jl_z 9, jl_i 0 5, jl_i 0 16, jl_z 3, jl_t]
noncomputable def ac_638 : AC := .inl (3, jl_n [jl_6 23 1, jl_6 19 1, jl_6 21 1, jl_6 27 2, jl_6 5 1, jl_6 22 1, jl_1 143 2])
noncomputable def hq_577 : HP := [(true, ac_604), (false, .inl (9, [(6, 2, 0), (6, 13, 0)])), (false, ac_632), (true, ac_638), (true, .inr (1, [(85, (2, (-1), 4))])), (true, .inl (7, [(6, 6, 0), (6, 7, 0), (6, 8, 0), (1, 146, 0)])), (true, .inr (1, [(5, (2, (-1), 4))])), (true, .inr (1, [(5, (2, (-2147483648), 2147483647))])), (true, .inr (1, [(5, (2, (-2147483648), 2147483647))])), (false, .inr (1, [(5, (2, (-2147483648), 2147483647))])), (false, .inl (1, [(6, 2, 0), (8, 52, 0)])), (false, .inr (1, [(35, (2, (-2147483648), 2147483647))])), (false, .inr (1, [(7, (2, 0, 9))])), (false, .inl (0, [(1, 53, 0), (6, 14, 0), (6, 15, 0), (6, 16, 0)])), (false, ac_602), (false, .inr (1, [(30, (2, 0, 4))])), (false, ac_603), (false, .inr (1, [(5, (2, 0, 40))])), (true, .inr (1, [(85, (2, (-2147483648), 2147483647))])), (false, .inr (1, [(5, (2, 0, 300))])), (true, .inr (1, [(85, (2, (-2147483648), 2147483647))])), (true, .inr (1, [(5, (2, (-2147483648), 2147483647))])), (true, .inr (1, [(85, (2, (-2147483648), 2147483647))])), (false, .inr (1, [(5, (2, 0, 40))])), (false, .inr (1, [(5, (2, 0, 9))])), (true, .inr (1, [(85, (2, (-2147483648), 2147483647))])), (true, .inr (1, [(85, (2, (-2147483648), 2147483647))]))]
noncomputable def con_1128 : Con2 := ((yX11_flies, cX11_flies, 3, (some .int)), (7, 174), ([(6, 0, 0), (1, 1, 0), (1, 2, 0)], gi_753, hc_157, rq_5), [((1, 117, 0), gi_760, hq_577, [], [1, 1, 1, 1, 1, 1, 1, 1, 1, 1, 1, 1, 1, 1, 1, 1, 1, 1, 1, 1, 1, 1, 1, 1, 1, 1, 1, 1, 1, 1])])
theorem hd_1128 : con_1128.1 = (yX11_flies, cX11_flies, 3, (some .int)) := rfl
theorem ck_RX11_266_1127 : COK2 RX11 vwCl gTbl 266 0 con_1127 := ⟨wd_1023, wd_125, mh_X11_cellNow, .inr (.inr ⟨rfl, wd_1020, wd_1022, wd_32, ⟨_, rfl, pd_X11_cellNow⟩, 11, _, TX11, 16, rfl, rfl⟩)⟩
noncomputable def ct_1128 : CTB2 := [(2, 139, 0, con_643, [0, 1, 2]), (10, 272, 0, con_1120, [0, 1, 2]), (26, 266, 0, con_1127, [0, 4, 1, 5, 2, 6, 7, 8, 9, 10, 11, 12, 13, 14, 15, 16, 3, 17, 18, 19, 20, 21, 22, 23, 24, 25, 26])]
noncomputable def cu_1128 : List CUT2 := []
theorem ch_1128 : staG tb_X11_flies 1 bt_RX11 [] ct_1128 [] [] cu_1128 19 con_1128 = true := by decide +kernel
theorem cto_1128 (l : Launch) : CTOK2 l RX11 vwCl gTbl ct_1128 := ct2_cons (vl_643 l) ck_RX11_139_643 (ct2_cons (vl_1120 l) ck_RX11_272_1120 (ct2_cons (vl_1127 l) ck_RX11_266_1127 (ct2_nil)))
theorem vl_1128 (l : Launch) : Vld2 l vwCl gTbl con_1128 := conR_ok3 gT_all (hd_1128) rfl pn_RX11 tk_X11_flies bo_RX11 xo_RX11 (cto_1128 l) ch_1128 cut_nil
/-- RookHustingModel flies -/
noncomputable def gi_761 : GI := jl_n [jl_z 1, jl_r 2 (jl_t), jl_z 17, jl_i 0 128, jl_z 3, jl_r 2 (jl_t), jl_r 2 (jl_m 0 4), jl_z 20, jl_i 0 16, jl_i 0 3, jl_i 0 10, jl_i 0 5, jl_i 0 8, jl_i 0 5, jl_i 0 7, jl_i 0 30, jl_i 0 2147483647, jl_z 14, jl_m 1 4, jl_z 45]
noncomputable def con_1129 : Con2 := ((yX12_flies, cX12_flies, 3, (some .int)), (10, 229), ([(6, 0, 0), (1, 1, 0), (1, 2, 0)], gi_746, hc_149, []), [((1, 71, 0), gi_761, hq_568, [], [1, 1, 1, 1, 1, 1, 1, 1, 1, 1, 1, 1, 1, 1, 1, 1, 1, 1, 1, 1, 1, 1, 1, 1, 1, 1, 1, 1, 1, 1, 1, 1, 1, 1, 1, 1, 1, 1, 1, 1, 1, 1, 1, 1, 1, 1])])
theorem hd_1129 : con_1129.1 = (yX12_flies, cX12_flies, 3, (some .int)) := rfl
noncomputable def ct_1129 : CTB2 := [(2, 381, 0, con_1125, [0, 1, 2, 3, 4, 5, 6, 7, 8, 9, 10, 11, 12]), (11, 109, 0, con_647, [0, 1])]
noncomputable def cu_1129 : List CUT2 := []
theorem ch_1129 : staG tb_X12_flies 1 bt_RX12 [] ct_1129 [] [] cu_1129 21 con_1129 = true := by decide +kernel
theorem cto_1129 (l : Launch) : CTOK2 l RX12 vwCl gTbl ct_1129 := ct2_cons (vl_1125 l) ck_RX12_381_1125 (ct2_cons (vl_647 l) ck_RX12_109_647 (ct2_nil))
theorem vl_1129 (l : Launch) : Vld2 l vwCl gTbl con_1129 := conR_ok3 gT_all (hd_1129) rfl pn_RX12 tk_X12_flies bo_RX12 xo_RX12 (cto_1129 l) ch_1129 cut_nil
/-- RookHusting$Harvest sumOf -/
noncomputable def gi_762 : GI := jl_n [jl_z 2, jl_i 0 16, jl_z 7, jl_i 0 5, jl_z 1]
noncomputable def ac_639 : AC := .inl (3, jl_n [jl_8 5 2, jl_6 2 1, jl_8 10 4, jl_1 11 1, jl_8 12 1])
noncomputable def gi_763 : GI := jl_n [jl_z 2, jl_i 0 16, jl_z 7, jl_i 0 5, jl_z 1, jl_t]
noncomputable def hq_578 : HP := [(false, ac_639), (false, .inr (1, [(85, (2, (-2147483648), 2147483647))]))]
noncomputable def con_1130 : Con2 := ((yX3_sumOf, cX3_sumOf, 5, (some .int)), (0, 0), ([(6, 0, 0), (6, 1, 0), (1, 2, 0)], gi_762, [ac_639, .inr (1, [(85, (2, (-2147483648), 2147483647))])], []), [((1, 12, 0), gi_763, hq_578, [], [1])])
theorem hd_1130 : con_1130.1 = (yX3_sumOf, cX3_sumOf, 5, (some .int)) := rfl
noncomputable def ct_1130 : CTB2 := []
noncomputable def gi_764 : GI := jl_n [jl_z 2, jl_i 0 16, jl_z 7, jl_i 0 5, jl_z 4, jl_t, jl_i 0 5]
noncomputable def cu_1130 : List CUT2 := [((5, [(0, (6, 0, 0)), (1, (6, 1, 0)), (2, (1, 2, 0)), (3, (1, 15, 0)), (4, (1, 16, 0))], [], gi_764, hq_578), [], ([(16, (-1))], 5))]
theorem ch_1130 : staG tb_X3_sumOf 1 bt_RX3 [] ct_1130 [] [] cu_1130 19 con_1130 = true := by decide +kernel
theorem cc_1130 : cu_1130.all (cutG tb_X3_sumOf 1 bt_RX3 [] ct_1130 [] [] cu_1130 19 con_1130) = true := by decide +kernel
theorem cto_1130 (l : Launch) : CTOK2 l RX3 vwCl gTbl ct_1130 := ct2_nil
theorem vl_1130 (l : Launch) : Vld2 l vwCl gTbl con_1130 := conR_ok3 gT_all (hd_1130) rfl pn_RX3 tk_X3_sumOf bo_RX3 xo_RX3 (cto_1130 l) ch_1130 (cut_all cc_1130)
/-- RookHusting sumNow -/
noncomputable def gi_765 : GI := jl_n [jl_z 2, jl_i 0 16, jl_z 13, jl_i 0 1, jl_z 7, jl_t, jl_z 1, jl_i 0 16, jl_i 0 3, jl_z 1, jl_i 0 5, jl_z 1, jl_i 0 5, jl_i 0 7, jl_z 11, jl_i 0 30, jl_z 3, jl_r 30 (jl_i 0 1), jl_r 30 (jl_m 0 15), jl_z 7, jl_i 0 5, jl_i 0 16]
noncomputable def ac_640 : AC := .inl (11, jl_n [jl_8 5 2, jl_6 3 1, jl_8 8 2, jl_6 10 1, jl_6 4 1, jl_8 11 1, jl_6 17 1, jl_8 16 4, jl_1 17 1, jl_8 19 2])
noncomputable def ac_641 : AC := .inl (4, jl_n [jl_8 26 1, jl_1 28 2, jl_8 29 1, jl_1 30 1, jl_8 31 1, jl_1 33 2, jl_6 20 1, jl_6 18 1, jl_6 9 1, jl_6 24 2, jl_6 12 1, jl_8 41 2, jl_6 11 1])
noncomputable def ac_642 : AC := .inr (1, jl_n [js_1 78 30])
noncomputable def ac_643 : AC := .inr (1, jl_n [js_1 108 30])
noncomputable def ac_644 : AC := .inl (3, jl_n [jl_6 22 1, jl_6 19 1, jl_6 2 1, jl_6 27 3, jl_6 21 1, jl_1 117 2])
noncomputable def hc_158 : List AC := [ac_640, .inr (1, [(85, (2, (-2147483648), 2147483647))]), .inl (9, [(6, 4, 0), (6, 12, 0)]), .inl (7, [(6, 5, 0), (6, 6, 0), (6, 7, 0), (1, 24, 0)]), ac_641, .inr (1, [(5, (2, (-1), 4))]), .inr (1, [(5, (2, (-2147483648), 2147483647))]), .inr (1, [(5, (2, (-2147483648), 2147483647))]), .inr (1, [(5, (2, (-2147483648), 2147483647))]), .inl (1, [(6, 4, 0), (8, 43, 0)]), .inr (1, [(35, (2, (-2147483648), 2147483647))]), .inr (1, [(7, (2, 0, 9))]), .inl (0, [(1, 44, 0), (6, 13, 0), (6, 14, 0), (6, 15, 0)]), ac_642, .inr (1, [(30, (2, 0, 4))]), ac_643, ac_644, .inr (1, [(5, (2, 0, 40))]), .inr (1, [(85, (2, (-2147483648), 2147483647))]), .inr (1, [(5, (2, 0, 300))]), .inr (1, [(5, (2, (-2147483648), 2147483647))]), .inr (1, [(85, (2, (-2147483648), 2147483647))]), .inr (1, [(5, (2, 0, 40))]), .inr (1, [(5, (2, 0, 9))]), .inr (1, [(85, (2, (-2147483648), 2147483647))]), .inr (1, [(85, (2, (-2147483648), 2147483647))]), .inr (1, [(85, (2, (-1), 4))])]
noncomputable def rq_6 : RLs := [([(48, 12), (78, (-1))], 4), ([(49, 12), (79, (-1))], 4), ([(50, 12), (80, (-1))], 4), ([(51, 12), (81, (-1))], 4), ([(52, 12), (82, (-1))], 4), ([(53, 12), (83, (-1))], 4), ([(54, 12), (84, (-1))], 4), ([(55, 12), (85, (-1))], 4), ([(56, 12), (86, (-1))], 4), ([(57, 12), (87, (-1))], 4), ([(58, 12), (88, (-1))], 4), ([(59, 12), (89, (-1))], 4), ([(60, 12), (90, (-1))], 4), ([(61, 12), (91, (-1))], 4), ([(62, 12), (92, (-1))], 4), ([(63, 12), (93, (-1))], 4), ([(64, 12), (94, (-1))], 4), ([(65, 12), (95, (-1))], 4), ([(66, 12), (96, (-1))], 4), ([(67, 12), (97, (-1))], 4), ([(68, 12), (98, (-1))], 4), ([(69, 12), (99, (-1))], 4), ([(70, 12), (100, (-1))], 4), ([(71, 12), (101, (-1))], 4), ([(72, 12), (102, (-1))], 4), ([(73, 12), (103, (-1))], 4), ([(74, 12), (104, (-1))], 4), ([(75, 12), (105, (-1))], 4), ([(76, 12), (106, (-1))], 4), ([(77, 12), (107, (-1))], 4)]
noncomputable def gi_766 : GI := jl_n [jl_z 2, jl_i 0 16, jl_z 13, jl_i 0 1, jl_z 7, jl_t, jl_z 1, jl_i 0 16, jl_i 0 3, jl_z 1, jl_i 0 5, jl_z 1, jl_i 0 5, jl_i 0 7, jl_z 11, jl_i 0 30, jl_z 3, jl_r 30 (jl_i 0 1), jl_r 30 (jl_m 0 15), jl_z 7, jl_i 0 5, jl_i 0 16, jl_t, jl_z 19, jl_t, jl_z 7, jl_i 0 5, jl_i 0 16]
noncomputable def ac_645 : AC := .inl (11, jl_n [jl_8 5 2, jl_6 3 1, jl_8 8 2, jl_6 10 1, jl_6 4 1, jl_8 11 1, jl_6 17 1, jl_8 16 4, jl_c 1, jl_8 19 2])
noncomputable def ac_646 : AC := .inl (3, jl_n [jl_6 22 1, jl_6 19 1, jl_6 2 1, jl_6 27 3, jl_6 21 1, jl_1 147 2])
noncomputable def hq_579 : HP := [(true, ac_645), (true, .inr (1, [(85, (2, (-2147483648), 2147483647))])), (false, .inl (9, [(6, 4, 0), (6, 12, 0)])), (true, .inl (7, [(6, 5, 0), (6, 6, 0), (6, 7, 0), (1, 137, 0)])), (false, ac_641), (true, .inr (1, [(5, (2, (-1), 4))])), (true, .inr (1, [(5, (2, (-2147483648), 2147483647))])), (true, .inr (1, [(5, (2, (-2147483648), 2147483647))])), (false, .inr (1, [(5, (2, (-2147483648), 2147483647))])), (false, .inl (1, [(6, 4, 0), (8, 43, 0)])), (false, .inr (1, [(35, (2, (-2147483648), 2147483647))])), (false, .inr (1, [(7, (2, 0, 9))])), (false, .inl (0, [(1, 44, 0), (6, 13, 0), (6, 14, 0), (6, 15, 0)])), (false, ac_642), (false, .inr (1, [(30, (2, 0, 4))])), (false, ac_643), (true, ac_646), (false, .inr (1, [(5, (2, 0, 40))])), (true, .inr (1, [(85, (2, (-2147483648), 2147483647))])), (false, .inr (1, [(5, (2, 0, 300))])), (true, .inr (1, [(5, (2, (-2147483648), 2147483647))])), (true, .inr (1, [(85, (2, (-2147483648), 2147483647))])), (false, .inr (1, [(5, (2, 0, 40))])), (false, .inr (1, [(5, (2, 0, 9))])), (true, .inr (1, [(85, (2, (-2147483648), 2147483647))])), (true, .inr (1, [(85, (2, (-2147483648), 2147483647))])), (true, .inr (1, [(85, (2, (-1), 4))]))]
noncomputable def con_1131 : Con2 := ((yX11_sumNow, cX11_sumNow, 3, (some .int)), (6, 151), ([(6, 0, 0), (6, 1, 0), (1, 2, 0)], gi_765, hc_158, rq_6), [((1, 117, 0), gi_766, hq_579, [], [1, 1, 1, 1, 1, 1, 1, 1, 1, 1, 1, 1, 1, 1, 1, 1, 1, 1, 1, 1, 1, 1, 1, 1, 1, 1, 1, 1, 1, 1])])
theorem hd_1131 : con_1131.1 = (yX11_sumNow, cX11_sumNow, 3, (some .int)) := rfl
theorem ck_RX11_300_1130 : COK2 RX11 vwCl gTbl 300 0 con_1130 := ⟨wd_1055, wd_134, mh_X3_sumOf, .inr (.inr ⟨rfl, wd_1052, wd_1053, wd_1054, ⟨_, rfl, pd_X3_sumOf⟩, 3, _, TX3, 9, rfl, rfl⟩)⟩
noncomputable def ct_1131 : CTB2 := [(1, 208, 0, con_900, [0, 2, 3, 4, 5, 6, 7, 8, 9, 10, 11, 12, 13, 14, 15, 16, 17, 18, 19, 1, 20, 21, 22, 23, 24, 25, 26]), (10, 300, 0, con_1130, [16, 1])]
noncomputable def cu_1131 : List CUT2 := []
theorem ch_1131 : staG tb_X11_sumNow 1 bt_RX11 [] ct_1131 [] [] cu_1131 10 con_1131 = true := by decide +kernel
theorem cto_1131 (l : Launch) : CTOK2 l RX11 vwCl gTbl ct_1131 := ct2_cons (vl_900 l) ck_RX11_208_900 (ct2_cons (vl_1130 l) ck_RX11_300_1130 (ct2_nil))
theorem vl_1131 (l : Launch) : Vld2 l vwCl gTbl con_1131 := conR_ok3 gT_all (hd_1131) rfl pn_RX11 tk_X11_sumNow bo_RX11 xo_RX11 (cto_1131 l) ch_1131 cut_nil
/-- RookHusting all -/
noncomputable def gi_767 : GI := jl_n [jl_z 1, jl_t, jl_z 13, jl_i 0 1, jl_z 4, jl_t, jl_i 0 16, jl_i 0 3, jl_z 1, jl_i 0 5, jl_z 1, jl_i 0 5, jl_i 0 7, jl_z 16, jl_i 0 5, jl_i 0 16, jl_z 3, jl_t, jl_z 2, jl_i 0 30, jl_z 3, jl_r 30 (jl_i 0 1), jl_r 30 (jl_m 0 15)]
noncomputable def ac_647 : AC := .inl (11, jl_n [jl_8 4 2, jl_6 2 1, jl_8 7 2, jl_6 11 1, jl_6 6 1, jl_8 10 1, jl_6 4 1, jl_8 15 4, jl_1 16 1, jl_8 18 2])
noncomputable def ac_648 : AC := .inl (4, jl_n [jl_1 23 3, jl_8 24 1, jl_1 25 1, jl_8 26 1, jl_1 28 2, jl_6 20 1, jl_6 18 1, jl_6 10 1, jl_6 24 2, jl_6 13 1, jl_8 36 2, jl_6 12 1])
noncomputable def ac_649 : AC := .inl (3, jl_n [jl_6 22 1, jl_6 19 1, jl_6 5 1, jl_6 27 3, jl_6 21 1, jl_1 46 2])
noncomputable def ac_650 : AC := .inr (1, jl_n [js_1 86 30])
noncomputable def ac_651 : AC := .inr (1, jl_n [js_1 116 30])
noncomputable def hc_159 : List AC := [ac_647, .inl (9, [(6, 2, 0), (6, 13, 0)]), ac_648, ac_649, .inr (1, [(85, (2, (-2147483648), 2147483647))]), .inl (7, [(6, 6, 0), (6, 7, 0), (6, 8, 0), (1, 49, 0)]), .inr (1, [(5, (2, (-1), 4))]), .inr (1, [(5, (2, (-2147483648), 2147483647))]), .inr (1, [(5, (2, (-2147483648), 2147483647))]), .inr (1, [(5, (2, (-2147483648), 2147483647))]), .inl (1, [(6, 2, 0), (8, 51, 0)]), .inr (1, [(35, (2, (-2147483648), 2147483647))]), .inr (1, [(7, (2, 0, 9))]), .inl (0, [(1, 52, 0), (6, 14, 0), (6, 15, 0), (6, 16, 0)]), ac_650, .inr (1, [(30, (2, 0, 4))]), ac_651, .inr (1, [(5, (2, 0, 40))]), .inr (1, [(85, (2, (-2147483648), 2147483647))]), .inr (1, [(5, (2, 0, 300))]), .inr (1, [(5, (2, (-2147483648), 2147483647))]), .inr (1, [(85, (2, (-2147483648), 2147483647))]), .inr (1, [(5, (2, 0, 40))]), .inr (1, [(5, (2, 0, 9))]), .inr (1, [(85, (2, (-2147483648), 2147483647))]), .inr (1, [(85, (2, (-2147483648), 2147483647))]), .inr (1, [(85, (2, (-1), 4))])]
noncomputable def rq_7 : RLs := [([(56, 12), (86, (-1))], 4), ([(57, 12), (87, (-1))], 4), ([(58, 12), (88, (-1))], 4), ([(59, 12), (89, (-1))], 4), ([(60, 12), (90, (-1))], 4), ([(61, 12), (91, (-1))], 4), ([(62, 12), (92, (-1))], 4), ([(63, 12), (93, (-1))], 4), ([(64, 12), (94, (-1))], 4), ([(65, 12), (95, (-1))], 4), ([(66, 12), (96, (-1))], 4), ([(67, 12), (97, (-1))], 4), ([(68, 12), (98, (-1))], 4), ([(69, 12), (99, (-1))], 4), ([(70, 12), (100, (-1))], 4), ([(71, 12), (101, (-1))], 4), ([(72, 12), (102, (-1))], 4), ([(73, 12), (103, (-1))], 4), ([(74, 12), (104, (-1))], 4), ([(75, 12), (105, (-1))], 4), ([(76, 12), (106, (-1))], 4), ([(77, 12), (107, (-1))], 4), ([(78, 12), (108, (-1))], 4), ([(79, 12), (109, (-1))], 4), ([(80, 12), (110, (-1))], 4), ([(81, 12), (111, (-1))], 4), ([(82, 12), (112, (-1))], 4), ([(83, 12), (113, (-1))], 4), ([(84, 12), (114, (-1))], 4), ([(85, 12), (115, (-1))], 4)]
noncomputable def gi_768 : GI := jl_n [jl_z 1, jl_t, jl_z 13, jl_i 0 1, jl_z 4, jl_t, jl_i 0 16, jl_i 0 3, jl_z 1, jl_i 0 5, jl_z 1, jl_i 0 5, jl_i 0 7, jl_z 16, jl_i 0 5, jl_i 0 16, jl_z 3, jl_t, jl_z 2, jl_i 0 30, jl_z 3, jl_r 30 (jl_i 0 1), jl_r 30 (jl_m 0 15), jl_t, jl_z 13, jl_i 0 1, jl_z 9, jl_i 0 5, jl_i 0 16, jl_z 3, jl_t]
noncomputable def ac_652 : AC := .inl (11, jl_n [jl_8 4 2, jl_6 2 1, jl_8 7 2, jl_6 11 1, jl_6 6 1, jl_8 10 1, jl_6 4 1, jl_8 15 4, jl_1 131 1, jl_8 18 2])
noncomputable def ac_653 : AC := .inl (3, jl_n [jl_6 22 1, jl_6 19 1, jl_6 5 1, jl_6 27 3, jl_6 21 1, jl_1 142 2])
noncomputable def hq_580 : HP := [(true, ac_652), (false, .inl (9, [(6, 2, 0), (6, 13, 0)])), (false, ac_648), (true, ac_653), (true, .inr (1, [(85, (2, (-2147483648), 2147483647))])), (true, .inl (7, [(6, 6, 0), (6, 7, 0), (6, 8, 0), (1, 145, 0)])), (true, .inr (1, [(5, (2, (-1), 4))])), (true, .inr (1, [(5, (2, (-2147483648), 2147483647))])), (true, .inr (1, [(5, (2, (-2147483648), 2147483647))])), (false, .inr (1, [(5, (2, (-2147483648), 2147483647))])), (false, .inl (1, [(6, 2, 0), (8, 51, 0)])), (false, .inr (1, [(35, (2, (-2147483648), 2147483647))])), (false, .inr (1, [(7, (2, 0, 9))])), (false, .inl (0, [(1, 52, 0), (6, 14, 0), (6, 15, 0), (6, 16, 0)])), (false, ac_650), (false, .inr (1, [(30, (2, 0, 4))])), (false, ac_651), (false, .inr (1, [(5, (2, 0, 40))])), (true, .inr (1, [(85, (2, (-2147483648), 2147483647))])), (false, .inr (1, [(5, (2, 0, 300))])), (true, .inr (1, [(5, (2, (-2147483648), 2147483647))])), (true, .inr (1, [(85, (2, (-2147483648), 2147483647))])), (false, .inr (1, [(5, (2, 0, 40))])), (false, .inr (1, [(5, (2, 0, 9))])), (true, .inr (1, [(85, (2, (-2147483648), 2147483647))])), (true, .inr (1, [(85, (2, (-2147483648), 2147483647))])), (true, .inr (1, [(85, (2, (-1), 4))]))]
noncomputable def con_1132 : Con2 := ((yX11_all, cX11_all, 2, (some .int)), (7, 173), ([(6, 0, 0), (1, 1, 0)], gi_767, hc_159, rq_7), [((1, 116, 0), gi_768, hq_580, [], [1, 1, 1, 1, 1, 1, 1, 1, 1, 1, 1, 1, 1, 1, 1, 1, 1, 1, 1, 1, 1, 1, 1, 1, 1, 1, 1, 1, 1, 1])])
theorem hd_1132 : con_1132.1 = (yX11_all, cX11_all, 2, (some .int)) := rfl
theorem ck_RX11_281_1131 : COK2 RX11 vwCl gTbl 281 0 con_1131 := ⟨wd_1051, wd_125, mh_X11_sumNow, .inr (.inr ⟨rfl, wd_1048, wd_1050, wd_34, ⟨_, rfl, pd_X11_sumNow⟩, 11, _, TX11, 16, rfl, rfl⟩)⟩
noncomputable def ct_1132 : CTB2 := [(2, 260, 0, con_1097, [0, 1, 2]), (17, 281, 0, con_1131, [0, 4, 1, 5, 2, 6, 7, 8, 9, 10, 11, 12, 13, 14, 15, 16, 3, 17, 18, 19, 20, 21, 22, 23, 24, 25, 26])]
noncomputable def cu_1132 : List CUT2 := []
theorem ch_1132 : staG tb_X11_all 1 bt_RX11 [] ct_1132 [] [] cu_1132 14 con_1132 = true := by decide +kernel
theorem cto_1132 (l : Launch) : CTOK2 l RX11 vwCl gTbl ct_1132 := ct2_cons (vl_1097 l) ck_RX11_260_1097 (ct2_cons (vl_1131 l) ck_RX11_281_1131 (ct2_nil))
theorem vl_1132 (l : Launch) : Vld2 l vwCl gTbl con_1132 := conR_ok3 gT_all (hd_1132) rfl pn_RX11 tk_X11_all bo_RX11 xo_RX11 (cto_1132 l) ch_1132 cut_nil
/-- RookHustingModel allCorn -/
noncomputable def gi_769 : GI := jl_n [jl_z 1, jl_i 0 16, jl_z 45, jl_i 0 16, jl_i 0 3, jl_i 0 10, jl_i 0 5, jl_i 0 8, jl_i 0 5, jl_i 0 7, jl_i 0 30, jl_i 0 2147483647, jl_z 14]
noncomputable def ac_654 : AC := .inl (12, jl_n [jl_8 3 1, jl_6 2 1, jl_8 29 25, jl_6 3 1, jl_8 47 17])
noncomputable def hc_160 : List AC := [ac_654, ac_438, .inr (1, [(85, (2, (-2147483648), 2147483647))])]
noncomputable def gi_770 : GI := jl_n [jl_z 1, jl_i 0 16, jl_z 45, jl_i 0 16, jl_i 0 3, jl_i 0 10, jl_i 0 5, jl_i 0 8, jl_i 0 5, jl_i 0 7, jl_i 0 30, jl_i 0 2147483647, jl_z 14, jl_t]
noncomputable def hq_581 : HP := [(false, ac_654), (false, ac_438), (false, .inr (1, [(85, (2, (-2147483648), 2147483647))]))]
noncomputable def con_1133 : Con2 := ((yX12_allCorn, cX12_allCorn, 4, (some .int)), (1, 20), ([(6, 0, 0), (1, 1, 0)], gi_769, hc_160, []), [((1, 70, 0), gi_770, hq_581, [], [1])])
theorem hd_1133 : con_1133.1 = (yX12_allCorn, cX12_allCorn, 4, (some .int)) := rfl
noncomputable def ct_1133 : CTB2 := [(6, 106, 0, con_646, [0, 1])]
noncomputable def gi_771 : GI := jl_n [jl_z 1, jl_i 0 16, jl_z 45, jl_i 0 16, jl_i 0 3, jl_i 0 10, jl_i 0 5, jl_i 0 8, jl_i 0 5, jl_i 0 7, jl_i 0 30, jl_i 0 2147483647, jl_z 16, jl_t, jl_i 0 5]
noncomputable def cu_1133 : List CUT2 := [((4, [(0, (6, 0, 0)), (1, (1, 1, 0)), (2, (1, 72, 0)), (3, (1, 73, 0))], [], gi_771, hq_581), [], ([(73, (-1))], 5))]
theorem ch_1133 : staG tb_X12_allCorn 1 bt_RX12 [] ct_1133 [] [] cu_1133 20 con_1133 = true := by decide +kernel
theorem cc_1133 : cu_1133.all (cutG tb_X12_allCorn 1 bt_RX12 [] ct_1133 [] [] cu_1133 20 con_1133) = true := by decide +kernel
theorem cto_1133 (l : Launch) : CTOK2 l RX12 vwCl gTbl ct_1133 := ct2_cons (vl_646 l) ck_RX12_106_646 (ct2_nil)
theorem vl_1133 (l : Launch) : Vld2 l vwCl gTbl con_1133 := conR_ok3 gT_all (hd_1133) rfl pn_RX12 tk_X12_allCorn bo_RX12 xo_RX12 (cto_1133 l) ch_1133 (cut_all cc_1133)
/-- RookHustingModel all -/
noncomputable def gi_772 : GI := jl_n [jl_z 1, jl_t, jl_z 17, jl_i 0 128, jl_z 3, jl_r 2 (jl_t), jl_r 2 (jl_m 0 4), jl_z 20, jl_i 0 16, jl_i 0 3, jl_i 0 10, jl_i 0 5, jl_i 0 8, jl_i 0 5, jl_i 0 7, jl_i 0 30, jl_i 0 2147483647, jl_z 14, jl_t, jl_z 45]
noncomputable def con_1134 : Con2 := ((yX12_all, cX12_all, 2, (some .int)), (10, 229), ([(6, 0, 0), (1, 1, 0)], gi_508, hc_148, []), [((1, 70, 0), gi_772, hq_567, [], [1, 1, 1, 1, 1, 1, 1, 1, 1, 1, 1, 1, 1, 1, 1, 1, 1, 1, 1, 1, 1, 1, 1, 1, 1, 1, 1, 1, 1, 1, 1, 1, 1, 1, 1, 1, 1, 1, 1, 1, 1, 1, 1, 1, 1, 1])])
theorem hd_1134 : con_1134.1 = (yX12_all, cX12_all, 2, (some .int)) := rfl
theorem ck_RX12_375_1133 : COK2 RX12 vwCl gTbl 375 0 con_1133 := ⟨wd_1934, wd_137, mh_X12_allCorn, .inr (.inr ⟨rfl, wd_1931, wd_1933, wd_104, ⟨_, rfl, pd_X12_allCorn⟩, 12, _, TX12, 45, rfl, rfl⟩)⟩
noncomputable def ct_1134 : CTB2 := [(2, 378, 0, con_1112, [0, 1, 2, 3, 4, 5, 6, 7, 8, 9, 10, 11, 12]), (10, 375, 0, con_1133, [0, 1, 7])]
noncomputable def cu_1134 : List CUT2 := []
theorem ch_1134 : staG tb_X12_all 1 bt_RX12 [] ct_1134 [] [] cu_1134 11 con_1134 = true := by decide +kernel
theorem cto_1134 (l : Launch) : CTOK2 l RX12 vwCl gTbl ct_1134 := ct2_cons (vl_1112 l) ck_RX12_378_1112 (ct2_cons (vl_1133 l) ck_RX12_375_1133 (ct2_nil))
theorem vl_1134 (l : Launch) : Vld2 l vwCl gTbl con_1134 := conR_ok3 gT_all (hd_1134) rfl pn_RX12 tk_X12_all bo_RX12 xo_RX12 (cto_1134 l) ch_1134 cut_nil
/-- RookHusting$Harvest fieldOfMost -/
noncomputable def ac_655 : AC := .inl (3, jl_n [jl_8 4 1, jl_6 2 1, jl_8 10 5, jl_1 11 1, jl_8 12 1])
noncomputable def gi_773 : GI := jl_n [jl_z 2, jl_i 0 16, jl_z 7, jl_i 0 5, jl_z 1, jl_m 0 4]
noncomputable def hq_582 : HP := [(false, ac_655), (false, .inr (1, [(85, (2, (-2147483648), 2147483647))]))]
noncomputable def con_1135 : Con2 := ((yX3_fieldOfMost, cX3_fieldOfMost, 5, (some .int)), (0, 0), ([(6, 0, 0), (6, 1, 0), (1, 2, 0)], gi_762, [ac_655, .inr (1, [(85, (2, (-2147483648), 2147483647))])], []), [((1, 12, 0), gi_773, hq_582, [], [1])])
theorem hd_1135 : con_1135.1 = (yX3_fieldOfMost, cX3_fieldOfMost, 5, (some .int)) := rfl
noncomputable def ct_1135 : CTB2 := []
noncomputable def gi_774 : GI := jl_n [jl_z 2, jl_i 0 16, jl_z 7, jl_i 0 5, jl_z 4, jl_m 0 4, jl_i 0 5]
noncomputable def cu_1135 : List CUT2 := [((5, [(0, (6, 0, 0)), (1, (6, 1, 0)), (2, (1, 2, 0)), (3, (1, 15, 0)), (4, (1, 16, 0))], [], gi_774, hq_582), [], ([(16, (-1))], 5))]
theorem ch_1135 : staG tb_X3_fieldOfMost 1 bt_RX3 [] ct_1135 [] [] cu_1135 29 con_1135 = true := by decide +kernel
theorem cc_1135 : cu_1135.all (cutG tb_X3_fieldOfMost 1 bt_RX3 [] ct_1135 [] [] cu_1135 29 con_1135) = true := by decide +kernel
theorem cto_1135 (l : Launch) : CTOK2 l RX3 vwCl gTbl ct_1135 := ct2_nil
theorem vl_1135 (l : Launch) : Vld2 l vwCl gTbl con_1135 := conR_ok3 gT_all (hd_1135) rfl pn_RX3 tk_X3_fieldOfMost bo_RX3 xo_RX3 (cto_1135 l) ch_1135 (cut_all cc_1135)
/-- RookHusting mostNow -/
noncomputable def ac_656 : AC := .inl (4, jl_n [jl_8 26 1, jl_1 28 2, jl_8 29 1, jl_1 30 1, jl_8 31 1, jl_1 33 2, jl_6 19 1, jl_6 18 1, jl_6 9 1, jl_6 24 2, jl_6 12 1, jl_8 41 2, jl_6 11 1])
noncomputable def ac_657 : AC := .inl (3, jl_n [jl_6 22 1, jl_6 2 1, jl_6 20 1, jl_6 27 3, jl_6 21 1, jl_1 117 2])
noncomputable def hc_161 : List AC := [ac_640, .inr (1, [(85, (2, (-2147483648), 2147483647))]), .inl (9, [(6, 4, 0), (6, 12, 0)]), .inl (7, [(6, 5, 0), (6, 6, 0), (6, 7, 0), (1, 24, 0)]), ac_656, .inr (1, [(5, (2, (-1), 4))]), .inr (1, [(5, (2, (-2147483648), 2147483647))]), .inr (1, [(5, (2, (-2147483648), 2147483647))]), .inr (1, [(5, (2, (-2147483648), 2147483647))]), .inl (1, [(6, 4, 0), (8, 43, 0)]), .inr (1, [(35, (2, (-2147483648), 2147483647))]), .inr (1, [(7, (2, 0, 9))]), .inl (0, [(1, 44, 0), (6, 13, 0), (6, 14, 0), (6, 15, 0)]), ac_642, .inr (1, [(30, (2, 0, 4))]), ac_643, ac_657, .inr (1, [(5, (2, 0, 40))]), .inr (1, [(5, (2, 0, 300))]), .inr (1, [(85, (2, (-2147483648), 2147483647))]), .inr (1, [(5, (2, (-2147483648), 2147483647))]), .inr (1, [(85, (2, (-2147483648), 2147483647))]), .inr (1, [(5, (2, 0, 40))]), .inr (1, [(5, (2, 0, 9))]), .inr (1, [(85, (2, (-2147483648), 2147483647))]), .inr (1, [(85, (2, (-2147483648), 2147483647))]), .inr (1, [(85, (2, (-1), 4))])]
noncomputable def gi_775 : GI := jl_n [jl_z 2, jl_i 0 16, jl_z 13, jl_i 0 1, jl_z 7, jl_t, jl_z 1, jl_i 0 16, jl_i 0 3, jl_z 1, jl_i 0 5, jl_z 1, jl_i 0 5, jl_i 0 7, jl_z 11, jl_i 0 30, jl_z 3, jl_r 30 (jl_i 0 1), jl_r 30 (jl_m 0 15), jl_z 7, jl_i 0 5, jl_i 0 16, jl_m 0 4, jl_z 19, jl_t, jl_z 7, jl_i 0 5, jl_i 0 16]
noncomputable def ac_658 : AC := .inl (3, jl_n [jl_6 22 1, jl_6 2 1, jl_6 20 1, jl_6 27 3, jl_6 21 1, jl_1 147 2])
noncomputable def hq_583 : HP := [(true, ac_645), (true, .inr (1, [(85, (2, (-2147483648), 2147483647))])), (false, .inl (9, [(6, 4, 0), (6, 12, 0)])), (true, .inl (7, [(6, 5, 0), (6, 6, 0), (6, 7, 0), (1, 137, 0)])), (false, ac_656), (true, .inr (1, [(5, (2, (-1), 4))])), (true, .inr (1, [(5, (2, (-2147483648), 2147483647))])), (true, .inr (1, [(5, (2, (-2147483648), 2147483647))])), (false, .inr (1, [(5, (2, (-2147483648), 2147483647))])), (false, .inl (1, [(6, 4, 0), (8, 43, 0)])), (false, .inr (1, [(35, (2, (-2147483648), 2147483647))])), (false, .inr (1, [(7, (2, 0, 9))])), (false, .inl (0, [(1, 44, 0), (6, 13, 0), (6, 14, 0), (6, 15, 0)])), (false, ac_642), (false, .inr (1, [(30, (2, 0, 4))])), (false, ac_643), (true, ac_658), (false, .inr (1, [(5, (2, 0, 40))])), (false, .inr (1, [(5, (2, 0, 300))])), (true, .inr (1, [(85, (2, (-2147483648), 2147483647))])), (true, .inr (1, [(5, (2, (-2147483648), 2147483647))])), (true, .inr (1, [(85, (2, (-2147483648), 2147483647))])), (false, .inr (1, [(5, (2, 0, 40))])), (false, .inr (1, [(5, (2, 0, 9))])), (true, .inr (1, [(85, (2, (-2147483648), 2147483647))])), (true, .inr (1, [(85, (2, (-2147483648), 2147483647))])), (true, .inr (1, [(85, (2, (-1), 4))]))]
noncomputable def con_1136 : Con2 := ((yX11_mostNow, cX11_mostNow, 3, (some .int)), (6, 151), ([(6, 0, 0), (6, 1, 0), (1, 2, 0)], gi_765, hc_161, rq_6), [((1, 117, 0), gi_775, hq_583, [], [1, 1, 1, 1, 1, 1, 1, 1, 1, 1, 1, 1, 1, 1, 1, 1, 1, 1, 1, 1, 1, 1, 1, 1, 1, 1, 1, 1, 1, 1])])
theorem hd_1136 : con_1136.1 = (yX11_mostNow, cX11_mostNow, 3, (some .int)) := rfl
theorem ck_RX11_464_1135 : COK2 RX11 vwCl gTbl 464 0 con_1135 := ⟨wd_1067, wd_134, mh_X3_fieldOfMost, .inr (.inr ⟨rfl, wd_1064, wd_1065, wd_1066, ⟨_, rfl, pd_X3_fieldOfMost⟩, 3, _, TX3, 9, rfl, rfl⟩)⟩
noncomputable def ct_1136 : CTB2 := [(1, 208, 0, con_900, [0, 2, 3, 4, 5, 6, 7, 8, 9, 10, 11, 12, 13, 14, 15, 16, 17, 1, 18, 19, 20, 21, 22, 23, 24, 25, 26]), (10, 464, 0, con_1135, [16, 1])]
noncomputable def cu_1136 : List CUT2 := []
theorem ch_1136 : staG tb_X11_mostNow 1 bt_RX11 [] ct_1136 [] [] cu_1136 10 con_1136 = true := by decide +kernel
theorem cto_1136 (l : Launch) : CTOK2 l RX11 vwCl gTbl ct_1136 := ct2_cons (vl_900 l) ck_RX11_208_900 (ct2_cons (vl_1135 l) ck_RX11_464_1135 (ct2_nil))
theorem vl_1136 (l : Launch) : Vld2 l vwCl gTbl con_1136 := conR_ok3 gT_all (hd_1136) rfl pn_RX11 tk_X11_mostNow bo_RX11 xo_RX11 (cto_1136 l) ch_1136 cut_nil
/-- RookHusting black -/
noncomputable def ac_659 : AC := .inl (4, jl_n [jl_1 23 3, jl_8 24 1, jl_1 25 1, jl_8 26 1, jl_1 28 2, jl_6 19 1, jl_6 18 1, jl_6 10 1, jl_6 24 2, jl_6 13 1, jl_8 36 2, jl_6 12 1])
noncomputable def ac_660 : AC := .inl (3, jl_n [jl_6 22 1, jl_6 5 1, jl_6 20 1, jl_6 27 3, jl_6 21 1, jl_1 46 2])
noncomputable def hc_162 : List AC := [ac_647, .inl (9, [(6, 2, 0), (6, 13, 0)]), ac_659, ac_660, .inr (1, [(85, (2, (-2147483648), 2147483647))]), .inl (7, [(6, 6, 0), (6, 7, 0), (6, 8, 0), (1, 49, 0)]), .inr (1, [(5, (2, (-1), 4))]), .inr (1, [(5, (2, (-2147483648), 2147483647))]), .inr (1, [(5, (2, (-2147483648), 2147483647))]), .inr (1, [(5, (2, (-2147483648), 2147483647))]), .inl (1, [(6, 2, 0), (8, 51, 0)]), .inr (1, [(35, (2, (-2147483648), 2147483647))]), .inr (1, [(7, (2, 0, 9))]), .inl (0, [(1, 52, 0), (6, 14, 0), (6, 15, 0), (6, 16, 0)]), ac_650, .inr (1, [(30, (2, 0, 4))]), ac_651, .inr (1, [(5, (2, 0, 40))]), .inr (1, [(5, (2, 0, 300))]), .inr (1, [(85, (2, (-2147483648), 2147483647))]), .inr (1, [(5, (2, (-2147483648), 2147483647))]), .inr (1, [(85, (2, (-2147483648), 2147483647))]), .inr (1, [(5, (2, 0, 40))]), .inr (1, [(5, (2, 0, 9))]), .inr (1, [(85, (2, (-2147483648), 2147483647))]), .inr (1, [(85, (2, (-2147483648), 2147483647))]), .inr (1, [(85, (2, (-1), 4))])]
noncomputable def gi_776 : GI := jl_n [jl_z 1, jl_t, jl_z 13, jl_i 0 1, jl_z 4, jl_t, jl_i 0 16, jl_i 0 3, jl_z 1, jl_i 0 5, jl_z 1, jl_i 0 5, jl_i 0 7, jl_z 16, jl_i 0 5, jl_i 0 16, jl_z 3, jl_t, jl_z 2, jl_i 0 30, jl_z 3, jl_r 30 (jl_i 0 1), jl_r 30 (jl_m 0 15), jl_m 1 4, jl_z 13, jl_i 0 1, jl_z 9, jl_i 0 5, jl_i 0 16, jl_z 3, jl_t]
noncomputable def ac_661 : AC := .inl (3, jl_n [jl_6 22 1, jl_6 5 1, jl_6 20 1, jl_6 27 3, jl_6 21 1, jl_1 142 2])
noncomputable def hq_584 : HP := [(true, ac_652), (false, .inl (9, [(6, 2, 0), (6, 13, 0)])), (false, ac_659), (true, ac_661), (true, .inr (1, [(85, (2, (-2147483648), 2147483647))])), (true, .inl (7, [(6, 6, 0), (6, 7, 0), (6, 8, 0), (1, 145, 0)])), (true, .inr (1, [(5, (2, (-1), 4))])), (true, .inr (1, [(5, (2, (-2147483648), 2147483647))])), (true, .inr (1, [(5, (2, (-2147483648), 2147483647))])), (false, .inr (1, [(5, (2, (-2147483648), 2147483647))])), (false, .inl (1, [(6, 2, 0), (8, 51, 0)])), (false, .inr (1, [(35, (2, (-2147483648), 2147483647))])), (false, .inr (1, [(7, (2, 0, 9))])), (false, .inl (0, [(1, 52, 0), (6, 14, 0), (6, 15, 0), (6, 16, 0)])), (false, ac_650), (false, .inr (1, [(30, (2, 0, 4))])), (false, ac_651), (false, .inr (1, [(5, (2, 0, 40))])), (false, .inr (1, [(5, (2, 0, 300))])), (true, .inr (1, [(85, (2, (-2147483648), 2147483647))])), (true, .inr (1, [(5, (2, (-2147483648), 2147483647))])), (true, .inr (1, [(85, (2, (-2147483648), 2147483647))])), (false, .inr (1, [(5, (2, 0, 40))])), (false, .inr (1, [(5, (2, 0, 9))])), (true, .inr (1, [(85, (2, (-2147483648), 2147483647))])), (true, .inr (1, [(85, (2, (-2147483648), 2147483647))])), (true, .inr (1, [(85, (2, (-1), 4))]))]
noncomputable def con_1137 : Con2 := ((yX11_black, cX11_black, 2, (some .int)), (7, 173), ([(6, 0, 0), (1, 1, 0)], gi_767, hc_162, rq_7), [((1, 116, 0), gi_776, hq_584, [], [1, 1, 1, 1, 1, 1, 1, 1, 1, 1, 1, 1, 1, 1, 1, 1, 1, 1, 1, 1, 1, 1, 1, 1, 1, 1, 1, 1, 1, 1])])
theorem hd_1137 : con_1137.1 = (yX11_black, cX11_black, 2, (some .int)) := rfl
theorem ck_RX11_285_1136 : COK2 RX11 vwCl gTbl 285 0 con_1136 := ⟨wd_1063, wd_125, mh_X11_mostNow, .inr (.inr ⟨rfl, wd_1060, wd_1062, wd_35, ⟨_, rfl, pd_X11_mostNow⟩, 11, _, TX11, 16, rfl, rfl⟩)⟩
noncomputable def ct_1137 : CTB2 := [(2, 260, 0, con_1097, [0, 1, 2]), (17, 285, 0, con_1136, [0, 4, 1, 5, 2, 6, 7, 8, 9, 10, 11, 12, 13, 14, 15, 16, 3, 17, 18, 19, 20, 21, 22, 23, 24, 25, 26])]
noncomputable def cu_1137 : List CUT2 := []
theorem ch_1137 : staG tb_X11_black 1 bt_RX11 [] ct_1137 [] [] cu_1137 14 con_1137 = true := by decide +kernel
theorem cto_1137 (l : Launch) : CTOK2 l RX11 vwCl gTbl ct_1137 := ct2_cons (vl_1097 l) ck_RX11_260_1097 (ct2_cons (vl_1136 l) ck_RX11_285_1136 (ct2_nil))
theorem vl_1137 (l : Launch) : Vld2 l vwCl gTbl con_1137 := conR_ok3 gT_all (hd_1137) rfl pn_RX11 tk_X11_black bo_RX11 xo_RX11 (cto_1137 l) ch_1137 cut_nil
/-- RookHustingModel black -/
noncomputable def con_1138 : Con2 := ((yX12_black, cX12_black, 4, (some .int)), (10, 229), ([(6, 0, 0), (1, 1, 0)], gi_508, hc_148, []), [((1, 70, 0), gi_509, hq_567, [], [1, 1, 1, 1, 1, 1, 1, 1, 1, 1, 1, 1, 1, 1, 1, 1, 1, 1, 1, 1, 1, 1, 1, 1, 1, 1, 1, 1, 1, 1, 1, 1, 1, 1, 1, 1, 1, 1, 1, 1, 1, 1, 1, 1, 1, 1])])
theorem hd_1138 : con_1138.1 = (yX12_black, cX12_black, 4, (some .int)) := rfl
noncomputable def ct_1138 : CTB2 := [(2, 378, 0, con_1112, [0, 1, 2, 3, 4, 5, 6, 7, 8, 9, 10, 11, 12]), (17, 106, 0, con_646, [0, 1])]
noncomputable def gi_777 : GI := jl_n [jl_z 1, jl_i 0 16, jl_z 17, jl_i 0 128, jl_z 3, jl_r 2 (jl_t), jl_r 2 (jl_m 0 4), jl_z 20, jl_i 0 16, jl_i 0 3, jl_i 0 10, jl_i 0 5, jl_i 0 8, jl_i 0 5, jl_i 0 7, jl_i 0 30, jl_i 1 2147483647, jl_z 16, jl_m 0 4, jl_i 0 5, jl_z 45]
noncomputable def cu_1138 : List CUT2 := [((15, [(0, (6, 0, 0)), (1, (1, 1, 0)), (2, (1, 72, 0)), (3, (1, 73, 0))], [], gi_777, hq_567), [], ([(73, (-1))], 5))]
theorem ch_1138 : staG tb_X12_black 1 bt_RX12 [] ct_1138 [] [] cu_1138 31 con_1138 = true := by decide +kernel
theorem cc_1138 : cu_1138.all (cutG tb_X12_black 1 bt_RX12 [] ct_1138 [] [] cu_1138 31 con_1138) = true := by decide +kernel
theorem cto_1138 (l : Launch) : CTOK2 l RX12 vwCl gTbl ct_1138 := ct2_cons (vl_1112 l) ck_RX12_378_1112 (ct2_cons (vl_646 l) ck_RX12_106_646 (ct2_nil))
theorem vl_1138 (l : Launch) : Vld2 l vwCl gTbl con_1138 := conR_ok3 gT_all (hd_1138) rfl pn_RX12 tk_X12_black bo_RX12 xo_RX12 (cto_1138 l) ch_1138 (cut_all cc_1138)
/-- RookHusting$Harvest firstZero -/
noncomputable def gi_778 : GI := jl_n [jl_z 2, jl_i 0 4, jl_z 8, jl_i 0 16]
noncomputable def ac_662 : AC := .inl (3, jl_n [jl_6 2 1, jl_8 11 7, jl_1 12 1])
noncomputable def gi_779 : GI := jl_n [jl_z 2, jl_i 0 4, jl_z 8, jl_i 0 16, jl_m 0 16]
noncomputable def hq_585 : HP := [(false, ac_662), (false, .inr (1, [(85, (2, (-2147483648), 2147483647))]))]
noncomputable def con_1139 : Con2 := ((yX3_firstZero, cX3_firstZero, 4, (some .int)), (0, 0), ([(6, 0, 0), (6, 1, 0), (1, 2, 0)], gi_778, [ac_662, .inr (1, [(85, (2, (-2147483648), 2147483647))])], []), [((1, 12, 0), gi_779, hq_585, [], [1])])
theorem hd_1139 : con_1139.1 = (yX3_firstZero, cX3_firstZero, 4, (some .int)) := rfl
noncomputable def ct_1139 : CTB2 := []
noncomputable def gi_780 : GI := jl_n [jl_z 2, jl_i 0 4, jl_z 8, jl_i 0 16, jl_z 3, jl_i 0 17]
noncomputable def cu_1139 : List CUT2 := [((2, [(0, (6, 0, 0)), (1, (6, 1, 0)), (2, (1, 2, 0)), (3, (1, 15, 0))], [], gi_780, hq_585), [], ([(15, (-1))], 17))]
theorem ch_1139 : staG tb_X3_firstZero 1 bt_RX3 [] ct_1139 [] [] cu_1139 17 con_1139 = true := by decide +kernel
theorem cc_1139 : cu_1139.all (cutG tb_X3_firstZero 1 bt_RX3 [] ct_1139 [] [] cu_1139 17 con_1139) = true := by decide +kernel
theorem cto_1139 (l : Launch) : CTOK2 l RX3 vwCl gTbl ct_1139 := ct2_nil
theorem vl_1139 (l : Launch) : Vld2 l vwCl gTbl con_1139 := conR_ok3 gT_all (hd_1139) rfl pn_RX3 tk_X3_firstZero bo_RX3 xo_RX3 (cto_1139 l) ch_1139 (cut_all cc_1139)
/-- RookHusting firstZeroNow -/
noncomputable def gi_781 : GI := jl_n [jl_z 2, jl_i 0 4, jl_z 13, jl_i 0 1, jl_z 7, jl_t, jl_z 1, jl_i 0 16, jl_i 0 3, jl_z 1, jl_i 0 5, jl_z 1, jl_i 0 5, jl_i 0 7, jl_z 11, jl_i 0 30, jl_z 3, jl_r 30 (jl_i 0 1), jl_r 30 (jl_m 0 15), jl_z 7, jl_i 0 5, jl_i 0 16]
noncomputable def ac_663 : AC := .inl (3, jl_n [jl_6 2 1, jl_6 19 1, jl_6 21 1, jl_6 27 3, jl_6 22 1, jl_1 117 2])
noncomputable def hc_163 : List AC := [ac_640, .inr (1, [(85, (2, (-2147483648), 2147483647))]), .inl (9, [(6, 4, 0), (6, 12, 0)]), .inl (7, [(6, 5, 0), (6, 6, 0), (6, 7, 0), (1, 24, 0)]), ac_641, .inr (1, [(5, (2, (-1), 4))]), .inr (1, [(5, (2, (-2147483648), 2147483647))]), .inr (1, [(5, (2, (-2147483648), 2147483647))]), .inr (1, [(5, (2, (-2147483648), 2147483647))]), .inl (1, [(6, 4, 0), (8, 43, 0)]), .inr (1, [(35, (2, (-2147483648), 2147483647))]), .inr (1, [(7, (2, 0, 9))]), .inl (0, [(1, 44, 0), (6, 13, 0), (6, 14, 0), (6, 15, 0)]), ac_642, .inr (1, [(30, (2, 0, 4))]), ac_643, ac_663, .inr (1, [(5, (2, 0, 40))]), .inr (1, [(85, (2, (-2147483648), 2147483647))]), .inr (1, [(5, (2, 0, 300))]), .inr (1, [(85, (2, (-2147483648), 2147483647))]), .inr (1, [(5, (2, (-2147483648), 2147483647))]), .inr (1, [(5, (2, 0, 40))]), .inr (1, [(5, (2, 0, 9))]), .inr (1, [(85, (2, (-2147483648), 2147483647))]), .inr (1, [(85, (2, (-2147483648), 2147483647))]), .inr (1, [(85, (2, (-1), 4))])]
noncomputable def gi_782 : GI := jl_n [jl_z 2, jl_i 0 4, jl_z 13, jl_i 0 1, jl_z 7, jl_t, jl_z 1, jl_i 0 16, jl_i 0 3, jl_z 1, jl_i 0 5, jl_z 1, jl_i 0 5, jl_i 0 7, jl_z 11, jl_i 0 30, jl_z 3, jl_r 30 (jl_i 0 1), jl_r 30 (jl_m 0 15), jl_z 7, jl_i 0 5, jl_i 0 16, jl_m 0 16, jl_z 19, jl_t, jl_z 7, jl_i 0 5, jl_i 0 16]
noncomputable def ac_664 : AC := .inl (3, jl_n [jl_6 2 1, jl_6 19 1, jl_6 21 1, jl_6 27 3, jl_6 22 1, jl_1 147 2])
noncomputable def hq_586 : HP := [(true, ac_645), (true, .inr (1, [(85, (2, (-2147483648), 2147483647))])), (false, .inl (9, [(6, 4, 0), (6, 12, 0)])), (true, .inl (7, [(6, 5, 0), (6, 6, 0), (6, 7, 0), (1, 137, 0)])), (false, ac_641), (true, .inr (1, [(5, (2, (-1), 4))])), (true, .inr (1, [(5, (2, (-2147483648), 2147483647))])), (true, .inr (1, [(5, (2, (-2147483648), 2147483647))])), (false, .inr (1, [(5, (2, (-2147483648), 2147483647))])), (false, .inl (1, [(6, 4, 0), (8, 43, 0)])), (false, .inr (1, [(35, (2, (-2147483648), 2147483647))])), (false, .inr (1, [(7, (2, 0, 9))])), (false, .inl (0, [(1, 44, 0), (6, 13, 0), (6, 14, 0), (6, 15, 0)])), (false, ac_642), (false, .inr (1, [(30, (2, 0, 4))])), (false, ac_643), (true, ac_664), (false, .inr (1, [(5, (2, 0, 40))])), (true, .inr (1, [(85, (2, (-2147483648), 2147483647))])), (false, .inr (1, [(5, (2, 0, 300))])), (true, .inr (1, [(85, (2, (-2147483648), 2147483647))])), (true, .inr (1, [(5, (2, (-2147483648), 2147483647))])), (false, .inr (1, [(5, (2, 0, 40))])), (false, .inr (1, [(5, (2, 0, 9))])), (true, .inr (1, [(85, (2, (-2147483648), 2147483647))])), (true, .inr (1, [(85, (2, (-2147483648), 2147483647))])), (true, .inr (1, [(85, (2, (-1), 4))]))]
noncomputable def con_1140 : Con2 := ((yX11_firstZeroNow, cX11_firstZeroNow, 3, (some .int)), (6, 151), ([(6, 0, 0), (6, 1, 0), (1, 2, 0)], gi_781, hc_163, rq_6), [((1, 117, 0), gi_782, hq_586, [], [1, 1, 1, 1, 1, 1, 1, 1, 1, 1, 1, 1, 1, 1, 1, 1, 1, 1, 1, 1, 1, 1, 1, 1, 1, 1, 1, 1, 1, 1])])
theorem hd_1140 : con_1140.1 = (yX11_firstZeroNow, cX11_firstZeroNow, 3, (some .int)) := rfl
theorem ck_RX11_467_1139 : COK2 RX11 vwCl gTbl 467 0 con_1139 := ⟨wd_1083, wd_134, mh_X3_firstZero, .inr (.inr ⟨rfl, wd_1080, wd_1081, wd_1082, ⟨_, rfl, pd_X3_firstZero⟩, 3, _, TX3, 9, rfl, rfl⟩)⟩
noncomputable def ct_1140 : CTB2 := [(1, 208, 0, con_900, [0, 2, 3, 4, 5, 6, 7, 8, 9, 10, 11, 12, 13, 14, 15, 16, 17, 18, 19, 20, 21, 1, 22, 23, 24, 25, 26]), (10, 467, 0, con_1139, [16, 1])]
noncomputable def cu_1140 : List CUT2 := []
theorem ch_1140 : staG tb_X11_firstZeroNow 1 bt_RX11 [] ct_1140 [] [] cu_1140 10 con_1140 = true := by decide +kernel
theorem cto_1140 (l : Launch) : CTOK2 l RX11 vwCl gTbl ct_1140 := ct2_cons (vl_900 l) ck_RX11_208_900 (ct2_cons (vl_1139 l) ck_RX11_467_1139 (ct2_nil))
theorem vl_1140 (l : Launch) : Vld2 l vwCl gTbl con_1140 := conR_ok3 gT_all (hd_1140) rfl pn_RX11 tk_X11_firstZeroNow bo_RX11 xo_RX11 (cto_1140 l) ch_1140 cut_nil
/-- RookHusting shoulder -/
noncomputable def gi_783 : GI := jl_n [jl_z 1, jl_t, jl_z 13, jl_i 0 1, jl_z 5, jl_i 0 16, jl_i 0 3, jl_z 1, jl_i 0 5, jl_z 1, jl_i 0 5, jl_i 0 7, jl_z 16, jl_i 0 5, jl_i 0 16, jl_z 3, jl_t, jl_z 2, jl_i 0 30, jl_z 3, jl_r 30 (jl_i 0 1), jl_r 30 (jl_m 0 15)]
noncomputable def ac_665 : AC := .inl (4, jl_n [jl_8 21 1, jl_1 23 2, jl_8 24 1, jl_1 25 1, jl_8 26 1, jl_1 28 2, jl_6 20 1, jl_6 18 1, jl_6 10 1, jl_6 24 2, jl_6 13 1, jl_8 36 2, jl_6 12 1])
noncomputable def ac_666 : AC := .inl (3, jl_n [jl_6 5 1, jl_6 19 1, jl_6 21 1, jl_6 27 3, jl_6 22 1, jl_1 46 2])
noncomputable def hc_164 : List AC := [ac_647, .inl (9, [(6, 2, 0), (6, 13, 0)]), ac_665, ac_666, .inr (1, [(85, (2, (-2147483648), 2147483647))]), .inl (7, [(6, 6, 0), (6, 7, 0), (6, 8, 0), (1, 49, 0)]), .inr (1, [(5, (2, (-1), 4))]), .inr (1, [(5, (2, (-2147483648), 2147483647))]), .inr (1, [(5, (2, (-2147483648), 2147483647))]), .inr (1, [(5, (2, (-2147483648), 2147483647))]), .inl (1, [(6, 2, 0), (8, 51, 0)]), .inr (1, [(35, (2, (-2147483648), 2147483647))]), .inr (1, [(7, (2, 0, 9))]), .inl (0, [(1, 52, 0), (6, 14, 0), (6, 15, 0), (6, 16, 0)]), ac_650, .inr (1, [(30, (2, 0, 4))]), ac_651, .inr (1, [(5, (2, 0, 40))]), .inr (1, [(85, (2, (-2147483648), 2147483647))]), .inr (1, [(5, (2, 0, 300))]), .inr (1, [(85, (2, (-2147483648), 2147483647))]), .inr (1, [(5, (2, (-2147483648), 2147483647))]), .inr (1, [(5, (2, 0, 40))]), .inr (1, [(5, (2, 0, 9))]), .inr (1, [(85, (2, (-2147483648), 2147483647))]), .inr (1, [(85, (2, (-2147483648), 2147483647))]), .inr (1, [(85, (2, (-1), 4))])]
noncomputable def gi_784 : GI := jl_n [jl_z 1, jl_t, jl_z 13, jl_i 0 1, jl_z 5, jl_i 0 16, jl_i 0 3, jl_z 1, jl_i 0 5, jl_z 1, jl_i 0 5, jl_i 0 7, jl_z 16, jl_i 0 5, jl_i 0 16, jl_z 3, jl_t, jl_z 2, jl_i 0 30, jl_z 3, jl_r 30 (jl_i 0 1), jl_r 30 (jl_m 0 15), jl_m 1 16, jl_z 13, jl_i 0 1, jl_z 9, jl_i 0 5, jl_i 0 16, jl_z 3, jl_t]
noncomputable def ac_667 : AC := .inl (3, jl_n [jl_6 5 1, jl_6 19 1, jl_6 21 1, jl_6 27 3, jl_6 22 1, jl_1 142 2])
noncomputable def hq_587 : HP := [(true, ac_652), (false, .inl (9, [(6, 2, 0), (6, 13, 0)])), (false, ac_665), (true, ac_667), (true, .inr (1, [(85, (2, (-2147483648), 2147483647))])), (true, .inl (7, [(6, 6, 0), (6, 7, 0), (6, 8, 0), (1, 145, 0)])), (true, .inr (1, [(5, (2, (-1), 4))])), (true, .inr (1, [(5, (2, (-2147483648), 2147483647))])), (true, .inr (1, [(5, (2, (-2147483648), 2147483647))])), (false, .inr (1, [(5, (2, (-2147483648), 2147483647))])), (false, .inl (1, [(6, 2, 0), (8, 51, 0)])), (false, .inr (1, [(35, (2, (-2147483648), 2147483647))])), (false, .inr (1, [(7, (2, 0, 9))])), (false, .inl (0, [(1, 52, 0), (6, 14, 0), (6, 15, 0), (6, 16, 0)])), (false, ac_650), (false, .inr (1, [(30, (2, 0, 4))])), (false, ac_651), (false, .inr (1, [(5, (2, 0, 40))])), (true, .inr (1, [(85, (2, (-2147483648), 2147483647))])), (false, .inr (1, [(5, (2, 0, 300))])), (true, .inr (1, [(85, (2, (-2147483648), 2147483647))])), (true, .inr (1, [(5, (2, (-2147483648), 2147483647))])), (false, .inr (1, [(5, (2, 0, 40))])), (false, .inr (1, [(5, (2, 0, 9))])), (true, .inr (1, [(85, (2, (-2147483648), 2147483647))])), (true, .inr (1, [(85, (2, (-2147483648), 2147483647))])), (true, .inr (1, [(85, (2, (-1), 4))]))]
noncomputable def con_1141 : Con2 := ((yX11_shoulder, cX11_shoulder, 2, (some .int)), (7, 173), ([(6, 0, 0), (1, 1, 0)], gi_783, hc_164, rq_7), [((1, 116, 0), gi_784, hq_587, [], [1, 1, 1, 1, 1, 1, 1, 1, 1, 1, 1, 1, 1, 1, 1, 1, 1, 1, 1, 1, 1, 1, 1, 1, 1, 1, 1, 1, 1, 1])])
theorem hd_1141 : con_1141.1 = (yX11_shoulder, cX11_shoulder, 2, (some .int)) := rfl
theorem ck_RX11_288_1140 : COK2 RX11 vwCl gTbl 288 0 con_1140 := ⟨wd_1079, wd_125, mh_X11_firstZeroNow, .inr (.inr ⟨rfl, wd_1076, wd_1078, wd_36, ⟨_, rfl, pd_X11_firstZeroNow⟩, 11, _, TX11, 16, rfl, rfl⟩)⟩
noncomputable def ct_1141 : CTB2 := [(2, 139, 0, con_643, [0, 1, 2]), (17, 288, 0, con_1140, [0, 4, 1, 5, 2, 6, 7, 8, 9, 10, 11, 12, 13, 14, 15, 16, 3, 17, 18, 19, 20, 21, 22, 23, 24, 25, 26])]
noncomputable def cu_1141 : List CUT2 := []
theorem ch_1141 : staG tb_X11_shoulder 1 bt_RX11 [] ct_1141 [] [] cu_1141 14 con_1141 = true := by decide +kernel
theorem cto_1141 (l : Launch) : CTOK2 l RX11 vwCl gTbl ct_1141 := ct2_cons (vl_643 l) ck_RX11_139_643 (ct2_cons (vl_1140 l) ck_RX11_288_1140 (ct2_nil))
theorem vl_1141 (l : Launch) : Vld2 l vwCl gTbl con_1141 := conR_ok3 gT_all (hd_1141) rfl pn_RX11 tk_X11_shoulder bo_RX11 xo_RX11 (cto_1141 l) ch_1141 cut_nil
/-- RookHustingModel asksField -/
noncomputable def gi_785 : GI := jl_n [jl_z 1, jl_i 0 4, jl_z 17, jl_i 0 128, jl_z 3, jl_r 2 (jl_t), jl_r 2 (jl_m 0 4), jl_z 20, jl_i 0 16, jl_i 0 3, jl_i 0 10, jl_i 1 5, jl_i 0 8, jl_i 0 5, jl_i 0 7, jl_i 0 30, jl_i 0 2147483647, jl_z 60]
noncomputable def con_1142 : Con2 := ((yX12_asksField, cX12_asksField, 2, (some .boolean)), (9, 208), ([(6, 0, 0), (1, 1, 0)], gi_508, hc_148, []), [((0, 0, 0), gi_744, hq_567, [], [1, 1, 1, 1, 1, 1, 1, 1, 1, 1, 1, 1, 1, 1, 1, 1, 1, 1, 1, 1, 1, 1, 1, 1, 1, 1, 1, 1, 1, 1, 1, 1, 1, 1, 1, 1, 1, 1, 1, 1, 1, 1, 1, 1, 1, 1]), ((0, 1, 0), gi_785, hq_567, [], [1, 1, 1, 1, 1, 1, 1, 1, 1, 1, 1, 1, 1, 1, 1, 1, 1, 1, 1, 1, 1, 1, 1, 1, 1, 1, 1, 1, 1, 1, 1, 1, 1, 1, 1, 1, 1, 1, 1, 1, 1, 1, 1, 1, 1, 1])])
theorem hd_1142 : con_1142.1 = (yX12_asksField, cX12_asksField, 2, (some .boolean)) := rfl
noncomputable def ct_1142 : CTB2 := [(1, 366, 0, con_1109, [0, 1, 2, 3, 4, 5, 6, 7, 8, 9, 10, 11, 12]), (8, 109, 0, con_647, [0, 1])]
noncomputable def cu_1142 : List CUT2 := []
theorem ch_1142 : staG tb_X12_asksField 1 bt_RX12 [] ct_1142 [] [] cu_1142 10 con_1142 = true := by decide +kernel
theorem cto_1142 (l : Launch) : CTOK2 l RX12 vwCl gTbl ct_1142 := ct2_cons (vl_1109 l) ck_RX12_366_1109 (ct2_cons (vl_647 l) ck_RX12_109_647 (ct2_nil))
theorem vl_1142 (l : Launch) : Vld2 l vwCl gTbl con_1142 := conR_ok3 gT_all (hd_1142) rfl pn_RX12 tk_X12_asksField bo_RX12 xo_RX12 (cto_1142 l) ch_1142 cut_nil
/-- RookHustingModel shoulder -/
noncomputable def gi_786 : GI := jl_n [jl_z 1, jl_t, jl_z 17, jl_i 0 128, jl_z 3, jl_r 2 (jl_t), jl_r 2 (jl_m 0 4), jl_z 20, jl_i 0 16, jl_i 0 3, jl_i 0 10, jl_i 0 5, jl_i 0 8, jl_i 0 5, jl_i 0 7, jl_i 0 30, jl_i 0 2147483647, jl_z 14, jl_m 1 16, jl_z 45]
noncomputable def con_1143 : Con2 := ((yX12_shoulder, cX12_shoulder, 3, (some .int)), (10, 229), ([(6, 0, 0), (1, 1, 0)], gi_508, hc_148, []), [((1, 70, 0), gi_786, hq_567, [], [1, 1, 1, 1, 1, 1, 1, 1, 1, 1, 1, 1, 1, 1, 1, 1, 1, 1, 1, 1, 1, 1, 1, 1, 1, 1, 1, 1, 1, 1, 1, 1, 1, 1, 1, 1, 1, 1, 1, 1, 1, 1, 1, 1, 1, 1])])
theorem hd_1143 : con_1143.1 = (yX12_shoulder, cX12_shoulder, 3, (some .int)) := rfl
theorem ck_RX12_384_1142 : COK2 RX12 vwCl gTbl 384 0 con_1142 := ⟨wd_1946, wd_137, mh_X12_asksField, .inr (.inr ⟨rfl, wd_1943, wd_1945, wd_105, ⟨_, rfl, pd_X12_asksField⟩, 12, _, TX12, 45, rfl, rfl⟩)⟩
noncomputable def ct_1143 : CTB2 := [(2, 384, 0, con_1142, [0, 1, 2, 3, 4, 5, 6, 7, 8, 9, 10, 11, 12]), (15, 103, 0, con_1100, [0, 1])]
noncomputable def gi_787 : GI := jl_n [jl_z 1, jl_i 0 4, jl_z 17, jl_i 0 128, jl_z 3, jl_r 2 (jl_t), jl_r 2 (jl_m 0 4), jl_z 20, jl_i 0 16, jl_i 0 3, jl_i 0 10, jl_i 1 5, jl_i 0 8, jl_i 0 5, jl_i 0 7, jl_i 0 30, jl_i 0 2147483647, jl_z 16, jl_i 0 17, jl_z 45]
noncomputable def cu_1143 : List CUT2 := [((13, [(0, (6, 0, 0)), (1, (1, 1, 0)), (2, (1, 72, 0))], [], gi_787, hq_567), [], ([(72, (-1))], 17))]
theorem ch_1143 : staG tb_X12_shoulder 1 bt_RX12 [] ct_1143 [] [] cu_1143 18 con_1143 = true := by decide +kernel
theorem cc_1143 : cu_1143.all (cutG tb_X12_shoulder 1 bt_RX12 [] ct_1143 [] [] cu_1143 18 con_1143) = true := by decide +kernel
theorem cto_1143 (l : Launch) : CTOK2 l RX12 vwCl gTbl ct_1143 := ct2_cons (vl_1142 l) ck_RX12_384_1142 (ct2_cons (vl_1100 l) ck_RX12_103_1100 (ct2_nil))
theorem vl_1143 (l : Launch) : Vld2 l vwCl gTbl con_1143 := conR_ok3 gT_all (hd_1143) rfl pn_RX12 tk_X12_shoulder bo_RX12 xo_RX12 (cto_1143 l) ch_1143 (cut_all cc_1143)
/-- RookHusting$Harvest firstZero -/
noncomputable def ac_668 : AC := .inl (3, jl_n [jl_8 5 2, jl_6 2 1, jl_8 11 5, jl_1 12 1])
noncomputable def hq_588 : HP := [(false, ac_668), (false, .inr (1, [(85, (2, (-2147483648), 2147483647))]))]
noncomputable def con_1144 : Con2 := ((yX3_firstZero, cX3_firstZero, 4, (some .int)), (0, 0), ([(6, 0, 0), (6, 1, 0), (1, 2, 0)], gi_778, [ac_668, .inr (1, [(85, (2, (-2147483648), 2147483647))])], []), [((1, 12, 0), gi_779, hq_588, [], [1])])
theorem hd_1144 : con_1144.1 = (yX3_firstZero, cX3_firstZero, 4, (some .int)) := rfl
noncomputable def ct_1144 : CTB2 := []
noncomputable def cu_1144 : List CUT2 := [((2, [(0, (6, 0, 0)), (1, (6, 1, 0)), (2, (1, 2, 0)), (3, (1, 15, 0))], [], gi_780, hq_588), [], ([(15, (-1))], 17))]
theorem ch_1144 : staG tb_X3_firstZero 1 bt_RX3 [] ct_1144 [] [] cu_1144 17 con_1144 = true := by decide +kernel
theorem cc_1144 : cu_1144.all (cutG tb_X3_firstZero 1 bt_RX3 [] ct_1144 [] [] cu_1144 17 con_1144) = true := by decide +kernel
theorem cto_1144 (l : Launch) : CTOK2 l RX3 vwCl gTbl ct_1144 := ct2_nil
theorem vl_1144 (l : Launch) : Vld2 l vwCl gTbl con_1144 := conR_ok3 gT_all (hd_1144) rfl pn_RX3 tk_X3_firstZero bo_RX3 xo_RX3 (cto_1144 l) ch_1144 (cut_all cc_1144)
/-- RookHusting firstZeroNow -/
noncomputable def con_1145 : Con2 := ((yX11_firstZeroNow, cX11_firstZeroNow, 3, (some .int)), (6, 151), ([(6, 0, 0), (6, 1, 0), (1, 2, 0)], gi_781, hc_158, rq_6), [((1, 117, 0), gi_782, hq_579, [], [1, 1, 1, 1, 1, 1, 1, 1, 1, 1, 1, 1, 1, 1, 1, 1, 1, 1, 1, 1, 1, 1, 1, 1, 1, 1, 1, 1, 1, 1])])
theorem hd_1145 : con_1145.1 = (yX11_firstZeroNow, cX11_firstZeroNow, 3, (some .int)) := rfl
theorem ck_RX11_467_1144 : COK2 RX11 vwCl gTbl 467 0 con_1144 := ⟨wd_1083, wd_134, mh_X3_firstZero, .inr (.inr ⟨rfl, wd_1080, wd_1081, wd_1082, ⟨_, rfl, pd_X3_firstZero⟩, 3, _, TX3, 9, rfl, rfl⟩)⟩
noncomputable def ct_1145 : CTB2 := [(1, 208, 0, con_900, [0, 2, 3, 4, 5, 6, 7, 8, 9, 10, 11, 12, 13, 14, 15, 16, 17, 18, 19, 1, 20, 21, 22, 23, 24, 25, 26]), (10, 467, 0, con_1144, [16, 1])]
noncomputable def cu_1145 : List CUT2 := []
theorem ch_1145 : staG tb_X11_firstZeroNow 1 bt_RX11 [] ct_1145 [] [] cu_1145 10 con_1145 = true := by decide +kernel
theorem cto_1145 (l : Launch) : CTOK2 l RX11 vwCl gTbl ct_1145 := ct2_cons (vl_900 l) ck_RX11_208_900 (ct2_cons (vl_1144 l) ck_RX11_467_1144 (ct2_nil))
theorem vl_1145 (l : Launch) : Vld2 l vwCl gTbl con_1145 := conR_ok3 gT_all (hd_1145) rfl pn_RX11 tk_X11_firstZeroNow bo_RX11 xo_RX11 (cto_1145 l) ch_1145 cut_nil
/-- RookHusting bare -/
noncomputable def hc_165 : List AC := [ac_647, .inl (9, [(6, 2, 0), (6, 13, 0)]), ac_665, ac_649, .inr (1, [(85, (2, (-2147483648), 2147483647))]), .inl (7, [(6, 6, 0), (6, 7, 0), (6, 8, 0), (1, 49, 0)]), .inr (1, [(5, (2, (-1), 4))]), .inr (1, [(5, (2, (-2147483648), 2147483647))]), .inr (1, [(5, (2, (-2147483648), 2147483647))]), .inr (1, [(5, (2, (-2147483648), 2147483647))]), .inl (1, [(6, 2, 0), (8, 51, 0)]), .inr (1, [(35, (2, (-2147483648), 2147483647))]), .inr (1, [(7, (2, 0, 9))]), .inl (0, [(1, 52, 0), (6, 14, 0), (6, 15, 0), (6, 16, 0)]), ac_650, .inr (1, [(30, (2, 0, 4))]), ac_651, .inr (1, [(5, (2, 0, 40))]), .inr (1, [(85, (2, (-2147483648), 2147483647))]), .inr (1, [(5, (2, 0, 300))]), .inr (1, [(5, (2, (-2147483648), 2147483647))]), .inr (1, [(85, (2, (-2147483648), 2147483647))]), .inr (1, [(5, (2, 0, 40))]), .inr (1, [(5, (2, 0, 9))]), .inr (1, [(85, (2, (-2147483648), 2147483647))]), .inr (1, [(85, (2, (-2147483648), 2147483647))]), .inr (1, [(85, (2, (-1), 4))])]
noncomputable def hq_589 : HP := [(true, ac_652), (false, .inl (9, [(6, 2, 0), (6, 13, 0)])), (false, ac_665), (true, ac_653), (true, .inr (1, [(85, (2, (-2147483648), 2147483647))])), (true, .inl (7, [(6, 6, 0), (6, 7, 0), (6, 8, 0), (1, 145, 0)])), (true, .inr (1, [(5, (2, (-1), 4))])), (true, .inr (1, [(5, (2, (-2147483648), 2147483647))])), (true, .inr (1, [(5, (2, (-2147483648), 2147483647))])), (false, .inr (1, [(5, (2, (-2147483648), 2147483647))])), (false, .inl (1, [(6, 2, 0), (8, 51, 0)])), (false, .inr (1, [(35, (2, (-2147483648), 2147483647))])), (false, .inr (1, [(7, (2, 0, 9))])), (false, .inl (0, [(1, 52, 0), (6, 14, 0), (6, 15, 0), (6, 16, 0)])), (false, ac_650), (false, .inr (1, [(30, (2, 0, 4))])), (false, ac_651), (false, .inr (1, [(5, (2, 0, 40))])), (true, .inr (1, [(85, (2, (-2147483648), 2147483647))])), (false, .inr (1, [(5, (2, 0, 300))])), (true, .inr (1, [(5, (2, (-2147483648), 2147483647))])), (true, .inr (1, [(85, (2, (-2147483648), 2147483647))])), (false, .inr (1, [(5, (2, 0, 40))])), (false, .inr (1, [(5, (2, 0, 9))])), (true, .inr (1, [(85, (2, (-2147483648), 2147483647))])), (true, .inr (1, [(85, (2, (-2147483648), 2147483647))])), (true, .inr (1, [(85, (2, (-1), 4))]))]
noncomputable def con_1146 : Con2 := ((yX11_bare, cX11_bare, 2, (some .int)), (7, 173), ([(6, 0, 0), (1, 1, 0)], gi_783, hc_165, rq_7), [((1, 116, 0), gi_784, hq_589, [], [1, 1, 1, 1, 1, 1, 1, 1, 1, 1, 1, 1, 1, 1, 1, 1, 1, 1, 1, 1, 1, 1, 1, 1, 1, 1, 1, 1, 1, 1])])
theorem hd_1146 : con_1146.1 = (yX11_bare, cX11_bare, 2, (some .int)) := rfl
theorem ck_RX11_288_1145 : COK2 RX11 vwCl gTbl 288 0 con_1145 := ⟨wd_1079, wd_125, mh_X11_firstZeroNow, .inr (.inr ⟨rfl, wd_1076, wd_1078, wd_36, ⟨_, rfl, pd_X11_firstZeroNow⟩, 11, _, TX11, 16, rfl, rfl⟩)⟩
noncomputable def ct_1146 : CTB2 := [(2, 139, 0, con_643, [0, 1, 2]), (17, 288, 0, con_1145, [0, 4, 1, 5, 2, 6, 7, 8, 9, 10, 11, 12, 13, 14, 15, 16, 3, 17, 18, 19, 20, 21, 22, 23, 24, 25, 26])]
noncomputable def cu_1146 : List CUT2 := []
theorem ch_1146 : staG tb_X11_bare 1 bt_RX11 [] ct_1146 [] [] cu_1146 14 con_1146 = true := by decide +kernel
theorem cto_1146 (l : Launch) : CTOK2 l RX11 vwCl gTbl ct_1146 := ct2_cons (vl_643 l) ck_RX11_139_643 (ct2_cons (vl_1145 l) ck_RX11_288_1145 (ct2_nil))
theorem vl_1146 (l : Launch) : Vld2 l vwCl gTbl con_1146 := conR_ok3 gT_all (hd_1146) rfl pn_RX11 tk_X11_bare bo_RX11 xo_RX11 (cto_1146 l) ch_1146 cut_nil
/-- RookHustingModel bare -/
noncomputable def con_1147 : Con2 := ((yX12_bare, cX12_bare, 3, (some .int)), (10, 229), ([(6, 0, 0), (1, 1, 0)], gi_508, hc_148, []), [((1, 70, 0), gi_786, hq_567, [], [1, 1, 1, 1, 1, 1, 1, 1, 1, 1, 1, 1, 1, 1, 1, 1, 1, 1, 1, 1, 1, 1, 1, 1, 1, 1, 1, 1, 1, 1, 1, 1, 1, 1, 1, 1, 1, 1, 1, 1, 1, 1, 1, 1, 1, 1])])
theorem hd_1147 : con_1147.1 = (yX12_bare, cX12_bare, 3, (some .int)) := rfl
noncomputable def ct_1147 : CTB2 := [(2, 384, 0, con_1142, [0, 1, 2, 3, 4, 5, 6, 7, 8, 9, 10, 11, 12]), (15, 103, 0, con_1100, [0, 1])]
noncomputable def cu_1147 : List CUT2 := [((13, [(0, (6, 0, 0)), (1, (1, 1, 0)), (2, (1, 72, 0))], [], gi_787, hq_567), [], ([(72, (-1))], 17))]
theorem ch_1147 : staG tb_X12_bare 1 bt_RX12 [] ct_1147 [] [] cu_1147 18 con_1147 = true := by decide +kernel
theorem cc_1147 : cu_1147.all (cutG tb_X12_bare 1 bt_RX12 [] ct_1147 [] [] cu_1147 18 con_1147) = true := by decide +kernel
theorem cto_1147 (l : Launch) : CTOK2 l RX12 vwCl gTbl ct_1147 := ct2_cons (vl_1142 l) ck_RX12_384_1142 (ct2_cons (vl_1100 l) ck_RX12_103_1100 (ct2_nil))
theorem vl_1147 (l : Launch) : Vld2 l vwCl gTbl con_1147 := conR_ok3 gT_all (hd_1147) rfl pn_RX12 tk_X12_bare bo_RX12 xo_RX12 (cto_1147 l) ch_1147 (cut_all cc_1147)
/-- RookHusting$Harvest daysEaten -/
noncomputable def gi_788 : GI := jl_n [jl_z 1, jl_i 0 4, jl_z 8, jl_i 0 16]
noncomputable def ac_669 : AC := .inl (3, jl_n [jl_8 5 3, jl_6 2 1, jl_8 10 4, jl_1 11 1])
noncomputable def gi_789 : GI := jl_n [jl_z 1, jl_i 0 4, jl_z 8, jl_i 0 16, jl_t]
noncomputable def hq_590 : HP := [(false, ac_669), (false, .inr (1, [(85, (2, (-2147483648), 2147483647))]))]
noncomputable def con_1152 : Con2 := ((yX3_daysEaten, cX3_daysEaten, 4, (some .int)), (0, 0), ([(6, 0, 0), (1, 1, 0)], gi_788, [ac_669, .inr (1, [(85, (2, (-2147483648), 2147483647))])], []), [((1, 11, 0), gi_789, hq_590, [], [1])])
theorem hd_1152 : con_1152.1 = (yX3_daysEaten, cX3_daysEaten, 4, (some .int)) := rfl
noncomputable def ct_1152 : CTB2 := []
noncomputable def gi_790 : GI := jl_n [jl_z 1, jl_i 0 4, jl_z 8, jl_i 0 16, jl_z 2, jl_t, jl_i 0 16]
noncomputable def cu_1152 : List CUT2 := [((4, [(0, (6, 0, 0)), (1, (1, 1, 0)), (2, (1, 13, 0)), (3, (1, 14, 0))], [], gi_790, hq_590), [], ([(14, (-1))], 16))]
theorem ch_1152 : staG tb_X3_daysEaten 1 bt_RX3 [] ct_1152 [] [] cu_1152 19 con_1152 = true := by decide +kernel
theorem cc_1152 : cu_1152.all (cutG tb_X3_daysEaten 1 bt_RX3 [] ct_1152 [] [] cu_1152 19 con_1152) = true := by decide +kernel
theorem cto_1152 (l : Launch) : CTOK2 l RX3 vwCl gTbl ct_1152 := ct2_nil
theorem vl_1152 (l : Launch) : Vld2 l vwCl gTbl con_1152 := conR_ok3 gT_all (hd_1152) rfl pn_RX3 tk_X3_daysEaten bo_RX3 xo_RX3 (cto_1152 l) ch_1152 (cut_all cc_1152)
/-- RookHusting kept -/
noncomputable def gi_791 : GI := jl_n [jl_z 14, jl_i 0 1, jl_z 4, jl_t, jl_i 0 16, jl_i 0 3, jl_z 1, jl_i 0 5, jl_z 1, jl_i 0 5, jl_i 0 7, jl_z 12, jl_t, jl_z 2, jl_i 0 30, jl_z 3, jl_r 30 (jl_i 0 1), jl_r 30 (jl_m 0 15), jl_z 7, jl_i 0 5, jl_i 0 16]
noncomputable def ac_670 : AC := .inl (11, jl_n [jl_8 3 2, jl_6 2 1, jl_8 6 2, jl_6 9 1, jl_6 4 1, jl_8 9 1, jl_6 16 1, jl_8 14 4, jl_1 15 1, jl_8 17 2])
noncomputable def ac_671 : AC := .inl (4, jl_n [jl_1 22 3, jl_8 23 1, jl_1 24 1, jl_8 25 1, jl_1 27 2, jl_6 19 1, jl_6 17 1, jl_6 8 1, jl_6 24 2, jl_6 11 1, jl_8 35 2, jl_6 10 1])
noncomputable def hc_166 : List AC := [ac_670, .inl (9, [(6, 2, 0), (6, 11, 0)]), ac_671, .inl (7, [(6, 4, 0), (6, 5, 0), (6, 6, 0), (1, 39, 0)]), .inr (1, [(5, (2, (-1), 4))]), .inr (1, [(5, (2, (-2147483648), 2147483647))]), .inr (1, [(5, (2, (-2147483648), 2147483647))]), .inr (1, [(5, (2, (-2147483648), 2147483647))]), .inl (1, [(6, 2, 0), (8, 41, 0)]), .inr (1, [(35, (2, (-2147483648), 2147483647))]), .inr (1, [(7, (2, 0, 9))]), .inl (0, [(1, 42, 0), (6, 12, 0), (6, 13, 0), (6, 14, 0)]), ac_508, .inr (1, [(30, (2, 0, 4))]), ac_509, ac_510, .inr (1, [(5, (2, 0, 40))]), .inr (1, [(85, (2, (-2147483648), 2147483647))]), .inr (1, [(5, (2, 0, 300))]), .inr (1, [(85, (2, (-2147483648), 2147483647))]), .inr (1, [(5, (2, (-2147483648), 2147483647))]), .inr (1, [(85, (2, (-2147483648), 2147483647))]), .inr (1, [(5, (2, 0, 40))]), .inr (1, [(5, (2, 0, 9))]), .inr (1, [(85, (2, (-2147483648), 2147483647))]), .inr (1, [(85, (2, (-2147483648), 2147483647))]), .inr (1, [(85, (2, (-1), 4))])]
noncomputable def gi_792 : GI := jl_n [jl_z 14, jl_i 0 1, jl_z 4, jl_t, jl_i 0 16, jl_i 0 3, jl_z 1, jl_i 0 5, jl_z 1, jl_i 0 5, jl_i 0 7, jl_z 12, jl_t, jl_z 2, jl_i 0 30, jl_z 3, jl_r 30 (jl_i 0 1), jl_r 30 (jl_m 0 15), jl_z 7, jl_i 0 5, jl_i 0 16, jl_t, jl_z 13, jl_i 0 1, jl_z 5, jl_t, jl_z 7, jl_i 0 5, jl_i 0 16]
noncomputable def ac_672 : AC := .inl (11, jl_n [jl_8 3 2, jl_6 2 1, jl_8 6 2, jl_6 9 1, jl_6 4 1, jl_8 9 1, jl_6 16 1, jl_8 14 4, jl_1 130 1, jl_8 17 2])
noncomputable def ac_673 : AC := .inl (3, jl_n [jl_6 22 1, jl_6 18 1, jl_6 20 1, jl_6 27 3, jl_6 21 1, jl_1 145 2])
noncomputable def hq_591 : HP := [(true, ac_672), (false, .inl (9, [(6, 2, 0), (6, 11, 0)])), (false, ac_671), (true, .inl (7, [(6, 4, 0), (6, 5, 0), (6, 6, 0), (1, 135, 0)])), (true, .inr (1, [(5, (2, (-1), 4))])), (true, .inr (1, [(5, (2, (-2147483648), 2147483647))])), (true, .inr (1, [(5, (2, (-2147483648), 2147483647))])), (false, .inr (1, [(5, (2, (-2147483648), 2147483647))])), (false, .inl (1, [(6, 2, 0), (8, 41, 0)])), (false, .inr (1, [(35, (2, (-2147483648), 2147483647))])), (false, .inr (1, [(7, (2, 0, 9))])), (false, .inl (0, [(1, 42, 0), (6, 12, 0), (6, 13, 0), (6, 14, 0)])), (false, ac_508), (false, .inr (1, [(30, (2, 0, 4))])), (false, ac_509), (true, ac_673), (false, .inr (1, [(5, (2, 0, 40))])), (true, .inr (1, [(85, (2, (-2147483648), 2147483647))])), (false, .inr (1, [(5, (2, 0, 300))])), (true, .inr (1, [(85, (2, (-2147483648), 2147483647))])), (true, .inr (1, [(5, (2, (-2147483648), 2147483647))])), (true, .inr (1, [(85, (2, (-2147483648), 2147483647))])), (false, .inr (1, [(5, (2, 0, 40))])), (false, .inr (1, [(5, (2, 0, 9))])), (true, .inr (1, [(85, (2, (-2147483648), 2147483647))])), (true, .inr (1, [(85, (2, (-2147483648), 2147483647))])), (true, .inr (1, [(85, (2, (-1), 4))]))]
noncomputable def con_1153 : Con2 := ((yX11_kept, cX11_kept, 3, (some .int)), (6, 151), ([(6, 0, 0)], gi_791, hc_166, rq_2), [((1, 115, 0), gi_792, hq_591, [], [1, 1, 1, 1, 1, 1, 1, 1, 1, 1, 1, 1, 1, 1, 1, 1, 1, 1, 1, 1, 1, 1, 1, 1, 1, 1, 1, 1, 1, 1])])
theorem hd_1153 : con_1153.1 = (yX11_kept, cX11_kept, 3, (some .int)) := rfl
theorem ck_RX11_294_1152 : COK2 RX11 vwCl gTbl 294 0 con_1152 := ⟨wd_1095, wd_134, mh_X3_daysEaten, .inr (.inr ⟨rfl, wd_1092, wd_1093, wd_1094, ⟨_, rfl, pd_X3_daysEaten⟩, 3, _, TX3, 9, rfl, rfl⟩)⟩
noncomputable def ct_1153 : CTB2 := [(1, 219, 0, con_667, [0, 1, 2]), (11, 208, 0, con_900, [0, 1, 3, 2, 4, 5, 6, 7, 8, 9, 10, 11, 12, 13, 14, 15, 16, 17, 18, 19, 20, 21, 22, 23, 24, 25, 26]), (37, 294, 0, con_1152, [15, 24])]
noncomputable def gi_793 : GI := jl_n [jl_z 14, jl_i 0 1, jl_z 4, jl_i 1 2147483647, jl_i 0 16, jl_i 0 3, jl_z 1, jl_i 0 5, jl_z 1, jl_i 0 5, jl_i 0 7, jl_z 12, jl_t, jl_z 2, jl_i 0 30, jl_z 3, jl_r 30 (jl_i 0 1), jl_r 30 (jl_m 0 15), jl_z 7, jl_i 0 5, jl_i 0 16, jl_z 1, jl_t, jl_i 0 5, jl_z 19, jl_t, jl_z 7, jl_i 0 5, jl_i 0 16]
noncomputable def ac_674 : AC := .inl (11, jl_n [jl_8 3 2, jl_6 2 1, jl_8 6 2, jl_6 9 1, jl_6 4 1, jl_8 9 1, jl_6 16 1, jl_8 14 4, jl_c 1, jl_8 17 2])
noncomputable def ac_675 : AC := .inl (3, jl_n [jl_6 22 1, jl_6 18 1, jl_6 20 1, jl_6 27 3, jl_6 21 1, jl_1 147 2])
noncomputable def hq_592 : HP := [(true, ac_674), (false, .inl (9, [(6, 2, 0), (6, 11, 0)])), (false, ac_671), (true, .inl (7, [(6, 4, 0), (6, 5, 0), (6, 6, 0), (1, 137, 0)])), (true, .inr (1, [(5, (2, (-1), 4))])), (true, .inr (1, [(5, (2, (-2147483648), 2147483647))])), (true, .inr (1, [(5, (2, (-2147483648), 2147483647))])), (false, .inr (1, [(5, (2, (-2147483648), 2147483647))])), (false, .inl (1, [(6, 2, 0), (8, 41, 0)])), (false, .inr (1, [(35, (2, (-2147483648), 2147483647))])), (false, .inr (1, [(7, (2, 0, 9))])), (false, .inl (0, [(1, 42, 0), (6, 12, 0), (6, 13, 0), (6, 14, 0)])), (false, ac_508), (false, .inr (1, [(30, (2, 0, 4))])), (false, ac_509), (true, ac_675), (false, .inr (1, [(5, (2, 0, 40))])), (true, .inr (1, [(85, (2, (-2147483648), 2147483647))])), (false, .inr (1, [(5, (2, 0, 300))])), (true, .inr (1, [(85, (2, (-2147483648), 2147483647))])), (true, .inr (1, [(5, (2, (-2147483648), 2147483647))])), (true, .inr (1, [(85, (2, (-2147483648), 2147483647))])), (false, .inr (1, [(5, (2, 0, 40))])), (false, .inr (1, [(5, (2, 0, 9))])), (true, .inr (1, [(85, (2, (-2147483648), 2147483647))])), (true, .inr (1, [(85, (2, (-2147483648), 2147483647))])), (true, .inr (1, [(85, (2, (-1), 4))]))]
noncomputable def cu_1153 : List CUT2 := [((18, [(0, (6, 0, 0)), (1, (1, 116, 0)), (2, (1, 117, 0))], [], gi_793, hq_592), rq_2, ([(117, (-1))], 5))]
theorem ch_1153 : staG tb_X11_kept 1 bt_RX11 [] ct_1153 [] [] cu_1153 22 con_1153 = true := by decide +kernel
theorem cc_1153 : cu_1153.all (cutG tb_X11_kept 1 bt_RX11 [] ct_1153 [] [] cu_1153 22 con_1153) = true := by decide +kernel
theorem cto_1153 (l : Launch) : CTOK2 l RX11 vwCl gTbl ct_1153 := ct2_cons (vl_667 l) ck_RX11_219_667 (ct2_cons (vl_900 l) ck_RX11_208_900 (ct2_cons (vl_1152 l) ck_RX11_294_1152 (ct2_nil)))
theorem vl_1153 (l : Launch) : Vld2 l vwCl gTbl con_1153 := conR_ok3 gT_all (hd_1153) rfl pn_RX11 tk_X11_kept bo_RX11 xo_RX11 (cto_1153 l) ch_1153 (cut_all cc_1153)
/-- RookHustingModel kept -/
noncomputable def gi_794 : GI := jl_n [jl_z 18, jl_i 0 128, jl_z 3, jl_r 2 (jl_t), jl_r 2 (jl_m 0 4), jl_z 20, jl_i 0 16, jl_i 0 3, jl_i 0 10, jl_i 0 5, jl_i 0 8, jl_i 0 5, jl_i 0 7, jl_i 0 30, jl_i 0 2147483647, jl_z 14, jl_t, jl_z 45]
noncomputable def con_1154 : Con2 := ((yX12_kept, cX12_kept, 3, (some .int)), (9, 208), ([(6, 0, 0)], gi_505, hc_147, []), [((1, 69, 0), gi_794, hq_566, [], [1, 1, 1, 1, 1, 1, 1, 1, 1, 1, 1, 1, 1, 1, 1, 1, 1, 1, 1, 1, 1, 1, 1, 1, 1, 1, 1, 1, 1, 1, 1, 1, 1, 1, 1, 1, 1, 1, 1, 1, 1, 1, 1, 1, 1, 1])])
theorem hd_1154 : con_1154.1 = (yX12_kept, cX12_kept, 3, (some .int)) := rfl
noncomputable def ct_1154 : CTB2 := [(1, 366, 0, con_1109, [0, 1, 2, 3, 4, 5, 6, 7, 8, 9, 10, 11, 12]), (16, 106, 0, con_646, [0, 1]), (29, 103, 0, con_1100, [0, 1])]
noncomputable def gi_795 : GI := jl_n [jl_z 18, jl_i 0 128, jl_z 3, jl_r 2 (jl_t), jl_r 2 (jl_m 0 4), jl_z 20, jl_i 0 16, jl_i 0 3, jl_i 0 10, jl_i 0 5, jl_i 0 8, jl_i 0 5, jl_i 0 7, jl_i 0 30, jl_i 1 2147483647, jl_z 15, jl_t, jl_i 0 5, jl_z 45]
noncomputable def cu_1154 : List CUT2 := [((14, [(0, (6, 0, 0)), (1, (1, 70, 0)), (2, (1, 71, 0))], [], gi_795, hq_566), [], ([(71, (-1))], 5))]
theorem ch_1154 : staG tb_X12_kept 1 bt_RX12 [] ct_1154 [] [] cu_1154 30 con_1154 = true := by decide +kernel
theorem cc_1154 : cu_1154.all (cutG tb_X12_kept 1 bt_RX12 [] ct_1154 [] [] cu_1154 30 con_1154) = true := by decide +kernel
theorem cto_1154 (l : Launch) : CTOK2 l RX12 vwCl gTbl ct_1154 := ct2_cons (vl_1109 l) ck_RX12_366_1109 (ct2_cons (vl_646 l) ck_RX12_106_646 (ct2_cons (vl_1100 l) ck_RX12_103_1100 (ct2_nil)))
theorem vl_1154 (l : Launch) : Vld2 l vwCl gTbl con_1154 := conR_ok3 gT_all (hd_1154) rfl pn_RX12 tk_X12_kept bo_RX12 xo_RX12 (cto_1154 l) ch_1154 (cut_all cc_1154)
/-- RookHusting$Harvest sumOf -/
noncomputable def gi_796 : GI := jl_n [jl_z 2, jl_i 1 15, jl_z 7, jl_i 0 5, jl_z 1]
noncomputable def ac_676 : AC := .inl (3, jl_n [jl_8 6 3, jl_6 2 1, jl_8 10 3, jl_1 11 1, jl_8 12 1])
noncomputable def gi_797 : GI := jl_n [jl_z 2, jl_i 1 15, jl_z 7, jl_i 0 5, jl_z 1, jl_t]
noncomputable def hq_593 : HP := [(false, ac_676), (false, .inr (1, [(85, (2, (-2147483648), 2147483647))]))]
noncomputable def con_1175 : Con2 := ((yX3_sumOf, cX3_sumOf, 5, (some .int)), (0, 0), ([(6, 0, 0), (6, 1, 0), (1, 2, 0)], gi_796, [ac_676, .inr (1, [(85, (2, (-2147483648), 2147483647))])], []), [((1, 12, 0), gi_797, hq_593, [], [1])])
theorem hd_1175 : con_1175.1 = (yX3_sumOf, cX3_sumOf, 5, (some .int)) := rfl
noncomputable def ct_1175 : CTB2 := []
noncomputable def gi_798 : GI := jl_n [jl_z 2, jl_i 1 15, jl_z 7, jl_i 0 5, jl_z 4, jl_t, jl_i 0 5]
noncomputable def cu_1175 : List CUT2 := [((5, [(0, (6, 0, 0)), (1, (6, 1, 0)), (2, (1, 2, 0)), (3, (1, 15, 0)), (4, (1, 16, 0))], [], gi_798, hq_593), [], ([(16, (-1))], 5))]
theorem ch_1175 : staG tb_X3_sumOf 1 bt_RX3 [] ct_1175 [] [] cu_1175 19 con_1175 = true := by decide +kernel
theorem cc_1175 : cu_1175.all (cutG tb_X3_sumOf 1 bt_RX3 [] ct_1175 [] [] cu_1175 19 con_1175) = true := by decide +kernel
theorem cto_1175 (l : Launch) : CTOK2 l RX3 vwCl gTbl ct_1175 := ct2_nil
theorem vl_1175 (l : Launch) : Vld2 l vwCl gTbl con_1175 := conR_ok3 gT_all (hd_1175) rfl pn_RX3 tk_X3_sumOf bo_RX3 xo_RX3 (cto_1175 l) ch_1175 (cut_all cc_1175)
/-- RookHusting$Harvest sumOf -/
noncomputable def gi_799 : GI := jl_n [jl_z 2, jl_i 0 15, jl_z 7, jl_i 0 5, jl_z 1]
noncomputable def gi_800 : GI := jl_n [jl_z 2, jl_i 0 15, jl_z 7, jl_i 0 5, jl_z 1, jl_t]
noncomputable def con_1177 : Con2 := ((yX3_sumOf, cX3_sumOf, 5, (some .int)), (0, 0), ([(6, 0, 0), (6, 1, 0), (1, 2, 0)], gi_799, [ac_676, .inr (1, [(85, (2, (-2147483648), 2147483647))])], []), [((1, 12, 0), gi_800, hq_593, [], [1])])
theorem hd_1177 : con_1177.1 = (yX3_sumOf, cX3_sumOf, 5, (some .int)) := rfl
noncomputable def ct_1177 : CTB2 := []
noncomputable def gi_801 : GI := jl_n [jl_z 2, jl_i 0 15, jl_z 7, jl_i 0 5, jl_z 4, jl_t, jl_i 0 5]
noncomputable def cu_1177 : List CUT2 := [((5, [(0, (6, 0, 0)), (1, (6, 1, 0)), (2, (1, 2, 0)), (3, (1, 15, 0)), (4, (1, 16, 0))], [], gi_801, hq_593), [], ([(16, (-1))], 5))]
theorem ch_1177 : staG tb_X3_sumOf 1 bt_RX3 [] ct_1177 [] [] cu_1177 19 con_1177 = true := by decide +kernel
theorem cc_1177 : cu_1177.all (cutG tb_X3_sumOf 1 bt_RX3 [] ct_1177 [] [] cu_1177 19 con_1177) = true := by decide +kernel
theorem cto_1177 (l : Launch) : CTOK2 l RX3 vwCl gTbl ct_1177 := ct2_nil
theorem vl_1177 (l : Launch) : Vld2 l vwCl gTbl con_1177 := conR_ok3 gT_all (hd_1177) rfl pn_RX3 tk_X3_sumOf bo_RX3 xo_RX3 (cto_1177 l) ch_1177 (cut_all cc_1177)
/-- RookHusting worst -/
noncomputable def gi_802 : GI := jl_n [jl_z 14, jl_i 0 1, jl_z 4, jl_t, jl_i 0 16, jl_i 0 3, jl_z 1, jl_i 0 5, jl_z 1, jl_i 0 5, jl_i 0 7, jl_z 12, jl_t, jl_z 2, jl_i 0 30, jl_z 3, jl_r 30 (jl_i 0 1), jl_r 30 (jl_m 0 15), jl_z 7, jl_i 0 5, jl_i 0 16, jl_m 1 15, jl_z 13, jl_i 0 1, jl_z 5, jl_t, jl_z 7, jl_i 0 5, jl_i 0 16]
noncomputable def con_1178 : Con2 := ((yX11_worst, cX11_worst, 3, (some .int)), (6, 151), ([(6, 0, 0)], gi_791, hc_166, rq_2), [((1, 115, 0), gi_802, hq_591, [], [1, 1, 1, 1, 1, 1, 1, 1, 1, 1, 1, 1, 1, 1, 1, 1, 1, 1, 1, 1, 1, 1, 1, 1, 1, 1, 1, 1, 1, 1])])
theorem hd_1178 : con_1178.1 = (yX11_worst, cX11_worst, 3, (some .int)) := rfl
theorem ck_RX11_300_1177 : COK2 RX11 vwCl gTbl 300 0 con_1177 := ⟨wd_1055, wd_134, mh_X3_sumOf, .inr (.inr ⟨rfl, wd_1052, wd_1053, wd_1054, ⟨_, rfl, pd_X3_sumOf⟩, 3, _, TX3, 9, rfl, rfl⟩)⟩
theorem ck_RX11_300_1175 : COK2 RX11 vwCl gTbl 300 0 con_1175 := ⟨wd_1055, wd_134, mh_X3_sumOf, .inr (.inr ⟨rfl, wd_1052, wd_1053, wd_1054, ⟨_, rfl, pd_X3_sumOf⟩, 3, _, TX3, 9, rfl, rfl⟩)⟩
noncomputable def ct_1178 : CTB2 := [(1, 219, 0, con_667, [0, 1, 2]), (11, 208, 0, con_900, [0, 1, 3, 2, 4, 5, 6, 7, 8, 9, 10, 11, 12, 13, 14, 15, 16, 17, 18, 19, 20, 21, 22, 23, 24, 25, 26]), (44, 300, 0, con_1175, [15, 24]), (59, 300, 0, con_1177, [15, 24])]
noncomputable def gi_803 : GI := jl_n [jl_z 14, jl_i 0 1, jl_z 4, jl_i 1 2147483647, jl_i 0 16, jl_i 0 3, jl_z 1, jl_i 0 5, jl_z 1, jl_i 0 5, jl_i 0 7, jl_z 12, jl_t, jl_z 2, jl_i 0 30, jl_z 3, jl_r 30 (jl_i 0 1), jl_r 30 (jl_m 0 15), jl_z 7, jl_i 0 5, jl_i 0 16, jl_z 1, jl_i 0 15, jl_i 1 16, jl_z 19, jl_t, jl_z 7, jl_i 0 5, jl_i 0 16]
noncomputable def cu_1178 : List CUT2 := [((18, [(0, (6, 0, 0)), (1, (1, 116, 0)), (2, (1, 117, 0))], [], gi_803, hq_592), rq_2, ([(117, (-1))], 16))]
theorem ch_1178 : staG tb_X11_worst 1 bt_RX11 [] ct_1178 [] [] cu_1178 28 con_1178 = true := by decide +kernel
theorem cc_1178 : cu_1178.all (cutG tb_X11_worst 1 bt_RX11 [] ct_1178 [] [] cu_1178 28 con_1178) = true := by decide +kernel
theorem cto_1178 (l : Launch) : CTOK2 l RX11 vwCl gTbl ct_1178 := ct2_cons (vl_667 l) ck_RX11_219_667 (ct2_cons (vl_900 l) ck_RX11_208_900 (ct2_cons (vl_1175 l) ck_RX11_300_1175 (ct2_cons (vl_1177 l) ck_RX11_300_1177 (ct2_nil))))
theorem vl_1178 (l : Launch) : Vld2 l vwCl gTbl con_1178 := conR_ok3 gT_all (hd_1178) rfl pn_RX11 tk_X11_worst bo_RX11 xo_RX11 (cto_1178 l) ch_1178 (cut_all cc_1178)
/-- RookHustingModel worst -/
noncomputable def gi_804 : GI := jl_n [jl_z 18, jl_i 0 128, jl_z 3, jl_r 2 (jl_t), jl_r 2 (jl_m 0 4), jl_z 20, jl_i 0 16, jl_i 0 3, jl_i 0 10, jl_i 0 5, jl_i 0 8, jl_i 0 5, jl_i 0 7, jl_i 0 30, jl_i 0 2147483647, jl_z 14, jl_m 1 15, jl_z 45]
noncomputable def con_1179 : Con2 := ((yX12_worst, cX12_worst, 3, (some .int)), (9, 208), ([(6, 0, 0)], gi_505, hc_147, []), [((1, 69, 0), gi_804, hq_566, [], [1, 1, 1, 1, 1, 1, 1, 1, 1, 1, 1, 1, 1, 1, 1, 1, 1, 1, 1, 1, 1, 1, 1, 1, 1, 1, 1, 1, 1, 1, 1, 1, 1, 1, 1, 1, 1, 1, 1, 1, 1, 1, 1, 1, 1, 1])])
theorem hd_1179 : con_1179.1 = (yX12_worst, cX12_worst, 3, (some .int)) := rfl
noncomputable def ct_1179 : CTB2 := [(1, 366, 0, con_1109, [0, 1, 2, 3, 4, 5, 6, 7, 8, 9, 10, 11, 12]), (16, 103, 0, con_1100, [0, 1]), (24, 375, 0, con_1133, [0, 1, 7]), (31, 375, 0, con_1133, [0, 1, 7]), (37, 375, 0, con_1133, [0, 1, 7]), (44, 375, 0, con_1133, [0, 1, 7])]
noncomputable def gi_805 : GI := jl_n [jl_z 18, jl_i 0 128, jl_z 3, jl_r 2 (jl_t), jl_r 2 (jl_m 0 4), jl_z 20, jl_i 0 16, jl_i 0 3, jl_i 0 10, jl_i 0 5, jl_i 0 8, jl_i 0 5, jl_i 0 7, jl_i 0 30, jl_i 1 2147483647, jl_z 15, jl_i 0 15, jl_i 1 16, jl_z 45]
noncomputable def cu_1179 : List CUT2 := [((14, [(0, (6, 0, 0)), (1, (1, 70, 0)), (2, (1, 71, 0))], [], gi_805, hq_566), [], ([(71, (-1))], 16))]
theorem ch_1179 : staG tb_X12_worst 1 bt_RX12 [] ct_1179 [] [] cu_1179 31 con_1179 = true := by decide +kernel
theorem cc_1179 : cu_1179.all (cutG tb_X12_worst 1 bt_RX12 [] ct_1179 [] [] cu_1179 31 con_1179) = true := by decide +kernel
theorem cto_1179 (l : Launch) : CTOK2 l RX12 vwCl gTbl ct_1179 := ct2_cons (vl_1109 l) ck_RX12_366_1109 (ct2_cons (vl_1100 l) ck_RX12_103_1100 (ct2_cons (vl_1133 l) ck_RX12_375_1133 (ct2_cons (vl_1133 l) ck_RX12_375_1133 (ct2_cons (vl_1133 l) ck_RX12_375_1133 (ct2_cons (vl_1133 l) ck_RX12_375_1133 (ct2_nil))))))
theorem vl_1179 (l : Launch) : Vld2 l vwCl gTbl con_1179 := conR_ok3 gT_all (hd_1179) rfl pn_RX12 tk_X12_worst bo_RX12 xo_RX12 (cto_1179 l) ch_1179 (cut_all cc_1179)
/-- RookHusting$Election hatsFirst -/
noncomputable def gi_806 : GI := jl_n [jl_z 1, jl_i 0 4, jl_z 9, jl_i 0 7, jl_z 9]
noncomputable def ac_677 : AC := .inl (4, jl_n [jl_8 11 7, jl_1 12 1, jl_8 17 5, jl_6 4 1, jl_8 20 2, jl_6 3 1])
noncomputable def hc_167 : List AC := [.inl (1, [(6, 1, 0), (8, 3, 0)]), ac_677, .inr (1, [(35, (2, (-2147483648), 2147483647))]), .inr (1, [(7, (2, 0, 9))])]
noncomputable def gi_807 : GI := jl_n [jl_z 1, jl_i 0 4, jl_z 9, jl_i 0 7, jl_z 9, jl_t]
noncomputable def hq_594 : HP := [(false, .inl (1, [(6, 1, 0), (8, 3, 0)])), (false, ac_677), (false, .inr (1, [(35, (2, (-2147483648), 2147483647))])), (false, .inr (1, [(7, (2, 0, 9))]))]
noncomputable def con_1180 : Con2 := ((yX1_hatsFirst, cX1_hatsFirst, 4, (some .int)), (0, 0), ([(6, 0, 0), (1, 1, 0)], gi_806, hc_167, []), [((1, 21, 0), gi_807, hq_594, [], [1])])
theorem hd_1180 : con_1180.1 = (yX1_hatsFirst, cX1_hatsFirst, 4, (some .int)) := rfl
noncomputable def ct_1180 : CTB2 := []
noncomputable def gi_808 : GI := jl_n [jl_z 1, jl_i 0 4, jl_z 9, jl_i 0 7, jl_z 11, jl_t, jl_i 0 7]
noncomputable def cu_1180 : List CUT2 := [((4, [(0, (6, 0, 0)), (1, (1, 1, 0)), (2, (1, 23, 0)), (3, (1, 24, 0))], [], gi_808, hq_594), [], ([(24, (-1))], 7))]
theorem ch_1180 : staG tb_X1_hatsFirst 1 bt_RX1 [] ct_1180 [] [] cu_1180 28 con_1180 = true := by decide +kernel
theorem cc_1180 : cu_1180.all (cutG tb_X1_hatsFirst 1 bt_RX1 [] ct_1180 [] [] cu_1180 28 con_1180) = true := by decide +kernel
theorem cto_1180 (l : Launch) : CTOK2 l RX1 vwCl gTbl ct_1180 := ct2_nil
theorem vl_1180 (l : Launch) : Vld2 l vwCl gTbl con_1180 := conR_ok3 gT_all (hd_1180) rfl pn_RX1 tk_X1_hatsFirst bo_RX1 xo_RX1 (cto_1180 l) ch_1180 (cut_all cc_1180)
/-- RookHusting loved -/
noncomputable def gi_809 : GI := jl_n [jl_z 1, jl_t, jl_z 24, jl_i 0 5, jl_i 0 7, jl_z 11]
noncomputable def ac_678 : AC := .inl (4, jl_n [jl_8 26 6, jl_1 28 2, jl_8 33 5, jl_6 6 1, jl_8 36 2, jl_6 5 1])
noncomputable def hc_168 : List AC := [ac_539, .inl (9, [(6, 2, 0), (8, 19, 0)]), ac_678, .inl (1, [(6, 2, 0), (8, 38, 0)]), .inr (1, [(35, (2, (-2147483648), 2147483647))]), .inr (1, [(7, (2, 0, 9))])]
noncomputable def gi_810 : GI := jl_n [jl_z 1, jl_t, jl_z 24, jl_i 0 5, jl_i 0 7, jl_z 11, jl_t]
noncomputable def hq_595 : HP := [(false, ac_539), (false, .inl (9, [(6, 2, 0), (8, 19, 0)])), (false, ac_678), (false, .inl (1, [(6, 2, 0), (8, 38, 0)])), (false, .inr (1, [(35, (2, (-2147483648), 2147483647))])), (false, .inr (1, [(7, (2, 0, 9))]))]
noncomputable def con_1181 : Con2 := ((yX11_loved, cX11_loved, 2, (some .int)), (1, 23), ([(6, 0, 0), (1, 1, 0)], gi_809, hc_168, []), [((1, 39, 0), gi_810, hq_595, [], [1])])
theorem hd_1181 : con_1181.1 = (yX11_loved, cX11_loved, 2, (some .int)) := rfl
theorem ck_RX11_251_1180 : COK2 RX11 vwCl gTbl 251 0 con_1180 := ⟨wd_995, wd_132, mh_X1_hatsFirst, .inr (.inr ⟨rfl, wd_992, wd_993, wd_994, ⟨_, rfl, pd_X1_hatsFirst⟩, 1, _, TX1, 2, rfl, rfl⟩)⟩
noncomputable def ct_1181 : CTB2 := [(2, 156, 0, con_653, [0, 1, 2]), (13, 251, 0, con_1180, [3, 2, 4, 5])]
noncomputable def cu_1181 : List CUT2 := []
theorem ch_1181 : staG tb_X11_loved 1 bt_RX11 [] ct_1181 [] [] cu_1181 12 con_1181 = true := by decide +kernel
theorem cto_1181 (l : Launch) : CTOK2 l RX11 vwCl gTbl ct_1181 := ct2_cons (vl_653 l) ck_RX11_156_653 (ct2_cons (vl_1180 l) ck_RX11_251_1180 (ct2_nil))
theorem vl_1181 (l : Launch) : Vld2 l vwCl gTbl con_1181 := conR_ok3 gT_all (hd_1181) rfl pn_RX11 tk_X11_loved bo_RX11 xo_RX11 (cto_1181 l) ch_1181 cut_nil
/-- RookHustingModel loved -/
noncomputable def con_1182 : Con2 := ((yX12_loved, cX12_loved, 4, (some .int)), (2, 46), ([(6, 0, 0), (1, 1, 0)], gi_317, [ac_437, ac_438], []), [((1, 70, 0), gi_568, [(false, ac_437), (false, ac_438)], [], [1])])
theorem hd_1182 : con_1182.1 = (yX12_loved, cX12_loved, 4, (some .int)) := rfl
noncomputable def ct_1182 : CTB2 := [(2, 236, 0, con_656, [0, 1]), (64, 243, 0, con_662, [0, 1])]
noncomputable def gi_811 : GI := jl_n [jl_z 1, jl_i 0 4, jl_z 45, jl_i 0 16, jl_i 0 3, jl_i 0 10, jl_i 0 5, jl_i 0 8, jl_i 1 5, jl_i 0 7, jl_i 0 30, jl_i 0 2147483647, jl_z 16, jl_t, jl_i 0 7]
noncomputable def cu_1182 : List CUT2 := [((15, [(0, (6, 0, 0)), (1, (1, 1, 0)), (2, (1, 72, 0)), (3, (1, 73, 0))], [], gi_811, [(false, ac_437), (false, ac_438)]), [], ([(73, (-1))], 7))]
theorem ch_1182 : staG tb_X12_loved 1 bt_RX12 [] ct_1182 [] [] cu_1182 41 con_1182 = true := by decide +kernel
theorem cc_1182 : cu_1182.all (cutG tb_X12_loved 1 bt_RX12 [] ct_1182 [] [] cu_1182 41 con_1182) = true := by decide +kernel
theorem cto_1182 (l : Launch) : CTOK2 l RX12 vwCl gTbl ct_1182 := ct2_cons (vl_656 l) ck_RX12_236_656 (ct2_cons (vl_662 l) ck_RX12_243_662 (ct2_nil))
theorem vl_1182 (l : Launch) : Vld2 l vwCl gTbl con_1182 := conR_ok3 gT_all (hd_1182) rfl pn_RX12 tk_X12_loved bo_RX12 xo_RX12 (cto_1182 l) ch_1182 (cut_all cc_1182)
/-- RookHusting$Election hatsWithout -/
noncomputable def con_1183 : Con2 := ((yX1_hatsWithout, cX1_hatsWithout, 4, (some .int)), (0, 0), ([(6, 0, 0), (1, 1, 0)], gi_806, hc_167, []), [((1, 21, 0), gi_807, hq_594, [], [1])])
theorem hd_1183 : con_1183.1 = (yX1_hatsWithout, cX1_hatsWithout, 4, (some .int)) := rfl
noncomputable def ct_1183 : CTB2 := []
noncomputable def cu_1183 : List CUT2 := [((4, [(0, (6, 0, 0)), (1, (1, 1, 0)), (2, (1, 23, 0)), (3, (1, 24, 0))], [], gi_808, hq_594), [], ([(24, (-1))], 7))]
theorem ch_1183 : staG tb_X1_hatsWithout 1 bt_RX1 [] ct_1183 [] [] cu_1183 29 con_1183 = true := by decide +kernel
theorem cc_1183 : cu_1183.all (cutG tb_X1_hatsWithout 1 bt_RX1 [] ct_1183 [] [] cu_1183 29 con_1183) = true := by decide +kernel
theorem cto_1183 (l : Launch) : CTOK2 l RX1 vwCl gTbl ct_1183 := ct2_nil
theorem vl_1183 (l : Launch) : Vld2 l vwCl gTbl con_1183 := conR_ok3 gT_all (hd_1183) rfl pn_RX1 tk_X1_hatsWithout bo_RX1 xo_RX1 (cto_1183 l) ch_1183 (cut_all cc_1183)
/-- RookHusting shunned -/
noncomputable def con_1184 : Con2 := ((yX11_shunned, cX11_shunned, 2, (some .int)), (1, 23), ([(6, 0, 0), (1, 1, 0)], gi_809, hc_168, []), [((1, 39, 0), gi_810, hq_595, [], [1])])
theorem hd_1184 : con_1184.1 = (yX11_shunned, cX11_shunned, 2, (some .int)) := rfl
theorem ck_RX11_254_1183 : COK2 RX11 vwCl gTbl 254 0 con_1183 := ⟨wd_1003, wd_132, mh_X1_hatsWithout, .inr (.inr ⟨rfl, wd_1000, wd_1001, wd_1002, ⟨_, rfl, pd_X1_hatsWithout⟩, 1, _, TX1, 2, rfl, rfl⟩)⟩
noncomputable def ct_1184 : CTB2 := [(2, 156, 0, con_653, [0, 1, 2]), (13, 254, 0, con_1183, [3, 2, 4, 5])]
noncomputable def cu_1184 : List CUT2 := []
theorem ch_1184 : staG tb_X11_shunned 1 bt_RX11 [] ct_1184 [] [] cu_1184 12 con_1184 = true := by decide +kernel
theorem cto_1184 (l : Launch) : CTOK2 l RX11 vwCl gTbl ct_1184 := ct2_cons (vl_653 l) ck_RX11_156_653 (ct2_cons (vl_1183 l) ck_RX11_254_1183 (ct2_nil))
theorem vl_1184 (l : Launch) : Vld2 l vwCl gTbl con_1184 := conR_ok3 gT_all (hd_1184) rfl pn_RX11 tk_X11_shunned bo_RX11 xo_RX11 (cto_1184 l) ch_1184 cut_nil
/-- RookHustingModel shunned -/
noncomputable def con_1185 : Con2 := ((yX12_shunned, cX12_shunned, 4, (some .int)), (2, 46), ([(6, 0, 0), (1, 1, 0)], gi_317, [ac_437, ac_438], []), [((1, 70, 0), gi_568, [(false, ac_437), (false, ac_438)], [], [1])])
theorem hd_1185 : con_1185.1 = (yX12_shunned, cX12_shunned, 4, (some .int)) := rfl
noncomputable def ct_1185 : CTB2 := [(2, 236, 0, con_656, [0, 1]), (31, 283, 0, con_912, [0, 1]), (43, 243, 0, con_662, [0, 1])]
noncomputable def cu_1185 : List CUT2 := [((15, [(0, (6, 0, 0)), (1, (1, 1, 0)), (2, (1, 72, 0)), (3, (1, 73, 0))], [], gi_811, [(false, ac_437), (false, ac_438)]), [], ([(73, (-1))], 7))]
theorem ch_1185 : staG tb_X12_shunned 1 bt_RX12 [] ct_1185 [] [] cu_1185 23 con_1185 = true := by decide +kernel
theorem cc_1185 : cu_1185.all (cutG tb_X12_shunned 1 bt_RX12 [] ct_1185 [] [] cu_1185 23 con_1185) = true := by decide +kernel
theorem cto_1185 (l : Launch) : CTOK2 l RX12 vwCl gTbl ct_1185 := ct2_cons (vl_656 l) ck_RX12_236_656 (ct2_cons (vl_912 l) ck_RX12_283_912 (ct2_cons (vl_662 l) ck_RX12_243_662 (ct2_nil)))
theorem vl_1185 (l : Launch) : Vld2 l vwCl gTbl con_1185 := conR_ok3 gT_all (hd_1185) rfl pn_RX12 tk_X12_shunned bo_RX12 xo_RX12 (cto_1185 l) ch_1185 (cut_all cc_1185)
/-- RookHusting$Election swingVoters -/
noncomputable def gi_812 : GI := jl_n [jl_z 5, jl_i 0 3, jl_z 3, jl_i 0 5, jl_i 0 7, jl_z 9]
noncomputable def ac_679 : AC := .inl (4, jl_n [jl_8 5 2, jl_1 6 1, jl_8 9 3, jl_1 11 2, jl_8 16 5, jl_6 4 1, jl_8 19 2, jl_6 3 1])
noncomputable def hc_169 : List AC := [.inl (1, [(6, 1, 0), (8, 2, 0)]), ac_679, .inr (1, [(35, (2, (-2147483648), 2147483647))]), .inr (1, [(7, (2, 0, 9))])]
noncomputable def gi_813 : GI := jl_n [jl_z 5, jl_i 0 3, jl_z 3, jl_i 0 5, jl_i 0 7, jl_z 9, jl_t]
noncomputable def hq_596 : HP := [(false, .inl (1, [(6, 1, 0), (8, 2, 0)])), (false, ac_679), (false, .inr (1, [(35, (2, (-2147483648), 2147483647))])), (false, .inr (1, [(7, (2, 0, 9))]))]
noncomputable def con_1186 : Con2 := ((yX1_swingVoters, cX1_swingVoters, 4, (some .int)), (5, 127), ([(6, 0, 0)], gi_812, hc_169, []), [((1, 20, 0), gi_813, hq_596, [], [1])])
theorem hd_1186 : con_1186.1 = (yX1_swingVoters, cX1_swingVoters, 4, (some .int)) := rfl
noncomputable def ct_1186 : CTB2 := [(4, 87, 0, con_928, [0, 1, 2, 3]), (25, 87, 0, con_928, [0, 1, 2, 3])]
noncomputable def gi_814 : GI := jl_n [jl_z 5, jl_i 0 3, jl_z 3, jl_i 0 5, jl_i 0 7, jl_z 10, jl_t, jl_m 0 4, jl_i 0 7]
noncomputable def cu_1186 : List CUT2 := [((10, [(0, (6, 0, 0)), (1, (1, 21, 0)), (2, (1, 22, 0)), (3, (1, 23, 0))], [], gi_814, hq_596), [], ([(23, (-1))], 7))]
theorem ch_1186 : staG tb_X1_swingVoters 1 bt_RX1 [] ct_1186 [] [] cu_1186 23 con_1186 = true := by decide +kernel
theorem cc_1186 : cu_1186.all (cutG tb_X1_swingVoters 1 bt_RX1 [] ct_1186 [] [] cu_1186 23 con_1186) = true := by decide +kernel
theorem cto_1186 (l : Launch) : CTOK2 l RX1 vwCl gTbl ct_1186 := ct2_cons (vl_928 l) ck_RX1_87_928 (ct2_cons (vl_928 l) ck_RX1_87_928 (ct2_nil))
theorem vl_1186 (l : Launch) : Vld2 l vwCl gTbl con_1186 := conR_ok3 gT_all (hd_1186) rfl pn_RX1 tk_X1_swingVoters bo_RX1 xo_RX1 (cto_1186 l) ch_1186 (cut_all cc_1186)
/-- RookHusting swings -/
noncomputable def gi_815 : GI := jl_n [jl_z 19, jl_t, jl_z 1, jl_i 0 3, jl_z 3, jl_i 0 5, jl_i 0 7, jl_z 11]
noncomputable def ac_680 : AC := .inl (4, jl_n [jl_1 20 1, jl_8 21 1, jl_1 22 1, jl_8 25 3, jl_1 27 2, jl_8 32 5, jl_6 6 1, jl_8 35 2, jl_6 5 1])
noncomputable def hc_170 : List AC := [ac_533, .inl (9, [(6, 2, 0), (8, 18, 0)]), ac_680, .inl (1, [(6, 2, 0), (8, 37, 0)]), .inr (1, [(35, (2, (-2147483648), 2147483647))]), .inr (1, [(7, (2, 0, 9))])]
noncomputable def gi_816 : GI := jl_n [jl_z 19, jl_t, jl_z 1, jl_i 0 3, jl_z 3, jl_i 0 5, jl_i 0 7, jl_z 11, jl_t]
noncomputable def hq_597 : HP := [(false, ac_533), (false, .inl (9, [(6, 2, 0), (8, 18, 0)])), (false, ac_680), (false, .inl (1, [(6, 2, 0), (8, 37, 0)])), (false, .inr (1, [(35, (2, (-2147483648), 2147483647))])), (false, .inr (1, [(7, (2, 0, 9))]))]
noncomputable def con_1187 : Con2 := ((yX11_swings, cX11_swings, 1, (some .int)), (6, 150), ([(6, 0, 0)], gi_815, hc_170, []), [((1, 38, 0), gi_816, hq_597, [], [1])])
theorem hd_1187 : con_1187.1 = (yX11_swings, cX11_swings, 1, (some .int)) := rfl
theorem ck_RX11_257_1186 : COK2 RX11 vwCl gTbl 257 0 con_1186 := ⟨wd_1011, wd_132, mh_X1_swingVoters, .inr (.inr ⟨rfl, wd_1008, wd_1009, wd_1010, ⟨_, rfl, pd_X1_swingVoters⟩, 1, _, TX1, 2, rfl, rfl⟩)⟩
noncomputable def ct_1187 : CTB2 := [(1, 219, 0, con_667, [0, 1, 2]), (11, 257, 0, con_1186, [3, 2, 4, 5])]
noncomputable def cu_1187 : List CUT2 := []
theorem ch_1187 : staG tb_X11_swings 1 bt_RX11 [] ct_1187 [] [] cu_1187 10 con_1187 = true := by decide +kernel
theorem cto_1187 (l : Launch) : CTOK2 l RX11 vwCl gTbl ct_1187 := ct2_cons (vl_667 l) ck_RX11_219_667 (ct2_cons (vl_1186 l) ck_RX11_257_1186 (ct2_nil))
theorem vl_1187 (l : Launch) : Vld2 l vwCl gTbl con_1187 := conR_ok3 gT_all (hd_1187) rfl pn_RX11 tk_X11_swings bo_RX11 xo_RX11 (cto_1187 l) ch_1187 cut_nil
/-- RookHustingModel swings -/
noncomputable def con_1188 : Con2 := ((yX12_swings, cX12_swings, 4, (some .int)), (5, 121), ([(6, 0, 0)], gi_333, hc_73, []), [((1, 69, 0), gi_631, hq_539, [], [1, 1, 1, 1, 1, 1, 1, 1, 1, 1, 1, 1, 1, 1, 1, 1, 1, 1, 1, 1, 1, 1, 1, 1, 1, 1, 1, 1, 1, 1, 1, 1, 1, 1, 1, 1, 1, 1, 1, 1, 1, 1, 1, 1, 1, 1])])
theorem hd_1188 : con_1188.1 = (yX12_swings, cX12_swings, 4, (some .int)) := rfl
noncomputable def ct_1188 : CTB2 := [(1, 99, 0, con_673, [0, 1]), (11, 249, 0, con_665, [0, 1, 2, 3]), (16, 269, 0, con_692, [0, 1]), (16, 269, 0, con_787, [0, 1]), (16, 269, 0, con_818, [0, 1]), (16, 269, 0, con_834, [0, 1]), (16, 269, 0, con_842, [0, 1]), (16, 269, 0, con_847, [0, 1]), (25, 277, 0, con_753, [0, 1, 2, 3]), (25, 277, 0, con_801, [0, 1, 2, 3]), (25, 277, 0, con_825, [0, 1, 2, 3]), (25, 277, 0, con_837, [0, 1, 2, 3]), (25, 277, 0, con_844, [0, 1, 2, 3]), (25, 277, 0, con_850, [0, 1, 2, 3]), (54, 269, 0, con_692, [0, 1]), (54, 269, 0, con_787, [0, 1]), (54, 269, 0, con_818, [0, 1]), (54, 269, 0, con_834, [0, 1]), (54, 269, 0, con_842, [0, 1]), (54, 269, 0, con_847, [0, 1]), (63, 277, 0, con_753, [0, 1, 2, 3]), (63, 277, 0, con_801, [0, 1, 2, 3]), (63, 277, 0, con_825, [0, 1, 2, 3]), (63, 277, 0, con_837, [0, 1, 2, 3]), (63, 277, 0, con_844, [0, 1, 2, 3]), (63, 277, 0, con_850, [0, 1, 2, 3])]
noncomputable def gi_817 : GI := jl_n [jl_z 18, jl_i 0 128, jl_z 27, jl_i 0 16, jl_i 0 3, jl_i 0 10, jl_i 0 5, jl_i 0 8, jl_i 5 5, jl_i 0 7, jl_i 0 30, jl_i 1 2147483647, jl_z 15, jl_m 0 4, jl_t, jl_i 0 7, jl_z 17, jl_i 0 64, jl_z 27]
noncomputable def ac_681 : AC := .inl (12, jl_n [jl_8 2 1, jl_6 2 1, jl_8 16 13, jl_6 4 1, jl_6 3 1, jl_1 91 1, jl_8 46 27])
noncomputable def hq_598 : HP := [(true, ac_681), (false, ac_436), (true, .inr (1, [(7, (2, 0, 5))])), (true, .inr (1, [(35, (2, 0, 4))]))]
noncomputable def gi_818 : GI := jl_n [jl_z 18, jl_i 0 128, jl_z 27, jl_i 0 16, jl_i 0 3, jl_i 0 10, jl_i 0 5, jl_i 0 8, jl_i 4 4, jl_i 0 7, jl_i 0 30, jl_i 1 2147483647, jl_z 15, jl_m 0 4, jl_t, jl_i 0 7, jl_z 17, jl_i 0 64, jl_z 27]
noncomputable def gi_819 : GI := jl_n [jl_z 18, jl_i 0 128, jl_z 27, jl_i 0 16, jl_i 0 3, jl_i 0 10, jl_i 0 5, jl_i 0 8, jl_i 3 3, jl_i 0 7, jl_i 0 30, jl_i 1 2147483647, jl_z 15, jl_m 0 4, jl_t, jl_i 0 7, jl_z 17, jl_i 0 64, jl_z 27]
noncomputable def gi_820 : GI := jl_n [jl_z 18, jl_i 0 128, jl_z 27, jl_i 0 16, jl_i 0 3, jl_i 0 10, jl_i 0 5, jl_i 0 8, jl_i 2 2, jl_i 0 7, jl_i 0 30, jl_i 1 2147483647, jl_z 15, jl_m 0 4, jl_t, jl_i 0 7, jl_z 17, jl_i 0 64, jl_z 27]
noncomputable def gi_821 : GI := jl_n [jl_z 18, jl_i 0 128, jl_z 27, jl_i 0 16, jl_i 0 3, jl_i 0 10, jl_i 0 5, jl_i 0 8, jl_i 1 1, jl_i 0 7, jl_i 0 30, jl_i 1 2147483647, jl_z 15, jl_m 0 4, jl_t, jl_i 0 7, jl_z 17, jl_i 0 64, jl_z 27]
noncomputable def gi_822 : GI := jl_n [jl_z 18, jl_i 0 128, jl_z 27, jl_i 0 16, jl_i 0 3, jl_i 0 10, jl_i 0 5, jl_i 0 8, jl_z 1, jl_i 0 7, jl_i 0 30, jl_i 1 2147483647, jl_z 15, jl_m 0 4, jl_t, jl_i 0 7, jl_z 17, jl_i 0 64, jl_z 27]
noncomputable def cu_1188 : List CUT2 := [((33, [(0, (6, 0, 0)), (1, (1, 70, 0)), (2, (1, 71, 0)), (3, (1, 72, 0))], [], gi_817, hq_598), [], ([(72, (-1))], 7)), ((33, [(0, (6, 0, 0)), (1, (1, 70, 0)), (2, (1, 71, 0)), (3, (1, 72, 0))], [], gi_818, hq_598), [], ([(72, (-1))], 7)), ((33, [(0, (6, 0, 0)), (1, (1, 70, 0)), (2, (1, 71, 0)), (3, (1, 72, 0))], [], gi_819, hq_598), [], ([(72, (-1))], 7)), ((33, [(0, (6, 0, 0)), (1, (1, 70, 0)), (2, (1, 71, 0)), (3, (1, 72, 0))], [], gi_820, hq_598), [], ([(72, (-1))], 7)), ((33, [(0, (6, 0, 0)), (1, (1, 70, 0)), (2, (1, 71, 0)), (3, (1, 72, 0))], [], gi_821, hq_598), [], ([(72, (-1))], 7)), ((33, [(0, (6, 0, 0)), (1, (1, 70, 0)), (2, (1, 71, 0)), (3, (1, 72, 0))], [], gi_822, hq_598), [], ([(72, (-1))], 7))]
theorem ch_1188 : staG tb_X12_swings 1 bt_RX12 [] ct_1188 [(10, [(1, (2, 1, 5), 0, 0)])] [] cu_1188 33 con_1188 = true := by decide +kernel
theorem cc_1188 : cu_1188.all (cutG tb_X12_swings 1 bt_RX12 [] ct_1188 [(10, [(1, (2, 1, 5), 0, 0)])] [] cu_1188 33 con_1188) = true := by decide +kernel
theorem cto_1188 (l : Launch) : CTOK2 l RX12 vwCl gTbl ct_1188 := ct2_cons (vl_673 l) ck_RX12_99_673 (ct2_cons (vl_665 l) ck_RX12_249_665 (ct2_cons (vl_692 l) ck_RX12_269_692 (ct2_cons (vl_787 l) ck_RX12_269_787 (ct2_cons (vl_818 l) ck_RX12_269_818 (ct2_cons (vl_834 l) ck_RX12_269_834 (ct2_cons (vl_842 l) ck_RX12_269_842 (ct2_cons (vl_847 l) ck_RX12_269_847 (ct2_cons (vl_753 l) ck_RX12_277_753 (ct2_cons (vl_801 l) ck_RX12_277_801 (ct2_cons (vl_825 l) ck_RX12_277_825 (ct2_cons (vl_837 l) ck_RX12_277_837 (ct2_cons (vl_844 l) ck_RX12_277_844 (ct2_cons (vl_850 l) ck_RX12_277_850 (ct2_cons (vl_692 l) ck_RX12_269_692 (ct2_cons (vl_787 l) ck_RX12_269_787 (ct2_cons (vl_818 l) ck_RX12_269_818 (ct2_cons (vl_834 l) ck_RX12_269_834 (ct2_cons (vl_842 l) ck_RX12_269_842 (ct2_cons (vl_847 l) ck_RX12_269_847 (ct2_cons (vl_753 l) ck_RX12_277_753 (ct2_cons (vl_801 l) ck_RX12_277_801 (ct2_cons (vl_825 l) ck_RX12_277_825 (ct2_cons (vl_837 l) ck_RX12_277_837 (ct2_cons (vl_844 l) ck_RX12_277_844 (ct2_cons (vl_850 l) ck_RX12_277_850 (ct2_nil))))))))))))))))))))))))))
theorem vl_1188 (l : Launch) : Vld2 l vwCl gTbl con_1188 := conR_ok3 gT_all (hd_1188) rfl pn_RX12 tk_X12_swings bo_RX12 xo_RX12 (cto_1188 l) ch_1188 (cut_all cc_1188)
/-- RookHusting tired -/
noncomputable def ac_682 : AC := .inl (4, jl_n [jl_8 26 6, jl_1 27 1, jl_8 31 4, jl_6 5 2, jl_8 37 4])
noncomputable def hc_171 : List AC := [ac_431, .inl (9, [(6, 2, 0), (8, 19, 0)]), ac_682, .inr (1, [(5, (2, 0, 40))]), .inr (1, [(5, (2, 0, 9))])]
noncomputable def gi_823 : GI := jl_n [jl_z 1, jl_t, jl_z 24, jl_i 0 5, jl_z 10, jl_m 1 48]
noncomputable def hq_599 : HP := [(false, ac_431), (false, .inl (9, [(6, 2, 0), (8, 19, 0)])), (false, ac_682), (false, .inr (1, [(5, (2, 0, 40))])), (false, .inr (1, [(5, (2, 0, 9))]))]
noncomputable def con_1189 : Con2 := ((yX11_tired, cX11_tired, 4, (some .int)), (1, 21), ([(6, 0, 0), (1, 1, 0)], gi_312, hc_171, []), [((1, 37, 0), gi_823, hq_599, [], [1])])
theorem hd_1189 : con_1189.1 = (yX11_tired, cX11_tired, 4, (some .int)) := rfl
noncomputable def ct_1189 : CTB2 := [(2, 156, 0, con_653, [0, 1, 2])]
noncomputable def cu_1189 : List CUT2 := []
theorem ch_1189 : staG tb_X11_tired 1 bt_RX11 [] ct_1189 [] [] cu_1189 32 con_1189 = true := by decide +kernel
theorem cto_1189 (l : Launch) : CTOK2 l RX11 vwCl gTbl ct_1189 := ct2_cons (vl_653 l) ck_RX11_156_653 (ct2_nil)
theorem vl_1189 (l : Launch) : Vld2 l vwCl gTbl con_1189 := conR_ok3 gT_all (hd_1189) rfl pn_RX11 tk_X11_tired bo_RX11 xo_RX11 (cto_1189 l) ch_1189 cut_nil
/-- RookHustingModel tired -/
noncomputable def gi_824 : GI := jl_n [jl_z 1, jl_t, jl_z 45, jl_i 0 16, jl_i 0 3, jl_i 0 10, jl_i 0 5, jl_i 0 8, jl_i 0 5, jl_i 0 7, jl_i 0 30, jl_i 0 2147483647, jl_z 14, jl_m 1 79]
noncomputable def con_1190 : Con2 := ((yX12_tired, cX12_tired, 4, (some .int)), (2, 46), ([(6, 0, 0), (1, 1, 0)], gi_317, [ac_437, ac_438], []), [((1, 70, 0), gi_824, [(false, ac_437), (false, ac_438)], [], [1])])
theorem hd_1190 : con_1190.1 = (yX12_tired, cX12_tired, 4, (some .int)) := rfl
noncomputable def ct_1190 : CTB2 := [(2, 236, 0, con_656, [0, 1])]
noncomputable def cu_1190 : List CUT2 := []
theorem ch_1190 : staG tb_X12_tired 1 bt_RX12 [] ct_1190 [] [] cu_1190 38 con_1190 = true := by decide +kernel
theorem cto_1190 (l : Launch) : CTOK2 l RX12 vwCl gTbl ct_1190 := ct2_cons (vl_656 l) ck_RX12_236_656 (ct2_nil)
theorem vl_1190 (l : Launch) : Vld2 l vwCl gTbl con_1190 := conR_ok3 gT_all (hd_1190) rfl pn_RX12 tk_X12_tired bo_RX12 xo_RX12 (cto_1190 l) ch_1190 cut_nil
/-- RookHusting guards -/
noncomputable def con_1191 : Con2 := ((yX11_guards, cX11_guards, 3, (some .int)), (6, 151), ([(6, 0, 0)], gi_791, hc_166, rq_2), [((1, 115, 0), gi_792, hq_591, [], [1, 1, 1, 1, 1, 1, 1, 1, 1, 1, 1, 1, 1, 1, 1, 1, 1, 1, 1, 1, 1, 1, 1, 1, 1, 1, 1, 1, 1, 1])])
theorem hd_1191 : con_1191.1 = (yX11_guards, cX11_guards, 3, (some .int)) := rfl
noncomputable def ct_1191 : CTB2 := [(1, 219, 0, con_667, [0, 1, 2]), (11, 208, 0, con_900, [0, 1, 3, 2, 4, 5, 6, 7, 8, 9, 10, 11, 12, 13, 14, 15, 16, 17, 18, 19, 20, 21, 22, 23, 24, 25, 26]), (37, 211, 0, con_858, [3, 4])]
noncomputable def cu_1191 : List CUT2 := [((18, [(0, (6, 0, 0)), (1, (1, 116, 0)), (2, (1, 117, 0))], [], gi_793, hq_592), rq_2, ([(117, (-1))], 5))]
theorem ch_1191 : staG tb_X11_guards 1 bt_RX11 [] ct_1191 [] [] cu_1191 23 con_1191 = true := by decide +kernel
theorem cc_1191 : cu_1191.all (cutG tb_X11_guards 1 bt_RX11 [] ct_1191 [] [] cu_1191 23 con_1191) = true := by decide +kernel
theorem cto_1191 (l : Launch) : CTOK2 l RX11 vwCl gTbl ct_1191 := ct2_cons (vl_667 l) ck_RX11_219_667 (ct2_cons (vl_900 l) ck_RX11_208_900 (ct2_cons (vl_858 l) ck_RX11_211_858 (ct2_nil)))
theorem vl_1191 (l : Launch) : Vld2 l vwCl gTbl con_1191 := conR_ok3 gT_all (hd_1191) rfl pn_RX11 tk_X11_guards bo_RX11 xo_RX11 (cto_1191 l) ch_1191 (cut_all cc_1191)
/-- RookHustingModel guards -/
noncomputable def con_1192 : Con2 := ((yX12_guards, cX12_guards, 3, (some .int)), (8, 188), ([(6, 0, 0)], gi_505, hc_107, []), [((1, 69, 0), gi_794, hq_504, [], [1, 1, 1, 1, 1, 1, 1, 1, 1, 1, 1, 1, 1, 1, 1, 1, 1, 1, 1, 1, 1, 1, 1, 1, 1, 1, 1, 1, 1, 1, 1, 1, 1, 1, 1, 1, 1, 1, 1, 1, 1, 1, 1, 1, 1, 1])])
theorem hd_1192 : con_1192.1 = (yX12_guards, cX12_guards, 3, (some .int)) := rfl
noncomputable def ct_1192 : CTB2 := [(1, 345, 0, con_905, [0, 1, 2, 3, 4, 5, 6]), (5, 99, 0, con_673, [0, 1]), (20, 106, 0, con_646, [0, 1])]
noncomputable def cu_1192 : List CUT2 := [((18, [(0, (6, 0, 0)), (1, (1, 70, 0)), (2, (1, 71, 0))], [], gi_795, hq_504), [], ([(71, (-1))], 5))]
theorem ch_1192 : staG tb_X12_guards 1 bt_RX12 [] ct_1192 [] [] cu_1192 24 con_1192 = true := by decide +kernel
theorem cc_1192 : cu_1192.all (cutG tb_X12_guards 1 bt_RX12 [] ct_1192 [] [] cu_1192 24 con_1192) = true := by decide +kernel
theorem cto_1192 (l : Launch) : CTOK2 l RX12 vwCl gTbl ct_1192 := ct2_cons (vl_905 l) ck_RX12_345_905 (ct2_cons (vl_673 l) ck_RX12_99_673 (ct2_cons (vl_646 l) ck_RX12_106_646 (ct2_nil)))
theorem vl_1192 (l : Launch) : Vld2 l vwCl gTbl con_1192 := conR_ok3 gT_all (hd_1192) rfl pn_RX12 tk_X12_guards bo_RX12 xo_RX12 (cto_1192 l) ch_1192 (cut_all cc_1192)
/-- RookHusting eats -/
noncomputable def ac_683 : AC := .inl (11, jl_n [jl_8 4 2, jl_6 2 1, jl_8 7 2, jl_6 12 1, jl_6 7 1, jl_8 10 1, jl_6 5 1, jl_8 15 4, jl_1 16 1, jl_8 18 2])
noncomputable def ac_684 : AC := .inl (4, jl_n [jl_8 21 1, jl_1 23 2, jl_8 24 1, jl_1 25 1, jl_8 26 1, jl_1 28 2, jl_6 4 1, jl_6 19 1, jl_6 11 1, jl_6 24 2, jl_6 14 1, jl_8 36 2, jl_6 13 1])
noncomputable def ac_685 : AC := .inl (3, jl_n [jl_6 22 1, jl_6 20 1, jl_6 6 1, jl_6 27 3, jl_6 21 1, jl_1 46 2])
noncomputable def hc_172 : List AC := [ac_683, .inl (9, [(6, 2, 0), (6, 14, 0)]), ac_684, .inr (1, [(5, (2, 0, 300))]), ac_685, .inr (1, [(85, (2, (-2147483648), 2147483647))]), .inl (7, [(6, 7, 0), (6, 8, 0), (6, 9, 0), (1, 49, 0)]), .inr (1, [(5, (2, (-1), 4))]), .inr (1, [(5, (2, (-2147483648), 2147483647))]), .inr (1, [(5, (2, (-2147483648), 2147483647))]), .inr (1, [(5, (2, (-2147483648), 2147483647))]), .inl (1, [(6, 2, 0), (8, 51, 0)]), .inr (1, [(35, (2, (-2147483648), 2147483647))]), .inr (1, [(7, (2, 0, 9))]), .inl (0, [(1, 52, 0), (6, 15, 0), (6, 16, 0), (6, 17, 0)]), ac_650, .inr (1, [(30, (2, 0, 4))]), ac_651, .inr (1, [(5, (2, 0, 40))]), .inr (1, [(85, (2, (-2147483648), 2147483647))]), .inr (1, [(5, (2, (-2147483648), 2147483647))]), .inr (1, [(85, (2, (-2147483648), 2147483647))]), .inr (1, [(5, (2, 0, 40))]), .inr (1, [(5, (2, 0, 9))]), .inr (1, [(85, (2, (-2147483648), 2147483647))]), .inr (1, [(85, (2, (-2147483648), 2147483647))]), .inr (1, [(85, (2, (-1), 4))])]
noncomputable def gi_825 : GI := jl_n [jl_z 1, jl_t, jl_z 13, jl_i 0 1, jl_z 5, jl_i 0 16, jl_i 0 3, jl_z 1, jl_i 0 5, jl_z 1, jl_i 0 5, jl_i 0 7, jl_z 16, jl_i 0 5, jl_i 0 16, jl_z 3, jl_t, jl_z 2, jl_i 0 30, jl_z 3, jl_r 30 (jl_i 0 1), jl_r 30 (jl_m 0 15), jl_t, jl_z 13, jl_i 0 1, jl_z 9, jl_i 0 5, jl_i 0 16, jl_z 3, jl_t]
noncomputable def ac_686 : AC := .inl (11, jl_n [jl_8 4 2, jl_6 2 1, jl_8 7 2, jl_6 12 1, jl_6 7 1, jl_8 10 1, jl_6 5 1, jl_8 15 4, jl_1 131 1, jl_8 18 2])
noncomputable def ac_687 : AC := .inl (3, jl_n [jl_6 22 1, jl_6 20 1, jl_6 6 1, jl_6 27 3, jl_6 21 1, jl_1 142 2])
noncomputable def hq_600 : HP := [(true, ac_686), (false, .inl (9, [(6, 2, 0), (6, 14, 0)])), (false, ac_684), (false, .inr (1, [(5, (2, 0, 300))])), (true, ac_687), (true, .inr (1, [(85, (2, (-2147483648), 2147483647))])), (true, .inl (7, [(6, 7, 0), (6, 8, 0), (6, 9, 0), (1, 145, 0)])), (true, .inr (1, [(5, (2, (-1), 4))])), (true, .inr (1, [(5, (2, (-2147483648), 2147483647))])), (true, .inr (1, [(5, (2, (-2147483648), 2147483647))])), (false, .inr (1, [(5, (2, (-2147483648), 2147483647))])), (false, .inl (1, [(6, 2, 0), (8, 51, 0)])), (false, .inr (1, [(35, (2, (-2147483648), 2147483647))])), (false, .inr (1, [(7, (2, 0, 9))])), (false, .inl (0, [(1, 52, 0), (6, 15, 0), (6, 16, 0), (6, 17, 0)])), (false, ac_650), (false, .inr (1, [(30, (2, 0, 4))])), (false, ac_651), (false, .inr (1, [(5, (2, 0, 40))])), (true, .inr (1, [(85, (2, (-2147483648), 2147483647))])), (true, .inr (1, [(5, (2, (-2147483648), 2147483647))])), (true, .inr (1, [(85, (2, (-2147483648), 2147483647))])), (false, .inr (1, [(5, (2, 0, 40))])), (false, .inr (1, [(5, (2, 0, 9))])), (true, .inr (1, [(85, (2, (-2147483648), 2147483647))])), (true, .inr (1, [(85, (2, (-2147483648), 2147483647))])), (true, .inr (1, [(85, (2, (-1), 4))]))]
noncomputable def con_1193 : Con2 := ((yX11_eats, cX11_eats, 2, (some .int)), (7, 174), ([(6, 0, 0), (1, 1, 0)], gi_783, hc_172, rq_7), [((1, 116, 0), gi_825, hq_600, [], [1, 1, 1, 1, 1, 1, 1, 1, 1, 1, 1, 1, 1, 1, 1, 1, 1, 1, 1, 1, 1, 1, 1, 1, 1, 1, 1, 1, 1, 1])])
theorem hd_1193 : con_1193.1 = (yX11_eats, cX11_eats, 2, (some .int)) := rfl
noncomputable def ct_1193 : CTB2 := [(2, 139, 0, con_643, [0, 1, 2]), (42, 266, 0, con_1117, [0, 5, 1, 6, 2, 7, 8, 9, 10, 11, 12, 13, 14, 15, 16, 17, 4, 18, 19, 3, 20, 21, 22, 23, 24, 25, 26])]
noncomputable def cu_1193 : List CUT2 := []
theorem ch_1193 : staG tb_X11_eats 1 bt_RX11 [] ct_1193 [] [] cu_1193 24 con_1193 = true := by decide +kernel
theorem cto_1193 (l : Launch) : CTOK2 l RX11 vwCl gTbl ct_1193 := ct2_cons (vl_643 l) ck_RX11_139_643 (ct2_cons (vl_1117 l) ck_RX11_266_1117 (ct2_nil))
theorem vl_1193 (l : Launch) : Vld2 l vwCl gTbl con_1193 := conR_ok3 gT_all (hd_1193) rfl pn_RX11 tk_X11_eats bo_RX11 xo_RX11 (cto_1193 l) ch_1193 cut_nil
/-- RookHustingModel eats -/
noncomputable def con_1194 : Con2 := ((yX12_eats, cX12_eats, 2, (some .int)), (10, 229), ([(6, 0, 0), (1, 1, 0)], gi_508, hc_148, []), [((1, 70, 0), gi_772, hq_567, [], [1, 1, 1, 1, 1, 1, 1, 1, 1, 1, 1, 1, 1, 1, 1, 1, 1, 1, 1, 1, 1, 1, 1, 1, 1, 1, 1, 1, 1, 1, 1, 1, 1, 1, 1, 1, 1, 1, 1, 1, 1, 1, 1, 1, 1, 1])])
theorem hd_1194 : con_1194.1 = (yX12_eats, cX12_eats, 2, (some .int)) := rfl
noncomputable def ct_1194 : CTB2 := [(2, 384, 0, con_1142, [0, 1, 2, 3, 4, 5, 6, 7, 8, 9, 10, 11, 12]), (20, 103, 0, con_1100, [0, 1])]
noncomputable def cu_1194 : List CUT2 := []
theorem ch_1194 : staG tb_X12_eats 1 bt_RX12 [] ct_1194 [] [] cu_1194 22 con_1194 = true := by decide +kernel
theorem cto_1194 (l : Launch) : CTOK2 l RX12 vwCl gTbl ct_1194 := ct2_cons (vl_1142 l) ck_RX12_384_1142 (ct2_cons (vl_1100 l) ck_RX12_103_1100 (ct2_nil))
theorem vl_1194 (l : Launch) : Vld2 l vwCl gTbl con_1194 := conR_ok3 gT_all (hd_1194) rfl pn_RX12 tk_X12_eats bo_RX12 xo_RX12 (cto_1194 l) ch_1194 cut_nil
/-- RookHusting quiet -/
noncomputable def gi_826 : GI := jl_n [jl_z 1, jl_t, jl_z 13, jl_i 0 1, jl_z 5, jl_i 0 16, jl_i 0 3, jl_z 1, jl_i 0 5, jl_z 1, jl_i 0 5, jl_i 0 7, jl_z 12, jl_t, jl_z 2, jl_i 0 30, jl_z 3, jl_r 30 (jl_i 0 1), jl_r 30 (jl_m 0 15), jl_z 7, jl_i 0 5, jl_i 0 16, jl_t, jl_z 13, jl_i 0 1, jl_z 5, jl_t, jl_z 7, jl_i 0 5, jl_i 0 16]
noncomputable def con_1195 : Con2 := ((yX11_quiet, cX11_quiet, 4, (some .int)), (6, 151), ([(6, 0, 0), (1, 1, 0)], gi_494, hc_104, rq_3), [((1, 116, 0), gi_826, hq_498, [], [1, 1, 1, 1, 1, 1, 1, 1, 1, 1, 1, 1, 1, 1, 1, 1, 1, 1, 1, 1, 1, 1, 1, 1, 1, 1, 1, 1, 1, 1])])
theorem hd_1195 : con_1195.1 = (yX11_quiet, cX11_quiet, 4, (some .int)) := rfl
noncomputable def ct_1195 : CTB2 := [(2, 272, 0, con_1120, [0, 1, 2]), (12, 208, 0, con_900, [0, 1, 3, 2, 4, 5, 6, 7, 8, 9, 10, 11, 12, 13, 14, 15, 16, 17, 18, 19, 20, 21, 22, 23, 24, 25, 26])]
noncomputable def gi_827 : GI := jl_n [jl_z 1, jl_i 0 15, jl_z 13, jl_i 0 1, jl_z 5, jl_i 1 16, jl_i 0 3, jl_z 1, jl_i 0 5, jl_z 1, jl_i 0 5, jl_i 0 7, jl_z 12, jl_t, jl_z 2, jl_i 0 30, jl_z 3, jl_r 30 (jl_i 0 1), jl_r 30 (jl_m 0 15), jl_z 7, jl_i 0 5, jl_i 0 16, jl_z 2, jl_t, jl_i 0 5, jl_z 19, jl_t, jl_z 7, jl_i 0 5, jl_i 0 16]
noncomputable def ac_688 : AC := .inl (11, jl_n [jl_8 4 2, jl_6 2 1, jl_8 7 2, jl_6 9 1, jl_6 4 1, jl_8 10 1, jl_6 16 1, jl_8 15 4, jl_c 1, jl_8 18 2])
noncomputable def ac_689 : AC := .inl (3, jl_n [jl_6 22 1, jl_6 18 1, jl_6 20 1, jl_6 27 3, jl_6 21 1, jl_1 149 2])
noncomputable def hq_601 : HP := [(true, ac_688), (false, .inl (9, [(6, 2, 0), (6, 11, 0)])), (false, ac_514), (true, .inl (7, [(6, 4, 0), (6, 5, 0), (6, 6, 0), (1, 139, 0)])), (true, .inr (1, [(5, (2, (-1), 4))])), (true, .inr (1, [(5, (2, (-2147483648), 2147483647))])), (true, .inr (1, [(5, (2, (-2147483648), 2147483647))])), (false, .inr (1, [(5, (2, (-2147483648), 2147483647))])), (false, .inl (1, [(6, 2, 0), (8, 42, 0)])), (false, .inr (1, [(35, (2, (-2147483648), 2147483647))])), (false, .inr (1, [(7, (2, 0, 9))])), (false, .inl (0, [(1, 43, 0), (6, 12, 0), (6, 13, 0), (6, 14, 0)])), (false, ac_515), (false, .inr (1, [(30, (2, 0, 4))])), (false, ac_516), (true, ac_689), (false, .inr (1, [(5, (2, 0, 40))])), (true, .inr (1, [(85, (2, (-2147483648), 2147483647))])), (false, .inr (1, [(5, (2, 0, 300))])), (true, .inr (1, [(85, (2, (-2147483648), 2147483647))])), (true, .inr (1, [(5, (2, (-2147483648), 2147483647))])), (true, .inr (1, [(85, (2, (-2147483648), 2147483647))])), (false, .inr (1, [(5, (2, 0, 40))])), (false, .inr (1, [(5, (2, 0, 9))])), (true, .inr (1, [(85, (2, (-2147483648), 2147483647))])), (true, .inr (1, [(85, (2, (-2147483648), 2147483647))])), (true, .inr (1, [(85, (2, (-1), 4))]))]
noncomputable def cu_1195 : List CUT2 := [((19, [(0, (6, 0, 0)), (1, (1, 1, 0)), (2, (1, 118, 0)), (3, (1, 119, 0))], [], gi_827, hq_601), rq_3, ([(119, (-1))], 5))]
theorem ch_1195 : staG tb_X11_quiet 1 bt_RX11 [] ct_1195 [] [] cu_1195 27 con_1195 = true := by decide +kernel
theorem cc_1195 : cu_1195.all (cutG tb_X11_quiet 1 bt_RX11 [] ct_1195 [] [] cu_1195 27 con_1195) = true := by decide +kernel
theorem cto_1195 (l : Launch) : CTOK2 l RX11 vwCl gTbl ct_1195 := ct2_cons (vl_1120 l) ck_RX11_272_1120 (ct2_cons (vl_900 l) ck_RX11_208_900 (ct2_nil))
theorem vl_1195 (l : Launch) : Vld2 l vwCl gTbl con_1195 := conR_ok3 gT_all (hd_1195) rfl pn_RX11 tk_X11_quiet bo_RX11 xo_RX11 (cto_1195 l) ch_1195 (cut_all cc_1195)
/-- RookHustingModel quiet -/
noncomputable def con_1196 : Con2 := ((yX12_quiet, cX12_quiet, 4, (some .int)), (10, 229), ([(6, 0, 0), (1, 1, 0)], gi_508, hc_148, []), [((1, 70, 0), gi_772, hq_567, [], [1, 1, 1, 1, 1, 1, 1, 1, 1, 1, 1, 1, 1, 1, 1, 1, 1, 1, 1, 1, 1, 1, 1, 1, 1, 1, 1, 1, 1, 1, 1, 1, 1, 1, 1, 1, 1, 1, 1, 1, 1, 1, 1, 1, 1, 1])])
theorem hd_1196 : con_1196.1 = (yX12_quiet, cX12_quiet, 4, (some .int)) := rfl
noncomputable def ct_1196 : CTB2 := [(2, 381, 0, con_1125, [0, 1, 2, 3, 4, 5, 6, 7, 8, 9, 10, 11, 12]), (17, 106, 0, con_646, [0, 1])]
noncomputable def gi_828 : GI := jl_n [jl_z 1, jl_i 0 15, jl_z 17, jl_i 0 128, jl_z 3, jl_r 2 (jl_t), jl_r 2 (jl_m 0 4), jl_z 20, jl_i 1 16, jl_i 0 3, jl_i 0 10, jl_i 0 5, jl_i 0 8, jl_i 0 5, jl_i 0 7, jl_i 0 30, jl_i 1 2147483647, jl_z 16, jl_t, jl_i 0 5, jl_z 45]
noncomputable def cu_1196 : List CUT2 := [((15, [(0, (6, 0, 0)), (1, (1, 1, 0)), (2, (1, 72, 0)), (3, (1, 73, 0))], [], gi_828, hq_567), [], ([(73, (-1))], 5))]
theorem ch_1196 : staG tb_X12_quiet 1 bt_RX12 [] ct_1196 [] [] cu_1196 25 con_1196 = true := by decide +kernel
theorem cc_1196 : cu_1196.all (cutG tb_X12_quiet 1 bt_RX12 [] ct_1196 [] [] cu_1196 25 con_1196) = true := by decide +kernel
theorem cto_1196 (l : Launch) : CTOK2 l RX12 vwCl gTbl ct_1196 := ct2_cons (vl_1125 l) ck_RX12_381_1125 (ct2_cons (vl_646 l) ck_RX12_106_646 (ct2_nil))
theorem vl_1196 (l : Launch) : Vld2 l vwCl gTbl con_1196 := conR_ok3 gT_all (hd_1196) rfl pn_RX12 tk_X12_quiet bo_RX12 xo_RX12 (cto_1196 l) ch_1196 (cut_all cc_1196)
/-- RookHusting peace -/
noncomputable def gi_829 : GI := jl_n [jl_z 14, jl_i 0 1, jl_z 4, jl_t, jl_i 0 16, jl_i 0 3, jl_z 1, jl_i 0 5, jl_z 1, jl_i 0 5, jl_i 0 7, jl_z 12, jl_t, jl_z 2, jl_i 0 30, jl_z 3, jl_r 30 (jl_i 0 1), jl_r 30 (jl_m 0 15), jl_z 7, jl_i 0 5, jl_i 0 16, jl_m 1 2147483647, jl_z 13, jl_i 0 1, jl_z 5, jl_t, jl_z 7, jl_i 0 5, jl_i 0 16]
noncomputable def con_1197 : Con2 := ((yX11_peace, cX11_peace, 4, (some .int)), (6, 151), ([(6, 0, 0)], gi_791, hc_166, rq_2), [((1, 115, 0), gi_829, hq_591, [], [1, 1, 1, 1, 1, 1, 1, 1, 1, 1, 1, 1, 1, 1, 1, 1, 1, 1, 1, 1, 1, 1, 1, 1, 1, 1, 1, 1, 1, 1])])
theorem hd_1197 : con_1197.1 = (yX11_peace, cX11_peace, 4, (some .int)) := rfl
noncomputable def ct_1197 : CTB2 := [(1, 219, 0, con_667, [0, 1, 2]), (11, 208, 0, con_900, [0, 1, 3, 2, 4, 5, 6, 7, 8, 9, 10, 11, 12, 13, 14, 15, 16, 17, 18, 19, 20, 21, 22, 23, 24, 25, 26]), (46, 300, 0, con_1177, [15, 24])]
noncomputable def gi_830 : GI := jl_n [jl_z 14, jl_i 0 1, jl_z 4, jl_i 1 2147483647, jl_i 0 16, jl_i 0 3, jl_z 1, jl_i 0 5, jl_z 1, jl_i 0 5, jl_i 0 7, jl_z 12, jl_t, jl_z 2, jl_i 0 30, jl_z 3, jl_r 30 (jl_i 0 1), jl_r 30 (jl_m 0 15), jl_z 7, jl_i 0 5, jl_i 0 16, jl_z 1, jl_i 0 2147483647, jl_t, jl_i 0 16, jl_z 19, jl_t, jl_z 7, jl_i 0 5, jl_i 0 16]
noncomputable def ac_690 : AC := .inl (3, jl_n [jl_6 22 1, jl_6 18 1, jl_6 20 1, jl_6 27 3, jl_6 21 1, jl_1 148 2])
noncomputable def hq_602 : HP := [(true, ac_674), (false, .inl (9, [(6, 2, 0), (6, 11, 0)])), (false, ac_671), (true, .inl (7, [(6, 4, 0), (6, 5, 0), (6, 6, 0), (1, 138, 0)])), (true, .inr (1, [(5, (2, (-1), 4))])), (true, .inr (1, [(5, (2, (-2147483648), 2147483647))])), (true, .inr (1, [(5, (2, (-2147483648), 2147483647))])), (false, .inr (1, [(5, (2, (-2147483648), 2147483647))])), (false, .inl (1, [(6, 2, 0), (8, 41, 0)])), (false, .inr (1, [(35, (2, (-2147483648), 2147483647))])), (false, .inr (1, [(7, (2, 0, 9))])), (false, .inl (0, [(1, 42, 0), (6, 12, 0), (6, 13, 0), (6, 14, 0)])), (false, ac_508), (false, .inr (1, [(30, (2, 0, 4))])), (false, ac_509), (true, ac_690), (false, .inr (1, [(5, (2, 0, 40))])), (true, .inr (1, [(85, (2, (-2147483648), 2147483647))])), (false, .inr (1, [(5, (2, 0, 300))])), (true, .inr (1, [(85, (2, (-2147483648), 2147483647))])), (true, .inr (1, [(5, (2, (-2147483648), 2147483647))])), (true, .inr (1, [(85, (2, (-2147483648), 2147483647))])), (false, .inr (1, [(5, (2, 0, 40))])), (false, .inr (1, [(5, (2, 0, 9))])), (true, .inr (1, [(85, (2, (-2147483648), 2147483647))])), (true, .inr (1, [(85, (2, (-2147483648), 2147483647))])), (true, .inr (1, [(85, (2, (-1), 4))]))]
noncomputable def cu_1197 : List CUT2 := [((20, [(0, (6, 0, 0)), (1, (1, 116, 0)), (2, (1, 117, 0)), (3, (1, 118, 0))], [], gi_830, hq_602), rq_2, ([(118, (-1))], 16))]
theorem ch_1197 : staG tb_X11_peace 1 bt_RX11 [] ct_1197 [] [] cu_1197 28 con_1197 = true := by decide +kernel
theorem cc_1197 : cu_1197.all (cutG tb_X11_peace 1 bt_RX11 [] ct_1197 [] [] cu_1197 28 con_1197) = true := by decide +kernel
theorem cto_1197 (l : Launch) : CTOK2 l RX11 vwCl gTbl ct_1197 := ct2_cons (vl_667 l) ck_RX11_219_667 (ct2_cons (vl_900 l) ck_RX11_208_900 (ct2_cons (vl_1177 l) ck_RX11_300_1177 (ct2_nil)))
theorem vl_1197 (l : Launch) : Vld2 l vwCl gTbl con_1197 := conR_ok3 gT_all (hd_1197) rfl pn_RX11 tk_X11_peace bo_RX11 xo_RX11 (cto_1197 l) ch_1197 (cut_all cc_1197)
/-- RookHustingModel peace -/
noncomputable def gi_831 : GI := jl_n [jl_z 18, jl_i 0 128, jl_z 3, jl_r 2 (jl_t), jl_r 2 (jl_m 0 4), jl_z 20, jl_i 0 16, jl_i 0 3, jl_i 0 10, jl_i 0 5, jl_i 0 8, jl_i 0 5, jl_i 0 7, jl_i 0 30, jl_i 0 2147483647, jl_z 14, jl_m 1 2147483647, jl_z 45]
noncomputable def con_1198 : Con2 := ((yX12_peace, cX12_peace, 4, (some .int)), (9, 208), ([(6, 0, 0)], gi_505, hc_147, []), [((1, 69, 0), gi_831, hq_566, [], [1, 1, 1, 1, 1, 1, 1, 1, 1, 1, 1, 1, 1, 1, 1, 1, 1, 1, 1, 1, 1, 1, 1, 1, 1, 1, 1, 1, 1, 1, 1, 1, 1, 1, 1, 1, 1, 1, 1, 1, 1, 1, 1, 1, 1, 1])])
theorem hd_1198 : con_1198.1 = (yX12_peace, cX12_peace, 4, (some .int)) := rfl
noncomputable def ct_1198 : CTB2 := [(1, 366, 0, con_1109, [0, 1, 2, 3, 4, 5, 6, 7, 8, 9, 10, 11, 12]), (18, 103, 0, con_1100, [0, 1]), (26, 375, 0, con_1133, [0, 1, 7]), (33, 375, 0, con_1133, [0, 1, 7])]
noncomputable def gi_832 : GI := jl_n [jl_z 18, jl_i 0 128, jl_z 3, jl_r 2 (jl_t), jl_r 2 (jl_m 0 4), jl_z 20, jl_i 0 16, jl_i 0 3, jl_i 0 10, jl_i 0 5, jl_i 0 8, jl_i 0 5, jl_i 0 7, jl_i 0 30, jl_i 1 2147483647, jl_z 15, jl_i 0 2147483647, jl_t, jl_i 0 16, jl_z 45]
noncomputable def cu_1198 : List CUT2 := [((16, [(0, (6, 0, 0)), (1, (1, 70, 0)), (2, (1, 71, 0)), (3, (1, 72, 0))], [], gi_832, hq_566), [], ([(72, (-1))], 16))]
theorem ch_1198 : staG tb_X12_peace 1 bt_RX12 [] ct_1198 [] [] cu_1198 27 con_1198 = true := by decide +kernel
theorem cc_1198 : cu_1198.all (cutG tb_X12_peace 1 bt_RX12 [] ct_1198 [] [] cu_1198 27 con_1198) = true := by decide +kernel
theorem cto_1198 (l : Launch) : CTOK2 l RX12 vwCl gTbl ct_1198 := ct2_cons (vl_1109 l) ck_RX12_366_1109 (ct2_cons (vl_1100 l) ck_RX12_103_1100 (ct2_cons (vl_1133 l) ck_RX12_375_1133 (ct2_cons (vl_1133 l) ck_RX12_375_1133 (ct2_nil))))
theorem vl_1198 (l : Launch) : Vld2 l vwCl gTbl con_1198 := conR_ok3 gT_all (hd_1198) rfl pn_RX12 tk_X12_peace bo_RX12 xo_RX12 (cto_1198 l) ch_1198 (cut_all cc_1198)
/-- RookHusting bold -/
noncomputable def con_1199 : Con2 := ((yX11_bold, cX11_bold, 2, (some .int)), (6, 151), ([(6, 0, 0), (1, 1, 0)], gi_494, hc_104, rq_3), [((1, 116, 0), gi_826, hq_498, [], [1, 1, 1, 1, 1, 1, 1, 1, 1, 1, 1, 1, 1, 1, 1, 1, 1, 1, 1, 1, 1, 1, 1, 1, 1, 1, 1, 1, 1, 1])])
theorem hd_1199 : con_1199.1 = (yX11_bold, cX11_bold, 2, (some .int)) := rfl
noncomputable def ct_1199 : CTB2 := [(2, 139, 0, con_643, [0, 1, 2]), (12, 208, 0, con_900, [0, 1, 3, 2, 4, 5, 6, 7, 8, 9, 10, 11, 12, 13, 14, 15, 16, 17, 18, 19, 20, 21, 22, 23, 24, 25, 26]), (20, 294, 0, con_1152, [15, 24])]
noncomputable def cu_1199 : List CUT2 := []
theorem ch_1199 : staG tb_X11_bold 1 bt_RX11 [] ct_1199 [] [] cu_1199 13 con_1199 = true := by decide +kernel
theorem cto_1199 (l : Launch) : CTOK2 l RX11 vwCl gTbl ct_1199 := ct2_cons (vl_643 l) ck_RX11_139_643 (ct2_cons (vl_900 l) ck_RX11_208_900 (ct2_cons (vl_1152 l) ck_RX11_294_1152 (ct2_nil)))
theorem vl_1199 (l : Launch) : Vld2 l vwCl gTbl con_1199 := conR_ok3 gT_all (hd_1199) rfl pn_RX11 tk_X11_bold bo_RX11 xo_RX11 (cto_1199 l) ch_1199 cut_nil
