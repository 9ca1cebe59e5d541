/-! ===== contracts, 24 ===== -/
/-- RookHustingModel doesGain -/
noncomputable def con_1037 : Con2 := ((yX12_doesGain, cX12_doesGain, 9, (some .boolean)), (5, 121), ([(6, 0, 0), (1, 1, 0), (1, 2, 0), (1, 3, 0), (0, 4, 0)], gi_587, hc_127, []), [((0, 0, 0), gi_588, hq_533, [], [1]), ((0, 1, 0), gi_588, hq_533, [], [1])])
theorem hd_1037 : con_1037.1 = (yX12_doesGain, cX12_doesGain, 9, (some .boolean)) := rfl
noncomputable def cu_1037 : List CUT2 := []
theorem ch_1037 : staG tb_X12_doesGain 1 bt_RX12 [] ct_1026 [] [] cu_1037 177 con_1037 = true := by decide +kernel
theorem vl_1037 (l : Launch) : Vld2 l vwCl gTbl con_1037 := conR_ok3 gT_all (hd_1037) rfl pn_RX12 tk_X12_doesGain bo_RX12 xo_RX12 (cto_1026 l) ch_1037 cut_nil
/-- RookHustingModel doesGain -/
noncomputable def con_1038 : Con2 := ((yX12_doesGain, cX12_doesGain, 9, (some .boolean)), (5, 121), ([(6, 0, 0), (1, 1, 0), (1, 2, 0), (1, 3, 0), (0, 4, 0)], gi_587, hc_126, []), [((0, 0, 0), gi_588, hq_532, [], [1]), ((0, 1, 0), gi_588, hq_532, [], [1])])
theorem hd_1038 : con_1038.1 = (yX12_doesGain, cX12_doesGain, 9, (some .boolean)) := rfl
noncomputable def cu_1038 : List CUT2 := []
theorem ch_1038 : staG tb_X12_doesGain 1 bt_RX12 [] ct_1025 [] [] cu_1038 177 con_1038 = true := by decide +kernel
theorem vl_1038 (l : Launch) : Vld2 l vwCl gTbl con_1038 := conR_ok3 gT_all (hd_1038) rfl pn_RX12 tk_X12_doesGain bo_RX12 xo_RX12 (cto_1025 l) ch_1038 cut_nil
/-- RookHustingModel doesGain -/
noncomputable def con_1039 : Con2 := ((yX12_doesGain, cX12_doesGain, 9, (some .boolean)), (5, 121), ([(6, 0, 0), (1, 1, 0), (1, 2, 0), (1, 3, 0), (0, 5, 0)], gi_587, hc_126, []), [((0, 0, 0), gi_588, hq_532, [], [1]), ((0, 1, 0), gi_588, hq_532, [], [1])])
theorem hd_1039 : con_1039.1 = (yX12_doesGain, cX12_doesGain, 9, (some .boolean)) := rfl
noncomputable def cu_1039 : List CUT2 := []
theorem ch_1039 : staG tb_X12_doesGain 1 bt_RX12 [] ct_1025 [] [] cu_1039 212 con_1039 = true := by decide +kernel
theorem vl_1039 (l : Launch) : Vld2 l vwCl gTbl con_1039 := conR_ok3 gT_all (hd_1039) rfl pn_RX12 tk_X12_doesGain bo_RX12 xo_RX12 (cto_1025 l) ch_1039 cut_nil
/-- RookHustingModel gainsOf -/
noncomputable def gi_589 : GI := jl_n [gp_182, gp_189]
noncomputable def gi_590 : GI := jl_n [gp_182, gp_188, gp_123, jl_z 60]
noncomputable def ac_562 : AC := .inl (12, jl_n [vp_57, vp_46, jl_8 47 27])
noncomputable def hq_537 : HP := [(true, ac_562), (false, ac_438), (true, am_8), (true, am_5)]
noncomputable def con_1040 : Con2 := ((yX12_gainsOf, cX12_gainsOf, 6, (some .boolean)), (6, 149), ([(6, 0, 0), (1, 1, 0)], gi_589, hc_118, []), [((0, 0, 0), gi_590, hq_537, [], tg_1), ((0, 1, 0), gi_590, hq_537, [], tg_1)])
theorem hd_1040 : con_1040.1 = (yX12_gainsOf, cX12_gainsOf, 6, (some .boolean)) := rfl
theorem ck_RX12_301_1039 : COK2 RX12 vwCl gTbl 301 0 con_1039 := ⟨wd_1793, wd_137, mh_X12_doesGain, .inr (.inr ⟨rfl, wd_1790, wd_1792, wd_88, ⟨_, rfl, pd_X12_doesGain⟩, 12, _, TX12, 45, rfl, rfl⟩)⟩
theorem ck_RX12_301_1038 : COK2 RX12 vwCl gTbl 301 0 con_1038 := ⟨wd_1793, wd_137, mh_X12_doesGain, .inr (.inr ⟨rfl, wd_1790, wd_1792, wd_88, ⟨_, rfl, pd_X12_doesGain⟩, 12, _, TX12, 45, rfl, rfl⟩)⟩
theorem ck_RX12_301_1037 : COK2 RX12 vwCl gTbl 301 0 con_1037 := ⟨wd_1793, wd_137, mh_X12_doesGain, .inr (.inr ⟨rfl, wd_1790, wd_1792, wd_88, ⟨_, rfl, pd_X12_doesGain⟩, 12, _, TX12, 45, rfl, rfl⟩)⟩
theorem ck_RX12_301_1036 : COK2 RX12 vwCl gTbl 301 0 con_1036 := ⟨wd_1793, wd_137, mh_X12_doesGain, .inr (.inr ⟨rfl, wd_1790, wd_1792, wd_88, ⟨_, rfl, pd_X12_doesGain⟩, 12, _, TX12, 45, rfl, rfl⟩)⟩
theorem ck_RX12_301_1035 : COK2 RX12 vwCl gTbl 301 0 con_1035 := ⟨wd_1793, wd_137, mh_X12_doesGain, .inr (.inr ⟨rfl, wd_1790, wd_1792, wd_88, ⟨_, rfl, pd_X12_doesGain⟩, 12, _, TX12, 45, rfl, rfl⟩)⟩
theorem ck_RX12_301_1034 : COK2 RX12 vwCl gTbl 301 0 con_1034 := ⟨wd_1793, wd_137, mh_X12_doesGain, .inr (.inr ⟨rfl, wd_1790, wd_1792, wd_88, ⟨_, rfl, pd_X12_doesGain⟩, 12, _, TX12, 45, rfl, rfl⟩)⟩
theorem ck_RX12_301_1033 : COK2 RX12 vwCl gTbl 301 0 con_1033 := ⟨wd_1793, wd_137, mh_X12_doesGain, .inr (.inr ⟨rfl, wd_1790, wd_1792, wd_88, ⟨_, rfl, pd_X12_doesGain⟩, 12, _, TX12, 45, rfl, rfl⟩)⟩
theorem ck_RX12_301_1032 : COK2 RX12 vwCl gTbl 301 0 con_1032 := ⟨wd_1793, wd_137, mh_X12_doesGain, .inr (.inr ⟨rfl, wd_1790, wd_1792, wd_88, ⟨_, rfl, pd_X12_doesGain⟩, 12, _, TX12, 45, rfl, rfl⟩)⟩
theorem ck_RX12_301_1031 : COK2 RX12 vwCl gTbl 301 0 con_1031 := ⟨wd_1793, wd_137, mh_X12_doesGain, .inr (.inr ⟨rfl, wd_1790, wd_1792, wd_88, ⟨_, rfl, pd_X12_doesGain⟩, 12, _, TX12, 45, rfl, rfl⟩)⟩
theorem ck_RX12_301_1030 : COK2 RX12 vwCl gTbl 301 0 con_1030 := ⟨wd_1793, wd_137, mh_X12_doesGain, .inr (.inr ⟨rfl, wd_1790, wd_1792, wd_88, ⟨_, rfl, pd_X12_doesGain⟩, 12, _, TX12, 45, rfl, rfl⟩)⟩
theorem ck_RX12_301_1029 : COK2 RX12 vwCl gTbl 301 0 con_1029 := ⟨wd_1793, wd_137, mh_X12_doesGain, .inr (.inr ⟨rfl, wd_1790, wd_1792, wd_88, ⟨_, rfl, pd_X12_doesGain⟩, 12, _, TX12, 45, rfl, rfl⟩)⟩
theorem ck_RX12_301_1028 : COK2 RX12 vwCl gTbl 301 0 con_1028 := ⟨wd_1793, wd_137, mh_X12_doesGain, .inr (.inr ⟨rfl, wd_1790, wd_1792, wd_88, ⟨_, rfl, pd_X12_doesGain⟩, 12, _, TX12, 45, rfl, rfl⟩)⟩
theorem ck_RX12_301_1027 : COK2 RX12 vwCl gTbl 301 0 con_1027 := ⟨wd_1793, wd_137, mh_X12_doesGain, .inr (.inr ⟨rfl, wd_1790, wd_1792, wd_88, ⟨_, rfl, pd_X12_doesGain⟩, 12, _, TX12, 45, rfl, rfl⟩)⟩
theorem ck_RX12_301_1026 : COK2 RX12 vwCl gTbl 301 0 con_1026 := ⟨wd_1793, wd_137, mh_X12_doesGain, .inr (.inr ⟨rfl, wd_1790, wd_1792, wd_88, ⟨_, rfl, pd_X12_doesGain⟩, 12, _, TX12, 45, rfl, rfl⟩)⟩
theorem ck_RX12_301_1025 : COK2 RX12 vwCl gTbl 301 0 con_1025 := ⟨wd_1793, wd_137, mh_X12_doesGain, .inr (.inr ⟨rfl, wd_1790, wd_1792, wd_88, ⟨_, rfl, pd_X12_doesGain⟩, 12, _, TX12, 45, rfl, rfl⟩)⟩
theorem ck_RX12_301_1024 : COK2 RX12 vwCl gTbl 301 0 con_1024 := ⟨wd_1793, wd_137, mh_X12_doesGain, .inr (.inr ⟨rfl, wd_1790, wd_1792, wd_88, ⟨_, rfl, pd_X12_doesGain⟩, 12, _, TX12, 45, rfl, rfl⟩)⟩
theorem ck_RX12_301_1023 : COK2 RX12 vwCl gTbl 301 0 con_1023 := ⟨wd_1793, wd_137, mh_X12_doesGain, .inr (.inr ⟨rfl, wd_1790, wd_1792, wd_88, ⟨_, rfl, pd_X12_doesGain⟩, 12, _, TX12, 45, rfl, rfl⟩)⟩
theorem ck_RX12_301_1022 : COK2 RX12 vwCl gTbl 301 0 con_1022 := ⟨wd_1793, wd_137, mh_X12_doesGain, .inr (.inr ⟨rfl, wd_1790, wd_1792, wd_88, ⟨_, rfl, pd_X12_doesGain⟩, 12, _, TX12, 45, rfl, rfl⟩)⟩
theorem ck_RX12_301_1021 : COK2 RX12 vwCl gTbl 301 0 con_1021 := ⟨wd_1793, wd_137, mh_X12_doesGain, .inr (.inr ⟨rfl, wd_1790, wd_1792, wd_88, ⟨_, rfl, pd_X12_doesGain⟩, 12, _, TX12, 45, rfl, rfl⟩)⟩
theorem ck_RX12_301_1020 : COK2 RX12 vwCl gTbl 301 0 con_1020 := ⟨wd_1793, wd_137, mh_X12_doesGain, .inr (.inr ⟨rfl, wd_1790, wd_1792, wd_88, ⟨_, rfl, pd_X12_doesGain⟩, 12, _, TX12, 45, rfl, rfl⟩)⟩
theorem ck_RX12_301_1019 : COK2 RX12 vwCl gTbl 301 0 con_1019 := ⟨wd_1793, wd_137, mh_X12_doesGain, .inr (.inr ⟨rfl, wd_1790, wd_1792, wd_88, ⟨_, rfl, pd_X12_doesGain⟩, 12, _, TX12, 45, rfl, rfl⟩)⟩
noncomputable def ct_1040 : CTB2 := [(1, 249, 0, con_669, [0, 1, 2, 3]), (6, 269, 0, con_702, [0, 1]), (6, 269, 0, con_797, [0, 1]), (6, 269, 0, con_828, [0, 1]), (6, 269, 0, con_844, [0, 1]), (6, 269, 0, con_852, [0, 1]), (6, 269, 0, con_857, [0, 1]), (15, 277, 0, con_763, [0, 1, 2, 3]), (15, 277, 0, con_811, [0, 1, 2, 3]), (15, 277, 0, con_835, [0, 1, 2, 3]), (15, 277, 0, con_847, [0, 1, 2, 3]), (15, 277, 0, con_854, [0, 1, 2, 3]), (15, 277, 0, con_860, [0, 1, 2, 3]), (34, 95, 0, con_701, [0, 1]), (34, 95, 0, con_796, [0, 1]), (34, 95, 0, con_827, [0, 1]), (34, 95, 0, con_843, [0, 1]), (34, 95, 0, con_851, [0, 1]), (34, 95, 0, con_856, [0, 1]), (56, 301, 0, con_1019, [0, 1, 3, 2]), (56, 301, 0, con_1020, [0, 1, 3, 2]), (56, 301, 0, con_1021, [0, 1, 3, 2]), (56, 301, 0, con_1022, [0, 1, 3, 2]), (56, 301, 0, con_1023, [0, 1, 3, 2]), (56, 301, 0, con_1024, [0, 1, 3, 2]), (56, 301, 0, con_1025, [0, 1, 3, 2]), (56, 301, 0, con_1026, [0, 1, 3, 2]), (56, 301, 0, con_1027, [0, 1, 3, 2]), (56, 301, 0, con_1028, [0, 1, 3, 2]), (56, 301, 0, con_1029, [0, 1, 3, 2]), (56, 301, 0, con_1030, [0, 1, 3, 2]), (56, 301, 0, con_1031, [0, 1, 3, 2]), (56, 301, 0, con_1032, [0, 1, 3, 2]), (56, 301, 0, con_1033, [0, 1, 3, 2]), (56, 301, 0, con_1034, [0, 1, 3, 2]), (56, 301, 0, con_1035, [0, 1, 3, 2]), (56, 301, 0, con_1036, [0, 1, 3, 2]), (56, 301, 0, con_1037, [0, 1, 3, 2]), (56, 301, 0, con_1038, [0, 1, 3, 2]), (56, 301, 0, con_1039, [0, 1, 3, 2]), (72, 95, 0, con_701, [0, 1]), (72, 95, 0, con_796, [0, 1]), (72, 95, 0, con_827, [0, 1]), (72, 95, 0, con_843, [0, 1]), (72, 95, 0, con_851, [0, 1]), (72, 95, 0, con_856, [0, 1])]
noncomputable def gi_591 : GI := jl_n [gp_313, gp_315]
noncomputable def gi_592 : GI := jl_n [gp_316, gp_315]
noncomputable def gi_593 : GI := jl_n [gp_317, gp_315]
noncomputable def gi_594 : GI := jl_n [gp_318, gp_315]
noncomputable def gi_595 : GI := jl_n [gp_312, jl_i 1 1, gp_315]
noncomputable def gi_596 : GI := jl_n [gp_312, jl_z 1, gp_315]
noncomputable def gi_597 : GI := jl_n [gp_320, gp_321]
noncomputable def gi_598 : GI := jl_n [gp_316, gp_322]
noncomputable def gi_599 : GI := jl_n [gp_317, gp_322]
noncomputable def gi_600 : GI := jl_n [gp_318, gp_322]
noncomputable def gi_601 : GI := jl_n [gp_312, jl_i 1 1, gp_322]
noncomputable def gi_602 : GI := jl_n [gp_312, jl_z 1, gp_322]
noncomputable def gi_603 : GI := jl_n [gp_313, gp_323]
noncomputable def gi_604 : GI := jl_n [gp_316, gp_323]
noncomputable def gi_605 : GI := jl_n [gp_317, gp_323]
noncomputable def gi_606 : GI := jl_n [gp_318, gp_323]
noncomputable def gi_607 : GI := jl_n [gp_312, jl_i 1 1, gp_323]
noncomputable def gi_608 : GI := jl_n [gp_312, jl_z 1, gp_323]
noncomputable def gi_609 : GI := jl_n [gp_320, gp_284]
noncomputable def gi_610 : GI := jl_n [gp_316, gp_314, gp_324]
noncomputable def gi_611 : GI := jl_n [gp_325, jl_i 0 3, jl_z 45]
noncomputable def gi_612 : GI := jl_n [gp_318, gp_319, jl_i 0 2, jl_z 45]
noncomputable def gi_613 : GI := jl_n [gp_318, gp_314, gp_324]
noncomputable def gi_614 : GI := jl_n [gp_325, jl_i 0 9, jl_z 45]
noncomputable def gi_615 : GI := jl_n [gp_316, gp_319, jl_i 0 16, jl_z 45]
noncomputable def gi_616 : GI := jl_n [gp_320, jl_i 0 25, jl_z 45]
noncomputable def gi_617 : GI := jl_n [gp_325, jl_i 0 27, jl_z 45]
noncomputable def gi_618 : GI := jl_n [gp_316, gp_319, jl_i 0 64, jl_z 45]
noncomputable def gi_619 : GI := jl_n [gp_320, jl_i 25 30, jl_z 45]
noncomputable def gi_620 : GI := jl_n [gp_320, jl_i 0 125, jl_z 45]
noncomputable def gi_621 : GI := jl_n [gp_325, jl_i 27 30, jl_z 45]
noncomputable def gi_622 : GI := jl_n [gp_316, gp_319, jl_i 0 256, jl_z 45]
noncomputable def gi_623 : GI := jl_n [gp_320, jl_i 125 127, jl_z 45]
noncomputable def gi_624 : GI := jl_n [gp_320, jl_i 0 625, jl_z 45]
noncomputable def gi_625 : GI := jl_n [gp_320, jl_i 625 680, jl_z 45]
noncomputable def gi_626 : GI := jl_n [gp_320, jl_i 0 3125, jl_z 45]
noncomputable def cu_1040_0 : List CUT2 := [((31, [lq 0 6 0, lq 1 1 1, lq 2 1 72, lq 3 0 1, lq 4 0 0], [], gi_591, hq_537), [], ([], 21888)), ((31, [lq 0 6 0, lq 1 1 1, lq 2 1 72, lq 3 0 1, lq 4 0 0], [], gi_592, hq_537), [], ([], 21888)), ((31, [lq 0 6 0, lq 1 1 1, lq 2 1 72, lq 3 0 1, lq 4 0 0], [], gi_593, hq_537), [], ([], 21888)), ((31, [lq 0 6 0, lq 1 1 1, lq 2 1 72, lq 3 0 1, lq 4 0 0], [], gi_594, hq_537), [], ([], 21888)), ((31, [lq 0 6 0, lq 1 1 1, lq 2 1 72, lq 3 0 1, lq 4 0 0], [], gi_595, hq_537), [], ([], 21888)), ((31, [lq 0 6 0, lq 1 1 1, lq 2 1 72, lq 3 0 1, lq 4 0 0], [], gi_596, hq_537), [], ([], 21888)), ((43, [lq 0 6 0, lq 1 1 1, lq 2 1 72, lq 3 0 1, lq 4 0 0, lq 5 1 75], [], gi_597, hq_537), [], ([(75, (-1))], 21887)), ((43, [lq 0 6 0, lq 1 1 1, lq 2 1 72, lq 3 0 1, lq 4 0 0, lq 5 1 75], [], gi_598, hq_537), [], ([(75, (-1))], 21887)), ((43, [lq 0 6 0, lq 1 1 1, lq 2 1 72, lq 3 0 1, lq 4 0 0, lq 5 1 75], [], gi_599, hq_537), [], ([(75, (-1))], 21887)), ((43, [lq 0 6 0, lq 1 1 1, lq 2 1 72, lq 3 0 1, lq 4 0 0, lq 5 1 75], [], gi_600, hq_537), [], ([(75, (-1))], 21887)), ((43, [lq 0 6 0, lq 1 1 1, lq 2 1 72, lq 3 0 1, lq 4 0 0, lq 5 1 75], [], gi_601, hq_537), [], ([(75, (-1))], 21887)), ((43, [lq 0 6 0, lq 1 1 1, lq 2 1 72, lq 3 0 1, lq 4 0 0, lq 5 1 75], [], gi_602, hq_537), [], ([(75, (-1))], 21887)), ((31, [lq 0 6 0, lq 1 1 1, lq 2 1 72, lq 3 0 5, lq 4 0 1, lq 5 0 1], [], gi_603, hq_537), [], ([], 18761)), ((31, [lq 0 6 0, lq 1 1 1, lq 2 1 72, lq 3 0 4, lq 4 0 1, lq 5 0 1], [], gi_604, hq_537), [], ([], 18761)), ((31, [lq 0 6 0, lq 1 1 1, lq 2 1 72, lq 3 0 3, lq 4 0 1, lq 5 0 1], [], gi_605, hq_537), [], ([], 18761)), ((31, [lq 0 6 0, lq 1 1 1, lq 2 1 72, lq 3 0 2, lq 4 0 1, lq 5 0 1], [], gi_606, hq_537), [], ([], 18761)), ((31, [lq 0 6 0, lq 1 1 1, lq 2 1 72, lq 3 0 1, lq 4 0 1, lq 5 0 1], [], gi_607, hq_537), [], ([], 18761)), ((31, [lq 0 6 0, lq 1 1 1, lq 2 1 72, lq 3 0 0, lq 4 0 1, lq 5 0 1], [], gi_608, hq_537), [], ([], 18761)), ((43, [lq 0 6 0, lq 1 1 1, lq 2 1 72, lq 3 0 5, lq 4 0 1, lq 5 1 75], [], gi_609, hq_537), [], ([(75, (-1))], 18760)), ((43, [lq 0 6 0, lq 1 1 1, lq 2 1 72, lq 3 0 4, lq 4 0 1, lq 5 1 75], [], gi_610, hq_537), [], ([(75, (-1))], 18760)), ((43, [lq 0 6 0, lq 1 1 1, lq 2 1 72, lq 3 0 3, lq 4 0 1, lq 5 1 75], [], gi_611, hq_537), [], ([(75, (-1))], 18760)), ((43, [lq 0 6 0, lq 1 1 1, lq 2 1 72, lq 3 0 2, lq 4 0 1, lq 5 1 75], [], gi_612, hq_537), [], ([(75, (-1))], 18760)), ((43, [lq 0 6 0, lq 1 1 1, lq 2 1 72, lq 3 0 1, lq 4 0 1, lq 5 1 75], [], gi_601, hq_537), [], ([(75, (-1))], 18760)), ((31, [lq 0 6 0, lq 1 1 1, lq 2 1 72, lq 3 0 1, lq 4 0 2, lq 5 0 1], [], gi_607, hq_537), [], ([], 15634)), ((31, [lq 0 6 0, lq 1 1 1, lq 2 1 72, lq 3 0 4, lq 4 0 2, lq 5 0 2], [], gi_606, hq_537), [], ([], 15634)), ((31, [lq 0 6 0, lq 1 1 1, lq 2 1 72, lq 3 0 9, lq 4 0 2, lq 5 0 3], [], gi_605, hq_537), [], ([], 15634)), ((43, [lq 0 6 0, lq 1 1 1, lq 2 1 72, lq 3 0 4, lq 4 0 2, lq 5 1 75], [], gi_613, hq_537), [], ([(75, (-1))], 15633)), ((31, [lq 0 6 0, lq 1 1 1, lq 2 1 72, lq 3 0 16, lq 4 0 2, lq 5 0 4], [], gi_604, hq_537), [], ([], 15634)), ((43, [lq 0 6 0, lq 1 1 1, lq 2 1 72, lq 3 0 9, lq 4 0 2, lq 5 1 75], [], gi_614, hq_537), [], ([(75, (-1))], 15633)), ((31, [lq 0 6 0, lq 1 1 1, lq 2 1 72, lq 3 0 25, lq 4 0 2, lq 5 0 5], [], gi_603, hq_537), [], ([], 15634)), ((43, [lq 0 6 0, lq 1 1 1, lq 2 1 72, lq 3 0 16, lq 4 0 2, lq 5 1 75], [], gi_615, hq_537), [], ([(75, (-1))], 15633)), ((43, [lq 0 6 0, lq 1 1 1, lq 2 1 72, lq 3 0 25, lq 4 0 2, lq 5 1 75], [], gi_616, hq_537), [], ([(75, (-1))], 15633)), ((31, [lq 0 6 0, lq 1 1 1, lq 2 1 72, lq 3 0 8, lq 4 0 3, lq 5 0 4], [], gi_606, hq_537), [], ([], 12507)), ((31, [lq 0 6 0, lq 1 1 1, lq 2 1 72, lq 3 0 27, lq 4 0 3, lq 5 0 9], [], gi_605, hq_537), [], ([], 12507)), ((43, [lq 0 6 0, lq 1 1 1, lq 2 1 72, lq 3 0 27, lq 4 0 3, lq 5 1 75], [], gi_617, hq_537), [], ([(75, (-1))], 12506)), ((31, [lq 0 6 0, lq 1 1 1, lq 2 1 72, lq 3 0 64, lq 4 0 3, lq 5 0 16], [], gi_604, hq_537), [], ([], 12507)), ((43, [lq 0 6 0, lq 1 1 1, lq 2 1 72, lq 3 0 64, lq 4 0 3, lq 5 1 75], [], gi_618, hq_537), [], ([(75, (-1))], 12506)), ((31, [lq 0 6 0, lq 1 1 1, lq 2 1 72, lq 3 0 125, lq 4 0 3, lq 5 1 75], [], gi_619, hq_537), [], ([], 12507)), ((43, [lq 0 6 0, lq 1 1 1, lq 2 1 72, lq 3 0 125, lq 4 0 3, lq 5 1 75], [], gi_620, hq_537), [], ([(75, (-1))], 12506)), ((31, [lq 0 6 0, lq 1 1 1, lq 2 1 72, lq 3 0 81, lq 4 0 4, lq 5 1 75], [], gi_621, hq_537), [], ([], 9380)), ((31, [lq 0 6 0, lq 1 1 1, lq 2 1 72, lq 3 0 256, lq 4 0 4, lq 5 0 64], [], gi_604, hq_537), [], ([], 9380))]
noncomputable def cu_1040_1 : List CUT2 := [((43, [lq 0 6 0, lq 1 1 1, lq 2 1 72, lq 3 0 256, lq 4 0 4, lq 5 1 75], [], gi_622, hq_537), [], ([(75, (-1))], 9379)), ((31, [lq 0 6 0, lq 1 1 1, lq 2 1 72, lq 3 0 625, lq 4 0 4, lq 5 1 75], [], gi_623, hq_537), [], ([], 9380)), ((43, [lq 0 6 0, lq 1 1 1, lq 2 1 72, lq 3 0 625, lq 4 0 4, lq 5 1 75], [], gi_624, hq_537), [], ([(75, (-1))], 9379)), ((31, [lq 0 6 0, lq 1 1 1, lq 2 1 72, lq 3 0 1024, lq 4 0 5, lq 5 0 256], [], gi_604, hq_537), [], ([], 6253)), ((31, [lq 0 6 0, lq 1 1 1, lq 2 1 72, lq 3 0 3125, lq 4 0 5, lq 5 1 75], [], gi_625, hq_537), [], ([], 6253)), ((43, [lq 0 6 0, lq 1 1 1, lq 2 1 72, lq 3 0 3125, lq 4 0 5, lq 5 1 75], [], gi_626, hq_537), [], ([(75, (-1))], 6252)), ((31, [lq 0 6 0, lq 1 1 1, lq 2 1 72, lq 3 0 15625, lq 4 0 6, lq 5 0 3125], [], gi_603, hq_537), [], ([], 3126))]
noncomputable def cu_1040 : List CUT2 := cu_1040_0 ++ (cu_1040_1)
theorem ch_1040 : staG tb_X12_gainsOf 1 bt_RX12 [] ct_1040 [(0, [(1, (2, 1, 5), 0, 0)])] [] cu_1040 21 con_1040 = true := by decide +kernel
theorem cc_1040_0 : cu_1040_0.all (cutG tb_X12_gainsOf 1 bt_RX12 [] ct_1040 [(0, [(1, (2, 1, 5), 0, 0)])] [] cu_1040 21 con_1040) = true := by decide +kernel
theorem cc_1040_1 : cu_1040_1.all (cutG tb_X12_gainsOf 1 bt_RX12 [] ct_1040 [(0, [(1, (2, 1, 5), 0, 0)])] [] cu_1040 21 con_1040) = true := by decide +kernel
theorem cto_1040 (l : Launch) : CTOK2 l RX12 vwCl gTbl ct_1040 := ct2_cons (vl_669 l) ck_RX12_249_669 (ct2_cons (vl_702 l) ck_RX12_269_702 (ct2_cons (vl_797 l) ck_RX12_269_797 (ct2_cons (vl_828 l) ck_RX12_269_828 (ct2_cons (vl_844 l) ck_RX12_269_844 (ct2_cons (vl_852 l) ck_RX12_269_852 (ct2_cons (vl_857 l) ck_RX12_269_857 (ct2_cons (vl_763 l) ck_RX12_277_763 (ct2_cons (vl_811 l) ck_RX12_277_811 (ct2_cons (vl_835 l) ck_RX12_277_835 (ct2_cons (vl_847 l) ck_RX12_277_847 (ct2_cons (vl_854 l) ck_RX12_277_854 (ct2_cons (vl_860 l) ck_RX12_277_860 (ct2_cons (vl_701 l) ck_RX12_95_701 (ct2_cons (vl_796 l) ck_RX12_95_796 (ct2_cons (vl_827 l) ck_RX12_95_827 (ct2_cons (vl_843 l) ck_RX12_95_843 (ct2_cons (vl_851 l) ck_RX12_95_851 (ct2_cons (vl_856 l) ck_RX12_95_856 (ct2_cons (vl_1019 l) ck_RX12_301_1019 (ct2_cons (vl_1020 l) ck_RX12_301_1020 (ct2_cons (vl_1021 l) ck_RX12_301_1021 (ct2_cons (vl_1022 l) ck_RX12_301_1022 (ct2_cons (vl_1023 l) ck_RX12_301_1023 (ct2_cons (vl_1024 l) ck_RX12_301_1024 (ct2_cons (vl_1025 l) ck_RX12_301_1025 (ct2_cons (vl_1026 l) ck_RX12_301_1026 (ct2_cons (vl_1027 l) ck_RX12_301_1027 (ct2_cons (vl_1028 l) ck_RX12_301_1028 (ct2_cons (vl_1029 l) ck_RX12_301_1029 (ct2_cons (vl_1030 l) ck_RX12_301_1030 (ct2_cons (vl_1031 l) ck_RX12_301_1031 (ct2_cons (vl_1032 l) ck_RX12_301_1032 (ct2_cons (vl_1033 l) ck_RX12_301_1033 (ct2_cons (vl_1034 l) ck_RX12_301_1034 (ct2_cons (vl_1035 l) ck_RX12_301_1035 (ct2_cons (vl_1036 l) ck_RX12_301_1036 (ct2_cons (vl_1037 l) ck_RX12_301_1037 (ct2_cons (vl_1038 l) ck_RX12_301_1038 (ct2_cons (vl_1039 l) ck_RX12_301_1039 (ct2_cons (vl_701 l) ck_RX12_95_701 (ct2_cons (vl_796 l) ck_RX12_95_796 (ct2_cons (vl_827 l) ck_RX12_95_827 (ct2_cons (vl_843 l) ck_RX12_95_843 (ct2_cons (vl_851 l) ck_RX12_95_851 (ct2_cons (vl_856 l) ck_RX12_95_856 (ct2_nil))))))))))))))))))))))))))))))))))))))))))))))
theorem vl_1040 (l : Launch) : Vld2 l vwCl gTbl con_1040 := conR_ok3 gT_all (hd_1040) rfl pn_RX12 tk_X12_gainsOf bo_RX12 xo_RX12 (cto_1040 l) ch_1040 (cut_app (cut_all cc_1040_0) (cut_all cc_1040_1))
/-- RookHustingModel gains -/
noncomputable def gi_627 : GI := jl_n [gp_240, jl_m 1 1, gp_188]
noncomputable def con_1041 : Con2 := ((yX12_gains, cX12_gains, 2, (some .int)), (7, 174), ([(6, 0, 0), (1, 1, 0)], gi_431, hc_118, []), [((1, 70, 0), gi_627, hq_515, [], tg_1)])
theorem hd_1041 : con_1041.1 = (yX12_gains, cX12_gains, 2, (some .int)) := rfl
theorem ck_RX12_305_1040 : COK2 RX12 vwCl gTbl 305 0 con_1040 := ⟨wd_1789, wd_137, mh_X12_gainsOf, .inr (.inr ⟨rfl, wd_1786, wd_1788, wd_87, ⟨_, rfl, pd_X12_gainsOf⟩, 12, _, TX12, 45, rfl, rfl⟩)⟩
noncomputable def ct_1041 : CTB2 := [(2, 240, 0, con_665, [0, 1]), (10, 305, 0, con_1040, [0, 1, 2, 3])]
noncomputable def cu_1041 : List CUT2 := []
theorem ch_1041 : staG tb_X12_gains 1 bt_RX12 [] ct_1041 [] [] cu_1041 13 con_1041 = true := by decide +kernel
theorem cto_1041 (l : Launch) : CTOK2 l RX12 vwCl gTbl ct_1041 := ct2_cons (vl_665 l) ck_RX12_240_665 (ct2_cons (vl_1040 l) ck_RX12_305_1040 (ct2_nil))
theorem vl_1041 (l : Launch) : Vld2 l vwCl gTbl con_1041 := conR_ok3 gT_all (hd_1041) rfl pn_RX12 tk_X12_gains bo_RX12 xo_RX12 (cto_1041 l) ch_1041 cut_nil
/-- RookHusting plain -/
noncomputable def gi_628 : GI := jl_n [gp_310, gp_272, gp_326]
noncomputable def ac_563 : AC := .inl (4, jl_n [jl_1 20 1, jl_8 21 1, vp_11, vp_87, jl_6 7 1, jl_8 35 2, jl_6 6 1])
noncomputable def hc_132 : List AC := [ac_548, .inl (9, [(6, 2, 0), (8, 18, 0)]), ac_563, .inl (1, [(6, 2, 0), (6, 4, 0)]), am_4, am_4, am_6]
noncomputable def gi_629 : GI := jl_n [gp_310, gp_272, gp_326, jl_t, gp_311]
noncomputable def ac_564 : AC := .inl (11, jl_n [vp_90, jl_1 55 2])
noncomputable def hq_538 : HP := [(true, ac_564), (false, .inl (9, [(6, 2, 0), (8, 18, 0)])), (false, ac_563), (false, .inl (1, [(6, 2, 0), (6, 4, 0)])), (true, am_4), (false, am_4), (false, am_6)]
noncomputable def con_1042 : Con2 := ((yX11_plain, cX11_plain, 1, (some .int)), (12, 305), ([(6, 0, 0)], gi_628, hc_132, []), [((1, 38, 0), gi_629, hq_538, [], tg_2)])
theorem hd_1042 : con_1042.1 = (yX11_plain, cX11_plain, 1, (some .int)) := rfl
noncomputable def ct_1042 : CTB2 := [(1, 219, 0, con_671, [0, 1, 2]), (11, 232, 0, con_1017, [0, 1, 2, 3, 4, 5, 6])]
noncomputable def cu_1042 : List CUT2 := []
theorem ch_1042 : staG tb_X11_plain 1 bt_RX11 [] ct_1042 [] [] cu_1042 10 con_1042 = true := by decide +kernel
theorem cto_1042 (l : Launch) : CTOK2 l RX11 vwCl gTbl ct_1042 := ct2_cons (vl_671 l) ck_RX11_219_671 (ct2_cons (vl_1017 l) ck_RX11_232_1017 (ct2_nil))
theorem vl_1042 (l : Launch) : Vld2 l vwCl gTbl con_1042 := conR_ok3 gT_all (hd_1042) rfl pn_RX11 tk_X11_plain bo_RX11 xo_RX11 (cto_1042 l) ch_1042 cut_nil
/-- RookHustingModel plain -/
noncomputable def gi_630 : GI := jl_n [gp_185, gp_124, gp_305]
noncomputable def ac_565 : AC := .inl (12, jl_n [vp_44, jl_1 88 1, jl_8 46 27])
noncomputable def hq_539 : HP := [(true, ac_565), (false, ac_436), (true, am_8), (true, am_5)]
noncomputable def con_1043 : Con2 := ((yX12_plain, cX12_plain, 3, (some .int)), (7, 174), ([(6, 0, 0)], gi_332, hc_73, []), [((1, 69, 0), gi_630, hq_539, [], tg_1)])
theorem hd_1043 : con_1043.1 = (yX12_plain, cX12_plain, 3, (some .int)) := rfl
noncomputable def ct_1043 : CTB2 := [(1, 99, 0, con_678, [0, 1]), (28, 305, 0, con_1040, [0, 1, 2, 3])]
noncomputable def gi_631 : GI := jl_n [gp_185, gp_204, gp_212, gp_188]
noncomputable def ac_566 : AC := .inl (12, jl_n [vp_44, jl_1 90 1, jl_8 46 27])
noncomputable def hq_540 : HP := [(true, ac_566), (false, ac_436), (true, am_8), (true, am_5)]
noncomputable def cu_1043 : List CUT2 := [((14, [lq 0 6 0, lq 1 1 70, lq 2 1 71], [], gi_631, hq_540), [], ([(71, (-1))], 7))]
theorem ch_1043 : staG tb_X12_plain 1 bt_RX12 [] ct_1043 [] [] cu_1043 22 con_1043 = true := by decide +kernel
theorem cc_1043 : cu_1043.all (cutG tb_X12_plain 1 bt_RX12 [] ct_1043 [] [] cu_1043 22 con_1043) = true := by decide +kernel
theorem cto_1043 (l : Launch) : CTOK2 l RX12 vwCl gTbl ct_1043 := ct2_cons (vl_678 l) ck_RX12_99_678 (ct2_cons (vl_1040 l) ck_RX12_305_1040 (ct2_nil))
theorem vl_1043 (l : Launch) : Vld2 l vwCl gTbl con_1043 := conR_ok3 gT_all (hd_1043) rfl pn_RX12 tk_X12_plain bo_RX12 xo_RX12 (cto_1043 l) ch_1043 (cut_all cc_1043)
/-- RookHusting isVoter -/
noncomputable def gi_632 : GI := jl_n [gp_7, jl_z 35]
noncomputable def ac_567 : AC := .inl (4, jl_n [jl_8 27 7, jl_c 7, jl_8 37 9])
noncomputable def gi_633 : GI := jl_n [gp_7, jl_z 36]
noncomputable def hq_541 : HP := [(false, ac_431), (false, .inl (9, [(6, 2, 0), (8, 19, 0)])), (false, ac_567)]
noncomputable def gi_634 : GI := jl_n [gp_182, jl_z 36]
noncomputable def con_1044 : Con2 := ((yX11_isVoter, cX11_isVoter, 2, (some .boolean)), (0, 0), ([(6, 0, 0), (1, 1, 0)], gi_632, [ac_431, .inl (9, [(6, 2, 0), (8, 19, 0)]), ac_567], []), [((0, 0, 0), gi_633, hq_541, [], [1]), ((0, 1, 0), gi_634, hq_541, [], [1])])
theorem hd_1044 : con_1044.1 = (yX11_isVoter, cX11_isVoter, 2, (some .boolean)) := rfl
noncomputable def cu_1044 : List CUT2 := []
theorem ch_1044 : staG tb_X11_isVoter 1 bt_RX11 [] ct_3 [] [] cu_1044 13 con_1044 = true := by decide +kernel
theorem vl_1044 (l : Launch) : Vld2 l vwCl gTbl con_1044 := conR_ok3 gT_all (hd_1044) rfl pn_RX11 tk_X11_isVoter bo_RX11 xo_RX11 (cto_3 l) ch_1044 cut_nil
/-- java/lang/Integer bitCount -/
noncomputable def con_1046 : Con2 := ((yJ6_bitCount_0f7a4, cJ6_bitCount_0f7a4, 1, (some .int)), (0, 0), ([(1, 0, 0)], [(0, 126)], [], []), [((0, 0, 0), [(0, 0), (0, 0)], [], [], [1]), ((0, 1, 0), [(1, 64), (0, 0)], [], [], [1]), ((0, 2, 0), [(3, 96), (0, 0)], [], [], [1]), ((0, 3, 0), [(7, 112), (0, 0)], [], [], [1]), ((0, 4, 0), [(15, 120), (0, 0)], [], [], [1]), ((0, 5, 0), [(31, 124), (0, 0)], [], [], [1]), ((0, 6, 0), [(63, 126), (0, 0)], [], [], [1])])
theorem hd_1046 : con_1046.1 = (yJ6_bitCount_0f7a4, cJ6_bitCount_0f7a4, 1, (some .int)) := rfl
noncomputable def cu_1046 : List CUT2 := []
theorem ch_1046 : staG tb_J_bitCount 1 bt_RJ6 [] ct_675 [(0, [(1, (1, 0, 0), 0, 0)])] [] cu_1046 44 con_1046 = true := by decide +kernel
theorem vl_1046 (l : Launch) : Vld2 l vwCl gTbl con_1046 := conR_ok3 gT_all (hd_1046) rfl pn_RJ6 tk_J_bitCount bo_RJ6 xo_RJ6 (cto_675 l) ch_1046 cut_nil
/-- RookHusting hasBit -/
noncomputable def con_1050 : Con2 := ((yX11_hasBit, cX11_hasBit, 2, (some .boolean)), (0, 0), ([(0, 0, 0), (0, 2, 0)], [(0, 0), (0, 0)], [], []), [((0, 0, 0), [(0, 0), (0, 0), (0, 0)], [], [], [1])])
theorem hd_1050 : con_1050.1 = (yX11_hasBit, cX11_hasBit, 2, (some .boolean)) := rfl
noncomputable def cu_1050 : List CUT2 := []
theorem ch_1050 : staG tb_X11_hasBit 1 bt_RX11 [] ct_3 [] [] cu_1050 11 con_1050 = true := by decide +kernel
theorem vl_1050 (l : Launch) : Vld2 l vwCl gTbl con_1050 := conR_ok3 gT_all (hd_1050) rfl pn_RX11 tk_X11_hasBit bo_RX11 xo_RX11 (cto_3 l) ch_1050 cut_nil
/-- RookHusting hasBit -/
noncomputable def con_1051 : Con2 := ((yX11_hasBit, cX11_hasBit, 2, (some .boolean)), (0, 0), ([(0, 0, 0), (0, 1, 0)], [(0, 0), (0, 0)], [], []), [((0, 0, 0), [(0, 0), (0, 0), (0, 0)], [], [], [1])])
theorem hd_1051 : con_1051.1 = (yX11_hasBit, cX11_hasBit, 2, (some .boolean)) := rfl
noncomputable def cu_1051 : List CUT2 := []
theorem ch_1051 : staG tb_X11_hasBit 1 bt_RX11 [] ct_3 [] [] cu_1051 11 con_1051 = true := by decide +kernel
theorem vl_1051 (l : Launch) : Vld2 l vwCl gTbl con_1051 := conR_ok3 gT_all (hd_1051) rfl pn_RX11 tk_X11_hasBit bo_RX11 xo_RX11 (cto_3 l) ch_1051 cut_nil
/-- RookHusting hasBit -/
noncomputable def con_1052 : Con2 := ((yX11_hasBit, cX11_hasBit, 2, (some .boolean)), (0, 0), ([(0, 0, 0), (0, 0, 0)], [(0, 0), (0, 0)], [], []), [((0, 0, 0), [(0, 0), (0, 0), (0, 0)], [], [], [1])])
theorem hd_1052 : con_1052.1 = (yX11_hasBit, cX11_hasBit, 2, (some .boolean)) := rfl
noncomputable def cu_1052 : List CUT2 := []
theorem ch_1052 : staG tb_X11_hasBit 1 bt_RX11 [] ct_3 [] [] cu_1052 11 con_1052 = true := by decide +kernel
theorem vl_1052 (l : Launch) : Vld2 l vwCl gTbl con_1052 := conR_ok3 gT_all (hd_1052) rfl pn_RX11 tk_X11_hasBit bo_RX11 xo_RX11 (cto_3 l) ch_1052 cut_nil
/-- RookHusting hasBit -/
noncomputable def con_1065 : Con2 := ((yX11_hasBit, cX11_hasBit, 2, (some .boolean)), (0, 0), ([(1, 0, 0), (0, 1, 0)], [(0, 2), (0, 0)], [], []), [((0, 0, 0), [(0, 2), (0, 0), (0, 0)], [], [], [1]), ((0, 1, 0), [(0, 2), (0, 0), (0, 0)], [], [], [1])])
theorem hd_1065 : con_1065.1 = (yX11_hasBit, cX11_hasBit, 2, (some .boolean)) := rfl
noncomputable def cu_1065 : List CUT2 := []
theorem ch_1065 : staG tb_X11_hasBit 1 bt_RX11 [] ct_3 [] [] cu_1065 12 con_1065 = true := by decide +kernel
theorem vl_1065 (l : Launch) : Vld2 l vwCl gTbl con_1065 := conR_ok3 gT_all (hd_1065) rfl pn_RX11 tk_X11_hasBit bo_RX11 xo_RX11 (cto_3 l) ch_1065 cut_nil
/-- RookHusting hasBit -/
noncomputable def con_1066 : Con2 := ((yX11_hasBit, cX11_hasBit, 2, (some .boolean)), (0, 0), ([(1, 0, 0), (0, 0, 0)], [(0, 2), (0, 0)], [], []), [((0, 0, 0), [(0, 2), (0, 0), (0, 0)], [], [], [1]), ((0, 1, 0), [(0, 2), (0, 0), (0, 0)], [], [], [1])])
theorem hd_1066 : con_1066.1 = (yX11_hasBit, cX11_hasBit, 2, (some .boolean)) := rfl
noncomputable def cu_1066 : List CUT2 := []
theorem ch_1066 : staG tb_X11_hasBit 1 bt_RX11 [] ct_3 [] [] cu_1066 12 con_1066 = true := by decide +kernel
theorem vl_1066 (l : Launch) : Vld2 l vwCl gTbl con_1066 := conR_ok3 gT_all (hd_1066) rfl pn_RX11 tk_X11_hasBit bo_RX11 xo_RX11 (cto_3 l) ch_1066 cut_nil
/-- RookHusting hasBit -/
noncomputable def con_1092 : Con2 := ((yX11_hasBit, cX11_hasBit, 2, (some .boolean)), (0, 0), ([(1, 0, 0), (0, 2, 0)], [(0, 6), (0, 0)], [], []), [((0, 0, 0), [(0, 6), (0, 0), (0, 0)], [], [], [1]), ((0, 1, 0), [(0, 6), (0, 0), (0, 0)], [], [], [1])])
theorem hd_1092 : con_1092.1 = (yX11_hasBit, cX11_hasBit, 2, (some .boolean)) := rfl
noncomputable def cu_1092 : List CUT2 := []
theorem ch_1092 : staG tb_X11_hasBit 1 bt_RX11 [] ct_3 [] [] cu_1092 12 con_1092 = true := by decide +kernel
theorem vl_1092 (l : Launch) : Vld2 l vwCl gTbl con_1092 := conR_ok3 gT_all (hd_1092) rfl pn_RX11 tk_X11_hasBit bo_RX11 xo_RX11 (cto_3 l) ch_1092 cut_nil
/-- RookHusting hasBit -/
noncomputable def con_1093 : Con2 := ((yX11_hasBit, cX11_hasBit, 2, (some .boolean)), (0, 0), ([(1, 0, 0), (0, 1, 0)], [(0, 6), (0, 0)], [], []), [((0, 0, 0), [(0, 6), (0, 0), (0, 0)], [], [], [1]), ((0, 1, 0), [(0, 6), (0, 0), (0, 0)], [], [], [1])])
theorem hd_1093 : con_1093.1 = (yX11_hasBit, cX11_hasBit, 2, (some .boolean)) := rfl
noncomputable def cu_1093 : List CUT2 := []
theorem ch_1093 : staG tb_X11_hasBit 1 bt_RX11 [] ct_3 [] [] cu_1093 12 con_1093 = true := by decide +kernel
theorem vl_1093 (l : Launch) : Vld2 l vwCl gTbl con_1093 := conR_ok3 gT_all (hd_1093) rfl pn_RX11 tk_X11_hasBit bo_RX11 xo_RX11 (cto_3 l) ch_1093 cut_nil
/-- RookHusting hasBit -/
noncomputable def con_1094 : Con2 := ((yX11_hasBit, cX11_hasBit, 2, (some .boolean)), (0, 0), ([(1, 0, 0), (0, 0, 0)], [(0, 6), (0, 0)], [], []), [((0, 0, 0), [(0, 6), (0, 0), (0, 0)], [], [], [1]), ((0, 1, 0), [(0, 6), (0, 0), (0, 0)], [], [], [1])])
theorem hd_1094 : con_1094.1 = (yX11_hasBit, cX11_hasBit, 2, (some .boolean)) := rfl
noncomputable def cu_1094 : List CUT2 := []
theorem ch_1094 : staG tb_X11_hasBit 1 bt_RX11 [] ct_3 [] [] cu_1094 12 con_1094 = true := by decide +kernel
theorem vl_1094 (l : Launch) : Vld2 l vwCl gTbl con_1094 := conR_ok3 gT_all (hd_1094) rfl pn_RX11 tk_X11_hasBit bo_RX11 xo_RX11 (cto_3 l) ch_1094 cut_nil
/-- RookHusting hasBit -/
noncomputable def con_1153 : Con2 := ((yX11_hasBit, cX11_hasBit, 2, (some .boolean)), (0, 0), ([(1, 0, 0), (0, 4, 0)], [(0, 30), (0, 0)], [], []), [((0, 0, 0), [(0, 30), (0, 0), (0, 0)], [], [], [1]), ((0, 1, 0), [(0, 30), (0, 0), (0, 0)], [], [], [1])])
theorem hd_1153 : con_1153.1 = (yX11_hasBit, cX11_hasBit, 2, (some .boolean)) := rfl
noncomputable def cu_1153 : List CUT2 := []
theorem ch_1153 : staG tb_X11_hasBit 1 bt_RX11 [] ct_3 [] [] cu_1153 12 con_1153 = true := by decide +kernel
theorem vl_1153 (l : Launch) : Vld2 l vwCl gTbl con_1153 := conR_ok3 gT_all (hd_1153) rfl pn_RX11 tk_X11_hasBit bo_RX11 xo_RX11 (cto_3 l) ch_1153 cut_nil
/-- RookHusting hasBit -/
noncomputable def con_1154 : Con2 := ((yX11_hasBit, cX11_hasBit, 2, (some .boolean)), (0, 0), ([(1, 0, 0), (0, 3, 0)], [(0, 30), (0, 0)], [], []), [((0, 0, 0), [(0, 30), (0, 0), (0, 0)], [], [], [1]), ((0, 1, 0), [(0, 30), (0, 0), (0, 0)], [], [], [1])])
theorem hd_1154 : con_1154.1 = (yX11_hasBit, cX11_hasBit, 2, (some .boolean)) := rfl
noncomputable def cu_1154 : List CUT2 := []
theorem ch_1154 : staG tb_X11_hasBit 1 bt_RX11 [] ct_3 [] [] cu_1154 12 con_1154 = true := by decide +kernel
theorem vl_1154 (l : Launch) : Vld2 l vwCl gTbl con_1154 := conR_ok3 gT_all (hd_1154) rfl pn_RX11 tk_X11_hasBit bo_RX11 xo_RX11 (cto_3 l) ch_1154 cut_nil
/-- RookHusting hasBit -/
noncomputable def con_1155 : Con2 := ((yX11_hasBit, cX11_hasBit, 2, (some .boolean)), (0, 0), ([(1, 0, 0), (0, 2, 0)], [(0, 30), (0, 0)], [], []), [((0, 0, 0), [(0, 30), (0, 0), (0, 0)], [], [], [1]), ((0, 1, 0), [(0, 30), (0, 0), (0, 0)], [], [], [1])])
theorem hd_1155 : con_1155.1 = (yX11_hasBit, cX11_hasBit, 2, (some .boolean)) := rfl
noncomputable def cu_1155 : List CUT2 := []
theorem ch_1155 : staG tb_X11_hasBit 1 bt_RX11 [] ct_3 [] [] cu_1155 12 con_1155 = true := by decide +kernel
theorem vl_1155 (l : Launch) : Vld2 l vwCl gTbl con_1155 := conR_ok3 gT_all (hd_1155) rfl pn_RX11 tk_X11_hasBit bo_RX11 xo_RX11 (cto_3 l) ch_1155 cut_nil
/-- RookHusting hasBit -/
noncomputable def con_1156 : Con2 := ((yX11_hasBit, cX11_hasBit, 2, (some .boolean)), (0, 0), ([(1, 0, 0), (0, 1, 0)], [(0, 30), (0, 0)], [], []), [((0, 0, 0), [(0, 30), (0, 0), (0, 0)], [], [], [1]), ((0, 1, 0), [(0, 30), (0, 0), (0, 0)], [], [], [1])])
theorem hd_1156 : con_1156.1 = (yX11_hasBit, cX11_hasBit, 2, (some .boolean)) := rfl
noncomputable def cu_1156 : List CUT2 := []
theorem ch_1156 : staG tb_X11_hasBit 1 bt_RX11 [] ct_3 [] [] cu_1156 12 con_1156 = true := by decide +kernel
theorem vl_1156 (l : Launch) : Vld2 l vwCl gTbl con_1156 := conR_ok3 gT_all (hd_1156) rfl pn_RX11 tk_X11_hasBit bo_RX11 xo_RX11 (cto_3 l) ch_1156 cut_nil
/-- RookHusting hasBit -/
noncomputable def con_1157 : Con2 := ((yX11_hasBit, cX11_hasBit, 2, (some .boolean)), (0, 0), ([(1, 0, 0), (0, 0, 0)], [(0, 30), (0, 0)], [], []), [((0, 0, 0), [(0, 30), (0, 0), (0, 0)], [], [], [1]), ((0, 1, 0), [(0, 30), (0, 0), (0, 0)], [], [], [1])])
theorem hd_1157 : con_1157.1 = (yX11_hasBit, cX11_hasBit, 2, (some .boolean)) := rfl
noncomputable def cu_1157 : List CUT2 := []
theorem ch_1157 : staG tb_X11_hasBit 1 bt_RX11 [] ct_3 [] [] cu_1157 12 con_1157 = true := by decide +kernel
theorem vl_1157 (l : Launch) : Vld2 l vwCl gTbl con_1157 := conR_ok3 gT_all (hd_1157) rfl pn_RX11 tk_X11_hasBit bo_RX11 xo_RX11 (cto_3 l) ch_1157 cut_nil
/-- RookHusting hasBit -/
noncomputable def con_1249 : Con2 := ((yX11_hasBit, cX11_hasBit, 2, (some .boolean)), (0, 0), ([(0, 127, 0), (0, 6, 0)], [(0, 0), (0, 0)], [], []), [((0, 1, 0), [(0, 0), (0, 0), (0, 0)], [], [], [1])])
theorem hd_1249 : con_1249.1 = (yX11_hasBit, cX11_hasBit, 2, (some .boolean)) := rfl
noncomputable def cu_1249 : List CUT2 := []
theorem ch_1249 : staG tb_X11_hasBit 1 bt_RX11 [] ct_3 [] [] cu_1249 12 con_1249 = true := by decide +kernel
theorem vl_1249 (l : Launch) : Vld2 l vwCl gTbl con_1249 := conR_ok3 gT_all (hd_1249) rfl pn_RX11 tk_X11_hasBit bo_RX11 xo_RX11 (cto_3 l) ch_1249 cut_nil
/-- RookHusting hasBit -/
noncomputable def con_1250 : Con2 := ((yX11_hasBit, cX11_hasBit, 2, (some .boolean)), (0, 0), ([(0, 127, 0), (0, 5, 0)], [(0, 0), (0, 0)], [], []), [((0, 1, 0), [(0, 0), (0, 0), (0, 0)], [], [], [1])])
theorem hd_1250 : con_1250.1 = (yX11_hasBit, cX11_hasBit, 2, (some .boolean)) := rfl
noncomputable def cu_1250 : List CUT2 := []
theorem ch_1250 : staG tb_X11_hasBit 1 bt_RX11 [] ct_3 [] [] cu_1250 12 con_1250 = true := by decide +kernel
theorem vl_1250 (l : Launch) : Vld2 l vwCl gTbl con_1250 := conR_ok3 gT_all (hd_1250) rfl pn_RX11 tk_X11_hasBit bo_RX11 xo_RX11 (cto_3 l) ch_1250 cut_nil
/-- RookHusting hasBit -/
noncomputable def con_1251 : Con2 := ((yX11_hasBit, cX11_hasBit, 2, (some .boolean)), (0, 0), ([(0, 127, 0), (0, 4, 0)], [(0, 0), (0, 0)], [], []), [((0, 1, 0), [(0, 0), (0, 0), (0, 0)], [], [], [1])])
theorem hd_1251 : con_1251.1 = (yX11_hasBit, cX11_hasBit, 2, (some .boolean)) := rfl
noncomputable def cu_1251 : List CUT2 := []
theorem ch_1251 : staG tb_X11_hasBit 1 bt_RX11 [] ct_3 [] [] cu_1251 12 con_1251 = true := by decide +kernel
theorem vl_1251 (l : Launch) : Vld2 l vwCl gTbl con_1251 := conR_ok3 gT_all (hd_1251) rfl pn_RX11 tk_X11_hasBit bo_RX11 xo_RX11 (cto_3 l) ch_1251 cut_nil
/-- RookHusting hasBit -/
noncomputable def con_1252 : Con2 := ((yX11_hasBit, cX11_hasBit, 2, (some .boolean)), (0, 0), ([(0, 127, 0), (0, 3, 0)], [(0, 0), (0, 0)], [], []), [((0, 1, 0), [(0, 0), (0, 0), (0, 0)], [], [], [1])])
theorem hd_1252 : con_1252.1 = (yX11_hasBit, cX11_hasBit, 2, (some .boolean)) := rfl
noncomputable def cu_1252 : List CUT2 := []
theorem ch_1252 : staG tb_X11_hasBit 1 bt_RX11 [] ct_3 [] [] cu_1252 12 con_1252 = true := by decide +kernel
theorem vl_1252 (l : Launch) : Vld2 l vwCl gTbl con_1252 := conR_ok3 gT_all (hd_1252) rfl pn_RX11 tk_X11_hasBit bo_RX11 xo_RX11 (cto_3 l) ch_1252 cut_nil
/-- RookHusting hasBit -/
noncomputable def con_1253 : Con2 := ((yX11_hasBit, cX11_hasBit, 2, (some .boolean)), (0, 0), ([(0, 127, 0), (0, 2, 0)], [(0, 0), (0, 0)], [], []), [((0, 1, 0), [(0, 0), (0, 0), (0, 0)], [], [], [1])])
theorem hd_1253 : con_1253.1 = (yX11_hasBit, cX11_hasBit, 2, (some .boolean)) := rfl
noncomputable def cu_1253 : List CUT2 := []
theorem ch_1253 : staG tb_X11_hasBit 1 bt_RX11 [] ct_3 [] [] cu_1253 12 con_1253 = true := by decide +kernel
theorem vl_1253 (l : Launch) : Vld2 l vwCl gTbl con_1253 := conR_ok3 gT_all (hd_1253) rfl pn_RX11 tk_X11_hasBit bo_RX11 xo_RX11 (cto_3 l) ch_1253 cut_nil
/-- RookHusting hasBit -/
noncomputable def con_1254 : Con2 := ((yX11_hasBit, cX11_hasBit, 2, (some .boolean)), (0, 0), ([(0, 127, 0), (0, 1, 0)], [(0, 0), (0, 0)], [], []), [((0, 1, 0), [(0, 0), (0, 0), (0, 0)], [], [], [1])])
theorem hd_1254 : con_1254.1 = (yX11_hasBit, cX11_hasBit, 2, (some .boolean)) := rfl
noncomputable def cu_1254 : List CUT2 := []
theorem ch_1254 : staG tb_X11_hasBit 1 bt_RX11 [] ct_3 [] [] cu_1254 12 con_1254 = true := by decide +kernel
theorem vl_1254 (l : Launch) : Vld2 l vwCl gTbl con_1254 := conR_ok3 gT_all (hd_1254) rfl pn_RX11 tk_X11_hasBit bo_RX11 xo_RX11 (cto_3 l) ch_1254 cut_nil
/-- RookHusting hasBit -/
noncomputable def con_1255 : Con2 := ((yX11_hasBit, cX11_hasBit, 2, (some .boolean)), (0, 0), ([(0, 127, 0), (0, 0, 0)], [(0, 0), (0, 0)], [], []), [((0, 1, 0), [(0, 0), (0, 0), (0, 0)], [], [], [1])])
theorem hd_1255 : con_1255.1 = (yX11_hasBit, cX11_hasBit, 2, (some .boolean)) := rfl
noncomputable def cu_1255 : List CUT2 := []
theorem ch_1255 : staG tb_X11_hasBit 1 bt_RX11 [] ct_3 [] [] cu_1255 12 con_1255 = true := by decide +kernel
theorem vl_1255 (l : Launch) : Vld2 l vwCl gTbl con_1255 := conR_ok3 gT_all (hd_1255) rfl pn_RX11 tk_X11_hasBit bo_RX11 xo_RX11 (cto_3 l) ch_1255 cut_nil
/-- RookHusting hasBit -/
noncomputable def con_1256 : Con2 := ((yX11_hasBit, cX11_hasBit, 2, (some .boolean)), (0, 0), ([(1, 0, 0), (0, 6, 0)], [(0, 126), (0, 0)], [], []), [((0, 0, 0), [(0, 126), (0, 0), (0, 0)], [], [], [1]), ((0, 1, 0), [(0, 126), (0, 0), (0, 0)], [], [], [1])])
theorem hd_1256 : con_1256.1 = (yX11_hasBit, cX11_hasBit, 2, (some .boolean)) := rfl
noncomputable def cu_1256 : List CUT2 := []
theorem ch_1256 : staG tb_X11_hasBit 1 bt_RX11 [] ct_3 [] [] cu_1256 12 con_1256 = true := by decide +kernel
theorem vl_1256 (l : Launch) : Vld2 l vwCl gTbl con_1256 := conR_ok3 gT_all (hd_1256) rfl pn_RX11 tk_X11_hasBit bo_RX11 xo_RX11 (cto_3 l) ch_1256 cut_nil
/-- RookHusting hasBit -/
noncomputable def con_1257 : Con2 := ((yX11_hasBit, cX11_hasBit, 2, (some .boolean)), (0, 0), ([(1, 0, 0), (0, 5, 0)], [(0, 126), (0, 0)], [], []), [((0, 0, 0), [(0, 126), (0, 0), (0, 0)], [], [], [1]), ((0, 1, 0), [(0, 126), (0, 0), (0, 0)], [], [], [1])])
theorem hd_1257 : con_1257.1 = (yX11_hasBit, cX11_hasBit, 2, (some .boolean)) := rfl
noncomputable def cu_1257 : List CUT2 := []
theorem ch_1257 : staG tb_X11_hasBit 1 bt_RX11 [] ct_3 [] [] cu_1257 12 con_1257 = true := by decide +kernel
theorem vl_1257 (l : Launch) : Vld2 l vwCl gTbl con_1257 := conR_ok3 gT_all (hd_1257) rfl pn_RX11 tk_X11_hasBit bo_RX11 xo_RX11 (cto_3 l) ch_1257 cut_nil
/-- RookHusting hasBit -/
noncomputable def con_1258 : Con2 := ((yX11_hasBit, cX11_hasBit, 2, (some .boolean)), (0, 0), ([(1, 0, 0), (0, 4, 0)], [(0, 126), (0, 0)], [], []), [((0, 0, 0), [(0, 126), (0, 0), (0, 0)], [], [], [1]), ((0, 1, 0), [(0, 126), (0, 0), (0, 0)], [], [], [1])])
theorem hd_1258 : con_1258.1 = (yX11_hasBit, cX11_hasBit, 2, (some .boolean)) := rfl
noncomputable def cu_1258 : List CUT2 := []
theorem ch_1258 : staG tb_X11_hasBit 1 bt_RX11 [] ct_3 [] [] cu_1258 12 con_1258 = true := by decide +kernel
theorem vl_1258 (l : Launch) : Vld2 l vwCl gTbl con_1258 := conR_ok3 gT_all (hd_1258) rfl pn_RX11 tk_X11_hasBit bo_RX11 xo_RX11 (cto_3 l) ch_1258 cut_nil
/-- RookHusting hasBit -/
noncomputable def con_1259 : Con2 := ((yX11_hasBit, cX11_hasBit, 2, (some .boolean)), (0, 0), ([(1, 0, 0), (0, 3, 0)], [(0, 126), (0, 0)], [], []), [((0, 0, 0), [(0, 126), (0, 0), (0, 0)], [], [], [1]), ((0, 1, 0), [(0, 126), (0, 0), (0, 0)], [], [], [1])])
theorem hd_1259 : con_1259.1 = (yX11_hasBit, cX11_hasBit, 2, (some .boolean)) := rfl
noncomputable def cu_1259 : List CUT2 := []
theorem ch_1259 : staG tb_X11_hasBit 1 bt_RX11 [] ct_3 [] [] cu_1259 12 con_1259 = true := by decide +kernel
theorem vl_1259 (l : Launch) : Vld2 l vwCl gTbl con_1259 := conR_ok3 gT_all (hd_1259) rfl pn_RX11 tk_X11_hasBit bo_RX11 xo_RX11 (cto_3 l) ch_1259 cut_nil
/-- RookHusting hasBit -/
noncomputable def con_1260 : Con2 := ((yX11_hasBit, cX11_hasBit, 2, (some .boolean)), (0, 0), ([(1, 0, 0), (0, 2, 0)], [(0, 126), (0, 0)], [], []), [((0, 0, 0), [(0, 126), (0, 0), (0, 0)], [], [], [1]), ((0, 1, 0), [(0, 126), (0, 0), (0, 0)], [], [], [1])])
theorem hd_1260 : con_1260.1 = (yX11_hasBit, cX11_hasBit, 2, (some .boolean)) := rfl
noncomputable def cu_1260 : List CUT2 := []
theorem ch_1260 : staG tb_X11_hasBit 1 bt_RX11 [] ct_3 [] [] cu_1260 12 con_1260 = true := by decide +kernel
theorem vl_1260 (l : Launch) : Vld2 l vwCl gTbl con_1260 := conR_ok3 gT_all (hd_1260) rfl pn_RX11 tk_X11_hasBit bo_RX11 xo_RX11 (cto_3 l) ch_1260 cut_nil
/-- RookHusting hasBit -/
noncomputable def con_1261 : Con2 := ((yX11_hasBit, cX11_hasBit, 2, (some .boolean)), (0, 0), ([(1, 0, 0), (0, 1, 0)], [(0, 126), (0, 0)], [], []), [((0, 0, 0), [(0, 126), (0, 0), (0, 0)], [], [], [1]), ((0, 1, 0), [(0, 126), (0, 0), (0, 0)], [], [], [1])])
theorem hd_1261 : con_1261.1 = (yX11_hasBit, cX11_hasBit, 2, (some .boolean)) := rfl
noncomputable def cu_1261 : List CUT2 := []
theorem ch_1261 : staG tb_X11_hasBit 1 bt_RX11 [] ct_3 [] [] cu_1261 12 con_1261 = true := by decide +kernel
theorem vl_1261 (l : Launch) : Vld2 l vwCl gTbl con_1261 := conR_ok3 gT_all (hd_1261) rfl pn_RX11 tk_X11_hasBit bo_RX11 xo_RX11 (cto_3 l) ch_1261 cut_nil
/-- RookHusting hasBit -/
noncomputable def con_1262 : Con2 := ((yX11_hasBit, cX11_hasBit, 2, (some .boolean)), (0, 0), ([(1, 0, 0), (0, 0, 0)], [(0, 126), (0, 0)], [], []), [((0, 0, 0), [(0, 126), (0, 0), (0, 0)], [], [], [1]), ((0, 1, 0), [(0, 126), (0, 0), (0, 0)], [], [], [1])])
theorem hd_1262 : con_1262.1 = (yX11_hasBit, cX11_hasBit, 2, (some .boolean)) := rfl
noncomputable def cu_1262 : List CUT2 := []
theorem ch_1262 : staG tb_X11_hasBit 1 bt_RX11 [] ct_3 [] [] cu_1262 12 con_1262 = true := by decide +kernel
theorem vl_1262 (l : Launch) : Vld2 l vwCl gTbl con_1262 := conR_ok3 gT_all (hd_1262) rfl pn_RX11 tk_X11_hasBit bo_RX11 xo_RX11 (cto_3 l) ch_1262 cut_nil
/-- RookHusting$Election ordersDecided -/
noncomputable def gi_635 : GI := jl_n [gp_182, jl_z 19]
noncomputable def ac_568 : AC := .inl (4, jl_n [jl_8 11 7, jl_c 7, vp_89])
noncomputable def hc_133 : List AC := [.inl (1, [(6, 1, 0), (8, 3, 0)]), ac_568, am_6]
noncomputable def gi_636 : GI := jl_n [gp_182, gp_190]
noncomputable def hq_542 : HP := [(false, .inl (1, [(6, 1, 0), (8, 3, 0)])), (false, ac_568), (false, am_6)]
noncomputable def con_1263 : Con2 := ((yX1_ordersDecided, cX1_ordersDecided, 8, (some .int)), (2, 44), ([(6, 0, 0), (1, 1, 0)], gi_635, hc_133, []), [((1, 21, 0), gi_636, hq_542, [], [1])])
theorem hd_1263 : con_1263.1 = (yX1_ordersDecided, cX1_ordersDecided, 8, (some .int)) := rfl
theorem ck_RX1_19_1046 : COK2 RX1 vwCl gTbl 19 1 con_1046 := ⟨wd_806, wd_144, mh_J_bitCount, .inl ⟨rfl, wd_804, wd_805, pd_J_bitCount⟩⟩
theorem ck_RX1_45_1249 : COK2 RX1 vwCl gTbl 45 2 con_1249 := ⟨wd_682, wd_125, mh_X11_hasBit, .inr (.inl ⟨rfl, by decide +kernel, wd_681, pd_X11_hasBit⟩)⟩
theorem ck_RX1_45_1250 : COK2 RX1 vwCl gTbl 45 2 con_1250 := ⟨wd_682, wd_125, mh_X11_hasBit, .inr (.inl ⟨rfl, by decide +kernel, wd_681, pd_X11_hasBit⟩)⟩
theorem ck_RX1_45_1251 : COK2 RX1 vwCl gTbl 45 2 con_1251 := ⟨wd_682, wd_125, mh_X11_hasBit, .inr (.inl ⟨rfl, by decide +kernel, wd_681, pd_X11_hasBit⟩)⟩
theorem ck_RX1_45_1252 : COK2 RX1 vwCl gTbl 45 2 con_1252 := ⟨wd_682, wd_125, mh_X11_hasBit, .inr (.inl ⟨rfl, by decide +kernel, wd_681, pd_X11_hasBit⟩)⟩
theorem ck_RX1_45_1253 : COK2 RX1 vwCl gTbl 45 2 con_1253 := ⟨wd_682, wd_125, mh_X11_hasBit, .inr (.inl ⟨rfl, by decide +kernel, wd_681, pd_X11_hasBit⟩)⟩
theorem ck_RX1_45_1254 : COK2 RX1 vwCl gTbl 45 2 con_1254 := ⟨wd_682, wd_125, mh_X11_hasBit, .inr (.inl ⟨rfl, by decide +kernel, wd_681, pd_X11_hasBit⟩)⟩
theorem ck_RX1_45_1255 : COK2 RX1 vwCl gTbl 45 2 con_1255 := ⟨wd_682, wd_125, mh_X11_hasBit, .inr (.inl ⟨rfl, by decide +kernel, wd_681, pd_X11_hasBit⟩)⟩
theorem ck_RX1_45_1256 : COK2 RX1 vwCl gTbl 45 2 con_1256 := ⟨wd_682, wd_125, mh_X11_hasBit, .inr (.inl ⟨rfl, by decide +kernel, wd_681, pd_X11_hasBit⟩)⟩
theorem ck_RX1_45_1257 : COK2 RX1 vwCl gTbl 45 2 con_1257 := ⟨wd_682, wd_125, mh_X11_hasBit, .inr (.inl ⟨rfl, by decide +kernel, wd_681, pd_X11_hasBit⟩)⟩
theorem ck_RX1_45_1258 : COK2 RX1 vwCl gTbl 45 2 con_1258 := ⟨wd_682, wd_125, mh_X11_hasBit, .inr (.inl ⟨rfl, by decide +kernel, wd_681, pd_X11_hasBit⟩)⟩
theorem ck_RX1_45_1259 : COK2 RX1 vwCl gTbl 45 2 con_1259 := ⟨wd_682, wd_125, mh_X11_hasBit, .inr (.inl ⟨rfl, by decide +kernel, wd_681, pd_X11_hasBit⟩)⟩
theorem ck_RX1_45_1260 : COK2 RX1 vwCl gTbl 45 2 con_1260 := ⟨wd_682, wd_125, mh_X11_hasBit, .inr (.inl ⟨rfl, by decide +kernel, wd_681, pd_X11_hasBit⟩)⟩
theorem ck_RX1_45_1261 : COK2 RX1 vwCl gTbl 45 2 con_1261 := ⟨wd_682, wd_125, mh_X11_hasBit, .inr (.inl ⟨rfl, by decide +kernel, wd_681, pd_X11_hasBit⟩)⟩
theorem ck_RX1_45_1262 : COK2 RX1 vwCl gTbl 45 2 con_1262 := ⟨wd_682, wd_125, mh_X11_hasBit, .inr (.inl ⟨rfl, by decide +kernel, wd_681, pd_X11_hasBit⟩)⟩
noncomputable def ct_1263 : CTB2 := [(14, 84, 0, con_958, [0, 1, 2]), (34, 84, 0, con_958, [0, 1, 2]), (43, 45, 2, con_1262, []), (43, 45, 2, con_1261, []), (43, 45, 2, con_1260, []), (43, 45, 2, con_1259, []), (43, 45, 2, con_1258, []), (43, 45, 2, con_1257, []), (43, 45, 2, con_1256, []), (43, 45, 2, con_1255, []), (43, 45, 2, con_1254, []), (43, 45, 2, con_1253, []), (43, 45, 2, con_1252, []), (43, 45, 2, con_1251, []), (43, 45, 2, con_1250, []), (43, 45, 2, con_1249, []), (75, 19, 1, con_1046, [])]
noncomputable def rf_1263 : List (Nat × List POP) := [(40, [(2, (1, 5, 0), 127, 0), (1, (1, 1, 0), 0, 0)])]
noncomputable def gi_637 : GI := jl_n [gp_182, jl_z 20, jl_i 0 6, gp_163, jl_i 0 128]
noncomputable def cu_1263 : List CUT2 := [((24, [lq 0 6 0, lq 1 1 22, lq 2 0 127, lq 3 1 24, lq 4 1 25, lq 5 1 26], [], gi_637, hq_542), [], ([(26, (-1))], 128))]
theorem ch_1263 : staG tb_X1_ordersDecided 1 bt_RX1 [] ct_1263 rf_1263 [] cu_1263 51 con_1263 = true := by decide +kernel
theorem cc_1263 : cu_1263.all (cutG tb_X1_ordersDecided 1 bt_RX1 [] ct_1263 rf_1263 [] cu_1263 51 con_1263) = true := by decide +kernel
theorem cto_1263 (l : Launch) : CTOK2 l RX1 vwCl gTbl ct_1263 := ct2_cons (vl_958 l) ck_RX1_84_958 (ct2_cons (vl_958 l) ck_RX1_84_958 (ct2_cons (vl_1262 l) ck_RX1_45_1262 (ct2_cons (vl_1261 l) ck_RX1_45_1261 (ct2_cons (vl_1260 l) ck_RX1_45_1260 (ct2_cons (vl_1259 l) ck_RX1_45_1259 (ct2_cons (vl_1258 l) ck_RX1_45_1258 (ct2_cons (vl_1257 l) ck_RX1_45_1257 (ct2_cons (vl_1256 l) ck_RX1_45_1256 (ct2_cons (vl_1255 l) ck_RX1_45_1255 (ct2_cons (vl_1254 l) ck_RX1_45_1254 (ct2_cons (vl_1253 l) ck_RX1_45_1253 (ct2_cons (vl_1252 l) ck_RX1_45_1252 (ct2_cons (vl_1251 l) ck_RX1_45_1251 (ct2_cons (vl_1250 l) ck_RX1_45_1250 (ct2_cons (vl_1249 l) ck_RX1_45_1249 (ct2_cons (vl_1046 l) ck_RX1_19_1046 (ct2_nil)))))))))))))))))
theorem vl_1263 (l : Launch) : Vld2 l vwCl gTbl con_1263 := conR_ok3 gT_all (hd_1263) rfl pn_RX1 tk_X1_ordersDecided bo_RX1 xo_RX1 (cto_1263 l) ch_1263 (cut_all cc_1263)
/-- RookHusting commonDivisor -/
noncomputable def gi_638 : GI := jl_n [jl_m 9223372036854775807 25600000000, jl_i 1 10000, jl_u]
noncomputable def con_1264 : Con2 := ((yX11_commonDivisor, cX11_commonDivisor, 7, (some .long)), (0, 0), ([(4, 0, 0), (4, 1, 0)], [((-9223372036854775808), 25600000000), (1, 10000)], [], []), [((4, 2, 0), gi_638, [], [], [4])])
theorem hd_1264 : con_1264.1 = (yX11_commonDivisor, cX11_commonDivisor, 7, (some .long)) := rfl
noncomputable def gi_639 : GI := jl_n [jl_m 9223372036854775807 25600000000, jl_i 1 10000, jl_r 2 (jl_u), jl_i 0 100]
noncomputable def cu_1264 : List CUT2 := [((3, [lq 0 4 2, lq 2 4 3, lq 4 1 4], [], gi_639, []), [], ([(4, (-1))], 100))]
theorem ch_1264 : staG tb_X11_commonDivisor 1 bt_RX11 [] ct_3 [] [] cu_1264 19 con_1264 = true := by decide +kernel
theorem cc_1264 : cu_1264.all (cutG tb_X11_commonDivisor 1 bt_RX11 [] ct_3 [] [] cu_1264 19 con_1264) = true := by decide +kernel
theorem vl_1264 (l : Launch) : Vld2 l vwCl gTbl con_1264 := conR_ok3 gT_all (hd_1264) rfl pn_RX11 tk_X11_commonDivisor bo_RX11 xo_RX11 (cto_3 l) ch_1264 (cut_all cc_1264)
/-- RookHusting partOf -/
noncomputable def gi_640 : GI := jl_n [jl_m 9223372036854775807 25600000000, jl_i 1 10000, jl_i 0 1, jl_u]
noncomputable def con_1265 : Con2 := ((yX11_partOf, cX11_partOf, 7, (some .long)), (1, 26), ([(4, 0, 0), (4, 1, 0), (1, 2, 0)], [((-9223372036854775808), 25600000000), (1, 10000), (0, 1)], [], []), [((4, 3, 0), gi_640, [], [], [4])])
theorem hd_1265 : con_1265.1 = (yX11_partOf, cX11_partOf, 7, (some .long)) := rfl
theorem ck_RX11_492_1264 : COK2 RX11 vwCl gTbl 492 1 con_1264 := ⟨wd_987, wd_125, mh_X11_commonDivisor, .inl ⟨rfl, wd_985, wd_986, pd_X11_commonDivisor⟩⟩
noncomputable def ct_1265 : CTB2 := [(2, 492, 1, con_1264, [])]
noncomputable def cu_1265 : List CUT2 := []
theorem ch_1265 : staG tb_X11_partOf 1 bt_RX11 [] ct_1265 [] [] cu_1265 16 con_1265 = true := by decide +kernel
theorem cto_1265 (l : Launch) : CTOK2 l RX11 vwCl gTbl ct_1265 := ct2_cons (vl_1264 l) ck_RX11_492_1264 (ct2_nil)
theorem vl_1265 (l : Launch) : Vld2 l vwCl gTbl con_1265 := conR_ok3 gT_all (hd_1265) rfl pn_RX11 tk_X11_partOf bo_RX11 xo_RX11 (cto_1265 l) ch_1265 cut_nil
/-- RookHusting isVoter -/
noncomputable def ac_569 : AC := .inl (4, jl_n [jl_8 27 7, jl_c 6, jl_8 37 9])
noncomputable def hq_543 : HP := [(false, ac_431), (false, .inl (9, [(6, 2, 0), (8, 19, 0)])), (false, ac_569)]
noncomputable def gi_641 : GI := jl_n [gp_211, jl_z 36]
noncomputable def con_1266 : Con2 := ((yX11_isVoter, cX11_isVoter, 2, (some .boolean)), (0, 0), ([(6, 0, 0), (1, 1, 0)], gi_632, [ac_431, .inl (9, [(6, 2, 0), (8, 19, 0)]), ac_569], []), [((0, 0, 0), gi_633, hq_543, [], [1]), ((0, 1, 0), gi_641, hq_543, [], [1])])
theorem hd_1266 : con_1266.1 = (yX11_isVoter, cX11_isVoter, 2, (some .boolean)) := rfl
noncomputable def cu_1266 : List CUT2 := []
theorem ch_1266 : staG tb_X11_isVoter 1 bt_RX11 [] ct_3 [] [] cu_1266 13 con_1266 = true := by decide +kernel
theorem vl_1266 (l : Launch) : Vld2 l vwCl gTbl con_1266 := conR_ok3 gT_all (hd_1266) rfl pn_RX11 tk_X11_isVoter bo_RX11 xo_RX11 (cto_3 l) ch_1266 cut_nil
/-- RookHusting hasBit -/
noncomputable def con_1267 : Con2 := ((yX11_hasBit, cX11_hasBit, 2, (some .boolean)), (0, 0), ([(0, 63, 0), (0, 5, 0)], [(0, 0), (0, 0)], [], []), [((0, 1, 0), [(0, 0), (0, 0), (0, 0)], [], [], [1])])
theorem hd_1267 : con_1267.1 = (yX11_hasBit, cX11_hasBit, 2, (some .boolean)) := rfl
noncomputable def cu_1267 : List CUT2 := []
theorem ch_1267 : staG tb_X11_hasBit 1 bt_RX11 [] ct_3 [] [] cu_1267 12 con_1267 = true := by decide +kernel
theorem vl_1267 (l : Launch) : Vld2 l vwCl gTbl con_1267 := conR_ok3 gT_all (hd_1267) rfl pn_RX11 tk_X11_hasBit bo_RX11 xo_RX11 (cto_3 l) ch_1267 cut_nil
/-- RookHusting hasBit -/
noncomputable def con_1268 : Con2 := ((yX11_hasBit, cX11_hasBit, 2, (some .boolean)), (0, 0), ([(0, 63, 0), (0, 4, 0)], [(0, 0), (0, 0)], [], []), [((0, 1, 0), [(0, 0), (0, 0), (0, 0)], [], [], [1])])
theorem hd_1268 : con_1268.1 = (yX11_hasBit, cX11_hasBit, 2, (some .boolean)) := rfl
noncomputable def cu_1268 : List CUT2 := []
theorem ch_1268 : staG tb_X11_hasBit 1 bt_RX11 [] ct_3 [] [] cu_1268 12 con_1268 = true := by decide +kernel
theorem vl_1268 (l : Launch) : Vld2 l vwCl gTbl con_1268 := conR_ok3 gT_all (hd_1268) rfl pn_RX11 tk_X11_hasBit bo_RX11 xo_RX11 (cto_3 l) ch_1268 cut_nil
/-- RookHusting hasBit -/
noncomputable def con_1269 : Con2 := ((yX11_hasBit, cX11_hasBit, 2, (some .boolean)), (0, 0), ([(0, 63, 0), (0, 3, 0)], [(0, 0), (0, 0)], [], []), [((0, 1, 0), [(0, 0), (0, 0), (0, 0)], [], [], [1])])
theorem hd_1269 : con_1269.1 = (yX11_hasBit, cX11_hasBit, 2, (some .boolean)) := rfl
noncomputable def cu_1269 : List CUT2 := []
theorem ch_1269 : staG tb_X11_hasBit 1 bt_RX11 [] ct_3 [] [] cu_1269 12 con_1269 = true := by decide +kernel
theorem vl_1269 (l : Launch) : Vld2 l vwCl gTbl con_1269 := conR_ok3 gT_all (hd_1269) rfl pn_RX11 tk_X11_hasBit bo_RX11 xo_RX11 (cto_3 l) ch_1269 cut_nil
/-- RookHusting hasBit -/
noncomputable def con_1270 : Con2 := ((yX11_hasBit, cX11_hasBit, 2, (some .boolean)), (0, 0), ([(0, 63, 0), (0, 2, 0)], [(0, 0), (0, 0)], [], []), [((0, 1, 0), [(0, 0), (0, 0), (0, 0)], [], [], [1])])
theorem hd_1270 : con_1270.1 = (yX11_hasBit, cX11_hasBit, 2, (some .boolean)) := rfl
noncomputable def cu_1270 : List CUT2 := []
theorem ch_1270 : staG tb_X11_hasBit 1 bt_RX11 [] ct_3 [] [] cu_1270 12 con_1270 = true := by decide +kernel
theorem vl_1270 (l : Launch) : Vld2 l vwCl gTbl con_1270 := conR_ok3 gT_all (hd_1270) rfl pn_RX11 tk_X11_hasBit bo_RX11 xo_RX11 (cto_3 l) ch_1270 cut_nil
/-- RookHusting hasBit -/
noncomputable def con_1271 : Con2 := ((yX11_hasBit, cX11_hasBit, 2, (some .boolean)), (0, 0), ([(0, 63, 0), (0, 1, 0)], [(0, 0), (0, 0)], [], []), [((0, 1, 0), [(0, 0), (0, 0), (0, 0)], [], [], [1])])
theorem hd_1271 : con_1271.1 = (yX11_hasBit, cX11_hasBit, 2, (some .boolean)) := rfl
noncomputable def cu_1271 : List CUT2 := []
theorem ch_1271 : staG tb_X11_hasBit 1 bt_RX11 [] ct_3 [] [] cu_1271 12 con_1271 = true := by decide +kernel
theorem vl_1271 (l : Launch) : Vld2 l vwCl gTbl con_1271 := conR_ok3 gT_all (hd_1271) rfl pn_RX11 tk_X11_hasBit bo_RX11 xo_RX11 (cto_3 l) ch_1271 cut_nil
/-- RookHusting hasBit -/
noncomputable def con_1272 : Con2 := ((yX11_hasBit, cX11_hasBit, 2, (some .boolean)), (0, 0), ([(0, 63, 0), (0, 0, 0)], [(0, 0), (0, 0)], [], []), [((0, 1, 0), [(0, 0), (0, 0), (0, 0)], [], [], [1])])
theorem hd_1272 : con_1272.1 = (yX11_hasBit, cX11_hasBit, 2, (some .boolean)) := rfl
noncomputable def cu_1272 : List CUT2 := []
theorem ch_1272 : staG tb_X11_hasBit 1 bt_RX11 [] ct_3 [] [] cu_1272 12 con_1272 = true := by decide +kernel
theorem vl_1272 (l : Launch) : Vld2 l vwCl gTbl con_1272 := conR_ok3 gT_all (hd_1272) rfl pn_RX11 tk_X11_hasBit bo_RX11 xo_RX11 (cto_3 l) ch_1272 cut_nil
/-- RookHusting hasBit -/
noncomputable def con_1273 : Con2 := ((yX11_hasBit, cX11_hasBit, 2, (some .boolean)), (0, 0), ([(1, 0, 0), (0, 5, 0)], [(0, 62), (0, 0)], [], []), [((0, 0, 0), [(0, 62), (0, 0), (0, 0)], [], [], [1]), ((0, 1, 0), [(0, 62), (0, 0), (0, 0)], [], [], [1])])
theorem hd_1273 : con_1273.1 = (yX11_hasBit, cX11_hasBit, 2, (some .boolean)) := rfl
noncomputable def cu_1273 : List CUT2 := []
theorem ch_1273 : staG tb_X11_hasBit 1 bt_RX11 [] ct_3 [] [] cu_1273 12 con_1273 = true := by decide +kernel
theorem vl_1273 (l : Launch) : Vld2 l vwCl gTbl con_1273 := conR_ok3 gT_all (hd_1273) rfl pn_RX11 tk_X11_hasBit bo_RX11 xo_RX11 (cto_3 l) ch_1273 cut_nil
/-- RookHusting hasBit -/
noncomputable def con_1274 : Con2 := ((yX11_hasBit, cX11_hasBit, 2, (some .boolean)), (0, 0), ([(1, 0, 0), (0, 4, 0)], [(0, 62), (0, 0)], [], []), [((0, 0, 0), [(0, 62), (0, 0), (0, 0)], [], [], [1]), ((0, 1, 0), [(0, 62), (0, 0), (0, 0)], [], [], [1])])
theorem hd_1274 : con_1274.1 = (yX11_hasBit, cX11_hasBit, 2, (some .boolean)) := rfl
noncomputable def cu_1274 : List CUT2 := []
theorem ch_1274 : staG tb_X11_hasBit 1 bt_RX11 [] ct_3 [] [] cu_1274 12 con_1274 = true := by decide +kernel
theorem vl_1274 (l : Launch) : Vld2 l vwCl gTbl con_1274 := conR_ok3 gT_all (hd_1274) rfl pn_RX11 tk_X11_hasBit bo_RX11 xo_RX11 (cto_3 l) ch_1274 cut_nil
/-- RookHusting hasBit -/
noncomputable def con_1275 : Con2 := ((yX11_hasBit, cX11_hasBit, 2, (some .boolean)), (0, 0), ([(1, 0, 0), (0, 3, 0)], [(0, 62), (0, 0)], [], []), [((0, 0, 0), [(0, 62), (0, 0), (0, 0)], [], [], [1]), ((0, 1, 0), [(0, 62), (0, 0), (0, 0)], [], [], [1])])
theorem hd_1275 : con_1275.1 = (yX11_hasBit, cX11_hasBit, 2, (some .boolean)) := rfl
noncomputable def cu_1275 : List CUT2 := []
theorem ch_1275 : staG tb_X11_hasBit 1 bt_RX11 [] ct_3 [] [] cu_1275 12 con_1275 = true := by decide +kernel
theorem vl_1275 (l : Launch) : Vld2 l vwCl gTbl con_1275 := conR_ok3 gT_all (hd_1275) rfl pn_RX11 tk_X11_hasBit bo_RX11 xo_RX11 (cto_3 l) ch_1275 cut_nil
/-- RookHusting hasBit -/
noncomputable def con_1276 : Con2 := ((yX11_hasBit, cX11_hasBit, 2, (some .boolean)), (0, 0), ([(1, 0, 0), (0, 2, 0)], [(0, 62), (0, 0)], [], []), [((0, 0, 0), [(0, 62), (0, 0), (0, 0)], [], [], [1]), ((0, 1, 0), [(0, 62), (0, 0), (0, 0)], [], [], [1])])
theorem hd_1276 : con_1276.1 = (yX11_hasBit, cX11_hasBit, 2, (some .boolean)) := rfl
noncomputable def cu_1276 : List CUT2 := []
theorem ch_1276 : staG tb_X11_hasBit 1 bt_RX11 [] ct_3 [] [] cu_1276 12 con_1276 = true := by decide +kernel
theorem vl_1276 (l : Launch) : Vld2 l vwCl gTbl con_1276 := conR_ok3 gT_all (hd_1276) rfl pn_RX11 tk_X11_hasBit bo_RX11 xo_RX11 (cto_3 l) ch_1276 cut_nil
/-- RookHusting hasBit -/
noncomputable def con_1277 : Con2 := ((yX11_hasBit, cX11_hasBit, 2, (some .boolean)), (0, 0), ([(1, 0, 0), (0, 1, 0)], [(0, 62), (0, 0)], [], []), [((0, 0, 0), [(0, 62), (0, 0), (0, 0)], [], [], [1]), ((0, 1, 0), [(0, 62), (0, 0), (0, 0)], [], [], [1])])
theorem hd_1277 : con_1277.1 = (yX11_hasBit, cX11_hasBit, 2, (some .boolean)) := rfl
noncomputable def cu_1277 : List CUT2 := []
theorem ch_1277 : staG tb_X11_hasBit 1 bt_RX11 [] ct_3 [] [] cu_1277 12 con_1277 = true := by decide +kernel
theorem vl_1277 (l : Launch) : Vld2 l vwCl gTbl con_1277 := conR_ok3 gT_all (hd_1277) rfl pn_RX11 tk_X11_hasBit bo_RX11 xo_RX11 (cto_3 l) ch_1277 cut_nil
/-- RookHusting hasBit -/
noncomputable def con_1278 : Con2 := ((yX11_hasBit, cX11_hasBit, 2, (some .boolean)), (0, 0), ([(1, 0, 0), (0, 0, 0)], [(0, 62), (0, 0)], [], []), [((0, 0, 0), [(0, 62), (0, 0), (0, 0)], [], [], [1]), ((0, 1, 0), [(0, 62), (0, 0), (0, 0)], [], [], [1])])
theorem hd_1278 : con_1278.1 = (yX11_hasBit, cX11_hasBit, 2, (some .boolean)) := rfl
noncomputable def cu_1278 : List CUT2 := []
theorem ch_1278 : staG tb_X11_hasBit 1 bt_RX11 [] ct_3 [] [] cu_1278 12 con_1278 = true := by decide +kernel
theorem vl_1278 (l : Launch) : Vld2 l vwCl gTbl con_1278 := conR_ok3 gT_all (hd_1278) rfl pn_RX11 tk_X11_hasBit bo_RX11 xo_RX11 (cto_3 l) ch_1278 cut_nil
/-- RookHusting$Election ordersDecided -/
noncomputable def gi_642 : GI := jl_n [gp_211, jl_z 19]
noncomputable def ac_570 : AC := .inl (4, jl_n [jl_8 11 7, jl_c 6, vp_89])
noncomputable def hc_134 : List AC := [.inl (1, [(6, 1, 0), (8, 3, 0)]), ac_570, am_6]
noncomputable def gi_643 : GI := jl_n [gp_211, gp_190]
noncomputable def hq_544 : HP := [(false, .inl (1, [(6, 1, 0), (8, 3, 0)])), (false, ac_570), (false, am_6)]
noncomputable def con_1279 : Con2 := ((yX1_ordersDecided, cX1_ordersDecided, 8, (some .int)), (2, 44), ([(6, 0, 0), (1, 1, 0)], gi_642, hc_134, []), [((1, 21, 0), gi_643, hq_544, [], [1])])
theorem hd_1279 : con_1279.1 = (yX1_ordersDecided, cX1_ordersDecided, 8, (some .int)) := rfl
theorem ck_RX1_45_1267 : COK2 RX1 vwCl gTbl 45 2 con_1267 := ⟨wd_682, wd_125, mh_X11_hasBit, .inr (.inl ⟨rfl, by decide +kernel, wd_681, pd_X11_hasBit⟩)⟩
theorem ck_RX1_45_1268 : COK2 RX1 vwCl gTbl 45 2 con_1268 := ⟨wd_682, wd_125, mh_X11_hasBit, .inr (.inl ⟨rfl, by decide +kernel, wd_681, pd_X11_hasBit⟩)⟩
theorem ck_RX1_45_1269 : COK2 RX1 vwCl gTbl 45 2 con_1269 := ⟨wd_682, wd_125, mh_X11_hasBit, .inr (.inl ⟨rfl, by decide +kernel, wd_681, pd_X11_hasBit⟩)⟩
theorem ck_RX1_45_1270 : COK2 RX1 vwCl gTbl 45 2 con_1270 := ⟨wd_682, wd_125, mh_X11_hasBit, .inr (.inl ⟨rfl, by decide +kernel, wd_681, pd_X11_hasBit⟩)⟩
theorem ck_RX1_45_1271 : COK2 RX1 vwCl gTbl 45 2 con_1271 := ⟨wd_682, wd_125, mh_X11_hasBit, .inr (.inl ⟨rfl, by decide +kernel, wd_681, pd_X11_hasBit⟩)⟩
theorem ck_RX1_45_1272 : COK2 RX1 vwCl gTbl 45 2 con_1272 := ⟨wd_682, wd_125, mh_X11_hasBit, .inr (.inl ⟨rfl, by decide +kernel, wd_681, pd_X11_hasBit⟩)⟩
theorem ck_RX1_45_1273 : COK2 RX1 vwCl gTbl 45 2 con_1273 := ⟨wd_682, wd_125, mh_X11_hasBit, .inr (.inl ⟨rfl, by decide +kernel, wd_681, pd_X11_hasBit⟩)⟩
theorem ck_RX1_45_1274 : COK2 RX1 vwCl gTbl 45 2 con_1274 := ⟨wd_682, wd_125, mh_X11_hasBit, .inr (.inl ⟨rfl, by decide +kernel, wd_681, pd_X11_hasBit⟩)⟩
theorem ck_RX1_45_1275 : COK2 RX1 vwCl gTbl 45 2 con_1275 := ⟨wd_682, wd_125, mh_X11_hasBit, .inr (.inl ⟨rfl, by decide +kernel, wd_681, pd_X11_hasBit⟩)⟩
theorem ck_RX1_45_1276 : COK2 RX1 vwCl gTbl 45 2 con_1276 := ⟨wd_682, wd_125, mh_X11_hasBit, .inr (.inl ⟨rfl, by decide +kernel, wd_681, pd_X11_hasBit⟩)⟩
theorem ck_RX1_45_1277 : COK2 RX1 vwCl gTbl 45 2 con_1277 := ⟨wd_682, wd_125, mh_X11_hasBit, .inr (.inl ⟨rfl, by decide +kernel, wd_681, pd_X11_hasBit⟩)⟩
theorem ck_RX1_45_1278 : COK2 RX1 vwCl gTbl 45 2 con_1278 := ⟨wd_682, wd_125, mh_X11_hasBit, .inr (.inl ⟨rfl, by decide +kernel, wd_681, pd_X11_hasBit⟩)⟩
noncomputable def ct_1279 : CTB2 := [(14, 84, 0, con_958, [0, 1, 2]), (34, 84, 0, con_958, [0, 1, 2]), (43, 45, 2, con_1278, []), (43, 45, 2, con_1277, []), (43, 45, 2, con_1276, []), (43, 45, 2, con_1275, []), (43, 45, 2, con_1274, []), (43, 45, 2, con_1273, []), (43, 45, 2, con_1272, []), (43, 45, 2, con_1271, []), (43, 45, 2, con_1270, []), (43, 45, 2, con_1269, []), (43, 45, 2, con_1268, []), (43, 45, 2, con_1267, []), (75, 19, 1, con_1046, [])]
noncomputable def rf_1279 : List (Nat × List POP) := [(40, [(2, (1, 5, 0), 63, 0), (1, (1, 1, 0), 0, 0)])]
noncomputable def gi_644 : GI := jl_n [gp_211, jl_z 20, gp_112, jl_r 2 (jl_t), jl_i 0 64]
noncomputable def cu_1279 : List CUT2 := [((24, [lq 0 6 0, lq 1 1 22, lq 2 0 63, lq 3 1 24, lq 4 1 25, lq 5 1 26], [], gi_644, hq_544), [], ([(26, (-1))], 64))]
theorem ch_1279 : staG tb_X1_ordersDecided 1 bt_RX1 [] ct_1279 rf_1279 [] cu_1279 51 con_1279 = true := by decide +kernel
theorem cc_1279 : cu_1279.all (cutG tb_X1_ordersDecided 1 bt_RX1 [] ct_1279 rf_1279 [] cu_1279 51 con_1279) = true := by decide +kernel
theorem cto_1279 (l : Launch) : CTOK2 l RX1 vwCl gTbl ct_1279 := ct2_cons (vl_958 l) ck_RX1_84_958 (ct2_cons (vl_958 l) ck_RX1_84_958 (ct2_cons (vl_1278 l) ck_RX1_45_1278 (ct2_cons (vl_1277 l) ck_RX1_45_1277 (ct2_cons (vl_1276 l) ck_RX1_45_1276 (ct2_cons (vl_1275 l) ck_RX1_45_1275 (ct2_cons (vl_1274 l) ck_RX1_45_1274 (ct2_cons (vl_1273 l) ck_RX1_45_1273 (ct2_cons (vl_1272 l) ck_RX1_45_1272 (ct2_cons (vl_1271 l) ck_RX1_45_1271 (ct2_cons (vl_1270 l) ck_RX1_45_1270 (ct2_cons (vl_1269 l) ck_RX1_45_1269 (ct2_cons (vl_1268 l) ck_RX1_45_1268 (ct2_cons (vl_1267 l) ck_RX1_45_1267 (ct2_cons (vl_1046 l) ck_RX1_19_1046 (ct2_nil)))))))))))))))
theorem vl_1279 (l : Launch) : Vld2 l vwCl gTbl con_1279 := conR_ok3 gT_all (hd_1279) rfl pn_RX1 tk_X1_ordersDecided bo_RX1 xo_RX1 (cto_1279 l) ch_1279 (cut_all cc_1279)
/-- RookHusting isVoter -/
noncomputable def ac_571 : AC := .inl (4, jl_n [jl_8 27 7, jl_c 5, jl_8 37 9])
noncomputable def hq_545 : HP := [(false, ac_431), (false, .inl (9, [(6, 2, 0), (8, 19, 0)])), (false, ac_571)]
noncomputable def gi_645 : GI := jl_n [gp_52, jl_z 36]
noncomputable def con_1280 : Con2 := ((yX11_isVoter, cX11_isVoter, 2, (some .boolean)), (0, 0), ([(6, 0, 0), (1, 1, 0)], gi_632, [ac_431, .inl (9, [(6, 2, 0), (8, 19, 0)]), ac_571], []), [((0, 0, 0), gi_633, hq_545, [], [1]), ((0, 1, 0), gi_645, hq_545, [], [1])])
theorem hd_1280 : con_1280.1 = (yX11_isVoter, cX11_isVoter, 2, (some .boolean)) := rfl
noncomputable def cu_1280 : List CUT2 := []
theorem ch_1280 : staG tb_X11_isVoter 1 bt_RX11 [] ct_3 [] [] cu_1280 13 con_1280 = true := by decide +kernel
theorem vl_1280 (l : Launch) : Vld2 l vwCl gTbl con_1280 := conR_ok3 gT_all (hd_1280) rfl pn_RX11 tk_X11_isVoter bo_RX11 xo_RX11 (cto_3 l) ch_1280 cut_nil
/-- RookHusting$Election ordersDecided -/
noncomputable def ac_572 : AC := .inl (4, jl_n [jl_8 11 7, jl_c 5, vp_89])
noncomputable def hc_135 : List AC := [.inl (1, [(6, 1, 0), (8, 3, 0)]), ac_572, am_6]
noncomputable def gi_646 : GI := jl_n [gp_52, gp_190]
noncomputable def hq_546 : HP := [(false, .inl (1, [(6, 1, 0), (8, 3, 0)])), (false, ac_572), (false, am_6)]
noncomputable def con_1281 : Con2 := ((yX1_ordersDecided, cX1_ordersDecided, 8, (some .int)), (2, 44), ([(6, 0, 0), (1, 1, 0)], gi_90, hc_135, []), [((1, 21, 0), gi_646, hq_546, [], [1])])
theorem hd_1281 : con_1281.1 = (yX1_ordersDecided, cX1_ordersDecided, 8, (some .int)) := rfl
theorem ck_RX1_45_261 : COK2 RX1 vwCl gTbl 45 2 con_261 := ⟨wd_682, wd_125, mh_X11_hasBit, .inr (.inl ⟨rfl, by decide +kernel, wd_681, pd_X11_hasBit⟩)⟩
theorem ck_RX1_45_262 : COK2 RX1 vwCl gTbl 45 2 con_262 := ⟨wd_682, wd_125, mh_X11_hasBit, .inr (.inl ⟨rfl, by decide +kernel, wd_681, pd_X11_hasBit⟩)⟩
theorem ck_RX1_45_263 : COK2 RX1 vwCl gTbl 45 2 con_263 := ⟨wd_682, wd_125, mh_X11_hasBit, .inr (.inl ⟨rfl, by decide +kernel, wd_681, pd_X11_hasBit⟩)⟩
theorem ck_RX1_45_264 : COK2 RX1 vwCl gTbl 45 2 con_264 := ⟨wd_682, wd_125, mh_X11_hasBit, .inr (.inl ⟨rfl, by decide +kernel, wd_681, pd_X11_hasBit⟩)⟩
theorem ck_RX1_45_265 : COK2 RX1 vwCl gTbl 45 2 con_265 := ⟨wd_682, wd_125, mh_X11_hasBit, .inr (.inl ⟨rfl, by decide +kernel, wd_681, pd_X11_hasBit⟩)⟩
theorem ck_RX1_45_1153 : COK2 RX1 vwCl gTbl 45 2 con_1153 := ⟨wd_682, wd_125, mh_X11_hasBit, .inr (.inl ⟨rfl, by decide +kernel, wd_681, pd_X11_hasBit⟩)⟩
theorem ck_RX1_45_1154 : COK2 RX1 vwCl gTbl 45 2 con_1154 := ⟨wd_682, wd_125, mh_X11_hasBit, .inr (.inl ⟨rfl, by decide +kernel, wd_681, pd_X11_hasBit⟩)⟩
theorem ck_RX1_45_1155 : COK2 RX1 vwCl gTbl 45 2 con_1155 := ⟨wd_682, wd_125, mh_X11_hasBit, .inr (.inl ⟨rfl, by decide +kernel, wd_681, pd_X11_hasBit⟩)⟩
theorem ck_RX1_45_1156 : COK2 RX1 vwCl gTbl 45 2 con_1156 := ⟨wd_682, wd_125, mh_X11_hasBit, .inr (.inl ⟨rfl, by decide +kernel, wd_681, pd_X11_hasBit⟩)⟩
theorem ck_RX1_45_1157 : COK2 RX1 vwCl gTbl 45 2 con_1157 := ⟨wd_682, wd_125, mh_X11_hasBit, .inr (.inl ⟨rfl, by decide +kernel, wd_681, pd_X11_hasBit⟩)⟩
noncomputable def ct_1281 : CTB2 := [(14, 84, 0, con_958, [0, 1, 2]), (34, 84, 0, con_958, [0, 1, 2]), (43, 45, 2, con_1157, []), (43, 45, 2, con_1156, []), (43, 45, 2, con_1155, []), (43, 45, 2, con_1154, []), (43, 45, 2, con_1153, []), (43, 45, 2, con_265, []), (43, 45, 2, con_264, []), (43, 45, 2, con_263, []), (43, 45, 2, con_262, []), (43, 45, 2, con_261, []), (75, 19, 1, con_1046, [])]
noncomputable def rf_1281 : List (Nat × List POP) := [(40, [(2, (1, 5, 0), 31, 0), (1, (1, 1, 0), 0, 0)])]
noncomputable def gi_647 : GI := jl_n [gp_52, jl_z 20, jl_i 0 4, gp_163, jl_i 0 32]
noncomputable def cu_1281 : List CUT2 := [((24, [lq 0 6 0, lq 1 1 22, lq 2 0 31, lq 3 1 24, lq 4 1 25, lq 5 1 26], [], gi_647, hq_546), [], ([(26, (-1))], 32))]
theorem ch_1281 : staG tb_X1_ordersDecided 1 bt_RX1 [] ct_1281 rf_1281 [] cu_1281 51 con_1281 = true := by decide +kernel
theorem cc_1281 : cu_1281.all (cutG tb_X1_ordersDecided 1 bt_RX1 [] ct_1281 rf_1281 [] cu_1281 51 con_1281) = true := by decide +kernel
theorem cto_1281 (l : Launch) : CTOK2 l RX1 vwCl gTbl ct_1281 := ct2_cons (vl_958 l) ck_RX1_84_958 (ct2_cons (vl_958 l) ck_RX1_84_958 (ct2_cons (vl_1157 l) ck_RX1_45_1157 (ct2_cons (vl_1156 l) ck_RX1_45_1156 (ct2_cons (vl_1155 l) ck_RX1_45_1155 (ct2_cons (vl_1154 l) ck_RX1_45_1154 (ct2_cons (vl_1153 l) ck_RX1_45_1153 (ct2_cons (vl_265 l) ck_RX1_45_265 (ct2_cons (vl_264 l) ck_RX1_45_264 (ct2_cons (vl_263 l) ck_RX1_45_263 (ct2_cons (vl_262 l) ck_RX1_45_262 (ct2_cons (vl_261 l) ck_RX1_45_261 (ct2_cons (vl_1046 l) ck_RX1_19_1046 (ct2_nil)))))))))))))
theorem vl_1281 (l : Launch) : Vld2 l vwCl gTbl con_1281 := conR_ok3 gT_all (hd_1281) rfl pn_RX1 tk_X1_ordersDecided bo_RX1 xo_RX1 (cto_1281 l) ch_1281 (cut_all cc_1281)
/-- RookHusting isVoter -/
noncomputable def ac_573 : AC := .inl (4, jl_n [jl_8 27 7, jl_c 4, jl_8 37 9])
noncomputable def hq_547 : HP := [(false, ac_431), (false, .inl (9, [(6, 2, 0), (8, 19, 0)])), (false, ac_573)]
noncomputable def gi_648 : GI := jl_n [gp_210, jl_z 36]
noncomputable def con_1282 : Con2 := ((yX11_isVoter, cX11_isVoter, 2, (some .boolean)), (0, 0), ([(6, 0, 0), (1, 1, 0)], gi_632, [ac_431, .inl (9, [(6, 2, 0), (8, 19, 0)]), ac_573], []), [((0, 0, 0), gi_633, hq_547, [], [1]), ((0, 1, 0), gi_648, hq_547, [], [1])])
theorem hd_1282 : con_1282.1 = (yX11_isVoter, cX11_isVoter, 2, (some .boolean)) := rfl
noncomputable def cu_1282 : List CUT2 := []
theorem ch_1282 : staG tb_X11_isVoter 1 bt_RX11 [] ct_3 [] [] cu_1282 13 con_1282 = true := by decide +kernel
theorem vl_1282 (l : Launch) : Vld2 l vwCl gTbl con_1282 := conR_ok3 gT_all (hd_1282) rfl pn_RX11 tk_X11_isVoter bo_RX11 xo_RX11 (cto_3 l) ch_1282 cut_nil
/-- RookHusting hasBit -/
noncomputable def con_1283 : Con2 := ((yX11_hasBit, cX11_hasBit, 2, (some .boolean)), (0, 0), ([(1, 0, 0), (0, 3, 0)], [(0, 14), (0, 0)], [], []), [((0, 0, 0), [(0, 14), (0, 0), (0, 0)], [], [], [1]), ((0, 1, 0), [(0, 14), (0, 0), (0, 0)], [], [], [1])])
theorem hd_1283 : con_1283.1 = (yX11_hasBit, cX11_hasBit, 2, (some .boolean)) := rfl
noncomputable def cu_1283 : List CUT2 := []
theorem ch_1283 : staG tb_X11_hasBit 1 bt_RX11 [] ct_3 [] [] cu_1283 12 con_1283 = true := by decide +kernel
theorem vl_1283 (l : Launch) : Vld2 l vwCl gTbl con_1283 := conR_ok3 gT_all (hd_1283) rfl pn_RX11 tk_X11_hasBit bo_RX11 xo_RX11 (cto_3 l) ch_1283 cut_nil
/-- RookHusting hasBit -/
noncomputable def con_1284 : Con2 := ((yX11_hasBit, cX11_hasBit, 2, (some .boolean)), (0, 0), ([(1, 0, 0), (0, 2, 0)], [(0, 14), (0, 0)], [], []), [((0, 0, 0), [(0, 14), (0, 0), (0, 0)], [], [], [1]), ((0, 1, 0), [(0, 14), (0, 0), (0, 0)], [], [], [1])])
theorem hd_1284 : con_1284.1 = (yX11_hasBit, cX11_hasBit, 2, (some .boolean)) := rfl
noncomputable def cu_1284 : List CUT2 := []
theorem ch_1284 : staG tb_X11_hasBit 1 bt_RX11 [] ct_3 [] [] cu_1284 12 con_1284 = true := by decide +kernel
theorem vl_1284 (l : Launch) : Vld2 l vwCl gTbl con_1284 := conR_ok3 gT_all (hd_1284) rfl pn_RX11 tk_X11_hasBit bo_RX11 xo_RX11 (cto_3 l) ch_1284 cut_nil
/-- RookHusting hasBit -/
noncomputable def con_1285 : Con2 := ((yX11_hasBit, cX11_hasBit, 2, (some .boolean)), (0, 0), ([(1, 0, 0), (0, 1, 0)], [(0, 14), (0, 0)], [], []), [((0, 0, 0), [(0, 14), (0, 0), (0, 0)], [], [], [1]), ((0, 1, 0), [(0, 14), (0, 0), (0, 0)], [], [], [1])])
theorem hd_1285 : con_1285.1 = (yX11_hasBit, cX11_hasBit, 2, (some .boolean)) := rfl
noncomputable def cu_1285 : List CUT2 := []
theorem ch_1285 : staG tb_X11_hasBit 1 bt_RX11 [] ct_3 [] [] cu_1285 12 con_1285 = true := by decide +kernel
theorem vl_1285 (l : Launch) : Vld2 l vwCl gTbl con_1285 := conR_ok3 gT_all (hd_1285) rfl pn_RX11 tk_X11_hasBit bo_RX11 xo_RX11 (cto_3 l) ch_1285 cut_nil
/-- RookHusting hasBit -/
noncomputable def con_1286 : Con2 := ((yX11_hasBit, cX11_hasBit, 2, (some .boolean)), (0, 0), ([(1, 0, 0), (0, 0, 0)], [(0, 14), (0, 0)], [], []), [((0, 0, 0), [(0, 14), (0, 0), (0, 0)], [], [], [1]), ((0, 1, 0), [(0, 14), (0, 0), (0, 0)], [], [], [1])])
theorem hd_1286 : con_1286.1 = (yX11_hasBit, cX11_hasBit, 2, (some .boolean)) := rfl
noncomputable def cu_1286 : List CUT2 := []
theorem ch_1286 : staG tb_X11_hasBit 1 bt_RX11 [] ct_3 [] [] cu_1286 12 con_1286 = true := by decide +kernel
theorem vl_1286 (l : Launch) : Vld2 l vwCl gTbl con_1286 := conR_ok3 gT_all (hd_1286) rfl pn_RX11 tk_X11_hasBit bo_RX11 xo_RX11 (cto_3 l) ch_1286 cut_nil
/-- RookHusting$Election ordersDecided -/
noncomputable def gi_649 : GI := jl_n [gp_210, jl_z 19]
noncomputable def ac_574 : AC := .inl (4, jl_n [jl_8 11 7, jl_c 4, vp_89])
noncomputable def hc_136 : List AC := [.inl (1, [(6, 1, 0), (8, 3, 0)]), ac_574, am_6]
noncomputable def gi_650 : GI := jl_n [gp_210, gp_190]
noncomputable def hq_548 : HP := [(false, .inl (1, [(6, 1, 0), (8, 3, 0)])), (false, ac_574), (false, am_6)]
noncomputable def con_1287 : Con2 := ((yX1_ordersDecided, cX1_ordersDecided, 8, (some .int)), (2, 44), ([(6, 0, 0), (1, 1, 0)], gi_649, hc_136, []), [((1, 21, 0), gi_650, hq_548, [], [1])])
theorem hd_1287 : con_1287.1 = (yX1_ordersDecided, cX1_ordersDecided, 8, (some .int)) := rfl
theorem ck_RX1_45_256 : COK2 RX1 vwCl gTbl 45 2 con_256 := ⟨wd_682, wd_125, mh_X11_hasBit, .inr (.inl ⟨rfl, by decide +kernel, wd_681, pd_X11_hasBit⟩)⟩
theorem ck_RX1_45_257 : COK2 RX1 vwCl gTbl 45 2 con_257 := ⟨wd_682, wd_125, mh_X11_hasBit, .inr (.inl ⟨rfl, by decide +kernel, wd_681, pd_X11_hasBit⟩)⟩
theorem ck_RX1_45_258 : COK2 RX1 vwCl gTbl 45 2 con_258 := ⟨wd_682, wd_125, mh_X11_hasBit, .inr (.inl ⟨rfl, by decide +kernel, wd_681, pd_X11_hasBit⟩)⟩
theorem ck_RX1_45_259 : COK2 RX1 vwCl gTbl 45 2 con_259 := ⟨wd_682, wd_125, mh_X11_hasBit, .inr (.inl ⟨rfl, by decide +kernel, wd_681, pd_X11_hasBit⟩)⟩
theorem ck_RX1_45_1283 : COK2 RX1 vwCl gTbl 45 2 con_1283 := ⟨wd_682, wd_125, mh_X11_hasBit, .inr (.inl ⟨rfl, by decide +kernel, wd_681, pd_X11_hasBit⟩)⟩
theorem ck_RX1_45_1284 : COK2 RX1 vwCl gTbl 45 2 con_1284 := ⟨wd_682, wd_125, mh_X11_hasBit, .inr (.inl ⟨rfl, by decide +kernel, wd_681, pd_X11_hasBit⟩)⟩
theorem ck_RX1_45_1285 : COK2 RX1 vwCl gTbl 45 2 con_1285 := ⟨wd_682, wd_125, mh_X11_hasBit, .inr (.inl ⟨rfl, by decide +kernel, wd_681, pd_X11_hasBit⟩)⟩
theorem ck_RX1_45_1286 : COK2 RX1 vwCl gTbl 45 2 con_1286 := ⟨wd_682, wd_125, mh_X11_hasBit, .inr (.inl ⟨rfl, by decide +kernel, wd_681, pd_X11_hasBit⟩)⟩
noncomputable def ct_1287 : CTB2 := [(14, 84, 0, con_958, [0, 1, 2]), (34, 84, 0, con_958, [0, 1, 2]), (43, 45, 2, con_1286, []), (43, 45, 2, con_1285, []), (43, 45, 2, con_1284, []), (43, 45, 2, con_1283, []), (43, 45, 2, con_259, []), (43, 45, 2, con_258, []), (43, 45, 2, con_257, []), (43, 45, 2, con_256, []), (75, 19, 1, con_1046, [])]
noncomputable def rf_1287 : List (Nat × List POP) := [(40, [(2, (1, 5, 0), 15, 0), (1, (1, 1, 0), 0, 0)])]
noncomputable def gi_651 : GI := jl_n [gp_210, jl_z 20, jl_i 0 3, gp_163, jl_i 0 16]
noncomputable def cu_1287 : List CUT2 := [((24, [lq 0 6 0, lq 1 1 22, lq 2 0 15, lq 3 1 24, lq 4 1 25, lq 5 1 26], [], gi_651, hq_548), [], ([(26, (-1))], 16))]
theorem ch_1287 : staG tb_X1_ordersDecided 1 bt_RX1 [] ct_1287 rf_1287 [] cu_1287 51 con_1287 = true := by decide +kernel
theorem cc_1287 : cu_1287.all (cutG tb_X1_ordersDecided 1 bt_RX1 [] ct_1287 rf_1287 [] cu_1287 51 con_1287) = true := by decide +kernel
theorem cto_1287 (l : Launch) : CTOK2 l RX1 vwCl gTbl ct_1287 := ct2_cons (vl_958 l) ck_RX1_84_958 (ct2_cons (vl_958 l) ck_RX1_84_958 (ct2_cons (vl_1286 l) ck_RX1_45_1286 (ct2_cons (vl_1285 l) ck_RX1_45_1285 (ct2_cons (vl_1284 l) ck_RX1_45_1284 (ct2_cons (vl_1283 l) ck_RX1_45_1283 (ct2_cons (vl_259 l) ck_RX1_45_259 (ct2_cons (vl_258 l) ck_RX1_45_258 (ct2_cons (vl_257 l) ck_RX1_45_257 (ct2_cons (vl_256 l) ck_RX1_45_256 (ct2_cons (vl_1046 l) ck_RX1_19_1046 (ct2_nil)))))))))))
theorem vl_1287 (l : Launch) : Vld2 l vwCl gTbl con_1287 := conR_ok3 gT_all (hd_1287) rfl pn_RX1 tk_X1_ordersDecided bo_RX1 xo_RX1 (cto_1287 l) ch_1287 (cut_all cc_1287)
/-- RookHusting isVoter -/
noncomputable def ac_575 : AC := .inl (4, jl_n [jl_8 27 7, jl_c 3, jl_8 37 9])
noncomputable def hq_549 : HP := [(false, ac_431), (false, .inl (9, [(6, 2, 0), (8, 19, 0)])), (false, ac_575)]
noncomputable def gi_652 : GI := jl_n [gp_209, jl_z 36]
noncomputable def con_1288 : Con2 := ((yX11_isVoter, cX11_isVoter, 2, (some .boolean)), (0, 0), ([(6, 0, 0), (1, 1, 0)], gi_632, [ac_431, .inl (9, [(6, 2, 0), (8, 19, 0)]), ac_575], []), [((0, 0, 0), gi_633, hq_549, [], [1]), ((0, 1, 0), gi_652, hq_549, [], [1])])
theorem hd_1288 : con_1288.1 = (yX11_isVoter, cX11_isVoter, 2, (some .boolean)) := rfl
noncomputable def cu_1288 : List CUT2 := []
theorem ch_1288 : staG tb_X11_isVoter 1 bt_RX11 [] ct_3 [] [] cu_1288 13 con_1288 = true := by decide +kernel
theorem vl_1288 (l : Launch) : Vld2 l vwCl gTbl con_1288 := conR_ok3 gT_all (hd_1288) rfl pn_RX11 tk_X11_isVoter bo_RX11 xo_RX11 (cto_3 l) ch_1288 cut_nil
/-- RookHusting$Election ordersDecided -/
noncomputable def gi_653 : GI := jl_n [gp_209, jl_z 19]
noncomputable def ac_576 : AC := .inl (4, jl_n [jl_8 11 7, jl_c 3, vp_89])
noncomputable def hc_137 : List AC := [.inl (1, [(6, 1, 0), (8, 3, 0)]), ac_576, am_6]
noncomputable def gi_654 : GI := jl_n [gp_209, gp_190]
noncomputable def hq_550 : HP := [(false, .inl (1, [(6, 1, 0), (8, 3, 0)])), (false, ac_576), (false, am_6)]
noncomputable def con_1289 : Con2 := ((yX1_ordersDecided, cX1_ordersDecided, 8, (some .int)), (2, 44), ([(6, 0, 0), (1, 1, 0)], gi_653, hc_137, []), [((1, 21, 0), gi_654, hq_550, [], [1])])
theorem hd_1289 : con_1289.1 = (yX1_ordersDecided, cX1_ordersDecided, 8, (some .int)) := rfl
theorem ck_RX1_45_226 : COK2 RX1 vwCl gTbl 45 2 con_226 := ⟨wd_682, wd_125, mh_X11_hasBit, .inr (.inl ⟨rfl, by decide +kernel, wd_681, pd_X11_hasBit⟩)⟩
theorem ck_RX1_45_227 : COK2 RX1 vwCl gTbl 45 2 con_227 := ⟨wd_682, wd_125, mh_X11_hasBit, .inr (.inl ⟨rfl, by decide +kernel, wd_681, pd_X11_hasBit⟩)⟩
theorem ck_RX1_45_228 : COK2 RX1 vwCl gTbl 45 2 con_228 := ⟨wd_682, wd_125, mh_X11_hasBit, .inr (.inl ⟨rfl, by decide +kernel, wd_681, pd_X11_hasBit⟩)⟩
theorem ck_RX1_45_1092 : COK2 RX1 vwCl gTbl 45 2 con_1092 := ⟨wd_682, wd_125, mh_X11_hasBit, .inr (.inl ⟨rfl, by decide +kernel, wd_681, pd_X11_hasBit⟩)⟩
theorem ck_RX1_45_1093 : COK2 RX1 vwCl gTbl 45 2 con_1093 := ⟨wd_682, wd_125, mh_X11_hasBit, .inr (.inl ⟨rfl, by decide +kernel, wd_681, pd_X11_hasBit⟩)⟩
theorem ck_RX1_45_1094 : COK2 RX1 vwCl gTbl 45 2 con_1094 := ⟨wd_682, wd_125, mh_X11_hasBit, .inr (.inl ⟨rfl, by decide +kernel, wd_681, pd_X11_hasBit⟩)⟩
noncomputable def ct_1289 : CTB2 := [(14, 84, 0, con_958, [0, 1, 2]), (34, 84, 0, con_958, [0, 1, 2]), (43, 45, 2, con_1094, []), (43, 45, 2, con_1093, []), (43, 45, 2, con_1092, []), (43, 45, 2, con_228, []), (43, 45, 2, con_227, []), (43, 45, 2, con_226, []), (75, 19, 1, con_1046, [])]
noncomputable def rf_1289 : List (Nat × List POP) := [(40, [(2, (1, 5, 0), 7, 0), (1, (1, 1, 0), 0, 0)])]
noncomputable def gi_655 : GI := jl_n [gp_209, jl_z 20, jl_i 0 2, gp_163, jl_i 0 8]
noncomputable def cu_1289 : List CUT2 := [((24, [lq 0 6 0, lq 1 1 22, lq 2 0 7, lq 3 1 24, lq 4 1 25, lq 5 1 26], [], gi_655, hq_550), [], ([(26, (-1))], 8))]
theorem ch_1289 : staG tb_X1_ordersDecided 1 bt_RX1 [] ct_1289 rf_1289 [] cu_1289 51 con_1289 = true := by decide +kernel
theorem cc_1289 : cu_1289.all (cutG tb_X1_ordersDecided 1 bt_RX1 [] ct_1289 rf_1289 [] cu_1289 51 con_1289) = true := by decide +kernel
theorem cto_1289 (l : Launch) : CTOK2 l RX1 vwCl gTbl ct_1289 := ct2_cons (vl_958 l) ck_RX1_84_958 (ct2_cons (vl_958 l) ck_RX1_84_958 (ct2_cons (vl_1094 l) ck_RX1_45_1094 (ct2_cons (vl_1093 l) ck_RX1_45_1093 (ct2_cons (vl_1092 l) ck_RX1_45_1092 (ct2_cons (vl_228 l) ck_RX1_45_228 (ct2_cons (vl_227 l) ck_RX1_45_227 (ct2_cons (vl_226 l) ck_RX1_45_226 (ct2_cons (vl_1046 l) ck_RX1_19_1046 (ct2_nil)))))))))
theorem vl_1289 (l : Launch) : Vld2 l vwCl gTbl con_1289 := conR_ok3 gT_all (hd_1289) rfl pn_RX1 tk_X1_ordersDecided bo_RX1 xo_RX1 (cto_1289 l) ch_1289 (cut_all cc_1289)
/-- RookHusting isVoter -/
noncomputable def ac_577 : AC := .inl (4, jl_n [jl_8 27 7, jl_c 2, jl_8 37 9])
noncomputable def hq_551 : HP := [(false, ac_431), (false, .inl (9, [(6, 2, 0), (8, 19, 0)])), (false, ac_577)]
noncomputable def gi_656 : GI := jl_n [gp_208, jl_z 36]
noncomputable def con_1290 : Con2 := ((yX11_isVoter, cX11_isVoter, 2, (some .boolean)), (0, 0), ([(6, 0, 0), (1, 1, 0)], gi_632, [ac_431, .inl (9, [(6, 2, 0), (8, 19, 0)]), ac_577], []), [((0, 0, 0), gi_633, hq_551, [], [1]), ((0, 1, 0), gi_656, hq_551, [], [1])])
theorem hd_1290 : con_1290.1 = (yX11_isVoter, cX11_isVoter, 2, (some .boolean)) := rfl
noncomputable def cu_1290 : List CUT2 := []
theorem ch_1290 : staG tb_X11_isVoter 1 bt_RX11 [] ct_3 [] [] cu_1290 13 con_1290 = true := by decide +kernel
theorem vl_1290 (l : Launch) : Vld2 l vwCl gTbl con_1290 := conR_ok3 gT_all (hd_1290) rfl pn_RX11 tk_X11_isVoter bo_RX11 xo_RX11 (cto_3 l) ch_1290 cut_nil
/-- RookHusting$Election ordersDecided -/
noncomputable def gi_657 : GI := jl_n [gp_208, jl_z 19]
noncomputable def ac_578 : AC := .inl (4, jl_n [jl_8 11 7, jl_c 2, vp_89])
noncomputable def hc_138 : List AC := [.inl (1, [(6, 1, 0), (8, 3, 0)]), ac_578, am_6]
noncomputable def gi_658 : GI := jl_n [gp_208, gp_190]
noncomputable def hq_552 : HP := [(false, .inl (1, [(6, 1, 0), (8, 3, 0)])), (false, ac_578), (false, am_6)]
noncomputable def con_1291 : Con2 := ((yX1_ordersDecided, cX1_ordersDecided, 8, (some .int)), (2, 44), ([(6, 0, 0), (1, 1, 0)], gi_657, hc_138, []), [((1, 21, 0), gi_658, hq_552, [], [1])])
theorem hd_1291 : con_1291.1 = (yX1_ordersDecided, cX1_ordersDecided, 8, (some .int)) := rfl
theorem ck_RX1_45_166 : COK2 RX1 vwCl gTbl 45 2 con_166 := ⟨wd_682, wd_125, mh_X11_hasBit, .inr (.inl ⟨rfl, by decide +kernel, wd_681, pd_X11_hasBit⟩)⟩
theorem ck_RX1_45_167 : COK2 RX1 vwCl gTbl 45 2 con_167 := ⟨wd_682, wd_125, mh_X11_hasBit, .inr (.inl ⟨rfl, by decide +kernel, wd_681, pd_X11_hasBit⟩)⟩
theorem ck_RX1_45_1065 : COK2 RX1 vwCl gTbl 45 2 con_1065 := ⟨wd_682, wd_125, mh_X11_hasBit, .inr (.inl ⟨rfl, by decide +kernel, wd_681, pd_X11_hasBit⟩)⟩
theorem ck_RX1_45_1066 : COK2 RX1 vwCl gTbl 45 2 con_1066 := ⟨wd_682, wd_125, mh_X11_hasBit, .inr (.inl ⟨rfl, by decide +kernel, wd_681, pd_X11_hasBit⟩)⟩
noncomputable def ct_1291 : CTB2 := [(14, 84, 0, con_958, [0, 1, 2]), (34, 84, 0, con_958, [0, 1, 2]), (43, 45, 2, con_1066, []), (43, 45, 2, con_1065, []), (43, 45, 2, con_167, []), (43, 45, 2, con_166, []), (75, 19, 1, con_1046, [])]
noncomputable def rf_1291 : List (Nat × List POP) := [(40, [(2, (1, 5, 0), 3, 0), (1, (1, 1, 0), 0, 0)])]
noncomputable def gi_659 : GI := jl_n [gp_208, jl_z 20, jl_i 0 1, gp_163, jl_i 0 4]
noncomputable def cu_1291 : List CUT2 := [((24, [lq 0 6 0, lq 1 1 22, lq 2 0 3, lq 3 1 24, lq 4 1 25, lq 5 1 26], [], gi_659, hq_552), [], ([(26, (-1))], 4))]
theorem ch_1291 : staG tb_X1_ordersDecided 1 bt_RX1 [] ct_1291 rf_1291 [] cu_1291 51 con_1291 = true := by decide +kernel
theorem cc_1291 : cu_1291.all (cutG tb_X1_ordersDecided 1 bt_RX1 [] ct_1291 rf_1291 [] cu_1291 51 con_1291) = true := by decide +kernel
theorem cto_1291 (l : Launch) : CTOK2 l RX1 vwCl gTbl ct_1291 := ct2_cons (vl_958 l) ck_RX1_84_958 (ct2_cons (vl_958 l) ck_RX1_84_958 (ct2_cons (vl_1066 l) ck_RX1_45_1066 (ct2_cons (vl_1065 l) ck_RX1_45_1065 (ct2_cons (vl_167 l) ck_RX1_45_167 (ct2_cons (vl_166 l) ck_RX1_45_166 (ct2_cons (vl_1046 l) ck_RX1_19_1046 (ct2_nil)))))))
theorem vl_1291 (l : Launch) : Vld2 l vwCl gTbl con_1291 := conR_ok3 gT_all (hd_1291) rfl pn_RX1 tk_X1_ordersDecided bo_RX1 xo_RX1 (cto_1291 l) ch_1291 (cut_all cc_1291)
/-- RookHusting isVoter -/
noncomputable def ac_579 : AC := .inl (4, jl_n [jl_8 27 7, jl_c 1, jl_8 37 9])
noncomputable def hq_553 : HP := [(false, ac_431), (false, .inl (9, [(6, 2, 0), (8, 19, 0)])), (false, ac_579)]
noncomputable def gi_660 : GI := jl_n [jl_z 38]
noncomputable def con_1292 : Con2 := ((yX11_isVoter, cX11_isVoter, 2, (some .boolean)), (0, 0), ([(6, 0, 0), (1, 1, 0)], gi_632, [ac_431, .inl (9, [(6, 2, 0), (8, 19, 0)]), ac_579], []), [((0, 0, 0), gi_633, hq_553, [], [1]), ((0, 1, 0), gi_660, hq_553, [], [1])])
theorem hd_1292 : con_1292.1 = (yX11_isVoter, cX11_isVoter, 2, (some .boolean)) := rfl
noncomputable def cu_1292 : List CUT2 := []
theorem ch_1292 : staG tb_X11_isVoter 1 bt_RX11 [] ct_3 [] [] cu_1292 13 con_1292 = true := by decide +kernel
theorem vl_1292 (l : Launch) : Vld2 l vwCl gTbl con_1292 := conR_ok3 gT_all (hd_1292) rfl pn_RX11 tk_X11_isVoter bo_RX11 xo_RX11 (cto_3 l) ch_1292 cut_nil
/-- RookHusting$Election ordersDecided -/
noncomputable def gi_661 : GI := jl_n [jl_z 21]
noncomputable def ac_580 : AC := .inl (4, jl_n [jl_8 11 7, jl_c 1, vp_89])
noncomputable def hc_139 : List AC := [.inl (1, [(6, 1, 0), (8, 3, 0)]), ac_580, am_6]
noncomputable def gi_662 : GI := jl_n [jl_z 21, jl_t]
noncomputable def hq_554 : HP := [(false, .inl (1, [(6, 1, 0), (8, 3, 0)])), (false, ac_580), (false, am_6)]
noncomputable def con_1293 : Con2 := ((yX1_ordersDecided, cX1_ordersDecided, 8, (some .int)), (2, 44), ([(6, 0, 0), (0, 0, 0)], gi_661, hc_139, []), [((1, 21, 0), gi_662, hq_554, [], [1])])
theorem hd_1293 : con_1293.1 = (yX1_ordersDecided, cX1_ordersDecided, 8, (some .int)) := rfl
theorem ck_RX1_45_61 : COK2 RX1 vwCl gTbl 45 2 con_61 := ⟨wd_682, wd_125, mh_X11_hasBit, .inr (.inl ⟨rfl, by decide +kernel, wd_681, pd_X11_hasBit⟩)⟩
theorem ck_RX1_45_1052 : COK2 RX1 vwCl gTbl 45 2 con_1052 := ⟨wd_682, wd_125, mh_X11_hasBit, .inr (.inl ⟨rfl, by decide +kernel, wd_681, pd_X11_hasBit⟩)⟩
noncomputable def ct_1293 : CTB2 := [(14, 84, 0, con_958, [0, 1, 2]), (34, 84, 0, con_958, [0, 1, 2]), (43, 45, 2, con_1052, []), (43, 45, 2, con_61, []), (75, 19, 1, con_1046, [])]
noncomputable def rf_1293 : List (Nat × List POP) := [(40, [(2, (1, 5, 0), 1, 0), (1, (1, 1, 0), 0, 0)])]
noncomputable def gi_663 : GI := jl_n [jl_z 24, jl_r 2 (jl_t), jl_i 0 2]
noncomputable def cu_1293 : List CUT2 := [((24, [lq 0 6 0, lq 1 0 0, lq 2 0 1, lq 3 1 24, lq 4 1 25, lq 5 1 26], [], gi_663, hq_554), [], ([(26, (-1))], 2))]
theorem ch_1293 : staG tb_X1_ordersDecided 1 bt_RX1 [] ct_1293 rf_1293 [] cu_1293 51 con_1293 = true := by decide +kernel
theorem cc_1293 : cu_1293.all (cutG tb_X1_ordersDecided 1 bt_RX1 [] ct_1293 rf_1293 [] cu_1293 51 con_1293) = true := by decide +kernel
theorem cto_1293 (l : Launch) : CTOK2 l RX1 vwCl gTbl ct_1293 := ct2_cons (vl_958 l) ck_RX1_84_958 (ct2_cons (vl_958 l) ck_RX1_84_958 (ct2_cons (vl_1052 l) ck_RX1_45_1052 (ct2_cons (vl_61 l) ck_RX1_45_61 (ct2_cons (vl_1046 l) ck_RX1_19_1046 (ct2_nil)))))
theorem vl_1293 (l : Launch) : Vld2 l vwCl gTbl con_1293 := conR_ok3 gT_all (hd_1293) rfl pn_RX1 tk_X1_ordersDecided bo_RX1 xo_RX1 (cto_1293 l) ch_1293 (cut_all cc_1293)
/-- RookHusting isVoter -/
noncomputable def ac_581 : AC := .inl (4, jl_n [jl_8 27 7, jl_c 0, jl_8 37 9])
noncomputable def hq_555 : HP := [(false, ac_431), (false, .inl (9, [(6, 2, 0), (8, 19, 0)])), (false, ac_581)]
noncomputable def con_1294 : Con2 := ((yX11_isVoter, cX11_isVoter, 2, (some .boolean)), (0, 0), ([(6, 0, 0), (1, 1, 0)], gi_632, [ac_431, .inl (9, [(6, 2, 0), (8, 19, 0)]), ac_581], []), [((0, 0, 0), gi_633, hq_555, [], [1])])
theorem hd_1294 : con_1294.1 = (yX11_isVoter, cX11_isVoter, 2, (some .boolean)) := rfl
noncomputable def cu_1294 : List CUT2 := []
theorem ch_1294 : staG tb_X11_isVoter 1 bt_RX11 [] ct_3 [] [] cu_1294 12 con_1294 = true := by decide +kernel
theorem vl_1294 (l : Launch) : Vld2 l vwCl gTbl con_1294 := conR_ok3 gT_all (hd_1294) rfl pn_RX11 tk_X11_isVoter bo_RX11 xo_RX11 (cto_3 l) ch_1294 cut_nil
/-- RookHusting power -/
noncomputable def gi_664 : GI := jl_n [gp_163, gp_180, jl_z 11]
noncomputable def ac_582 : AC := .inl (4, jl_n [jl_8 28 7, jl_1 29 1, jl_8 34 5, jl_6 5 1, jl_8 38 3])
noncomputable def hc_140 : List AC := [ac_465, .inl (9, [(6, 2, 0), (8, 20, 0)]), ac_582, .inl (1, [(6, 2, 0), (8, 39, 0)]), am_6]
noncomputable def gi_665 : GI := jl_n [gp_163, gp_180, jl_z 11, jl_t]
noncomputable def hq_556 : HP := [(false, ac_465), (false, .inl (9, [(6, 2, 0), (8, 20, 0)])), (false, ac_582), (false, .inl (1, [(6, 2, 0), (8, 39, 0)])), (false, am_6)]
noncomputable def con_1295 : Con2 := ((yX11_power, cX11_power, 3, (some .int)), (3, 71), ([(6, 0, 0), (1, 1, 0), (1, 2, 0)], gi_664, hc_140, []), [((1, 40, 0), gi_665, hq_556, [], [1])])
theorem hd_1295 : con_1295.1 = (yX11_power, cX11_power, 3, (some .int)) := rfl
theorem ck_RX11_247_1265 : COK2 RX11 vwCl gTbl 247 1 con_1265 := ⟨wd_984, wd_125, mh_X11_partOf, .inl ⟨rfl, wd_982, wd_983, pd_X11_partOf⟩⟩
theorem ck_RX11_238_1293 : COK2 RX11 vwCl gTbl 238 0 con_1293 := ⟨wd_978, wd_132, mh_X1_ordersDecided, .inr (.inr ⟨rfl, wd_975, wd_976, wd_977, ⟨_, rfl, pd_X1_ordersDecided⟩, 1, _, TX1, 2, rfl, rfl⟩)⟩
theorem ck_RX11_238_1291 : COK2 RX11 vwCl gTbl 238 0 con_1291 := ⟨wd_978, wd_132, mh_X1_ordersDecided, .inr (.inr ⟨rfl, wd_975, wd_976, wd_977, ⟨_, rfl, pd_X1_ordersDecided⟩, 1, _, TX1, 2, rfl, rfl⟩)⟩
theorem ck_RX11_238_1289 : COK2 RX11 vwCl gTbl 238 0 con_1289 := ⟨wd_978, wd_132, mh_X1_ordersDecided, .inr (.inr ⟨rfl, wd_975, wd_976, wd_977, ⟨_, rfl, pd_X1_ordersDecided⟩, 1, _, TX1, 2, rfl, rfl⟩)⟩
theorem ck_RX11_238_1287 : COK2 RX11 vwCl gTbl 238 0 con_1287 := ⟨wd_978, wd_132, mh_X1_ordersDecided, .inr (.inr ⟨rfl, wd_975, wd_976, wd_977, ⟨_, rfl, pd_X1_ordersDecided⟩, 1, _, TX1, 2, rfl, rfl⟩)⟩
theorem ck_RX11_238_1281 : COK2 RX11 vwCl gTbl 238 0 con_1281 := ⟨wd_978, wd_132, mh_X1_ordersDecided, .inr (.inr ⟨rfl, wd_975, wd_976, wd_977, ⟨_, rfl, pd_X1_ordersDecided⟩, 1, _, TX1, 2, rfl, rfl⟩)⟩
theorem ck_RX11_238_1279 : COK2 RX11 vwCl gTbl 238 0 con_1279 := ⟨wd_978, wd_132, mh_X1_ordersDecided, .inr (.inr ⟨rfl, wd_975, wd_976, wd_977, ⟨_, rfl, pd_X1_ordersDecided⟩, 1, _, TX1, 2, rfl, rfl⟩)⟩
theorem ck_RX11_238_1263 : COK2 RX11 vwCl gTbl 238 0 con_1263 := ⟨wd_978, wd_132, mh_X1_ordersDecided, .inr (.inr ⟨rfl, wd_975, wd_976, wd_977, ⟨_, rfl, pd_X1_ordersDecided⟩, 1, _, TX1, 2, rfl, rfl⟩)⟩
theorem ck_RX11_165_1294 : COK2 RX11 vwCl gTbl 165 0 con_1294 := ⟨wd_779, wd_125, mh_X11_isVoter, .inr (.inr ⟨rfl, wd_776, wd_778, wd_13, ⟨_, rfl, pd_X11_isVoter⟩, 11, _, TX11, 16, rfl, rfl⟩)⟩
theorem ck_RX11_165_1292 : COK2 RX11 vwCl gTbl 165 0 con_1292 := ⟨wd_779, wd_125, mh_X11_isVoter, .inr (.inr ⟨rfl, wd_776, wd_778, wd_13, ⟨_, rfl, pd_X11_isVoter⟩, 11, _, TX11, 16, rfl, rfl⟩)⟩
theorem ck_RX11_165_1290 : COK2 RX11 vwCl gTbl 165 0 con_1290 := ⟨wd_779, wd_125, mh_X11_isVoter, .inr (.inr ⟨rfl, wd_776, wd_778, wd_13, ⟨_, rfl, pd_X11_isVoter⟩, 11, _, TX11, 16, rfl, rfl⟩)⟩
theorem ck_RX11_165_1288 : COK2 RX11 vwCl gTbl 165 0 con_1288 := ⟨wd_779, wd_125, mh_X11_isVoter, .inr (.inr ⟨rfl, wd_776, wd_778, wd_13, ⟨_, rfl, pd_X11_isVoter⟩, 11, _, TX11, 16, rfl, rfl⟩)⟩
theorem ck_RX11_165_1282 : COK2 RX11 vwCl gTbl 165 0 con_1282 := ⟨wd_779, wd_125, mh_X11_isVoter, .inr (.inr ⟨rfl, wd_776, wd_778, wd_13, ⟨_, rfl, pd_X11_isVoter⟩, 11, _, TX11, 16, rfl, rfl⟩)⟩
theorem ck_RX11_165_1280 : COK2 RX11 vwCl gTbl 165 0 con_1280 := ⟨wd_779, wd_125, mh_X11_isVoter, .inr (.inr ⟨rfl, wd_776, wd_778, wd_13, ⟨_, rfl, pd_X11_isVoter⟩, 11, _, TX11, 16, rfl, rfl⟩)⟩
theorem ck_RX11_165_1266 : COK2 RX11 vwCl gTbl 165 0 con_1266 := ⟨wd_779, wd_125, mh_X11_isVoter, .inr (.inr ⟨rfl, wd_776, wd_778, wd_13, ⟨_, rfl, pd_X11_isVoter⟩, 11, _, TX11, 16, rfl, rfl⟩)⟩
theorem ck_RX11_165_1044 : COK2 RX11 vwCl gTbl 165 0 con_1044 := ⟨wd_779, wd_125, mh_X11_isVoter, .inr (.inr ⟨rfl, wd_776, wd_778, wd_13, ⟨_, rfl, pd_X11_isVoter⟩, 11, _, TX11, 16, rfl, rfl⟩)⟩
noncomputable def ct_1295 : CTB2 := [(2, 165, 0, con_1044, [0, 1, 2]), (2, 165, 0, con_1266, [0, 1, 2]), (2, 165, 0, con_1280, [0, 1, 2]), (2, 165, 0, con_1282, [0, 1, 2]), (2, 165, 0, con_1288, [0, 1, 2]), (2, 165, 0, con_1290, [0, 1, 2]), (2, 165, 0, con_1292, [0, 1, 2]), (2, 165, 0, con_1294, [0, 1, 2]), (9, 143, 1, con_648, []), (23, 238, 0, con_1263, [3, 2, 4]), (23, 238, 0, con_1279, [3, 2, 4]), (23, 238, 0, con_1281, [3, 2, 4]), (23, 238, 0, con_1287, [3, 2, 4]), (23, 238, 0, con_1289, [3, 2, 4]), (23, 238, 0, con_1291, [3, 2, 4]), (23, 238, 0, con_1293, [3, 2, 4]), (43, 247, 1, con_1265, [])]
noncomputable def cu_1295 : List CUT2 := []
theorem ch_1295 : staG tb_X11_power 1 bt_RX11 [] ct_1295 [(0, [(1, (2, 2, 7), 0, 0)])] [] cu_1295 25 con_1295 = true := by decide +kernel
theorem cto_1295 (l : Launch) : CTOK2 l RX11 vwCl gTbl ct_1295 := ct2_cons (vl_1044 l) ck_RX11_165_1044 (ct2_cons (vl_1266 l) ck_RX11_165_1266 (ct2_cons (vl_1280 l) ck_RX11_165_1280 (ct2_cons (vl_1282 l) ck_RX11_165_1282 (ct2_cons (vl_1288 l) ck_RX11_165_1288 (ct2_cons (vl_1290 l) ck_RX11_165_1290 (ct2_cons (vl_1292 l) ck_RX11_165_1292 (ct2_cons (vl_1294 l) ck_RX11_165_1294 (ct2_cons (vl_648 l) ck_RX11_143_648 (ct2_cons (vl_1263 l) ck_RX11_238_1263 (ct2_cons (vl_1279 l) ck_RX11_238_1279 (ct2_cons (vl_1281 l) ck_RX11_238_1281 (ct2_cons (vl_1287 l) ck_RX11_238_1287 (ct2_cons (vl_1289 l) ck_RX11_238_1289 (ct2_cons (vl_1291 l) ck_RX11_238_1291 (ct2_cons (vl_1293 l) ck_RX11_238_1293 (ct2_cons (vl_1265 l) ck_RX11_247_1265 (ct2_nil)))))))))))))))))
theorem vl_1295 (l : Launch) : Vld2 l vwCl gTbl con_1295 := conR_ok3 gT_all (hd_1295) rfl pn_RX11 tk_X11_power bo_RX11 xo_RX11 (cto_1295 l) ch_1295 cut_nil
/-- RookHustingModel in -/
noncomputable def con_1296 : Con2 := ((yX12_in, cX12_in, 6, (some .boolean)), (0, 0), ([(4, 0, 0), (3, 0, 0), (3, 6, 0)], gi_145, [], []), [((0, 0, 0), gi_146, [], [], [1]), ((0, 1, 0), [(0, 6), (0, 0), (0, 0), (0, 0)], [], [], [1])])
theorem hd_1296 : con_1296.1 = (yX12_in, cX12_in, 6, (some .boolean)) := rfl
noncomputable def cu_1296 : List CUT2 := []
theorem ch_1296 : staG tb_X12_in 1 bt_RX12 [] ct_2 [] [] cu_1296 11 con_1296 = true := by decide +kernel
theorem vl_1296 (l : Launch) : Vld2 l vwCl gTbl con_1296 := conR_ok3 gT_all (hd_1296) rfl pn_RX12 tk_X12_in bo_RX12 xo_RX12 (cto_2 l) ch_1296 cut_nil
/-- RookHustingModel isVoter -/
noncomputable def gi_666 : GI := jl_n [gp_328, gp_329]
noncomputable def ac_583 : AC := .inr (1, jl_n [js_1 53 6, jl_x (1, (0, 7, 0)), sp_131])
noncomputable def gi_667 : GI := jl_n [gp_328, gp_127]
noncomputable def gi_668 : GI := jl_n [gp_182, gp_330]
noncomputable def con_1297 : Con2 := ((yX12_isVoter, cX12_isVoter, 2, (some .boolean)), (1, 25), ([(6, 0, 0), (1, 1, 0)], gi_666, [ac_437, ac_583], []), [((0, 0, 0), gi_667, [(false, ac_437), (false, ac_583)], [], [1]), ((0, 1, 0), gi_668, [(false, ac_437), (false, ac_583)], [], [1])])
theorem hd_1297 : con_1297.1 = (yX12_isVoter, cX12_isVoter, 2, (some .boolean)) := rfl
theorem ck_RX12_91_1296 : COK2 RX12 vwCl gTbl 91 1 con_1296 := ⟨wd_1544, wd_137, mh_X12_in, .inl ⟨rfl, wd_1542, wd_1543, pd_X12_in⟩⟩
noncomputable def ct_1297 : CTB2 := [(13, 91, 1, con_1296, [])]
noncomputable def cu_1297 : List CUT2 := []
theorem ch_1297 : staG tb_X12_isVoter 1 bt_RX12 [] ct_1297 [] [] cu_1297 14 con_1297 = true := by decide +kernel
theorem cto_1297 (l : Launch) : CTOK2 l RX12 vwCl gTbl ct_1297 := ct2_cons (vl_1296 l) ck_RX12_91_1296 (ct2_nil)
theorem vl_1297 (l : Launch) : Vld2 l vwCl gTbl con_1297 := conR_ok3 gT_all (hd_1297) rfl pn_RX12 tk_X12_isVoter bo_RX12 xo_RX12 (cto_1297 l) ch_1297 cut_nil
/-- RookHustingModel hatsIn -/
noncomputable def gi_669 : GI := jl_n [gp_328, gp_329, jl_t]
noncomputable def con_1298 : Con2 := ((yX12_hatsIn, cX12_hatsIn, 4, (some .int)), (1, 21), ([(6, 0, 0), (1, 1, 0)], gi_666, [ac_437, ac_583], []), [((1, 70, 0), gi_669, [(false, ac_437), (false, ac_583)], [], [1])])
theorem hd_1298 : con_1298.1 = (yX12_hatsIn, cX12_hatsIn, 4, (some .int)) := rfl
noncomputable def gi_670 : GI := jl_n [gp_331, jl_z 16, gp_212]
noncomputable def cu_1298 : List CUT2 := [((4, [lq 0 6 0, lq 1 1 1, lq 2 1 72, lq 3 1 73], [], gi_670, [(false, ac_437), (false, ac_583)]), [], ([(73, (-1))], 7))]
theorem ch_1298 : staG tb_X12_hatsIn 1 bt_RX12 [] ct_962 [] [] cu_1298 23 con_1298 = true := by decide +kernel
theorem cc_1298 : cu_1298.all (cutG tb_X12_hatsIn 1 bt_RX12 [] ct_962 [] [] cu_1298 23 con_1298) = true := by decide +kernel
theorem vl_1298 (l : Launch) : Vld2 l vwCl gTbl con_1298 := conR_ok3 gT_all (hd_1298) rfl pn_RX12 tk_X12_hatsIn bo_RX12 xo_RX12 (cto_962 l) ch_1298 (cut_all cc_1298)
/-- RookHustingModel in -/
noncomputable def con_1299 : Con2 := ((yX12_in, cX12_in, 6, (some .boolean)), (0, 0), ([(4, 0, 0), (3, 0, 0), (3, 5, 0)], gi_145, [], []), [((0, 0, 0), gi_146, [], [], [1]), ((0, 1, 0), [(0, 5), (0, 0), (0, 0), (0, 0)], [], [], [1])])
theorem hd_1299 : con_1299.1 = (yX12_in, cX12_in, 6, (some .boolean)) := rfl
noncomputable def cu_1299 : List CUT2 := []
theorem ch_1299 : staG tb_X12_in 1 bt_RX12 [] ct_2 [] [] cu_1299 11 con_1299 = true := by decide +kernel
theorem vl_1299 (l : Launch) : Vld2 l vwCl gTbl con_1299 := conR_ok3 gT_all (hd_1299) rfl pn_RX12 tk_X12_in bo_RX12 xo_RX12 (cto_2 l) ch_1299 cut_nil
/-- RookHustingModel isVoter -/
noncomputable def ac_584 : AC := .inr (1, jl_n [js_1 53 6, jl_x (1, (0, 6, 0)), sp_131])
noncomputable def gi_671 : GI := jl_n [gp_211, gp_330]
noncomputable def con_1300 : Con2 := ((yX12_isVoter, cX12_isVoter, 2, (some .boolean)), (1, 25), ([(6, 0, 0), (1, 1, 0)], gi_666, [ac_437, ac_584], []), [((0, 0, 0), gi_667, [(false, ac_437), (false, ac_584)], [], [1]), ((0, 1, 0), gi_671, [(false, ac_437), (false, ac_584)], [], [1])])
theorem hd_1300 : con_1300.1 = (yX12_isVoter, cX12_isVoter, 2, (some .boolean)) := rfl
theorem ck_RX12_91_1299 : COK2 RX12 vwCl gTbl 91 1 con_1299 := ⟨wd_1544, wd_137, mh_X12_in, .inl ⟨rfl, wd_1542, wd_1543, pd_X12_in⟩⟩
noncomputable def ct_1300 : CTB2 := [(13, 91, 1, con_1299, [])]
noncomputable def cu_1300 : List CUT2 := []
theorem ch_1300 : staG tb_X12_isVoter 1 bt_RX12 [] ct_1300 [] [] cu_1300 14 con_1300 = true := by decide +kernel
theorem cto_1300 (l : Launch) : CTOK2 l RX12 vwCl gTbl ct_1300 := ct2_cons (vl_1299 l) ck_RX12_91_1299 (ct2_nil)
theorem vl_1300 (l : Launch) : Vld2 l vwCl gTbl con_1300 := conR_ok3 gT_all (hd_1300) rfl pn_RX12 tk_X12_isVoter bo_RX12 xo_RX12 (cto_1300 l) ch_1300 cut_nil
/-- RookHustingModel hatsIn -/
noncomputable def con_1301 : Con2 := ((yX12_hatsIn, cX12_hatsIn, 4, (some .int)), (1, 21), ([(6, 0, 0), (1, 1, 0)], gi_666, [ac_437, ac_584], []), [((1, 70, 0), gi_669, [(false, ac_437), (false, ac_584)], [], [1])])
theorem hd_1301 : con_1301.1 = (yX12_hatsIn, cX12_hatsIn, 4, (some .int)) := rfl
theorem ck_RX12_243_689 : COK2 RX12 vwCl gTbl 243 0 con_689 := ⟨wd_1684, wd_137, mh_X12_hatsOf, .inr (.inr ⟨rfl, wd_1681, wd_1683, wd_71, ⟨_, rfl, pd_X12_hatsOf⟩, 12, _, TX12, 45, rfl, rfl⟩)⟩
noncomputable def ct_1301 : CTB2 := [(18, 199, 1, con_394, []), (27, 243, 0, con_689, [0, 1])]
noncomputable def gi_672 : GI := jl_n [gp_332, jl_i 0 6]
noncomputable def cu_1301 : List CUT2 := [((4, [lq 0 6 0, lq 1 1 1, lq 2 1 72, lq 3 1 73], [], gi_672, [(false, ac_437), (false, ac_584)]), [], ([(73, (-1))], 6))]
theorem ch_1301 : staG tb_X12_hatsIn 1 bt_RX12 [] ct_1301 [] [] cu_1301 23 con_1301 = true := by decide +kernel
theorem cc_1301 : cu_1301.all (cutG tb_X12_hatsIn 1 bt_RX12 [] ct_1301 [] [] cu_1301 23 con_1301) = true := by decide +kernel
theorem cto_1301 (l : Launch) : CTOK2 l RX12 vwCl gTbl ct_1301 := ct2_cons (vl_394 l) ck_RX12_199_394 (ct2_cons (vl_689 l) ck_RX12_243_689 (ct2_nil))
theorem vl_1301 (l : Launch) : Vld2 l vwCl gTbl con_1301 := conR_ok3 gT_all (hd_1301) rfl pn_RX12 tk_X12_hatsIn bo_RX12 xo_RX12 (cto_1301 l) ch_1301 (cut_all cc_1301)
/-- RookHustingModel in -/
noncomputable def con_1302 : Con2 := ((yX12_in, cX12_in, 6, (some .boolean)), (0, 0), ([(4, 0, 0), (3, 0, 0), (3, 4, 0)], gi_145, [], []), [((0, 0, 0), gi_146, [], [], [1]), ((0, 1, 0), [(0, 4), (0, 0), (0, 0), (0, 0)], [], [], [1])])
theorem hd_1302 : con_1302.1 = (yX12_in, cX12_in, 6, (some .boolean)) := rfl
noncomputable def cu_1302 : List CUT2 := []
theorem ch_1302 : staG tb_X12_in 1 bt_RX12 [] ct_2 [] [] cu_1302 11 con_1302 = true := by decide +kernel
theorem vl_1302 (l : Launch) : Vld2 l vwCl gTbl con_1302 := conR_ok3 gT_all (hd_1302) rfl pn_RX12 tk_X12_in bo_RX12 xo_RX12 (cto_2 l) ch_1302 cut_nil
/-- RookHustingModel isVoter -/
noncomputable def ac_585 : AC := .inr (1, jl_n [js_1 53 6, jl_x (1, (0, 5, 0)), sp_131])
noncomputable def gi_673 : GI := jl_n [gp_52, gp_330]
noncomputable def con_1303 : Con2 := ((yX12_isVoter, cX12_isVoter, 2, (some .boolean)), (1, 25), ([(6, 0, 0), (1, 1, 0)], gi_666, [ac_437, ac_585], []), [((0, 0, 0), gi_667, [(false, ac_437), (false, ac_585)], [], [1]), ((0, 1, 0), gi_673, [(false, ac_437), (false, ac_585)], [], [1])])
theorem hd_1303 : con_1303.1 = (yX12_isVoter, cX12_isVoter, 2, (some .boolean)) := rfl
theorem ck_RX12_91_1302 : COK2 RX12 vwCl gTbl 91 1 con_1302 := ⟨wd_1544, wd_137, mh_X12_in, .inl ⟨rfl, wd_1542, wd_1543, pd_X12_in⟩⟩
noncomputable def ct_1303 : CTB2 := [(13, 91, 1, con_1302, [])]
noncomputable def cu_1303 : List CUT2 := []
theorem ch_1303 : staG tb_X12_isVoter 1 bt_RX12 [] ct_1303 [] [] cu_1303 14 con_1303 = true := by decide +kernel
theorem cto_1303 (l : Launch) : CTOK2 l RX12 vwCl gTbl ct_1303 := ct2_cons (vl_1302 l) ck_RX12_91_1302 (ct2_nil)
theorem vl_1303 (l : Launch) : Vld2 l vwCl gTbl con_1303 := conR_ok3 gT_all (hd_1303) rfl pn_RX12 tk_X12_isVoter bo_RX12 xo_RX12 (cto_1303 l) ch_1303 cut_nil
/-- RookHustingModel hatsIn -/
noncomputable def con_1304 : Con2 := ((yX12_hatsIn, cX12_hatsIn, 4, (some .int)), (1, 21), ([(6, 0, 0), (1, 1, 0)], gi_666, [ac_437, ac_585], []), [((1, 70, 0), gi_669, [(false, ac_437), (false, ac_585)], [], [1])])
theorem hd_1304 : con_1304.1 = (yX12_hatsIn, cX12_hatsIn, 4, (some .int)) := rfl
theorem ck_RX12_243_688 : COK2 RX12 vwCl gTbl 243 0 con_688 := ⟨wd_1684, wd_137, mh_X12_hatsOf, .inr (.inr ⟨rfl, wd_1681, wd_1683, wd_71, ⟨_, rfl, pd_X12_hatsOf⟩, 12, _, TX12, 45, rfl, rfl⟩)⟩
noncomputable def ct_1304 : CTB2 := [(18, 199, 1, con_394, []), (27, 243, 0, con_688, [0, 1])]
noncomputable def gi_674 : GI := jl_n [gp_331, jl_z 16, gp_207]
noncomputable def cu_1304 : List CUT2 := [((4, [lq 0 6 0, lq 1 1 1, lq 2 1 72, lq 3 1 73], [], gi_674, [(false, ac_437), (false, ac_585)]), [], ([(73, (-1))], 5))]
theorem ch_1304 : staG tb_X12_hatsIn 1 bt_RX12 [] ct_1304 [] [] cu_1304 23 con_1304 = true := by decide +kernel
theorem cc_1304 : cu_1304.all (cutG tb_X12_hatsIn 1 bt_RX12 [] ct_1304 [] [] cu_1304 23 con_1304) = true := by decide +kernel
theorem cto_1304 (l : Launch) : CTOK2 l RX12 vwCl gTbl ct_1304 := ct2_cons (vl_394 l) ck_RX12_199_394 (ct2_cons (vl_688 l) ck_RX12_243_688 (ct2_nil))
theorem vl_1304 (l : Launch) : Vld2 l vwCl gTbl con_1304 := conR_ok3 gT_all (hd_1304) rfl pn_RX12 tk_X12_hatsIn bo_RX12 xo_RX12 (cto_1304 l) ch_1304 (cut_all cc_1304)
/-- RookHustingModel isVoter -/
noncomputable def ac_586 : AC := .inr (1, jl_n [js_1 53 6, jl_x (1, (0, 4, 0)), sp_131])
noncomputable def gi_675 : GI := jl_n [gp_210, gp_330]
noncomputable def con_1305 : Con2 := ((yX12_isVoter, cX12_isVoter, 2, (some .boolean)), (1, 25), ([(6, 0, 0), (1, 1, 0)], gi_666, [ac_437, ac_586], []), [((0, 0, 0), gi_667, [(false, ac_437), (false, ac_586)], [], [1]), ((0, 1, 0), gi_675, [(false, ac_437), (false, ac_586)], [], [1])])
theorem hd_1305 : con_1305.1 = (yX12_isVoter, cX12_isVoter, 2, (some .boolean)) := rfl
noncomputable def ct_1305 : CTB2 := [(13, 91, 1, con_336, [])]
noncomputable def cu_1305 : List CUT2 := []
theorem ch_1305 : staG tb_X12_isVoter 1 bt_RX12 [] ct_1305 [] [] cu_1305 14 con_1305 = true := by decide +kernel
theorem cto_1305 (l : Launch) : CTOK2 l RX12 vwCl gTbl ct_1305 := ct2_cons (vl_336 l) ck_RX12_91_336 (ct2_nil)
theorem vl_1305 (l : Launch) : Vld2 l vwCl gTbl con_1305 := conR_ok3 gT_all (hd_1305) rfl pn_RX12 tk_X12_isVoter bo_RX12 xo_RX12 (cto_1305 l) ch_1305 cut_nil
/-- RookHustingModel hatsIn -/
noncomputable def con_1306 : Con2 := ((yX12_hatsIn, cX12_hatsIn, 4, (some .int)), (1, 21), ([(6, 0, 0), (1, 1, 0)], gi_666, [ac_437, ac_586], []), [((1, 70, 0), gi_669, [(false, ac_437), (false, ac_586)], [], [1])])
theorem hd_1306 : con_1306.1 = (yX12_hatsIn, cX12_hatsIn, 4, (some .int)) := rfl
theorem ck_RX12_243_687 : COK2 RX12 vwCl gTbl 243 0 con_687 := ⟨wd_1684, wd_137, mh_X12_hatsOf, .inr (.inr ⟨rfl, wd_1681, wd_1683, wd_71, ⟨_, rfl, pd_X12_hatsOf⟩, 12, _, TX12, 45, rfl, rfl⟩)⟩
noncomputable def ct_1306 : CTB2 := [(18, 199, 1, con_394, []), (27, 243, 0, con_687, [0, 1])]
noncomputable def gi_676 : GI := jl_n [gp_332, jl_i 0 4]
noncomputable def cu_1306 : List CUT2 := [((4, [lq 0 6 0, lq 1 1 1, lq 2 1 72, lq 3 1 73], [], gi_676, [(false, ac_437), (false, ac_586)]), [], ([(73, (-1))], 4))]
theorem ch_1306 : staG tb_X12_hatsIn 1 bt_RX12 [] ct_1306 [] [] cu_1306 23 con_1306 = true := by decide +kernel
theorem cc_1306 : cu_1306.all (cutG tb_X12_hatsIn 1 bt_RX12 [] ct_1306 [] [] cu_1306 23 con_1306) = true := by decide +kernel
theorem cto_1306 (l : Launch) : CTOK2 l RX12 vwCl gTbl ct_1306 := ct2_cons (vl_394 l) ck_RX12_199_394 (ct2_cons (vl_687 l) ck_RX12_243_687 (ct2_nil))
theorem vl_1306 (l : Launch) : Vld2 l vwCl gTbl con_1306 := conR_ok3 gT_all (hd_1306) rfl pn_RX12 tk_X12_hatsIn bo_RX12 xo_RX12 (cto_1306 l) ch_1306 (cut_all cc_1306)
/-- RookHustingModel in -/
noncomputable def con_1307 : Con2 := ((yX12_in, cX12_in, 6, (some .boolean)), (0, 0), ([(4, 0, 0), (3, 0, 0), (3, 2, 0)], gi_145, [], []), [((0, 0, 0), [(3, 9223372036854775807), (0, 0), (0, 0), (0, 0)], [], [], [1]), ((0, 0, 0), [((-9223372036854775808), (-1)), (0, 0), (0, 0), (0, 0)], [], [], [1]), ((0, 1, 0), [(0, 2), (0, 0), (0, 0), (0, 0)], [], [], [1])])
theorem hd_1307 : con_1307.1 = (yX12_in, cX12_in, 6, (some .boolean)) := rfl
noncomputable def cu_1307 : List CUT2 := []
theorem ch_1307 : staG tb_X12_in 1 bt_RX12 [] ct_2 [] [] cu_1307 11 con_1307 = true := by decide +kernel
theorem vl_1307 (l : Launch) : Vld2 l vwCl gTbl con_1307 := conR_ok3 gT_all (hd_1307) rfl pn_RX12 tk_X12_in bo_RX12 xo_RX12 (cto_2 l) ch_1307 cut_nil
/-- RookHustingModel isVoter -/
noncomputable def ac_587 : AC := .inr (1, jl_n [js_1 53 6, jl_x (1, (0, 3, 0)), sp_131])
noncomputable def gi_677 : GI := jl_n [gp_209, gp_330]
noncomputable def con_1308 : Con2 := ((yX12_isVoter, cX12_isVoter, 2, (some .boolean)), (1, 25), ([(6, 0, 0), (1, 1, 0)], gi_666, [ac_437, ac_587], []), [((0, 0, 0), gi_667, [(false, ac_437), (false, ac_587)], [], [1]), ((0, 1, 0), gi_677, [(false, ac_437), (false, ac_587)], [], [1])])
theorem hd_1308 : con_1308.1 = (yX12_isVoter, cX12_isVoter, 2, (some .boolean)) := rfl
theorem ck_RX12_91_1307 : COK2 RX12 vwCl gTbl 91 1 con_1307 := ⟨wd_1544, wd_137, mh_X12_in, .inl ⟨rfl, wd_1542, wd_1543, pd_X12_in⟩⟩
noncomputable def ct_1308 : CTB2 := [(13, 91, 1, con_1307, [])]
noncomputable def cu_1308 : List CUT2 := []
theorem ch_1308 : staG tb_X12_isVoter 1 bt_RX12 [] ct_1308 [] [] cu_1308 14 con_1308 = true := by decide +kernel
theorem cto_1308 (l : Launch) : CTOK2 l RX12 vwCl gTbl ct_1308 := ct2_cons (vl_1307 l) ck_RX12_91_1307 (ct2_nil)
theorem vl_1308 (l : Launch) : Vld2 l vwCl gTbl con_1308 := conR_ok3 gT_all (hd_1308) rfl pn_RX12 tk_X12_isVoter bo_RX12 xo_RX12 (cto_1308 l) ch_1308 cut_nil
/-- RookHustingModel hatsIn -/
noncomputable def con_1309 : Con2 := ((yX12_hatsIn, cX12_hatsIn, 4, (some .int)), (1, 21), ([(6, 0, 0), (1, 1, 0)], gi_666, [ac_437, ac_587], []), [((1, 70, 0), gi_669, [(false, ac_437), (false, ac_587)], [], [1])])
theorem hd_1309 : con_1309.1 = (yX12_hatsIn, cX12_hatsIn, 4, (some .int)) := rfl
theorem ck_RX12_243_686 : COK2 RX12 vwCl gTbl 243 0 con_686 := ⟨wd_1684, wd_137, mh_X12_hatsOf, .inr (.inr ⟨rfl, wd_1681, wd_1683, wd_71, ⟨_, rfl, pd_X12_hatsOf⟩, 12, _, TX12, 45, rfl, rfl⟩)⟩
noncomputable def ct_1309 : CTB2 := [(18, 199, 1, con_394, []), (27, 243, 0, con_686, [0, 1])]
noncomputable def gi_678 : GI := jl_n [gp_332, jl_i 0 3]
noncomputable def cu_1309 : List CUT2 := [((4, [lq 0 6 0, lq 1 1 1, lq 2 1 72, lq 3 1 73], [], gi_678, [(false, ac_437), (false, ac_587)]), [], ([(73, (-1))], 3))]
theorem ch_1309 : staG tb_X12_hatsIn 1 bt_RX12 [] ct_1309 [] [] cu_1309 23 con_1309 = true := by decide +kernel
theorem cc_1309 : cu_1309.all (cutG tb_X12_hatsIn 1 bt_RX12 [] ct_1309 [] [] cu_1309 23 con_1309) = true := by decide +kernel
theorem cto_1309 (l : Launch) : CTOK2 l RX12 vwCl gTbl ct_1309 := ct2_cons (vl_394 l) ck_RX12_199_394 (ct2_cons (vl_686 l) ck_RX12_243_686 (ct2_nil))
theorem vl_1309 (l : Launch) : Vld2 l vwCl gTbl con_1309 := conR_ok3 gT_all (hd_1309) rfl pn_RX12 tk_X12_hatsIn bo_RX12 xo_RX12 (cto_1309 l) ch_1309 (cut_all cc_1309)
/-- RookHustingModel isVoter -/
noncomputable def ac_588 : AC := .inr (1, jl_n [js_1 53 6, jl_x (1, (0, 2, 0)), sp_131])
noncomputable def gi_679 : GI := jl_n [gp_208, gp_330]
noncomputable def con_1310 : Con2 := ((yX12_isVoter, cX12_isVoter, 2, (some .boolean)), (1, 25), ([(6, 0, 0), (1, 1, 0)], gi_666, [ac_437, ac_588], []), [((0, 0, 0), gi_667, [(false, ac_437), (false, ac_588)], [], [1]), ((0, 1, 0), gi_679, [(false, ac_437), (false, ac_588)], [], [1])])
theorem hd_1310 : con_1310.1 = (yX12_isVoter, cX12_isVoter, 2, (some .boolean)) := rfl
noncomputable def ct_1310 : CTB2 := [(13, 91, 1, con_652, [])]
noncomputable def cu_1310 : List CUT2 := []
theorem ch_1310 : staG tb_X12_isVoter 1 bt_RX12 [] ct_1310 [] [] cu_1310 14 con_1310 = true := by decide +kernel
theorem cto_1310 (l : Launch) : CTOK2 l RX12 vwCl gTbl ct_1310 := ct2_cons (vl_652 l) ck_RX12_91_652 (ct2_nil)
theorem vl_1310 (l : Launch) : Vld2 l vwCl gTbl con_1310 := conR_ok3 gT_all (hd_1310) rfl pn_RX12 tk_X12_isVoter bo_RX12 xo_RX12 (cto_1310 l) ch_1310 cut_nil
/-- RookHustingModel hatsIn -/
noncomputable def con_1311 : Con2 := ((yX12_hatsIn, cX12_hatsIn, 4, (some .int)), (1, 21), ([(6, 0, 0), (1, 1, 0)], gi_666, [ac_437, ac_588], []), [((1, 70, 0), gi_669, [(false, ac_437), (false, ac_588)], [], [1])])
theorem hd_1311 : con_1311.1 = (yX12_hatsIn, cX12_hatsIn, 4, (some .int)) := rfl
theorem ck_RX12_243_685 : COK2 RX12 vwCl gTbl 243 0 con_685 := ⟨wd_1684, wd_137, mh_X12_hatsOf, .inr (.inr ⟨rfl, wd_1681, wd_1683, wd_71, ⟨_, rfl, pd_X12_hatsOf⟩, 12, _, TX12, 45, rfl, rfl⟩)⟩
noncomputable def ct_1311 : CTB2 := [(18, 199, 1, con_394, []), (27, 243, 0, con_685, [0, 1])]
noncomputable def gi_680 : GI := jl_n [gp_332, jl_i 0 2]
noncomputable def cu_1311 : List CUT2 := [((4, [lq 0 6 0, lq 1 1 1, lq 2 1 72, lq 3 1 73], [], gi_680, [(false, ac_437), (false, ac_588)]), [], ([(73, (-1))], 2))]
theorem ch_1311 : staG tb_X12_hatsIn 1 bt_RX12 [] ct_1311 [] [] cu_1311 23 con_1311 = true := by decide +kernel
theorem cc_1311 : cu_1311.all (cutG tb_X12_hatsIn 1 bt_RX12 [] ct_1311 [] [] cu_1311 23 con_1311) = true := by decide +kernel
theorem cto_1311 (l : Launch) : CTOK2 l RX12 vwCl gTbl ct_1311 := ct2_cons (vl_394 l) ck_RX12_199_394 (ct2_cons (vl_685 l) ck_RX12_243_685 (ct2_nil))
theorem vl_1311 (l : Launch) : Vld2 l vwCl gTbl con_1311 := conR_ok3 gT_all (hd_1311) rfl pn_RX12 tk_X12_hatsIn bo_RX12 xo_RX12 (cto_1311 l) ch_1311 (cut_all cc_1311)
/-- RookHustingModel isVoter -/
noncomputable def ac_589 : AC := .inr (1, jl_n [js_1 53 6, jl_x (1, (0, 1, 0)), sp_131])
noncomputable def gi_681 : GI := jl_n [jl_z 47, gp_113, gp_127]
noncomputable def con_1312 : Con2 := ((yX12_isVoter, cX12_isVoter, 2, (some .boolean)), (1, 25), ([(6, 0, 0), (1, 1, 0)], gi_666, [ac_437, ac_589], []), [((0, 0, 0), gi_667, [(false, ac_437), (false, ac_589)], [], [1]), ((0, 1, 0), gi_681, [(false, ac_437), (false, ac_589)], [], [1])])
theorem hd_1312 : con_1312.1 = (yX12_isVoter, cX12_isVoter, 2, (some .boolean)) := rfl
noncomputable def ct_1312 : CTB2 := [(13, 91, 1, con_858, [])]
noncomputable def cu_1312 : List CUT2 := []
theorem ch_1312 : staG tb_X12_isVoter 1 bt_RX12 [] ct_1312 [] [] cu_1312 14 con_1312 = true := by decide +kernel
theorem cto_1312 (l : Launch) : CTOK2 l RX12 vwCl gTbl ct_1312 := ct2_cons (vl_858 l) ck_RX12_91_858 (ct2_nil)
theorem vl_1312 (l : Launch) : Vld2 l vwCl gTbl con_1312 := conR_ok3 gT_all (hd_1312) rfl pn_RX12 tk_X12_isVoter bo_RX12 xo_RX12 (cto_1312 l) ch_1312 cut_nil
/-- RookHustingModel hatsIn -/
noncomputable def con_1313 : Con2 := ((yX12_hatsIn, cX12_hatsIn, 4, (some .int)), (1, 21), ([(6, 0, 0), (1, 1, 0)], gi_666, [ac_437, ac_589], []), [((1, 70, 0), gi_669, [(false, ac_437), (false, ac_589)], [], [1])])
theorem hd_1313 : con_1313.1 = (yX12_hatsIn, cX12_hatsIn, 4, (some .int)) := rfl
theorem ck_RX12_243_682 : COK2 RX12 vwCl gTbl 243 0 con_682 := ⟨wd_1684, wd_137, mh_X12_hatsOf, .inr (.inr ⟨rfl, wd_1681, wd_1683, wd_71, ⟨_, rfl, pd_X12_hatsOf⟩, 12, _, TX12, 45, rfl, rfl⟩)⟩
noncomputable def ct_1313 : CTB2 := [(18, 199, 1, con_394, []), (27, 243, 0, con_682, [0, 1])]
noncomputable def gi_682 : GI := jl_n [gp_332, jl_i 0 1]
noncomputable def cu_1313 : List CUT2 := [((4, [lq 0 6 0, lq 1 1 1, lq 2 1 72, lq 3 1 73], [], gi_682, [(false, ac_437), (false, ac_589)]), [], ([(73, (-1))], 1))]
theorem ch_1313 : staG tb_X12_hatsIn 1 bt_RX12 [] ct_1313 [] [] cu_1313 23 con_1313 = true := by decide +kernel
theorem cc_1313 : cu_1313.all (cutG tb_X12_hatsIn 1 bt_RX12 [] ct_1313 [] [] cu_1313 23 con_1313) = true := by decide +kernel
theorem cto_1313 (l : Launch) : CTOK2 l RX12 vwCl gTbl ct_1313 := ct2_cons (vl_394 l) ck_RX12_199_394 (ct2_cons (vl_682 l) ck_RX12_243_682 (ct2_nil))
theorem vl_1313 (l : Launch) : Vld2 l vwCl gTbl con_1313 := conR_ok3 gT_all (hd_1313) rfl pn_RX12 tk_X12_hatsIn bo_RX12 xo_RX12 (cto_1313 l) ch_1313 (cut_all cc_1313)
/-- RookHustingModel in -/
noncomputable def con_1314 : Con2 := ((yX12_in, cX12_in, 6, (some .boolean)), (0, 0), ([(4, 0, 0), (3, 0, 0), (3, (-1), 0)], gi_145, [], []), [((0, 0, 0), gi_146, [], [], [1])])
theorem hd_1314 : con_1314.1 = (yX12_in, cX12_in, 6, (some .boolean)) := rfl
noncomputable def cu_1314 : List CUT2 := []
theorem ch_1314 : staG tb_X12_in 1 bt_RX12 [] ct_2 [] [] cu_1314 10 con_1314 = true := by decide +kernel
theorem vl_1314 (l : Launch) : Vld2 l vwCl gTbl con_1314 := conR_ok3 gT_all (hd_1314) rfl pn_RX12 tk_X12_in bo_RX12 xo_RX12 (cto_2 l) ch_1314 cut_nil
/-- RookHustingModel isVoter -/
noncomputable def ac_590 : AC := .inr (1, jl_n [js_1 53 6, jl_x (1, (0, 0, 0)), sp_131])
noncomputable def con_1315 : Con2 := ((yX12_isVoter, cX12_isVoter, 2, (some .boolean)), (1, 25), ([(6, 0, 0), (1, 1, 0)], gi_666, [ac_437, ac_590], []), [((0, 0, 0), gi_667, [(false, ac_437), (false, ac_590)], [], [1])])
theorem hd_1315 : con_1315.1 = (yX12_isVoter, cX12_isVoter, 2, (some .boolean)) := rfl
theorem ck_RX12_91_1314 : COK2 RX12 vwCl gTbl 91 1 con_1314 := ⟨wd_1544, wd_137, mh_X12_in, .inl ⟨rfl, wd_1542, wd_1543, pd_X12_in⟩⟩
noncomputable def ct_1315 : CTB2 := [(13, 91, 1, con_1314, [])]
noncomputable def cu_1315 : List CUT2 := []
theorem ch_1315 : staG tb_X12_isVoter 1 bt_RX12 [] ct_1315 [] [] cu_1315 14 con_1315 = true := by decide +kernel
theorem cto_1315 (l : Launch) : CTOK2 l RX12 vwCl gTbl ct_1315 := ct2_cons (vl_1314 l) ck_RX12_91_1314 (ct2_nil)
theorem vl_1315 (l : Launch) : Vld2 l vwCl gTbl con_1315 := conR_ok3 gT_all (hd_1315) rfl pn_RX12 tk_X12_isVoter bo_RX12 xo_RX12 (cto_1315 l) ch_1315 cut_nil
/-- RookHustingModel factorial -/
noncomputable def con_1317 : Con2 := ((yX12_factorial, cX12_factorial, 3, (some .int)), (0, 0), ([(0, 6, 0)], [(0, 0)], [], []), [((0, 720, 0), [(0, 0), (0, 0)], [], [], [1])])
theorem hd_1317 : con_1317.1 = (yX12_factorial, cX12_factorial, 3, (some .int)) := rfl
noncomputable def cu_1317 : List CUT2 := []
theorem ch_1317 : staG tb_X12_factorial 1 bt_RX12 [] ct_2 [] [] cu_1317 56 con_1317 = true := by decide +kernel
theorem vl_1317 (l : Launch) : Vld2 l vwCl gTbl con_1317 := conR_ok3 gT_all (hd_1317) rfl pn_RX12 tk_X12_factorial bo_RX12 xo_RX12 (cto_2 l) ch_1317 cut_nil
/-- RookHustingModel factorial -/
noncomputable def con_1318 : Con2 := ((yX12_factorial, cX12_factorial, 3, (some .int)), (0, 0), ([(0, 5, 0)], [(0, 0)], [], []), [((0, 120, 0), [(0, 0), (0, 0)], [], [], [1])])
theorem hd_1318 : con_1318.1 = (yX12_factorial, cX12_factorial, 3, (some .int)) := rfl
noncomputable def cu_1318 : List CUT2 := []
theorem ch_1318 : staG tb_X12_factorial 1 bt_RX12 [] ct_2 [] [] cu_1318 47 con_1318 = true := by decide +kernel
theorem vl_1318 (l : Launch) : Vld2 l vwCl gTbl con_1318 := conR_ok3 gT_all (hd_1318) rfl pn_RX12 tk_X12_factorial bo_RX12 xo_RX12 (cto_2 l) ch_1318 cut_nil
/-- RookHustingModel factorial -/
noncomputable def con_1319 : Con2 := ((yX12_factorial, cX12_factorial, 3, (some .int)), (0, 0), ([(0, 4, 0)], [(0, 0)], [], []), [((0, 24, 0), [(0, 0), (0, 0)], [], [], [1])])
theorem hd_1319 : con_1319.1 = (yX12_factorial, cX12_factorial, 3, (some .int)) := rfl
noncomputable def cu_1319 : List CUT2 := []
theorem ch_1319 : staG tb_X12_factorial 1 bt_RX12 [] ct_2 [] [] cu_1319 38 con_1319 = true := by decide +kernel
theorem vl_1319 (l : Launch) : Vld2 l vwCl gTbl con_1319 := conR_ok3 gT_all (hd_1319) rfl pn_RX12 tk_X12_factorial bo_RX12 xo_RX12 (cto_2 l) ch_1319 cut_nil
/-- RookHustingModel factorial -/
noncomputable def con_1320 : Con2 := ((yX12_factorial, cX12_factorial, 3, (some .int)), (0, 0), ([(0, 3, 0)], [(0, 0)], [], []), [((0, 6, 0), [(0, 0), (0, 0)], [], [], [1])])
theorem hd_1320 : con_1320.1 = (yX12_factorial, cX12_factorial, 3, (some .int)) := rfl
noncomputable def cu_1320 : List CUT2 := []
theorem ch_1320 : staG tb_X12_factorial 1 bt_RX12 [] ct_2 [] [] cu_1320 29 con_1320 = true := by decide +kernel
theorem vl_1320 (l : Launch) : Vld2 l vwCl gTbl con_1320 := conR_ok3 gT_all (hd_1320) rfl pn_RX12 tk_X12_factorial bo_RX12 xo_RX12 (cto_2 l) ch_1320 cut_nil
/-- RookHustingModel factorial -/
noncomputable def con_1321 : Con2 := ((yX12_factorial, cX12_factorial, 3, (some .int)), (0, 0), ([(0, 2, 0)], [(0, 0)], [], []), [((0, 2, 0), [(0, 0), (0, 0)], [], [], [1])])
theorem hd_1321 : con_1321.1 = (yX12_factorial, cX12_factorial, 3, (some .int)) := rfl
noncomputable def cu_1321 : List CUT2 := []
theorem ch_1321 : staG tb_X12_factorial 1 bt_RX12 [] ct_2 [] [] cu_1321 20 con_1321 = true := by decide +kernel
theorem vl_1321 (l : Launch) : Vld2 l vwCl gTbl con_1321 := conR_ok3 gT_all (hd_1321) rfl pn_RX12 tk_X12_factorial bo_RX12 xo_RX12 (cto_2 l) ch_1321 cut_nil
/-- RookHustingModel factorial -/
noncomputable def con_1322 : Con2 := ((yX12_factorial, cX12_factorial, 3, (some .int)), (0, 0), ([(0, 1, 0)], [(0, 0)], [], []), [((0, 1, 0), [(0, 0), (0, 0)], [], [], [1])])
theorem hd_1322 : con_1322.1 = (yX12_factorial, cX12_factorial, 3, (some .int)) := rfl
noncomputable def cu_1322 : List CUT2 := []
theorem ch_1322 : staG tb_X12_factorial 1 bt_RX12 [] ct_2 [] [] cu_1322 11 con_1322 = true := by decide +kernel
theorem vl_1322 (l : Launch) : Vld2 l vwCl gTbl con_1322 := conR_ok3 gT_all (hd_1322) rfl pn_RX12 tk_X12_factorial bo_RX12 xo_RX12 (cto_2 l) ch_1322 cut_nil
/-- RookHustingModel bits -/
noncomputable def con_1323 : Con2 := ((yX12_bits, cX12_bits, 3, (some .int)), (0, 0), ([(1, 0, 0)], [(0, 127)], [], []), [((1, 1, 0), [(0, 127), (0, 7)], [], [], [1])])
theorem hd_1323 : con_1323.1 = (yX12_bits, cX12_bits, 3, (some .int)) := rfl
noncomputable def cu_1323 : List CUT2 := []
theorem ch_1323 : staG tb_X12_bits 1 bt_RX12 [] ct_2 [] [] cu_1323 219 con_1323 = true := by decide +kernel
theorem vl_1323 (l : Launch) : Vld2 l vwCl gTbl con_1323 := conR_ok3 gT_all (hd_1323) rfl pn_RX12 tk_X12_bits bo_RX12 xo_RX12 (cto_2 l) ch_1323 cut_nil
/-- RookHustingModel factorial -/
noncomputable def con_1324 : Con2 := ((yX12_factorial, cX12_factorial, 3, (some .int)), (0, 0), ([(1, 0, 0)], [((-100), 100)], [], []), [((1, 1, 0), [((-100), 100), ((-2147483648), 2147483647)], [], [], [1])])
theorem hd_1324 : con_1324.1 = (yX12_factorial, cX12_factorial, 3, (some .int)) := rfl
noncomputable def gi_683 : GI := jl_n [jl_m 99 100, gp_7, jl_i 2 101]
noncomputable def cu_1324 : List CUT2 := [((4, [lq 0 1 0, lq 1 1 2, lq 2 1 3], [], gi_683, []), [], ([(3, (-1))], 101))]
theorem ch_1324 : staG tb_X12_factorial 1 bt_RX12 [] ct_2 [] [] cu_1324 12 con_1324 = true := by decide +kernel
theorem cc_1324 : cu_1324.all (cutG tb_X12_factorial 1 bt_RX12 [] ct_2 [] [] cu_1324 12 con_1324) = true := by decide +kernel
theorem vl_1324 (l : Launch) : Vld2 l vwCl gTbl con_1324 := conR_ok3 gT_all (hd_1324) rfl pn_RX12 tk_X12_factorial bo_RX12 xo_RX12 (cto_2 l) ch_1324 (cut_all cc_1324)
/-- RookHustingModel divisor -/
noncomputable def con_1325 : Con2 := ((yX12_divisor, cX12_divisor, 10, (some .long)), (1, 13), ([(4, 0, 0), (3, 1, 0)], [((-9223372036854775808), 25600000000), (0, 0)], [], []), [((3, 1, 0), [((-9223372036854775808), 25600000000), (0, 0), (0, 0)], [], [], [1])])
theorem hd_1325 : con_1325.1 = (yX12_divisor, cX12_divisor, 10, (some .long)) := rfl
noncomputable def gi_684 : GI := jl_n [gp_333, gp_129]
noncomputable def gi_685 : GI := jl_n [jl_m 9223372036854775807 25600000000, jl_z 6]
noncomputable def cu_1325 : List CUT2 := [((9, [lq 0 4 0, lq 2 3 1, lq 4 4 4, lq 6 3 1], [], gi_684, []), [], ([], 1)), ((9, [lq 0 4 0, lq 2 3 1, lq 4 3 1, lq 6 3 0, lq 8 3 0], [], gi_685, []), [], ([], 0))]
theorem ch_1325 : staG tb_X12_divisor 1 bt_RX12 [] ct_2 [(16, [(2, (1, 4, 0), 0, 0)])] [20] cu_1325 15 con_1325 = true := by decide +kernel
theorem cc_1325 : cu_1325.all (cutG tb_X12_divisor 1 bt_RX12 [] ct_2 [(16, [(2, (1, 4, 0), 0, 0)])] [20] cu_1325 15 con_1325) = true := by decide +kernel
theorem vl_1325 (l : Launch) : Vld2 l vwCl gTbl con_1325 := conR_ok3 gT_all (hd_1325) rfl pn_RX12 tk_X12_divisor bo_RX12 xo_RX12 (cto_2 l) ch_1325 (cut_all cc_1325)
/-- RookHustingModel part -/
noncomputable def gi_686 : GI := jl_n [jl_m 9223372036854775807 25600000000, gp_208, jl_u]
noncomputable def con_1326 : Con2 := ((yX12_part, cX12_part, 5, (some .long)), (2, 42), ([(4, 0, 0), (3, 1, 0), (1, 2, 0)], [((-9223372036854775808), 25600000000), (0, 0), (0, 1)], [], []), [((4, 3, 0), gi_686, [], [], [4])])
theorem hd_1326 : con_1326.1 = (yX12_part, cX12_part, 5, (some .long)) := rfl
theorem ck_RX12_312_1325 : COK2 RX12 vwCl gTbl 312 1 con_1325 := ⟨wd_1810, wd_137, mh_X12_divisor, .inl ⟨rfl, wd_1808, wd_1809, pd_X12_divisor⟩⟩
noncomputable def ct_1326 : CTB2 := [(12, 312, 1, con_1325, [])]
noncomputable def cu_1326 : List CUT2 := []
theorem ch_1326 : staG tb_X12_part 1 bt_RX12 [] ct_1326 [] [] cu_1326 11 con_1326 = true := by decide +kernel
theorem cto_1326 (l : Launch) : CTOK2 l RX12 vwCl gTbl ct_1326 := ct2_cons (vl_1325 l) ck_RX12_312_1325 (ct2_nil)
theorem vl_1326 (l : Launch) : Vld2 l vwCl gTbl con_1326 := conR_ok3 gT_all (hd_1326) rfl pn_RX12 tk_X12_part bo_RX12 xo_RX12 (cto_1326 l) ch_1326 cut_nil
/-- RookHustingModel divisor -/
noncomputable def con_1327 : Con2 := ((yX12_divisor, cX12_divisor, 10, (some .long)), (1, 13), ([(4, 0, 0), (3, 2, 0)], [((-9223372036854775808), 25600000000), (0, 0)], [], []), [((3, (-1), 0), [((-9223372036854775808), 25600000000), (0, 0), (0, 0)], [], [], [1]), ((4, 2, 0), [((-9223372036854775808), 25600000000), (0, 0), (1, 2)], [], [], [4])])
theorem hd_1327 : con_1327.1 = (yX12_divisor, cX12_divisor, 10, (some .long)) := rfl
noncomputable def gi_687 : GI := jl_n [gp_333, jl_i 1 2, jl_r 2 (jl_i 0 1)]
noncomputable def gi_688 : GI := jl_n [jl_m 9223372036854775807 25600000000, jl_z 4, jl_r 2 (jl_m 0 0)]
noncomputable def cu_1327 : List CUT2 := [((9, [lq 0 4 0, lq 2 3 2, lq 4 4 4, lq 6 3 2], [], gi_684, []), [], ([], 2)), ((9, [lq 0 4 0, lq 2 3 2, lq 4 4 4, lq 6 4 5, lq 8 4 6], [], gi_687, []), [], ([(5, 1)], 0)), ((9, [lq 0 4 0, lq 2 3 2, lq 4 3 2, lq 6 4 5, lq 8 4 6], [], gi_688, []), [], ([(5, (-1))], 0)), ((9, [lq 0 4 0, lq 2 3 2, (4, (3, (-1), 0)), lq 6 3 0, lq 8 3 0], [], gi_685, []), [], ([], 0))]
theorem ch_1327 : staG tb_X12_divisor 1 bt_RX12 [] ct_2 [(16, [(2, (1, 4, 0), 0, 0)])] [20] cu_1327 15 con_1327 = true := by decide +kernel
theorem cc_1327 : cu_1327.all (cutG tb_X12_divisor 1 bt_RX12 [] ct_2 [(16, [(2, (1, 4, 0), 0, 0)])] [20] cu_1327 15 con_1327) = true := by decide +kernel
theorem vl_1327 (l : Launch) : Vld2 l vwCl gTbl con_1327 := conR_ok3 gT_all (hd_1327) rfl pn_RX12 tk_X12_divisor bo_RX12 xo_RX12 (cto_2 l) ch_1327 (cut_all cc_1327)
/-- RookHustingModel part -/
noncomputable def con_1328 : Con2 := ((yX12_part, cX12_part, 5, (some .long)), (2, 42), ([(4, 0, 0), (3, 2, 0), (1, 2, 0)], [((-9223372036854775808), 25600000000), (0, 0), (0, 1)], [], []), [((4, 3, 0), gi_686, [], [], [4])])
theorem hd_1328 : con_1328.1 = (yX12_part, cX12_part, 5, (some .long)) := rfl
theorem ck_RX12_312_1327 : COK2 RX12 vwCl gTbl 312 1 con_1327 := ⟨wd_1810, wd_137, mh_X12_divisor, .inl ⟨rfl, wd_1808, wd_1809, pd_X12_divisor⟩⟩
noncomputable def ct_1328 : CTB2 := [(12, 312, 1, con_1327, [])]
noncomputable def cu_1328 : List CUT2 := []
theorem ch_1328 : staG tb_X12_part 1 bt_RX12 [] ct_1328 [] [] cu_1328 11 con_1328 = true := by decide +kernel
theorem cto_1328 (l : Launch) : CTOK2 l RX12 vwCl gTbl ct_1328 := ct2_cons (vl_1327 l) ck_RX12_312_1327 (ct2_nil)
theorem vl_1328 (l : Launch) : Vld2 l vwCl gTbl con_1328 := conR_ok3 gT_all (hd_1328) rfl pn_RX12 tk_X12_part bo_RX12 xo_RX12 (cto_1328 l) ch_1328 cut_nil
/-- RookHustingModel divisor -/
noncomputable def gi_689 : GI := jl_n [gp_334, jl_k 4 0]
noncomputable def con_1329 : Con2 := ((yX12_divisor, cX12_divisor, 10, (some .long)), (1, 13), ([(4, 0, 0), (3, 6, 0)], [((-9223372036854775808), 25600000000), (0, 0)], [], []), [((4, 2, 0), gi_689, [], [], [4]), ((4, 2, 0), [((-9223372036854775808), 25600000000), (0, 0), (1, 6)], [], [], [4])])
theorem hd_1329 : con_1329.1 = (yX12_divisor, cX12_divisor, 10, (some .long)) := rfl
noncomputable def gi_690 : GI := jl_n [gp_333, jl_i 1 6, jl_r 2 (jl_i 0 5)]
noncomputable def gi_691 : GI := jl_n [gp_333, jl_i 1 6, jl_r 2 (jl_m 4 0)]
noncomputable def gi_692 : GI := jl_n [gp_333, jl_k 4 0, jl_r 2 (jl_i 0 4)]
noncomputable def cu_1329 : List CUT2 := [((9, [lq 0 4 0, lq 2 3 6, lq 4 4 4, lq 6 3 6], [], gi_684, []), [], ([], 6)), ((9, [lq 0 4 0, lq 2 3 6, lq 4 4 4, lq 6 4 5, lq 8 4 6], [], gi_690, []), [], ([(5, 1)], 0)), ((9, [lq 0 4 0, lq 2 3 6, lq 4 4 4, lq 6 4 5, lq 8 4 6], [], gi_691, []), [], ([(5, (-1))], 0)), ((9, [lq 0 4 0, lq 2 3 6, lq 4 4 4, lq 6 4 5, lq 8 4 6], [], gi_692, []), [], ([(5, 1)], 0))]
theorem ch_1329 : staG tb_X12_divisor 1 bt_RX12 [] ct_2 [(16, [(2, (1, 4, 0), 0, 0)])] [20] cu_1329 15 con_1329 = true := by decide +kernel
theorem cc_1329 : cu_1329.all (cutG tb_X12_divisor 1 bt_RX12 [] ct_2 [(16, [(2, (1, 4, 0), 0, 0)])] [20] cu_1329 15 con_1329) = true := by decide +kernel
theorem vl_1329 (l : Launch) : Vld2 l vwCl gTbl con_1329 := conR_ok3 gT_all (hd_1329) rfl pn_RX12 tk_X12_divisor bo_RX12 xo_RX12 (cto_2 l) ch_1329 (cut_all cc_1329)
/-- RookHustingModel part -/
noncomputable def con_1330 : Con2 := ((yX12_part, cX12_part, 5, (some .long)), (2, 42), ([(4, 0, 0), (3, 6, 0), (1, 2, 0)], [((-9223372036854775808), 25600000000), (0, 0), (0, 1)], [], []), [((4, 3, 0), gi_686, [], [], [4])])
theorem hd_1330 : con_1330.1 = (yX12_part, cX12_part, 5, (some .long)) := rfl
theorem ck_RX12_312_1329 : COK2 RX12 vwCl gTbl 312 1 con_1329 := ⟨wd_1810, wd_137, mh_X12_divisor, .inl ⟨rfl, wd_1808, wd_1809, pd_X12_divisor⟩⟩
noncomputable def ct_1330 : CTB2 := [(12, 312, 1, con_1329, [])]
noncomputable def cu_1330 : List CUT2 := []
theorem ch_1330 : staG tb_X12_part 1 bt_RX12 [] ct_1330 [] [] cu_1330 11 con_1330 = true := by decide +kernel
theorem cto_1330 (l : Launch) : CTOK2 l RX12 vwCl gTbl ct_1330 := ct2_cons (vl_1329 l) ck_RX12_312_1329 (ct2_nil)
theorem vl_1330 (l : Launch) : Vld2 l vwCl gTbl con_1330 := conR_ok3 gT_all (hd_1330) rfl pn_RX12 tk_X12_part bo_RX12 xo_RX12 (cto_1330 l) ch_1330 cut_nil
/-- RookHustingModel divisor -/
noncomputable def gi_693 : GI := jl_n [gp_334, jl_k 22 0]
noncomputable def con_1331 : Con2 := ((yX12_divisor, cX12_divisor, 10, (some .long)), (1, 13), ([(4, 0, 0), (3, 24, 0)], [((-9223372036854775808), 25600000000), (0, 0)], [], []), [((4, 2, 0), gi_693, [], [], [4]), ((4, 2, 0), [((-9223372036854775808), 25600000000), (0, 0), (1, 24)], [], [], [4])])
theorem hd_1331 : con_1331.1 = (yX12_divisor, cX12_divisor, 10, (some .long)) := rfl
noncomputable def gi_694 : GI := jl_n [gp_333, jl_i 1 24, jl_r 2 (jl_i 0 23)]
noncomputable def gi_695 : GI := jl_n [gp_333, jl_i 1 24, jl_r 2 (jl_m 22 0)]
noncomputable def gi_696 : GI := jl_n [gp_333, jl_k 22 0, jl_r 2 (jl_i 0 22)]
noncomputable def cu_1331 : List CUT2 := [((9, [lq 0 4 0, lq 2 3 24, lq 4 4 4, lq 6 3 24], [], gi_684, []), [], ([], 24)), ((9, [lq 0 4 0, lq 2 3 24, lq 4 4 4, lq 6 4 5, lq 8 4 6], [], gi_694, []), [], ([(5, 1)], 0)), ((9, [lq 0 4 0, lq 2 3 24, lq 4 4 4, lq 6 4 5, lq 8 4 6], [], gi_695, []), [], ([(5, (-1))], 0)), ((9, [lq 0 4 0, lq 2 3 24, lq 4 4 4, lq 6 4 5, lq 8 4 6], [], gi_696, []), [], ([(5, 1)], 0))]
theorem ch_1331 : staG tb_X12_divisor 1 bt_RX12 [] ct_2 [(16, [(2, (1, 4, 0), 0, 0)])] [20] cu_1331 15 con_1331 = true := by decide +kernel
theorem cc_1331 : cu_1331.all (cutG tb_X12_divisor 1 bt_RX12 [] ct_2 [(16, [(2, (1, 4, 0), 0, 0)])] [20] cu_1331 15 con_1331) = true := by decide +kernel
theorem vl_1331 (l : Launch) : Vld2 l vwCl gTbl con_1331 := conR_ok3 gT_all (hd_1331) rfl pn_RX12 tk_X12_divisor bo_RX12 xo_RX12 (cto_2 l) ch_1331 (cut_all cc_1331)
/-- RookHustingModel part -/
noncomputable def con_1332 : Con2 := ((yX12_part, cX12_part, 5, (some .long)), (2, 42), ([(4, 0, 0), (3, 24, 0), (1, 2, 0)], [((-9223372036854775808), 25600000000), (0, 0), (0, 1)], [], []), [((4, 3, 0), gi_686, [], [], [4])])
theorem hd_1332 : con_1332.1 = (yX12_part, cX12_part, 5, (some .long)) := rfl
theorem ck_RX12_312_1331 : COK2 RX12 vwCl gTbl 312 1 con_1331 := ⟨wd_1810, wd_137, mh_X12_divisor, .inl ⟨rfl, wd_1808, wd_1809, pd_X12_divisor⟩⟩
noncomputable def ct_1332 : CTB2 := [(12, 312, 1, con_1331, [])]
noncomputable def cu_1332 : List CUT2 := []
theorem ch_1332 : staG tb_X12_part 1 bt_RX12 [] ct_1332 [] [] cu_1332 11 con_1332 = true := by decide +kernel
theorem cto_1332 (l : Launch) : CTOK2 l RX12 vwCl gTbl ct_1332 := ct2_cons (vl_1331 l) ck_RX12_312_1331 (ct2_nil)
theorem vl_1332 (l : Launch) : Vld2 l vwCl gTbl con_1332 := conR_ok3 gT_all (hd_1332) rfl pn_RX12 tk_X12_part bo_RX12 xo_RX12 (cto_1332 l) ch_1332 cut_nil
/-- RookHustingModel divisor -/
noncomputable def gi_697 : GI := jl_n [gp_334, jl_k 118 0]
noncomputable def con_1333 : Con2 := ((yX12_divisor, cX12_divisor, 10, (some .long)), (1, 13), ([(4, 0, 0), (3, 120, 0)], [((-9223372036854775808), 25600000000), (0, 0)], [], []), [((4, 2, 0), gi_697, [], [], [4]), ((4, 2, 0), [((-9223372036854775808), 25600000000), (0, 0), (1, 120)], [], [], [4])])
theorem hd_1333 : con_1333.1 = (yX12_divisor, cX12_divisor, 10, (some .long)) := rfl
noncomputable def gi_698 : GI := jl_n [gp_333, jl_i 1 120, jl_r 2 (jl_i 0 119)]
noncomputable def gi_699 : GI := jl_n [gp_333, jl_i 1 120, jl_r 2 (jl_m 118 0)]
noncomputable def gi_700 : GI := jl_n [gp_333, jl_k 118 0, jl_r 2 (jl_i 0 118)]
noncomputable def cu_1333 : List CUT2 := [((9, [lq 0 4 0, lq 2 3 120, lq 4 4 4, lq 6 3 120], [], gi_684, []), [], ([], 120)), ((9, [lq 0 4 0, lq 2 3 120, lq 4 4 4, lq 6 4 5, lq 8 4 6], [], gi_698, []), [], ([(5, 1)], 0)), ((9, [lq 0 4 0, lq 2 3 120, lq 4 4 4, lq 6 4 5, lq 8 4 6], [], gi_699, []), [], ([(5, (-1))], 0)), ((9, [lq 0 4 0, lq 2 3 120, lq 4 4 4, lq 6 4 5, lq 8 4 6], [], gi_700, []), [], ([(5, 1)], 0))]
theorem ch_1333 : staG tb_X12_divisor 1 bt_RX12 [] ct_2 [(16, [(2, (1, 4, 0), 0, 0)])] [20] cu_1333 15 con_1333 = true := by decide +kernel
theorem cc_1333 : cu_1333.all (cutG tb_X12_divisor 1 bt_RX12 [] ct_2 [(16, [(2, (1, 4, 0), 0, 0)])] [20] cu_1333 15 con_1333) = true := by decide +kernel
theorem vl_1333 (l : Launch) : Vld2 l vwCl gTbl con_1333 := conR_ok3 gT_all (hd_1333) rfl pn_RX12 tk_X12_divisor bo_RX12 xo_RX12 (cto_2 l) ch_1333 (cut_all cc_1333)
/-- RookHustingModel part -/
noncomputable def con_1334 : Con2 := ((yX12_part, cX12_part, 5, (some .long)), (2, 42), ([(4, 0, 0), (3, 120, 0), (1, 2, 0)], [((-9223372036854775808), 25600000000), (0, 0), (0, 1)], [], []), [((4, 3, 0), gi_686, [], [], [4])])
theorem hd_1334 : con_1334.1 = (yX12_part, cX12_part, 5, (some .long)) := rfl
theorem ck_RX12_312_1333 : COK2 RX12 vwCl gTbl 312 1 con_1333 := ⟨wd_1810, wd_137, mh_X12_divisor, .inl ⟨rfl, wd_1808, wd_1809, pd_X12_divisor⟩⟩
noncomputable def ct_1334 : CTB2 := [(12, 312, 1, con_1333, [])]
noncomputable def cu_1334 : List CUT2 := []
theorem ch_1334 : staG tb_X12_part 1 bt_RX12 [] ct_1334 [] [] cu_1334 11 con_1334 = true := by decide +kernel
theorem cto_1334 (l : Launch) : CTOK2 l RX12 vwCl gTbl ct_1334 := ct2_cons (vl_1333 l) ck_RX12_312_1333 (ct2_nil)
theorem vl_1334 (l : Launch) : Vld2 l vwCl gTbl con_1334 := conR_ok3 gT_all (hd_1334) rfl pn_RX12 tk_X12_part bo_RX12 xo_RX12 (cto_1334 l) ch_1334 cut_nil
/-- RookHustingModel divisor -/
noncomputable def gi_701 : GI := jl_n [gp_334, jl_k 718 0]
noncomputable def con_1335 : Con2 := ((yX12_divisor, cX12_divisor, 10, (some .long)), (1, 13), ([(4, 0, 0), (3, 720, 0)], [((-9223372036854775808), 25600000000), (0, 0)], [], []), [((4, 2, 0), gi_701, [], [], [4]), ((4, 2, 0), [((-9223372036854775808), 25600000000), (0, 0), (1, 720)], [], [], [4])])
theorem hd_1335 : con_1335.1 = (yX12_divisor, cX12_divisor, 10, (some .long)) := rfl
noncomputable def gi_702 : GI := jl_n [gp_333, jl_i 1 720, jl_r 2 (jl_i 0 719)]
noncomputable def gi_703 : GI := jl_n [gp_333, jl_i 1 720, jl_r 2 (jl_m 718 0)]
noncomputable def gi_704 : GI := jl_n [gp_333, jl_k 718 0, jl_r 2 (jl_i 0 718)]
noncomputable def cu_1335 : List CUT2 := [((9, [lq 0 4 0, lq 2 3 720, lq 4 4 4, lq 6 3 720], [], gi_684, []), [], ([], 720)), ((9, [lq 0 4 0, lq 2 3 720, lq 4 4 4, lq 6 4 5, lq 8 4 6], [], gi_702, []), [], ([(5, 1)], 0)), ((9, [lq 0 4 0, lq 2 3 720, lq 4 4 4, lq 6 4 5, lq 8 4 6], [], gi_703, []), [], ([(5, (-1))], 0)), ((9, [lq 0 4 0, lq 2 3 720, lq 4 4 4, lq 6 4 5, lq 8 4 6], [], gi_704, []), [], ([(5, 1)], 0))]
theorem ch_1335 : staG tb_X12_divisor 1 bt_RX12 [] ct_2 [(16, [(2, (1, 4, 0), 0, 0)])] [20] cu_1335 15 con_1335 = true := by decide +kernel
theorem cc_1335 : cu_1335.all (cutG tb_X12_divisor 1 bt_RX12 [] ct_2 [(16, [(2, (1, 4, 0), 0, 0)])] [20] cu_1335 15 con_1335) = true := by decide +kernel
theorem vl_1335 (l : Launch) : Vld2 l vwCl gTbl con_1335 := conR_ok3 gT_all (hd_1335) rfl pn_RX12 tk_X12_divisor bo_RX12 xo_RX12 (cto_2 l) ch_1335 (cut_all cc_1335)
/-- RookHustingModel part -/
noncomputable def con_1336 : Con2 := ((yX12_part, cX12_part, 5, (some .long)), (2, 42), ([(4, 0, 0), (3, 720, 0), (1, 2, 0)], [((-9223372036854775808), 25600000000), (0, 0), (0, 1)], [], []), [((4, 3, 0), gi_686, [], [], [4])])
theorem hd_1336 : con_1336.1 = (yX12_part, cX12_part, 5, (some .long)) := rfl
theorem ck_RX12_312_1335 : COK2 RX12 vwCl gTbl 312 1 con_1335 := ⟨wd_1810, wd_137, mh_X12_divisor, .inl ⟨rfl, wd_1808, wd_1809, pd_X12_divisor⟩⟩
noncomputable def ct_1336 : CTB2 := [(12, 312, 1, con_1335, [])]
noncomputable def cu_1336 : List CUT2 := []
theorem ch_1336 : staG tb_X12_part 1 bt_RX12 [] ct_1336 [] [] cu_1336 11 con_1336 = true := by decide +kernel
theorem cto_1336 (l : Launch) : CTOK2 l RX12 vwCl gTbl ct_1336 := ct2_cons (vl_1335 l) ck_RX12_312_1335 (ct2_nil)
theorem vl_1336 (l : Launch) : Vld2 l vwCl gTbl con_1336 := conR_ok3 gT_all (hd_1336) rfl pn_RX12 tk_X12_part bo_RX12 xo_RX12 (cto_1336 l) ch_1336 cut_nil
/-- RookHustingModel factorial -/
noncomputable def con_1337 : Con2 := ((yX12_factorial, cX12_factorial, 3, (some .int)), (0, 0), ([(0, 7, 0)], [(0, 0)], [], []), [((0, 5040, 0), [(0, 0), (0, 0)], [], [], [1])])
theorem hd_1337 : con_1337.1 = (yX12_factorial, cX12_factorial, 3, (some .int)) := rfl
noncomputable def cu_1337 : List CUT2 := []
theorem ch_1337 : staG tb_X12_factorial 1 bt_RX12 [] ct_2 [] [] cu_1337 65 con_1337 = true := by decide +kernel
theorem vl_1337 (l : Launch) : Vld2 l vwCl gTbl con_1337 := conR_ok3 gT_all (hd_1337) rfl pn_RX12 tk_X12_factorial bo_RX12 xo_RX12 (cto_2 l) ch_1337 cut_nil
/-- RookHustingModel divisor -/
noncomputable def gi_705 : GI := jl_n [gp_334, jl_k 5038 0]
noncomputable def con_1338 : Con2 := ((yX12_divisor, cX12_divisor, 10, (some .long)), (1, 13), ([(4, 0, 0), (3, 5040, 0)], [((-9223372036854775808), 25600000000), (0, 0)], [], []), [((4, 2, 0), gi_705, [], [], [4]), ((4, 2, 0), [((-9223372036854775808), 25600000000), (0, 0), (1, 5040)], [], [], [4])])
theorem hd_1338 : con_1338.1 = (yX12_divisor, cX12_divisor, 10, (some .long)) := rfl
noncomputable def gi_706 : GI := jl_n [gp_333, jl_i 1 5040, jl_r 2 (jl_i 0 5039)]
noncomputable def gi_707 : GI := jl_n [gp_333, jl_i 1 5040, jl_r 2 (jl_m 5038 0)]
noncomputable def gi_708 : GI := jl_n [gp_333, jl_k 5038 0, jl_r 2 (jl_i 0 5038)]
noncomputable def cu_1338 : List CUT2 := [((9, [lq 0 4 0, lq 2 3 5040, lq 4 4 4, lq 6 3 5040], [], gi_684, []), [], ([], 5040)), ((9, [lq 0 4 0, lq 2 3 5040, lq 4 4 4, lq 6 4 5, lq 8 4 6], [], gi_706, []), [], ([(5, 1)], 0)), ((9, [lq 0 4 0, lq 2 3 5040, lq 4 4 4, lq 6 4 5, lq 8 4 6], [], gi_707, []), [], ([(5, (-1))], 0)), ((9, [lq 0 4 0, lq 2 3 5040, lq 4 4 4, lq 6 4 5, lq 8 4 6], [], gi_708, []), [], ([(5, 1)], 0))]
theorem ch_1338 : staG tb_X12_divisor 1 bt_RX12 [] ct_2 [(16, [(2, (1, 4, 0), 0, 0)])] [20] cu_1338 15 con_1338 = true := by decide +kernel
theorem cc_1338 : cu_1338.all (cutG tb_X12_divisor 1 bt_RX12 [] ct_2 [(16, [(2, (1, 4, 0), 0, 0)])] [20] cu_1338 15 con_1338) = true := by decide +kernel
theorem vl_1338 (l : Launch) : Vld2 l vwCl gTbl con_1338 := conR_ok3 gT_all (hd_1338) rfl pn_RX12 tk_X12_divisor bo_RX12 xo_RX12 (cto_2 l) ch_1338 (cut_all cc_1338)
/-- RookHustingModel part -/
noncomputable def con_1339 : Con2 := ((yX12_part, cX12_part, 5, (some .long)), (2, 42), ([(4, 0, 0), (3, 5040, 0), (1, 2, 0)], [((-9223372036854775808), 25600000000), (0, 0), (0, 1)], [], []), [((4, 3, 0), gi_686, [], [], [4])])
theorem hd_1339 : con_1339.1 = (yX12_part, cX12_part, 5, (some .long)) := rfl
theorem ck_RX12_312_1338 : COK2 RX12 vwCl gTbl 312 1 con_1338 := ⟨wd_1810, wd_137, mh_X12_divisor, .inl ⟨rfl, wd_1808, wd_1809, pd_X12_divisor⟩⟩
noncomputable def ct_1339 : CTB2 := [(12, 312, 1, con_1338, [])]
noncomputable def cu_1339 : List CUT2 := []
theorem ch_1339 : staG tb_X12_part 1 bt_RX12 [] ct_1339 [] [] cu_1339 11 con_1339 = true := by decide +kernel
theorem cto_1339 (l : Launch) : CTOK2 l RX12 vwCl gTbl ct_1339 := ct2_cons (vl_1338 l) ck_RX12_312_1338 (ct2_nil)
theorem vl_1339 (l : Launch) : Vld2 l vwCl gTbl con_1339 := conR_ok3 gT_all (hd_1339) rfl pn_RX12 tk_X12_part bo_RX12 xo_RX12 (cto_1339 l) ch_1339 cut_nil
