/-! ===== contracts, 24 ===== -/
/-- RookHustingModel doesGain -/
noncomputable def con_1006 : Con2 := ((yX12_doesGain, cX12_doesGain, 9, (some .boolean)), (5, 121), ([(6, 0, 0), (1, 1, 0), (1, 2, 0), (1, 3, 0), (0, 4, 0)], gi_588, hc_127, []), [((0, 0, 0), gi_589, hq_533, [], [1]), ((0, 1, 0), gi_589, hq_533, [], [1])])
theorem hd_1006 : con_1006.1 = (yX12_doesGain, cX12_doesGain, 9, (some .boolean)) := rfl
noncomputable def ct_1006 : CTB2 := [(19, 95, 0, con_786, [0, 1]), (29, 199, 1, con_390, []), (63, 95, 0, con_786, [0, 1]), (85, 269, 0, con_787, [0, 1]), (94, 277, 0, con_801, [0, 1, 3, 2]), (110, 283, 0, con_912, [0, 1])]
noncomputable def cu_1006 : List CUT2 := []
theorem ch_1006 : staG tb_X12_doesGain 1 bt_RX12 [] ct_1006 [] [] cu_1006 177 con_1006 = true := by decide +kernel
theorem cto_1006 (l : Launch) : CTOK2 l RX12 vwCl gTbl ct_1006 := ct2_cons (vl_786 l) ck_RX12_95_786 (ct2_cons (vl_390 l) ck_RX12_199_390 (ct2_cons (vl_786 l) ck_RX12_95_786 (ct2_cons (vl_787 l) ck_RX12_269_787 (ct2_cons (vl_801 l) ck_RX12_277_801 (ct2_cons (vl_912 l) ck_RX12_283_912 (ct2_nil))))))
theorem vl_1006 (l : Launch) : Vld2 l vwCl gTbl con_1006 := conR_ok3 gT_all (hd_1006) rfl pn_RX12 tk_X12_doesGain bo_RX12 xo_RX12 (cto_1006 l) ch_1006 cut_nil
/-- RookHustingModel doesGain -/
noncomputable def con_1007 : Con2 := ((yX12_doesGain, cX12_doesGain, 9, (some .boolean)), (5, 121), ([(6, 0, 0), (1, 1, 0), (1, 2, 0), (1, 3, 0), (0, 4, 0)], gi_588, hc_126, []), [((0, 0, 0), gi_589, hq_532, [], [1]), ((0, 1, 0), gi_589, hq_532, [], [1])])
theorem hd_1007 : con_1007.1 = (yX12_doesGain, cX12_doesGain, 9, (some .boolean)) := rfl
noncomputable def ct_1007 : CTB2 := [(19, 95, 0, con_691, [0, 1]), (29, 199, 1, con_390, []), (63, 95, 0, con_691, [0, 1]), (85, 269, 0, con_692, [0, 1]), (94, 277, 0, con_753, [0, 1, 3, 2]), (110, 283, 0, con_912, [0, 1])]
noncomputable def cu_1007 : List CUT2 := []
theorem ch_1007 : staG tb_X12_doesGain 1 bt_RX12 [] ct_1007 [] [] cu_1007 177 con_1007 = true := by decide +kernel
theorem cto_1007 (l : Launch) : CTOK2 l RX12 vwCl gTbl ct_1007 := ct2_cons (vl_691 l) ck_RX12_95_691 (ct2_cons (vl_390 l) ck_RX12_199_390 (ct2_cons (vl_691 l) ck_RX12_95_691 (ct2_cons (vl_692 l) ck_RX12_269_692 (ct2_cons (vl_753 l) ck_RX12_277_753 (ct2_cons (vl_912 l) ck_RX12_283_912 (ct2_nil))))))
theorem vl_1007 (l : Launch) : Vld2 l vwCl gTbl con_1007 := conR_ok3 gT_all (hd_1007) rfl pn_RX12 tk_X12_doesGain bo_RX12 xo_RX12 (cto_1007 l) ch_1007 cut_nil
/-- RookHustingModel doesGain -/
noncomputable def con_1008 : Con2 := ((yX12_doesGain, cX12_doesGain, 9, (some .boolean)), (5, 121), ([(6, 0, 0), (1, 1, 0), (1, 2, 0), (1, 3, 0), (0, 5, 0)], gi_588, hc_126, []), [((0, 0, 0), gi_589, hq_532, [], [1]), ((0, 1, 0), gi_589, hq_532, [], [1])])
theorem hd_1008 : con_1008.1 = (yX12_doesGain, cX12_doesGain, 9, (some .boolean)) := rfl
noncomputable def ct_1008 : CTB2 := [(19, 95, 0, con_691, [0, 1]), (29, 199, 1, con_390, []), (63, 95, 0, con_691, [0, 1]), (85, 269, 0, con_692, [0, 1]), (94, 277, 0, con_753, [0, 1, 3, 2]), (110, 283, 0, con_912, [0, 1])]
noncomputable def cu_1008 : List CUT2 := []
theorem ch_1008 : staG tb_X12_doesGain 1 bt_RX12 [] ct_1008 [] [] cu_1008 212 con_1008 = true := by decide +kernel
theorem cto_1008 (l : Launch) : CTOK2 l RX12 vwCl gTbl ct_1008 := ct2_cons (vl_691 l) ck_RX12_95_691 (ct2_cons (vl_390 l) ck_RX12_199_390 (ct2_cons (vl_691 l) ck_RX12_95_691 (ct2_cons (vl_692 l) ck_RX12_269_692 (ct2_cons (vl_753 l) ck_RX12_277_753 (ct2_cons (vl_912 l) ck_RX12_283_912 (ct2_nil))))))
theorem vl_1008 (l : Launch) : Vld2 l vwCl gTbl con_1008 := conR_ok3 gT_all (hd_1008) rfl pn_RX12 tk_X12_doesGain bo_RX12 xo_RX12 (cto_1008 l) ch_1008 cut_nil
/-- RookHustingModel gainsOf -/
noncomputable def gi_590 : GI := jl_n [jl_z 1, jl_i 0 6, jl_z 17, jl_i 0 128, jl_z 27, jl_i 0 16, jl_i 0 3, jl_i 0 10, jl_i 0 5, jl_i 0 8, jl_i 0 5, jl_i 0 7, jl_i 0 30, jl_i 0 2147483647, jl_z 14]
noncomputable def gi_591 : GI := jl_n [jl_z 1, jl_i 0 6, jl_z 17, jl_i 0 128, jl_z 27, jl_i 0 16, jl_i 0 3, jl_i 0 10, jl_i 0 5, jl_i 0 8, jl_i 0 5, jl_i 0 7, jl_i 0 30, jl_i 0 2147483647, jl_z 60]
noncomputable def ac_562 : AC := .inl (12, jl_n [jl_8 3 1, jl_6 2 1, jl_8 17 13, jl_6 4 1, jl_6 3 1, jl_c 0, jl_8 47 27])
noncomputable def hq_537 : HP := [(true, ac_562), (false, ac_438), (true, .inr (1, [(7, (2, 0, 5))])), (true, .inr (1, [(35, (2, 0, 4))]))]
noncomputable def con_1009 : Con2 := ((yX12_gainsOf, cX12_gainsOf, 6, (some .boolean)), (6, 149), ([(6, 0, 0), (1, 1, 0)], gi_590, hc_118, []), [((0, 0, 0), gi_591, hq_537, [], [1, 1, 1, 1, 1, 1, 1, 1, 1, 1, 1, 1, 1, 1, 1, 1, 1, 1, 1, 1, 1, 1, 1, 1, 1, 1, 1, 1, 1, 1, 1, 1, 1, 1, 1, 1, 1, 1, 1, 1, 1, 1, 1, 1, 1, 1]), ((0, 1, 0), gi_591, hq_537, [], [1, 1, 1, 1, 1, 1, 1, 1, 1, 1, 1, 1, 1, 1, 1, 1, 1, 1, 1, 1, 1, 1, 1, 1, 1, 1, 1, 1, 1, 1, 1, 1, 1, 1, 1, 1, 1, 1, 1, 1, 1, 1, 1, 1, 1, 1])])
theorem hd_1009 : con_1009.1 = (yX12_gainsOf, cX12_gainsOf, 6, (some .boolean)) := rfl
theorem ck_RX12_301_1008 : COK2 RX12 vwCl gTbl 301 0 con_1008 := ⟨wd_1793, wd_137, mh_X12_doesGain, .inr (.inr ⟨rfl, wd_1790, wd_1792, wd_88, ⟨_, rfl, pd_X12_doesGain⟩, 12, _, TX12, 45, rfl, rfl⟩)⟩
theorem ck_RX12_301_1007 : COK2 RX12 vwCl gTbl 301 0 con_1007 := ⟨wd_1793, wd_137, mh_X12_doesGain, .inr (.inr ⟨rfl, wd_1790, wd_1792, wd_88, ⟨_, rfl, pd_X12_doesGain⟩, 12, _, TX12, 45, rfl, rfl⟩)⟩
theorem ck_RX12_301_1006 : COK2 RX12 vwCl gTbl 301 0 con_1006 := ⟨wd_1793, wd_137, mh_X12_doesGain, .inr (.inr ⟨rfl, wd_1790, wd_1792, wd_88, ⟨_, rfl, pd_X12_doesGain⟩, 12, _, TX12, 45, rfl, rfl⟩)⟩
theorem ck_RX12_301_1005 : COK2 RX12 vwCl gTbl 301 0 con_1005 := ⟨wd_1793, wd_137, mh_X12_doesGain, .inr (.inr ⟨rfl, wd_1790, wd_1792, wd_88, ⟨_, rfl, pd_X12_doesGain⟩, 12, _, TX12, 45, rfl, rfl⟩)⟩
theorem ck_RX12_301_1004 : COK2 RX12 vwCl gTbl 301 0 con_1004 := ⟨wd_1793, wd_137, mh_X12_doesGain, .inr (.inr ⟨rfl, wd_1790, wd_1792, wd_88, ⟨_, rfl, pd_X12_doesGain⟩, 12, _, TX12, 45, rfl, rfl⟩)⟩
theorem ck_RX12_301_1003 : COK2 RX12 vwCl gTbl 301 0 con_1003 := ⟨wd_1793, wd_137, mh_X12_doesGain, .inr (.inr ⟨rfl, wd_1790, wd_1792, wd_88, ⟨_, rfl, pd_X12_doesGain⟩, 12, _, TX12, 45, rfl, rfl⟩)⟩
theorem ck_RX12_301_1002 : COK2 RX12 vwCl gTbl 301 0 con_1002 := ⟨wd_1793, wd_137, mh_X12_doesGain, .inr (.inr ⟨rfl, wd_1790, wd_1792, wd_88, ⟨_, rfl, pd_X12_doesGain⟩, 12, _, TX12, 45, rfl, rfl⟩)⟩
theorem ck_RX12_301_1001 : COK2 RX12 vwCl gTbl 301 0 con_1001 := ⟨wd_1793, wd_137, mh_X12_doesGain, .inr (.inr ⟨rfl, wd_1790, wd_1792, wd_88, ⟨_, rfl, pd_X12_doesGain⟩, 12, _, TX12, 45, rfl, rfl⟩)⟩
theorem ck_RX12_301_1000 : COK2 RX12 vwCl gTbl 301 0 con_1000 := ⟨wd_1793, wd_137, mh_X12_doesGain, .inr (.inr ⟨rfl, wd_1790, wd_1792, wd_88, ⟨_, rfl, pd_X12_doesGain⟩, 12, _, TX12, 45, rfl, rfl⟩)⟩
theorem ck_RX12_301_999 : COK2 RX12 vwCl gTbl 301 0 con_999 := ⟨wd_1793, wd_137, mh_X12_doesGain, .inr (.inr ⟨rfl, wd_1790, wd_1792, wd_88, ⟨_, rfl, pd_X12_doesGain⟩, 12, _, TX12, 45, rfl, rfl⟩)⟩
theorem ck_RX12_301_998 : COK2 RX12 vwCl gTbl 301 0 con_998 := ⟨wd_1793, wd_137, mh_X12_doesGain, .inr (.inr ⟨rfl, wd_1790, wd_1792, wd_88, ⟨_, rfl, pd_X12_doesGain⟩, 12, _, TX12, 45, rfl, rfl⟩)⟩
theorem ck_RX12_301_997 : COK2 RX12 vwCl gTbl 301 0 con_997 := ⟨wd_1793, wd_137, mh_X12_doesGain, .inr (.inr ⟨rfl, wd_1790, wd_1792, wd_88, ⟨_, rfl, pd_X12_doesGain⟩, 12, _, TX12, 45, rfl, rfl⟩)⟩
theorem ck_RX12_301_996 : COK2 RX12 vwCl gTbl 301 0 con_996 := ⟨wd_1793, wd_137, mh_X12_doesGain, .inr (.inr ⟨rfl, wd_1790, wd_1792, wd_88, ⟨_, rfl, pd_X12_doesGain⟩, 12, _, TX12, 45, rfl, rfl⟩)⟩
theorem ck_RX12_301_995 : COK2 RX12 vwCl gTbl 301 0 con_995 := ⟨wd_1793, wd_137, mh_X12_doesGain, .inr (.inr ⟨rfl, wd_1790, wd_1792, wd_88, ⟨_, rfl, pd_X12_doesGain⟩, 12, _, TX12, 45, rfl, rfl⟩)⟩
theorem ck_RX12_301_994 : COK2 RX12 vwCl gTbl 301 0 con_994 := ⟨wd_1793, wd_137, mh_X12_doesGain, .inr (.inr ⟨rfl, wd_1790, wd_1792, wd_88, ⟨_, rfl, pd_X12_doesGain⟩, 12, _, TX12, 45, rfl, rfl⟩)⟩
theorem ck_RX12_301_993 : COK2 RX12 vwCl gTbl 301 0 con_993 := ⟨wd_1793, wd_137, mh_X12_doesGain, .inr (.inr ⟨rfl, wd_1790, wd_1792, wd_88, ⟨_, rfl, pd_X12_doesGain⟩, 12, _, TX12, 45, rfl, rfl⟩)⟩
theorem ck_RX12_301_992 : COK2 RX12 vwCl gTbl 301 0 con_992 := ⟨wd_1793, wd_137, mh_X12_doesGain, .inr (.inr ⟨rfl, wd_1790, wd_1792, wd_88, ⟨_, rfl, pd_X12_doesGain⟩, 12, _, TX12, 45, rfl, rfl⟩)⟩
theorem ck_RX12_301_991 : COK2 RX12 vwCl gTbl 301 0 con_991 := ⟨wd_1793, wd_137, mh_X12_doesGain, .inr (.inr ⟨rfl, wd_1790, wd_1792, wd_88, ⟨_, rfl, pd_X12_doesGain⟩, 12, _, TX12, 45, rfl, rfl⟩)⟩
theorem ck_RX12_301_990 : COK2 RX12 vwCl gTbl 301 0 con_990 := ⟨wd_1793, wd_137, mh_X12_doesGain, .inr (.inr ⟨rfl, wd_1790, wd_1792, wd_88, ⟨_, rfl, pd_X12_doesGain⟩, 12, _, TX12, 45, rfl, rfl⟩)⟩
theorem ck_RX12_301_989 : COK2 RX12 vwCl gTbl 301 0 con_989 := ⟨wd_1793, wd_137, mh_X12_doesGain, .inr (.inr ⟨rfl, wd_1790, wd_1792, wd_88, ⟨_, rfl, pd_X12_doesGain⟩, 12, _, TX12, 45, rfl, rfl⟩)⟩
theorem ck_RX12_301_988 : COK2 RX12 vwCl gTbl 301 0 con_988 := ⟨wd_1793, wd_137, mh_X12_doesGain, .inr (.inr ⟨rfl, wd_1790, wd_1792, wd_88, ⟨_, rfl, pd_X12_doesGain⟩, 12, _, TX12, 45, rfl, rfl⟩)⟩
noncomputable def ct_1009 : CTB2 := [(1, 249, 0, con_665, [0, 1, 2, 3]), (6, 269, 0, con_692, [0, 1]), (6, 269, 0, con_787, [0, 1]), (6, 269, 0, con_818, [0, 1]), (6, 269, 0, con_834, [0, 1]), (6, 269, 0, con_842, [0, 1]), (6, 269, 0, con_847, [0, 1]), (15, 277, 0, con_753, [0, 1, 2, 3]), (15, 277, 0, con_801, [0, 1, 2, 3]), (15, 277, 0, con_825, [0, 1, 2, 3]), (15, 277, 0, con_837, [0, 1, 2, 3]), (15, 277, 0, con_844, [0, 1, 2, 3]), (15, 277, 0, con_850, [0, 1, 2, 3]), (34, 95, 0, con_691, [0, 1]), (34, 95, 0, con_786, [0, 1]), (34, 95, 0, con_817, [0, 1]), (34, 95, 0, con_833, [0, 1]), (34, 95, 0, con_841, [0, 1]), (34, 95, 0, con_846, [0, 1]), (56, 301, 0, con_988, [0, 1, 3, 2]), (56, 301, 0, con_989, [0, 1, 3, 2]), (56, 301, 0, con_990, [0, 1, 3, 2]), (56, 301, 0, con_991, [0, 1, 3, 2]), (56, 301, 0, con_992, [0, 1, 3, 2]), (56, 301, 0, con_993, [0, 1, 3, 2]), (56, 301, 0, con_994, [0, 1, 3, 2]), (56, 301, 0, con_995, [0, 1, 3, 2]), (56, 301, 0, con_996, [0, 1, 3, 2]), (56, 301, 0, con_997, [0, 1, 3, 2]), (56, 301, 0, con_998, [0, 1, 3, 2]), (56, 301, 0, con_999, [0, 1, 3, 2]), (56, 301, 0, con_1000, [0, 1, 3, 2]), (56, 301, 0, con_1001, [0, 1, 3, 2]), (56, 301, 0, con_1002, [0, 1, 3, 2]), (56, 301, 0, con_1003, [0, 1, 3, 2]), (56, 301, 0, con_1004, [0, 1, 3, 2]), (56, 301, 0, con_1005, [0, 1, 3, 2]), (56, 301, 0, con_1006, [0, 1, 3, 2]), (56, 301, 0, con_1007, [0, 1, 3, 2]), (56, 301, 0, con_1008, [0, 1, 3, 2]), (72, 95, 0, con_691, [0, 1]), (72, 95, 0, con_786, [0, 1]), (72, 95, 0, con_817, [0, 1]), (72, 95, 0, con_833, [0, 1]), (72, 95, 0, con_841, [0, 1]), (72, 95, 0, con_846, [0, 1])]
noncomputable def gi_592 : GI := jl_n [jl_z 1, jl_i 0 6, jl_z 17, jl_i 0 128, jl_z 27, jl_i 0 16, jl_i 0 3, jl_i 0 10, jl_i 0 5, jl_i 0 8, jl_i 5 5, jl_i 0 7, jl_i 0 30, jl_i 0 2147483647, jl_z 16, jl_i 0 4, jl_z 47]
noncomputable def gi_593 : GI := jl_n [jl_z 1, jl_i 0 6, jl_z 17, jl_i 0 128, jl_z 27, jl_i 0 16, jl_i 0 3, jl_i 0 10, jl_i 0 5, jl_i 0 8, jl_i 4 4, jl_i 0 7, jl_i 0 30, jl_i 0 2147483647, jl_z 16, jl_i 0 4, jl_z 47]
noncomputable def gi_594 : GI := jl_n [jl_z 1, jl_i 0 6, jl_z 17, jl_i 0 128, jl_z 27, jl_i 0 16, jl_i 0 3, jl_i 0 10, jl_i 0 5, jl_i 0 8, jl_i 3 3, jl_i 0 7, jl_i 0 30, jl_i 0 2147483647, jl_z 16, jl_i 0 4, jl_z 47]
noncomputable def gi_595 : GI := jl_n [jl_z 1, jl_i 0 6, jl_z 17, jl_i 0 128, jl_z 27, jl_i 0 16, jl_i 0 3, jl_i 0 10, jl_i 0 5, jl_i 0 8, jl_i 2 2, jl_i 0 7, jl_i 0 30, jl_i 0 2147483647, jl_z 16, jl_i 0 4, jl_z 47]
noncomputable def gi_596 : GI := jl_n [jl_z 1, jl_i 0 6, jl_z 17, jl_i 0 128, jl_z 27, jl_i 0 16, jl_i 0 3, jl_i 0 10, jl_i 0 5, jl_i 0 8, jl_i 1 1, jl_i 0 7, jl_i 0 30, jl_i 0 2147483647, jl_z 16, jl_i 0 4, jl_z 47]
noncomputable def gi_597 : GI := jl_n [jl_z 1, jl_i 0 6, jl_z 17, jl_i 0 128, jl_z 27, jl_i 0 16, jl_i 0 3, jl_i 0 10, jl_i 0 5, jl_i 0 8, jl_z 1, jl_i 0 7, jl_i 0 30, jl_i 0 2147483647, jl_z 16, jl_i 0 4, jl_z 47]
noncomputable def gi_598 : GI := jl_n [jl_z 1, jl_i 0 6, jl_z 17, jl_i 0 128, jl_z 27, jl_i 0 16, jl_i 0 3, jl_i 0 10, jl_i 0 5, jl_i 0 8, jl_i 5 5, jl_i 0 7, jl_i 0 30, jl_i 0 2147483647, jl_z 16, jl_i 0 4, jl_z 2, jl_i 0 1, jl_z 45]
noncomputable def gi_599 : GI := jl_n [jl_z 1, jl_i 0 6, jl_z 17, jl_i 0 128, jl_z 27, jl_i 0 16, jl_i 0 3, jl_i 0 10, jl_i 0 5, jl_i 0 8, jl_i 4 4, jl_i 0 7, jl_i 0 30, jl_i 0 2147483647, jl_z 16, jl_i 0 4, jl_z 2, jl_i 0 1, jl_z 45]
noncomputable def gi_600 : GI := jl_n [jl_z 1, jl_i 0 6, jl_z 17, jl_i 0 128, jl_z 27, jl_i 0 16, jl_i 0 3, jl_i 0 10, jl_i 0 5, jl_i 0 8, jl_i 3 3, jl_i 0 7, jl_i 0 30, jl_i 0 2147483647, jl_z 16, jl_i 0 4, jl_z 2, jl_i 0 1, jl_z 45]
noncomputable def gi_601 : GI := jl_n [jl_z 1, jl_i 0 6, jl_z 17, jl_i 0 128, jl_z 27, jl_i 0 16, jl_i 0 3, jl_i 0 10, jl_i 0 5, jl_i 0 8, jl_i 2 2, jl_i 0 7, jl_i 0 30, jl_i 0 2147483647, jl_z 16, jl_i 0 4, jl_z 2, jl_i 0 1, jl_z 45]
noncomputable def gi_602 : GI := jl_n [jl_z 1, jl_i 0 6, jl_z 17, jl_i 0 128, jl_z 27, jl_i 0 16, jl_i 0 3, jl_i 0 10, jl_i 0 5, jl_i 0 8, jl_i 1 1, jl_i 0 7, jl_i 0 30, jl_i 0 2147483647, jl_z 16, jl_i 0 4, jl_z 2, jl_i 0 1, jl_z 45]
noncomputable def gi_603 : GI := jl_n [jl_z 1, jl_i 0 6, jl_z 17, jl_i 0 128, jl_z 27, jl_i 0 16, jl_i 0 3, jl_i 0 10, jl_i 0 5, jl_i 0 8, jl_z 1, jl_i 0 7, jl_i 0 30, jl_i 0 2147483647, jl_z 16, jl_i 0 4, jl_z 2, jl_i 0 1, jl_z 45]
noncomputable def gi_604 : GI := jl_n [jl_z 1, jl_i 0 6, jl_z 17, jl_i 0 128, jl_z 27, jl_i 0 16, jl_i 0 3, jl_i 0 10, jl_i 0 5, jl_i 0 8, jl_i 5 5, jl_i 0 7, jl_i 0 30, jl_i 0 2147483647, jl_z 16, jl_i 0 4, jl_z 48]
noncomputable def gi_605 : GI := jl_n [jl_z 1, jl_i 0 6, jl_z 17, jl_i 0 128, jl_z 27, jl_i 0 16, jl_i 0 3, jl_i 0 10, jl_i 0 5, jl_i 0 8, jl_i 4 4, jl_i 0 7, jl_i 0 30, jl_i 0 2147483647, jl_z 16, jl_i 0 4, jl_z 48]
noncomputable def gi_606 : GI := jl_n [jl_z 1, jl_i 0 6, jl_z 17, jl_i 0 128, jl_z 27, jl_i 0 16, jl_i 0 3, jl_i 0 10, jl_i 0 5, jl_i 0 8, jl_i 3 3, jl_i 0 7, jl_i 0 30, jl_i 0 2147483647, jl_z 16, jl_i 0 4, jl_z 48]
noncomputable def gi_607 : GI := jl_n [jl_z 1, jl_i 0 6, jl_z 17, jl_i 0 128, jl_z 27, jl_i 0 16, jl_i 0 3, jl_i 0 10, jl_i 0 5, jl_i 0 8, jl_i 2 2, jl_i 0 7, jl_i 0 30, jl_i 0 2147483647, jl_z 16, jl_i 0 4, jl_z 48]
noncomputable def gi_608 : GI := jl_n [jl_z 1, jl_i 0 6, jl_z 17, jl_i 0 128, jl_z 27, jl_i 0 16, jl_i 0 3, jl_i 0 10, jl_i 0 5, jl_i 0 8, jl_i 1 1, jl_i 0 7, jl_i 0 30, jl_i 0 2147483647, jl_z 16, jl_i 0 4, jl_z 48]
noncomputable def gi_609 : GI := jl_n [jl_z 1, jl_i 0 6, jl_z 17, jl_i 0 128, jl_z 27, jl_i 0 16, jl_i 0 3, jl_i 0 10, jl_i 0 5, jl_i 0 8, jl_z 1, jl_i 0 7, jl_i 0 30, jl_i 0 2147483647, jl_z 16, jl_i 0 4, jl_z 48]
noncomputable def gi_610 : GI := jl_n [jl_z 1, jl_i 0 6, jl_z 17, jl_i 0 128, jl_z 27, jl_i 0 16, jl_i 0 3, jl_i 0 10, jl_i 0 5, jl_i 0 8, jl_i 5 5, jl_i 0 7, jl_i 0 30, jl_i 0 2147483647, jl_z 16, jl_i 0 4, jl_z 2, jl_i 0 5, jl_z 45]
noncomputable def gi_611 : GI := jl_n [jl_z 1, jl_i 0 6, jl_z 17, jl_i 0 128, jl_z 27, jl_i 0 16, jl_i 0 3, jl_i 0 10, jl_i 0 5, jl_i 0 8, jl_i 4 4, jl_i 0 7, jl_i 0 30, jl_i 0 2147483647, jl_z 16, jl_i 0 4, jl_z 2, jl_i 0 4, jl_z 45]
noncomputable def gi_612 : GI := jl_n [jl_z 1, jl_i 0 6, jl_z 17, jl_i 0 128, jl_z 27, jl_i 0 16, jl_i 0 3, jl_i 0 10, jl_i 0 5, jl_i 0 8, jl_i 3 3, jl_i 0 7, jl_i 0 30, jl_i 0 2147483647, jl_z 16, jl_i 0 4, jl_z 2, jl_i 0 3, jl_z 45]
noncomputable def gi_613 : GI := jl_n [jl_z 1, jl_i 0 6, jl_z 17, jl_i 0 128, jl_z 27, jl_i 0 16, jl_i 0 3, jl_i 0 10, jl_i 0 5, jl_i 0 8, jl_i 2 2, jl_i 0 7, jl_i 0 30, jl_i 0 2147483647, jl_z 16, jl_i 0 4, jl_z 2, jl_i 0 2, jl_z 45]
noncomputable def gi_614 : GI := jl_n [jl_z 1, jl_i 0 6, jl_z 17, jl_i 0 128, jl_z 27, jl_i 0 16, jl_i 0 3, jl_i 0 10, jl_i 0 5, jl_i 0 8, jl_i 2 2, jl_i 0 7, jl_i 0 30, jl_i 0 2147483647, jl_z 16, jl_i 0 4, jl_z 2, jl_i 0 4, jl_z 45]
noncomputable def gi_615 : GI := jl_n [jl_z 1, jl_i 0 6, jl_z 17, jl_i 0 128, jl_z 27, jl_i 0 16, jl_i 0 3, jl_i 0 10, jl_i 0 5, jl_i 0 8, jl_i 3 3, jl_i 0 7, jl_i 0 30, jl_i 0 2147483647, jl_z 16, jl_i 0 4, jl_z 2, jl_i 0 9, jl_z 45]
noncomputable def gi_616 : GI := jl_n [jl_z 1, jl_i 0 6, jl_z 17, jl_i 0 128, jl_z 27, jl_i 0 16, jl_i 0 3, jl_i 0 10, jl_i 0 5, jl_i 0 8, jl_i 4 4, jl_i 0 7, jl_i 0 30, jl_i 0 2147483647, jl_z 16, jl_i 0 4, jl_z 2, jl_i 0 16, jl_z 45]
noncomputable def gi_617 : GI := jl_n [jl_z 1, jl_i 0 6, jl_z 17, jl_i 0 128, jl_z 27, jl_i 0 16, jl_i 0 3, jl_i 0 10, jl_i 0 5, jl_i 0 8, jl_i 5 5, jl_i 0 7, jl_i 0 30, jl_i 0 2147483647, jl_z 16, jl_i 0 4, jl_z 2, jl_i 0 25, jl_z 45]
noncomputable def gi_618 : GI := jl_n [jl_z 1, jl_i 0 6, jl_z 17, jl_i 0 128, jl_z 27, jl_i 0 16, jl_i 0 3, jl_i 0 10, jl_i 0 5, jl_i 0 8, jl_i 3 3, jl_i 0 7, jl_i 0 30, jl_i 0 2147483647, jl_z 16, jl_i 0 4, jl_z 2, jl_i 0 27, jl_z 45]
noncomputable def gi_619 : GI := jl_n [jl_z 1, jl_i 0 6, jl_z 17, jl_i 0 128, jl_z 27, jl_i 0 16, jl_i 0 3, jl_i 0 10, jl_i 0 5, jl_i 0 8, jl_i 4 4, jl_i 0 7, jl_i 0 30, jl_i 0 2147483647, jl_z 16, jl_i 0 4, jl_z 2, jl_i 0 64, jl_z 45]
noncomputable def gi_620 : GI := jl_n [jl_z 1, jl_i 0 6, jl_z 17, jl_i 0 128, jl_z 27, jl_i 0 16, jl_i 0 3, jl_i 0 10, jl_i 0 5, jl_i 0 8, jl_i 5 5, jl_i 0 7, jl_i 0 30, jl_i 0 2147483647, jl_z 16, jl_i 0 4, jl_z 2, jl_i 25 30, jl_z 45]
noncomputable def gi_621 : GI := jl_n [jl_z 1, jl_i 0 6, jl_z 17, jl_i 0 128, jl_z 27, jl_i 0 16, jl_i 0 3, jl_i 0 10, jl_i 0 5, jl_i 0 8, jl_i 5 5, jl_i 0 7, jl_i 0 30, jl_i 0 2147483647, jl_z 16, jl_i 0 4, jl_z 2, jl_i 0 125, jl_z 45]
noncomputable def gi_622 : GI := jl_n [jl_z 1, jl_i 0 6, jl_z 17, jl_i 0 128, jl_z 27, jl_i 0 16, jl_i 0 3, jl_i 0 10, jl_i 0 5, jl_i 0 8, jl_i 3 3, jl_i 0 7, jl_i 0 30, jl_i 0 2147483647, jl_z 16, jl_i 0 4, jl_z 2, jl_i 27 30, jl_z 45]
noncomputable def gi_623 : GI := jl_n [jl_z 1, jl_i 0 6, jl_z 17, jl_i 0 128, jl_z 27, jl_i 0 16, jl_i 0 3, jl_i 0 10, jl_i 0 5, jl_i 0 8, jl_i 4 4, jl_i 0 7, jl_i 0 30, jl_i 0 2147483647, jl_z 16, jl_i 0 4, jl_z 2, jl_i 0 256, jl_z 45]
noncomputable def gi_624 : GI := jl_n [jl_z 1, jl_i 0 6, jl_z 17, jl_i 0 128, jl_z 27, jl_i 0 16, jl_i 0 3, jl_i 0 10, jl_i 0 5, jl_i 0 8, jl_i 5 5, jl_i 0 7, jl_i 0 30, jl_i 0 2147483647, jl_z 16, jl_i 0 4, jl_z 2, jl_i 125 127, jl_z 45]
noncomputable def gi_625 : GI := jl_n [jl_z 1, jl_i 0 6, jl_z 17, jl_i 0 128, jl_z 27, jl_i 0 16, jl_i 0 3, jl_i 0 10, jl_i 0 5, jl_i 0 8, jl_i 5 5, jl_i 0 7, jl_i 0 30, jl_i 0 2147483647, jl_z 16, jl_i 0 4, jl_z 2, jl_i 0 625, jl_z 45]
noncomputable def gi_626 : GI := jl_n [jl_z 1, jl_i 0 6, jl_z 17, jl_i 0 128, jl_z 27, jl_i 0 16, jl_i 0 3, jl_i 0 10, jl_i 0 5, jl_i 0 8, jl_i 5 5, jl_i 0 7, jl_i 0 30, jl_i 0 2147483647, jl_z 16, jl_i 0 4, jl_z 2, jl_i 625 680, jl_z 45]
noncomputable def gi_627 : GI := jl_n [jl_z 1, jl_i 0 6, jl_z 17, jl_i 0 128, jl_z 27, jl_i 0 16, jl_i 0 3, jl_i 0 10, jl_i 0 5, jl_i 0 8, jl_i 5 5, jl_i 0 7, jl_i 0 30, jl_i 0 2147483647, jl_z 16, jl_i 0 4, jl_z 2, jl_i 0 3125, jl_z 45]
noncomputable def cu_1009_0 : List CUT2 := [((31, [(0, (6, 0, 0)), (1, (1, 1, 0)), (2, (1, 72, 0)), (3, (0, 1, 0)), (4, (0, 0, 0))], [], gi_592, hq_537), [], ([], 21888)), ((31, [(0, (6, 0, 0)), (1, (1, 1, 0)), (2, (1, 72, 0)), (3, (0, 1, 0)), (4, (0, 0, 0))], [], gi_593, hq_537), [], ([], 21888)), ((31, [(0, (6, 0, 0)), (1, (1, 1, 0)), (2, (1, 72, 0)), (3, (0, 1, 0)), (4, (0, 0, 0))], [], gi_594, hq_537), [], ([], 21888)), ((31, [(0, (6, 0, 0)), (1, (1, 1, 0)), (2, (1, 72, 0)), (3, (0, 1, 0)), (4, (0, 0, 0))], [], gi_595, hq_537), [], ([], 21888)), ((31, [(0, (6, 0, 0)), (1, (1, 1, 0)), (2, (1, 72, 0)), (3, (0, 1, 0)), (4, (0, 0, 0))], [], gi_596, hq_537), [], ([], 21888)), ((31, [(0, (6, 0, 0)), (1, (1, 1, 0)), (2, (1, 72, 0)), (3, (0, 1, 0)), (4, (0, 0, 0))], [], gi_597, hq_537), [], ([], 21888)), ((43, [(0, (6, 0, 0)), (1, (1, 1, 0)), (2, (1, 72, 0)), (3, (0, 1, 0)), (4, (0, 0, 0)), (5, (1, 75, 0))], [], gi_598, hq_537), [], ([(75, (-1))], 21887)), ((43, [(0, (6, 0, 0)), (1, (1, 1, 0)), (2, (1, 72, 0)), (3, (0, 1, 0)), (4, (0, 0, 0)), (5, (1, 75, 0))], [], gi_599, hq_537), [], ([(75, (-1))], 21887)), ((43, [(0, (6, 0, 0)), (1, (1, 1, 0)), (2, (1, 72, 0)), (3, (0, 1, 0)), (4, (0, 0, 0)), (5, (1, 75, 0))], [], gi_600, hq_537), [], ([(75, (-1))], 21887)), ((43, [(0, (6, 0, 0)), (1, (1, 1, 0)), (2, (1, 72, 0)), (3, (0, 1, 0)), (4, (0, 0, 0)), (5, (1, 75, 0))], [], gi_601, hq_537), [], ([(75, (-1))], 21887)), ((43, [(0, (6, 0, 0)), (1, (1, 1, 0)), (2, (1, 72, 0)), (3, (0, 1, 0)), (4, (0, 0, 0)), (5, (1, 75, 0))], [], gi_602, hq_537), [], ([(75, (-1))], 21887)), ((43, [(0, (6, 0, 0)), (1, (1, 1, 0)), (2, (1, 72, 0)), (3, (0, 1, 0)), (4, (0, 0, 0)), (5, (1, 75, 0))], [], gi_603, hq_537), [], ([(75, (-1))], 21887)), ((31, [(0, (6, 0, 0)), (1, (1, 1, 0)), (2, (1, 72, 0)), (3, (0, 5, 0)), (4, (0, 1, 0)), (5, (0, 1, 0))], [], gi_604, hq_537), [], ([], 18761)), ((31, [(0, (6, 0, 0)), (1, (1, 1, 0)), (2, (1, 72, 0)), (3, (0, 4, 0)), (4, (0, 1, 0)), (5, (0, 1, 0))], [], gi_605, hq_537), [], ([], 18761)), ((31, [(0, (6, 0, 0)), (1, (1, 1, 0)), (2, (1, 72, 0)), (3, (0, 3, 0)), (4, (0, 1, 0)), (5, (0, 1, 0))], [], gi_606, hq_537), [], ([], 18761)), ((31, [(0, (6, 0, 0)), (1, (1, 1, 0)), (2, (1, 72, 0)), (3, (0, 2, 0)), (4, (0, 1, 0)), (5, (0, 1, 0))], [], gi_607, hq_537), [], ([], 18761)), ((31, [(0, (6, 0, 0)), (1, (1, 1, 0)), (2, (1, 72, 0)), (3, (0, 1, 0)), (4, (0, 1, 0)), (5, (0, 1, 0))], [], gi_608, hq_537), [], ([], 18761)), ((31, [(0, (6, 0, 0)), (1, (1, 1, 0)), (2, (1, 72, 0)), (3, (0, 0, 0)), (4, (0, 1, 0)), (5, (0, 1, 0))], [], gi_609, hq_537), [], ([], 18761)), ((43, [(0, (6, 0, 0)), (1, (1, 1, 0)), (2, (1, 72, 0)), (3, (0, 5, 0)), (4, (0, 1, 0)), (5, (1, 75, 0))], [], gi_610, hq_537), [], ([(75, (-1))], 18760)), ((43, [(0, (6, 0, 0)), (1, (1, 1, 0)), (2, (1, 72, 0)), (3, (0, 4, 0)), (4, (0, 1, 0)), (5, (1, 75, 0))], [], gi_611, hq_537), [], ([(75, (-1))], 18760)), ((43, [(0, (6, 0, 0)), (1, (1, 1, 0)), (2, (1, 72, 0)), (3, (0, 3, 0)), (4, (0, 1, 0)), (5, (1, 75, 0))], [], gi_612, hq_537), [], ([(75, (-1))], 18760)), ((43, [(0, (6, 0, 0)), (1, (1, 1, 0)), (2, (1, 72, 0)), (3, (0, 2, 0)), (4, (0, 1, 0)), (5, (1, 75, 0))], [], gi_613, hq_537), [], ([(75, (-1))], 18760)), ((43, [(0, (6, 0, 0)), (1, (1, 1, 0)), (2, (1, 72, 0)), (3, (0, 1, 0)), (4, (0, 1, 0)), (5, (1, 75, 0))], [], gi_602, hq_537), [], ([(75, (-1))], 18760)), ((31, [(0, (6, 0, 0)), (1, (1, 1, 0)), (2, (1, 72, 0)), (3, (0, 1, 0)), (4, (0, 2, 0)), (5, (0, 1, 0))], [], gi_608, hq_537), [], ([], 15634)), ((31, [(0, (6, 0, 0)), (1, (1, 1, 0)), (2, (1, 72, 0)), (3, (0, 4, 0)), (4, (0, 2, 0)), (5, (0, 2, 0))], [], gi_607, hq_537), [], ([], 15634)), ((31, [(0, (6, 0, 0)), (1, (1, 1, 0)), (2, (1, 72, 0)), (3, (0, 9, 0)), (4, (0, 2, 0)), (5, (0, 3, 0))], [], gi_606, hq_537), [], ([], 15634)), ((43, [(0, (6, 0, 0)), (1, (1, 1, 0)), (2, (1, 72, 0)), (3, (0, 4, 0)), (4, (0, 2, 0)), (5, (1, 75, 0))], [], gi_614, hq_537), [], ([(75, (-1))], 15633)), ((31, [(0, (6, 0, 0)), (1, (1, 1, 0)), (2, (1, 72, 0)), (3, (0, 16, 0)), (4, (0, 2, 0)), (5, (0, 4, 0))], [], gi_605, hq_537), [], ([], 15634)), ((43, [(0, (6, 0, 0)), (1, (1, 1, 0)), (2, (1, 72, 0)), (3, (0, 9, 0)), (4, (0, 2, 0)), (5, (1, 75, 0))], [], gi_615, hq_537), [], ([(75, (-1))], 15633)), ((31, [(0, (6, 0, 0)), (1, (1, 1, 0)), (2, (1, 72, 0)), (3, (0, 25, 0)), (4, (0, 2, 0)), (5, (0, 5, 0))], [], gi_604, hq_537), [], ([], 15634)), ((43, [(0, (6, 0, 0)), (1, (1, 1, 0)), (2, (1, 72, 0)), (3, (0, 16, 0)), (4, (0, 2, 0)), (5, (1, 75, 0))], [], gi_616, hq_537), [], ([(75, (-1))], 15633)), ((43, [(0, (6, 0, 0)), (1, (1, 1, 0)), (2, (1, 72, 0)), (3, (0, 25, 0)), (4, (0, 2, 0)), (5, (1, 75, 0))], [], gi_617, hq_537), [], ([(75, (-1))], 15633)), ((31, [(0, (6, 0, 0)), (1, (1, 1, 0)), (2, (1, 72, 0)), (3, (0, 8, 0)), (4, (0, 3, 0)), (5, (0, 4, 0))], [], gi_607, hq_537), [], ([], 12507)), ((31, [(0, (6, 0, 0)), (1, (1, 1, 0)), (2, (1, 72, 0)), (3, (0, 27, 0)), (4, (0, 3, 0)), (5, (0, 9, 0))], [], gi_606, hq_537), [], ([], 12507)), ((43, [(0, (6, 0, 0)), (1, (1, 1, 0)), (2, (1, 72, 0)), (3, (0, 27, 0)), (4, (0, 3, 0)), (5, (1, 75, 0))], [], gi_618, hq_537), [], ([(75, (-1))], 12506)), ((31, [(0, (6, 0, 0)), (1, (1, 1, 0)), (2, (1, 72, 0)), (3, (0, 64, 0)), (4, (0, 3, 0)), (5, (0, 16, 0))], [], gi_605, hq_537), [], ([], 12507)), ((43, [(0, (6, 0, 0)), (1, (1, 1, 0)), (2, (1, 72, 0)), (3, (0, 64, 0)), (4, (0, 3, 0)), (5, (1, 75, 0))], [], gi_619, hq_537), [], ([(75, (-1))], 12506)), ((31, [(0, (6, 0, 0)), (1, (1, 1, 0)), (2, (1, 72, 0)), (3, (0, 125, 0)), (4, (0, 3, 0)), (5, (1, 75, 0))], [], gi_620, hq_537), [], ([], 12507)), ((43, [(0, (6, 0, 0)), (1, (1, 1, 0)), (2, (1, 72, 0)), (3, (0, 125, 0)), (4, (0, 3, 0)), (5, (1, 75, 0))], [], gi_621, hq_537), [], ([(75, (-1))], 12506)), ((31, [(0, (6, 0, 0)), (1, (1, 1, 0)), (2, (1, 72, 0)), (3, (0, 81, 0)), (4, (0, 4, 0)), (5, (1, 75, 0))], [], gi_622, hq_537), [], ([], 9380)), ((31, [(0, (6, 0, 0)), (1, (1, 1, 0)), (2, (1, 72, 0)), (3, (0, 256, 0)), (4, (0, 4, 0)), (5, (0, 64, 0))], [], gi_605, hq_537), [], ([], 9380))]
noncomputable def cu_1009_1 : List CUT2 := [((43, [(0, (6, 0, 0)), (1, (1, 1, 0)), (2, (1, 72, 0)), (3, (0, 256, 0)), (4, (0, 4, 0)), (5, (1, 75, 0))], [], gi_623, hq_537), [], ([(75, (-1))], 9379)), ((31, [(0, (6, 0, 0)), (1, (1, 1, 0)), (2, (1, 72, 0)), (3, (0, 625, 0)), (4, (0, 4, 0)), (5, (1, 75, 0))], [], gi_624, hq_537), [], ([], 9380)), ((43, [(0, (6, 0, 0)), (1, (1, 1, 0)), (2, (1, 72, 0)), (3, (0, 625, 0)), (4, (0, 4, 0)), (5, (1, 75, 0))], [], gi_625, hq_537), [], ([(75, (-1))], 9379)), ((31, [(0, (6, 0, 0)), (1, (1, 1, 0)), (2, (1, 72, 0)), (3, (0, 1024, 0)), (4, (0, 5, 0)), (5, (0, 256, 0))], [], gi_605, hq_537), [], ([], 6253)), ((31, [(0, (6, 0, 0)), (1, (1, 1, 0)), (2, (1, 72, 0)), (3, (0, 3125, 0)), (4, (0, 5, 0)), (5, (1, 75, 0))], [], gi_626, hq_537), [], ([], 6253)), ((43, [(0, (6, 0, 0)), (1, (1, 1, 0)), (2, (1, 72, 0)), (3, (0, 3125, 0)), (4, (0, 5, 0)), (5, (1, 75, 0))], [], gi_627, hq_537), [], ([(75, (-1))], 6252)), ((31, [(0, (6, 0, 0)), (1, (1, 1, 0)), (2, (1, 72, 0)), (3, (0, 15625, 0)), (4, (0, 6, 0)), (5, (0, 3125, 0))], [], gi_604, hq_537), [], ([], 3126))]
noncomputable def cu_1009 : List CUT2 := cu_1009_0 ++ (cu_1009_1)
theorem ch_1009 : staG tb_X12_gainsOf 1 bt_RX12 [] ct_1009 [(0, [(1, (2, 1, 5), 0, 0)])] [] cu_1009 21 con_1009 = true := by decide +kernel
theorem cc_1009_0 : cu_1009_0.all (cutG tb_X12_gainsOf 1 bt_RX12 [] ct_1009 [(0, [(1, (2, 1, 5), 0, 0)])] [] cu_1009 21 con_1009) = true := by decide +kernel
theorem cc_1009_1 : cu_1009_1.all (cutG tb_X12_gainsOf 1 bt_RX12 [] ct_1009 [(0, [(1, (2, 1, 5), 0, 0)])] [] cu_1009 21 con_1009) = true := by decide +kernel
theorem cto_1009 (l : Launch) : CTOK2 l RX12 vwCl gTbl ct_1009 := ct2_cons (vl_665 l) ck_RX12_249_665 (ct2_cons (vl_692 l) ck_RX12_269_692 (ct2_cons (vl_787 l) ck_RX12_269_787 (ct2_cons (vl_818 l) ck_RX12_269_818 (ct2_cons (vl_834 l) ck_RX12_269_834 (ct2_cons (vl_842 l) ck_RX12_269_842 (ct2_cons (vl_847 l) ck_RX12_269_847 (ct2_cons (vl_753 l) ck_RX12_277_753 (ct2_cons (vl_801 l) ck_RX12_277_801 (ct2_cons (vl_825 l) ck_RX12_277_825 (ct2_cons (vl_837 l) ck_RX12_277_837 (ct2_cons (vl_844 l) ck_RX12_277_844 (ct2_cons (vl_850 l) ck_RX12_277_850 (ct2_cons (vl_691 l) ck_RX12_95_691 (ct2_cons (vl_786 l) ck_RX12_95_786 (ct2_cons (vl_817 l) ck_RX12_95_817 (ct2_cons (vl_833 l) ck_RX12_95_833 (ct2_cons (vl_841 l) ck_RX12_95_841 (ct2_cons (vl_846 l) ck_RX12_95_846 (ct2_cons (vl_988 l) ck_RX12_301_988 (ct2_cons (vl_989 l) ck_RX12_301_989 (ct2_cons (vl_990 l) ck_RX12_301_990 (ct2_cons (vl_991 l) ck_RX12_301_991 (ct2_cons (vl_992 l) ck_RX12_301_992 (ct2_cons (vl_993 l) ck_RX12_301_993 (ct2_cons (vl_994 l) ck_RX12_301_994 (ct2_cons (vl_995 l) ck_RX12_301_995 (ct2_cons (vl_996 l) ck_RX12_301_996 (ct2_cons (vl_997 l) ck_RX12_301_997 (ct2_cons (vl_998 l) ck_RX12_301_998 (ct2_cons (vl_999 l) ck_RX12_301_999 (ct2_cons (vl_1000 l) ck_RX12_301_1000 (ct2_cons (vl_1001 l) ck_RX12_301_1001 (ct2_cons (vl_1002 l) ck_RX12_301_1002 (ct2_cons (vl_1003 l) ck_RX12_301_1003 (ct2_cons (vl_1004 l) ck_RX12_301_1004 (ct2_cons (vl_1005 l) ck_RX12_301_1005 (ct2_cons (vl_1006 l) ck_RX12_301_1006 (ct2_cons (vl_1007 l) ck_RX12_301_1007 (ct2_cons (vl_1008 l) ck_RX12_301_1008 (ct2_cons (vl_691 l) ck_RX12_95_691 (ct2_cons (vl_786 l) ck_RX12_95_786 (ct2_cons (vl_817 l) ck_RX12_95_817 (ct2_cons (vl_833 l) ck_RX12_95_833 (ct2_cons (vl_841 l) ck_RX12_95_841 (ct2_cons (vl_846 l) ck_RX12_95_846 (ct2_nil))))))))))))))))))))))))))))))))))))))))))))))
theorem vl_1009 (l : Launch) : Vld2 l vwCl gTbl con_1009 := conR_ok3 gT_all (hd_1009) rfl pn_RX12 tk_X12_gainsOf bo_RX12 xo_RX12 (cto_1009 l) ch_1009 (cut_app (cut_all cc_1009_0) (cut_all cc_1009_1))
/-- RookHustingModel gains -/
noncomputable def gi_628 : GI := jl_n [jl_z 1, jl_t, jl_z 17, jl_i 0 128, jl_z 27, jl_i 0 16, jl_i 0 3, jl_i 0 10, jl_i 0 5, jl_i 0 8, jl_i 0 5, jl_i 0 7, jl_i 0 30, jl_i 0 2147483647, jl_z 14, jl_m 1 1, jl_z 17, jl_i 0 128, jl_z 27]
noncomputable def con_1010 : Con2 := ((yX12_gains, cX12_gains, 2, (some .int)), (7, 174), ([(6, 0, 0), (1, 1, 0)], gi_432, hc_118, []), [((1, 70, 0), gi_628, hq_515, [], [1, 1, 1, 1, 1, 1, 1, 1, 1, 1, 1, 1, 1, 1, 1, 1, 1, 1, 1, 1, 1, 1, 1, 1, 1, 1, 1, 1, 1, 1, 1, 1, 1, 1, 1, 1, 1, 1, 1, 1, 1, 1, 1, 1, 1, 1])])
theorem hd_1010 : con_1010.1 = (yX12_gains, cX12_gains, 2, (some .int)) := rfl
theorem ck_RX12_305_1009 : COK2 RX12 vwCl gTbl 305 0 con_1009 := ⟨wd_1789, wd_137, mh_X12_gainsOf, .inr (.inr ⟨rfl, wd_1786, wd_1788, wd_87, ⟨_, rfl, pd_X12_gainsOf⟩, 12, _, TX12, 45, rfl, rfl⟩)⟩
noncomputable def ct_1010 : CTB2 := [(2, 240, 0, con_661, [0, 1]), (10, 305, 0, con_1009, [0, 1, 2, 3])]
noncomputable def cu_1010 : List CUT2 := []
theorem ch_1010 : staG tb_X12_gains 1 bt_RX12 [] ct_1010 [] [] cu_1010 13 con_1010 = true := by decide +kernel
theorem cto_1010 (l : Launch) : CTOK2 l RX12 vwCl gTbl ct_1010 := ct2_cons (vl_661 l) ck_RX12_240_661 (ct2_cons (vl_1009 l) ck_RX12_305_1009 (ct2_nil))
theorem vl_1010 (l : Launch) : Vld2 l vwCl gTbl con_1010 := conR_ok3 gT_all (hd_1010) rfl pn_RX12 tk_X12_gains bo_RX12 xo_RX12 (cto_1010 l) ch_1010 cut_nil
/-- RookHusting plain -/
noncomputable def gi_629 : GI := jl_n [jl_z 15, jl_i 0 1, jl_t, jl_z 2, jl_t, jl_z 1, jl_i 0 3, jl_z 3, jl_i 0 5, jl_i 0 7, jl_z 11]
noncomputable def ac_563 : AC := .inl (4, jl_n [jl_1 20 1, jl_8 21 1, jl_1 22 1, jl_8 25 3, jl_1 27 2, jl_8 32 5, jl_6 7 1, jl_8 35 2, jl_6 6 1])
noncomputable def hc_132 : List AC := [ac_548, .inl (9, [(6, 2, 0), (8, 18, 0)]), ac_563, .inl (1, [(6, 2, 0), (6, 4, 0)]), .inr (1, [(35, (2, (-2147483648), 2147483647))]), .inr (1, [(35, (2, (-2147483648), 2147483647))]), .inr (1, [(7, (2, 0, 9))])]
noncomputable def gi_630 : GI := jl_n [jl_z 15, jl_i 0 1, jl_t, jl_z 2, jl_t, jl_z 1, jl_i 0 3, jl_z 3, jl_i 0 5, jl_i 0 7, jl_z 11, jl_t, jl_z 14, jl_i 0 1, jl_t]
noncomputable def ac_564 : AC := .inl (11, jl_n [jl_8 3 2, jl_6 2 1, jl_8 6 2, jl_6 4 1, jl_8 15 8, jl_1 55 2])
noncomputable def hq_538 : HP := [(true, ac_564), (false, .inl (9, [(6, 2, 0), (8, 18, 0)])), (false, ac_563), (false, .inl (1, [(6, 2, 0), (6, 4, 0)])), (true, .inr (1, [(35, (2, (-2147483648), 2147483647))])), (false, .inr (1, [(35, (2, (-2147483648), 2147483647))])), (false, .inr (1, [(7, (2, 0, 9))]))]
noncomputable def con_1011 : Con2 := ((yX11_plain, cX11_plain, 1, (some .int)), (12, 305), ([(6, 0, 0)], gi_629, hc_132, []), [((1, 38, 0), gi_630, hq_538, [], [1, 1, 1, 1, 1, 1, 1, 1, 1, 1, 1, 1, 1, 1, 1, 1, 1])])
theorem hd_1011 : con_1011.1 = (yX11_plain, cX11_plain, 1, (some .int)) := rfl
noncomputable def ct_1011 : CTB2 := [(1, 219, 0, con_667, [0, 1, 2]), (11, 232, 0, con_986, [0, 1, 2, 3, 4, 5, 6])]
noncomputable def cu_1011 : List CUT2 := []
theorem ch_1011 : staG tb_X11_plain 1 bt_RX11 [] ct_1011 [] [] cu_1011 10 con_1011 = true := by decide +kernel
theorem cto_1011 (l : Launch) : CTOK2 l RX11 vwCl gTbl ct_1011 := ct2_cons (vl_667 l) ck_RX11_219_667 (ct2_cons (vl_986 l) ck_RX11_232_986 (ct2_nil))
theorem vl_1011 (l : Launch) : Vld2 l vwCl gTbl con_1011 := conR_ok3 gT_all (hd_1011) rfl pn_RX11 tk_X11_plain bo_RX11 xo_RX11 (cto_1011 l) ch_1011 cut_nil
/-- RookHustingModel plain -/
noncomputable def gi_631 : GI := jl_n [jl_z 18, jl_i 0 128, jl_z 27, jl_i 0 16, jl_i 0 3, jl_i 0 10, jl_i 0 5, jl_i 0 8, jl_i 0 5, jl_i 0 7, jl_i 0 30, jl_i 0 2147483647, jl_z 14, jl_t, jl_z 17, jl_i 0 128, jl_z 27]
noncomputable def ac_565 : AC := .inl (12, jl_n [jl_8 2 1, jl_6 2 1, jl_8 16 13, jl_6 4 1, jl_6 3 1, jl_1 88 1, jl_8 46 27])
noncomputable def hq_539 : HP := [(true, ac_565), (false, ac_436), (true, .inr (1, [(7, (2, 0, 5))])), (true, .inr (1, [(35, (2, 0, 4))]))]
noncomputable def con_1012 : Con2 := ((yX12_plain, cX12_plain, 3, (some .int)), (7, 174), ([(6, 0, 0)], gi_333, hc_73, []), [((1, 69, 0), gi_631, hq_539, [], [1, 1, 1, 1, 1, 1, 1, 1, 1, 1, 1, 1, 1, 1, 1, 1, 1, 1, 1, 1, 1, 1, 1, 1, 1, 1, 1, 1, 1, 1, 1, 1, 1, 1, 1, 1, 1, 1, 1, 1, 1, 1, 1, 1, 1, 1])])
theorem hd_1012 : con_1012.1 = (yX12_plain, cX12_plain, 3, (some .int)) := rfl
noncomputable def ct_1012 : CTB2 := [(1, 99, 0, con_673, [0, 1]), (28, 305, 0, con_1009, [0, 1, 2, 3])]
noncomputable def gi_632 : GI := jl_n [jl_z 18, jl_i 0 128, jl_z 27, jl_i 0 16, jl_i 0 3, jl_i 0 10, jl_i 0 5, jl_i 0 8, jl_i 0 5, jl_i 0 7, jl_i 0 30, jl_i 1 2147483647, jl_z 15, jl_t, jl_i 0 7, jl_z 17, jl_i 0 128, jl_z 27]
noncomputable def ac_566 : AC := .inl (12, jl_n [jl_8 2 1, jl_6 2 1, jl_8 16 13, jl_6 4 1, jl_6 3 1, jl_1 90 1, jl_8 46 27])
noncomputable def hq_540 : HP := [(true, ac_566), (false, ac_436), (true, .inr (1, [(7, (2, 0, 5))])), (true, .inr (1, [(35, (2, 0, 4))]))]
noncomputable def cu_1012 : List CUT2 := [((14, [(0, (6, 0, 0)), (1, (1, 70, 0)), (2, (1, 71, 0))], [], gi_632, hq_540), [], ([(71, (-1))], 7))]
theorem ch_1012 : staG tb_X12_plain 1 bt_RX12 [] ct_1012 [] [] cu_1012 22 con_1012 = true := by decide +kernel
theorem cc_1012 : cu_1012.all (cutG tb_X12_plain 1 bt_RX12 [] ct_1012 [] [] cu_1012 22 con_1012) = true := by decide +kernel
theorem cto_1012 (l : Launch) : CTOK2 l RX12 vwCl gTbl ct_1012 := ct2_cons (vl_673 l) ck_RX12_99_673 (ct2_cons (vl_1009 l) ck_RX12_305_1009 (ct2_nil))
theorem vl_1012 (l : Launch) : Vld2 l vwCl gTbl con_1012 := conR_ok3 gT_all (hd_1012) rfl pn_RX12 tk_X12_plain bo_RX12 xo_RX12 (cto_1012 l) ch_1012 (cut_all cc_1012)
/-- RookHusting isVoter -/
noncomputable def gi_633 : GI := jl_n [jl_z 1, jl_t, jl_z 35]
noncomputable def ac_567 : AC := .inl (4, jl_n [jl_8 27 7, jl_c 7, jl_8 37 9])
noncomputable def gi_634 : GI := jl_n [jl_z 1, jl_t, jl_z 36]
noncomputable def hq_541 : HP := [(false, ac_431), (false, .inl (9, [(6, 2, 0), (8, 19, 0)])), (false, ac_567)]
noncomputable def gi_635 : GI := jl_n [jl_z 1, jl_i 0 6, jl_z 36]
noncomputable def con_1013 : Con2 := ((yX11_isVoter, cX11_isVoter, 2, (some .boolean)), (0, 0), ([(6, 0, 0), (1, 1, 0)], gi_633, [ac_431, .inl (9, [(6, 2, 0), (8, 19, 0)]), ac_567], []), [((0, 0, 0), gi_634, hq_541, [], [1]), ((0, 1, 0), gi_635, hq_541, [], [1])])
theorem hd_1013 : con_1013.1 = (yX11_isVoter, cX11_isVoter, 2, (some .boolean)) := rfl
noncomputable def ct_1013 : CTB2 := []
noncomputable def cu_1013 : List CUT2 := []
theorem ch_1013 : staG tb_X11_isVoter 1 bt_RX11 [] ct_1013 [] [] cu_1013 13 con_1013 = true := by decide +kernel
theorem cto_1013 (l : Launch) : CTOK2 l RX11 vwCl gTbl ct_1013 := ct2_nil
theorem vl_1013 (l : Launch) : Vld2 l vwCl gTbl con_1013 := conR_ok3 gT_all (hd_1013) rfl pn_RX11 tk_X11_isVoter bo_RX11 xo_RX11 (cto_1013 l) ch_1013 cut_nil
/-- java/lang/Integer bitCount -/
noncomputable def con_1015 : Con2 := ((yJ6_bitCount_0f7a4, cJ6_bitCount_0f7a4, 1, (some .int)), (0, 0), ([(1, 0, 0)], [(0, 126)], [], []), [((0, 0, 0), [(0, 0), (0, 0)], [], [], [1]), ((0, 1, 0), [(1, 64), (0, 0)], [], [], [1]), ((0, 2, 0), [(3, 96), (0, 0)], [], [], [1]), ((0, 3, 0), [(7, 112), (0, 0)], [], [], [1]), ((0, 4, 0), [(15, 120), (0, 0)], [], [], [1]), ((0, 5, 0), [(31, 124), (0, 0)], [], [], [1]), ((0, 6, 0), [(63, 126), (0, 0)], [], [], [1])])
theorem hd_1015 : con_1015.1 = (yJ6_bitCount_0f7a4, cJ6_bitCount_0f7a4, 1, (some .int)) := rfl
noncomputable def ct_1015 : CTB2 := []
noncomputable def cu_1015 : List CUT2 := []
theorem ch_1015 : staG tb_J_bitCount 1 bt_RJ6 [] ct_1015 [(0, [(1, (1, 0, 0), 0, 0)])] [] cu_1015 44 con_1015 = true := by decide +kernel
theorem cto_1015 (l : Launch) : CTOK2 l RJ6 vwCl gTbl ct_1015 := ct2_nil
theorem vl_1015 (l : Launch) : Vld2 l vwCl gTbl con_1015 := conR_ok3 gT_all (hd_1015) rfl pn_RJ6 tk_J_bitCount bo_RJ6 xo_RJ6 (cto_1015 l) ch_1015 cut_nil
/-- RookHusting hasBit -/
noncomputable def con_1021 : Con2 := ((yX11_hasBit, cX11_hasBit, 2, (some .boolean)), (0, 0), ([(0, 0, 0), (0, 0, 0)], [(0, 0), (0, 0)], [], []), [((0, 0, 0), [(0, 0), (0, 0), (0, 0)], [], [], [1])])
theorem hd_1021 : con_1021.1 = (yX11_hasBit, cX11_hasBit, 2, (some .boolean)) := rfl
noncomputable def ct_1021 : CTB2 := []
noncomputable def cu_1021 : List CUT2 := []
theorem ch_1021 : staG tb_X11_hasBit 1 bt_RX11 [] ct_1021 [] [] cu_1021 11 con_1021 = true := by decide +kernel
theorem cto_1021 (l : Launch) : CTOK2 l RX11 vwCl gTbl ct_1021 := ct2_nil
theorem vl_1021 (l : Launch) : Vld2 l vwCl gTbl con_1021 := conR_ok3 gT_all (hd_1021) rfl pn_RX11 tk_X11_hasBit bo_RX11 xo_RX11 (cto_1021 l) ch_1021 cut_nil
/-- RookHusting hasBit -/
noncomputable def con_1022 : Con2 := ((yX11_hasBit, cX11_hasBit, 2, (some .boolean)), (0, 0), ([(0, 127, 0), (0, 6, 0)], [(0, 0), (0, 0)], [], []), [((0, 1, 0), [(0, 0), (0, 0), (0, 0)], [], [], [1])])
theorem hd_1022 : con_1022.1 = (yX11_hasBit, cX11_hasBit, 2, (some .boolean)) := rfl
noncomputable def ct_1022 : CTB2 := []
noncomputable def cu_1022 : List CUT2 := []
theorem ch_1022 : staG tb_X11_hasBit 1 bt_RX11 [] ct_1022 [] [] cu_1022 12 con_1022 = true := by decide +kernel
theorem cto_1022 (l : Launch) : CTOK2 l RX11 vwCl gTbl ct_1022 := ct2_nil
theorem vl_1022 (l : Launch) : Vld2 l vwCl gTbl con_1022 := conR_ok3 gT_all (hd_1022) rfl pn_RX11 tk_X11_hasBit bo_RX11 xo_RX11 (cto_1022 l) ch_1022 cut_nil
/-- RookHusting hasBit -/
noncomputable def con_1023 : Con2 := ((yX11_hasBit, cX11_hasBit, 2, (some .boolean)), (0, 0), ([(0, 127, 0), (0, 5, 0)], [(0, 0), (0, 0)], [], []), [((0, 1, 0), [(0, 0), (0, 0), (0, 0)], [], [], [1])])
theorem hd_1023 : con_1023.1 = (yX11_hasBit, cX11_hasBit, 2, (some .boolean)) := rfl
noncomputable def ct_1023 : CTB2 := []
noncomputable def cu_1023 : List CUT2 := []
theorem ch_1023 : staG tb_X11_hasBit 1 bt_RX11 [] ct_1023 [] [] cu_1023 12 con_1023 = true := by decide +kernel
theorem cto_1023 (l : Launch) : CTOK2 l RX11 vwCl gTbl ct_1023 := ct2_nil
theorem vl_1023 (l : Launch) : Vld2 l vwCl gTbl con_1023 := conR_ok3 gT_all (hd_1023) rfl pn_RX11 tk_X11_hasBit bo_RX11 xo_RX11 (cto_1023 l) ch_1023 cut_nil
/-- RookHusting hasBit -/
noncomputable def con_1024 : Con2 := ((yX11_hasBit, cX11_hasBit, 2, (some .boolean)), (0, 0), ([(0, 127, 0), (0, 4, 0)], [(0, 0), (0, 0)], [], []), [((0, 1, 0), [(0, 0), (0, 0), (0, 0)], [], [], [1])])
theorem hd_1024 : con_1024.1 = (yX11_hasBit, cX11_hasBit, 2, (some .boolean)) := rfl
noncomputable def ct_1024 : CTB2 := []
noncomputable def cu_1024 : List CUT2 := []
theorem ch_1024 : staG tb_X11_hasBit 1 bt_RX11 [] ct_1024 [] [] cu_1024 12 con_1024 = true := by decide +kernel
theorem cto_1024 (l : Launch) : CTOK2 l RX11 vwCl gTbl ct_1024 := ct2_nil
theorem vl_1024 (l : Launch) : Vld2 l vwCl gTbl con_1024 := conR_ok3 gT_all (hd_1024) rfl pn_RX11 tk_X11_hasBit bo_RX11 xo_RX11 (cto_1024 l) ch_1024 cut_nil
/-- RookHusting hasBit -/
noncomputable def con_1025 : Con2 := ((yX11_hasBit, cX11_hasBit, 2, (some .boolean)), (0, 0), ([(0, 127, 0), (0, 3, 0)], [(0, 0), (0, 0)], [], []), [((0, 1, 0), [(0, 0), (0, 0), (0, 0)], [], [], [1])])
theorem hd_1025 : con_1025.1 = (yX11_hasBit, cX11_hasBit, 2, (some .boolean)) := rfl
noncomputable def ct_1025 : CTB2 := []
noncomputable def cu_1025 : List CUT2 := []
theorem ch_1025 : staG tb_X11_hasBit 1 bt_RX11 [] ct_1025 [] [] cu_1025 12 con_1025 = true := by decide +kernel
theorem cto_1025 (l : Launch) : CTOK2 l RX11 vwCl gTbl ct_1025 := ct2_nil
theorem vl_1025 (l : Launch) : Vld2 l vwCl gTbl con_1025 := conR_ok3 gT_all (hd_1025) rfl pn_RX11 tk_X11_hasBit bo_RX11 xo_RX11 (cto_1025 l) ch_1025 cut_nil
/-- RookHusting hasBit -/
noncomputable def con_1026 : Con2 := ((yX11_hasBit, cX11_hasBit, 2, (some .boolean)), (0, 0), ([(0, 127, 0), (0, 2, 0)], [(0, 0), (0, 0)], [], []), [((0, 1, 0), [(0, 0), (0, 0), (0, 0)], [], [], [1])])
theorem hd_1026 : con_1026.1 = (yX11_hasBit, cX11_hasBit, 2, (some .boolean)) := rfl
noncomputable def ct_1026 : CTB2 := []
noncomputable def cu_1026 : List CUT2 := []
theorem ch_1026 : staG tb_X11_hasBit 1 bt_RX11 [] ct_1026 [] [] cu_1026 12 con_1026 = true := by decide +kernel
theorem cto_1026 (l : Launch) : CTOK2 l RX11 vwCl gTbl ct_1026 := ct2_nil
theorem vl_1026 (l : Launch) : Vld2 l vwCl gTbl con_1026 := conR_ok3 gT_all (hd_1026) rfl pn_RX11 tk_X11_hasBit bo_RX11 xo_RX11 (cto_1026 l) ch_1026 cut_nil
/-- RookHusting hasBit -/
noncomputable def con_1027 : Con2 := ((yX11_hasBit, cX11_hasBit, 2, (some .boolean)), (0, 0), ([(0, 127, 0), (0, 1, 0)], [(0, 0), (0, 0)], [], []), [((0, 1, 0), [(0, 0), (0, 0), (0, 0)], [], [], [1])])
theorem hd_1027 : con_1027.1 = (yX11_hasBit, cX11_hasBit, 2, (some .boolean)) := rfl
noncomputable def ct_1027 : CTB2 := []
noncomputable def cu_1027 : List CUT2 := []
theorem ch_1027 : staG tb_X11_hasBit 1 bt_RX11 [] ct_1027 [] [] cu_1027 12 con_1027 = true := by decide +kernel
theorem cto_1027 (l : Launch) : CTOK2 l RX11 vwCl gTbl ct_1027 := ct2_nil
theorem vl_1027 (l : Launch) : Vld2 l vwCl gTbl con_1027 := conR_ok3 gT_all (hd_1027) rfl pn_RX11 tk_X11_hasBit bo_RX11 xo_RX11 (cto_1027 l) ch_1027 cut_nil
/-- RookHusting hasBit -/
noncomputable def con_1028 : Con2 := ((yX11_hasBit, cX11_hasBit, 2, (some .boolean)), (0, 0), ([(0, 127, 0), (0, 0, 0)], [(0, 0), (0, 0)], [], []), [((0, 1, 0), [(0, 0), (0, 0), (0, 0)], [], [], [1])])
theorem hd_1028 : con_1028.1 = (yX11_hasBit, cX11_hasBit, 2, (some .boolean)) := rfl
noncomputable def ct_1028 : CTB2 := []
noncomputable def cu_1028 : List CUT2 := []
theorem ch_1028 : staG tb_X11_hasBit 1 bt_RX11 [] ct_1028 [] [] cu_1028 12 con_1028 = true := by decide +kernel
theorem cto_1028 (l : Launch) : CTOK2 l RX11 vwCl gTbl ct_1028 := ct2_nil
theorem vl_1028 (l : Launch) : Vld2 l vwCl gTbl con_1028 := conR_ok3 gT_all (hd_1028) rfl pn_RX11 tk_X11_hasBit bo_RX11 xo_RX11 (cto_1028 l) ch_1028 cut_nil
/-- RookHusting$Election ordersDecided -/
noncomputable def gi_636 : GI := jl_n [jl_z 1, jl_i 0 6, jl_z 19]
noncomputable def ac_568 : AC := .inl (4, jl_n [jl_8 11 7, jl_c 7, jl_8 17 5, jl_6 3 1, jl_8 21 3])
noncomputable def hc_133 : List AC := [.inl (1, [(6, 1, 0), (8, 3, 0)]), ac_568, .inr (1, [(7, (2, 0, 9))])]
noncomputable def gi_637 : GI := jl_n [jl_z 1, jl_i 0 6, jl_z 19, jl_t]
noncomputable def hq_542 : HP := [(false, .inl (1, [(6, 1, 0), (8, 3, 0)])), (false, ac_568), (false, .inr (1, [(7, (2, 0, 9))]))]
noncomputable def con_1029 : Con2 := ((yX1_ordersDecided, cX1_ordersDecided, 8, (some .int)), (2, 44), ([(6, 0, 0), (1, 1, 0)], gi_636, hc_133, []), [((1, 21, 0), gi_637, hq_542, [], [1])])
theorem hd_1029 : con_1029.1 = (yX1_ordersDecided, cX1_ordersDecided, 8, (some .int)) := rfl
theorem ck_RX1_19_1015 : COK2 RX1 vwCl gTbl 19 1 con_1015 := ⟨wd_806, wd_144, mh_J_bitCount, .inl ⟨rfl, wd_804, wd_805, pd_J_bitCount⟩⟩
theorem ck_RX1_45_1022 : COK2 RX1 vwCl gTbl 45 2 con_1022 := ⟨wd_682, wd_125, mh_X11_hasBit, .inr (.inl ⟨rfl, by decide +kernel, wd_681, pd_X11_hasBit⟩)⟩
theorem ck_RX1_45_1023 : COK2 RX1 vwCl gTbl 45 2 con_1023 := ⟨wd_682, wd_125, mh_X11_hasBit, .inr (.inl ⟨rfl, by decide +kernel, wd_681, pd_X11_hasBit⟩)⟩
theorem ck_RX1_45_1024 : COK2 RX1 vwCl gTbl 45 2 con_1024 := ⟨wd_682, wd_125, mh_X11_hasBit, .inr (.inl ⟨rfl, by decide +kernel, wd_681, pd_X11_hasBit⟩)⟩
theorem ck_RX1_45_1025 : COK2 RX1 vwCl gTbl 45 2 con_1025 := ⟨wd_682, wd_125, mh_X11_hasBit, .inr (.inl ⟨rfl, by decide +kernel, wd_681, pd_X11_hasBit⟩)⟩
theorem ck_RX1_45_1026 : COK2 RX1 vwCl gTbl 45 2 con_1026 := ⟨wd_682, wd_125, mh_X11_hasBit, .inr (.inl ⟨rfl, by decide +kernel, wd_681, pd_X11_hasBit⟩)⟩
theorem ck_RX1_45_1027 : COK2 RX1 vwCl gTbl 45 2 con_1027 := ⟨wd_682, wd_125, mh_X11_hasBit, .inr (.inl ⟨rfl, by decide +kernel, wd_681, pd_X11_hasBit⟩)⟩
theorem ck_RX1_45_1028 : COK2 RX1 vwCl gTbl 45 2 con_1028 := ⟨wd_682, wd_125, mh_X11_hasBit, .inr (.inl ⟨rfl, by decide +kernel, wd_681, pd_X11_hasBit⟩)⟩
noncomputable def ct_1029 : CTB2 := [(14, 84, 0, con_927, [0, 1, 2]), (34, 84, 0, con_927, [0, 1, 2]), (43, 45, 2, con_1028, []), (43, 45, 2, con_1027, []), (43, 45, 2, con_1026, []), (43, 45, 2, con_1025, []), (43, 45, 2, con_1024, []), (43, 45, 2, con_1023, []), (43, 45, 2, con_1022, []), (43, 45, 2, con_46, []), (75, 19, 1, con_1015, [])]
noncomputable def rf_1029 : List (Nat × List POP) := [(40, [(2, (1, 5, 0), 127, 0), (1, (1, 1, 0), 0, 0)])]
noncomputable def gi_638 : GI := jl_n [jl_z 1, jl_i 0 6, jl_z 20, jl_i 0 6, jl_z 1, jl_r 2 (jl_t), jl_i 0 128]
noncomputable def cu_1029 : List CUT2 := [((24, [(0, (6, 0, 0)), (1, (1, 22, 0)), (2, (0, 127, 0)), (3, (1, 24, 0)), (4, (1, 25, 0)), (5, (1, 26, 0))], [], gi_638, hq_542), [], ([(26, (-1))], 128))]
theorem ch_1029 : staG tb_X1_ordersDecided 1 bt_RX1 [] ct_1029 rf_1029 [] cu_1029 51 con_1029 = true := by decide +kernel
theorem cc_1029 : cu_1029.all (cutG tb_X1_ordersDecided 1 bt_RX1 [] ct_1029 rf_1029 [] cu_1029 51 con_1029) = true := by decide +kernel
theorem cto_1029 (l : Launch) : CTOK2 l RX1 vwCl gTbl ct_1029 := ct2_cons (vl_927 l) ck_RX1_84_927 (ct2_cons (vl_927 l) ck_RX1_84_927 (ct2_cons (vl_1028 l) ck_RX1_45_1028 (ct2_cons (vl_1027 l) ck_RX1_45_1027 (ct2_cons (vl_1026 l) ck_RX1_45_1026 (ct2_cons (vl_1025 l) ck_RX1_45_1025 (ct2_cons (vl_1024 l) ck_RX1_45_1024 (ct2_cons (vl_1023 l) ck_RX1_45_1023 (ct2_cons (vl_1022 l) ck_RX1_45_1022 (ct2_cons (vl_46 l) ck_RX1_45_46 (ct2_cons (vl_1015 l) ck_RX1_19_1015 (ct2_nil)))))))))))
theorem vl_1029 (l : Launch) : Vld2 l vwCl gTbl con_1029 := conR_ok3 gT_all (hd_1029) rfl pn_RX1 tk_X1_ordersDecided bo_RX1 xo_RX1 (cto_1029 l) ch_1029 (cut_all cc_1029)
/-- RookHusting commonDivisor -/
noncomputable def gi_639 : GI := jl_n [jl_m 9223372036854775807 25600000000, jl_i 1 10000, jl_u]
noncomputable def con_1030 : Con2 := ((yX11_commonDivisor, cX11_commonDivisor, 7, (some .long)), (0, 0), ([(4, 0, 0), (4, 1, 0)], [((-9223372036854775808), 25600000000), (1, 10000)], [], []), [((4, 2, 0), gi_639, [], [], [4])])
theorem hd_1030 : con_1030.1 = (yX11_commonDivisor, cX11_commonDivisor, 7, (some .long)) := rfl
noncomputable def ct_1030 : CTB2 := []
noncomputable def gi_640 : GI := jl_n [jl_m 9223372036854775807 25600000000, jl_i 1 10000, jl_r 2 (jl_u), jl_i 0 100]
noncomputable def cu_1030 : List CUT2 := [((3, [(0, (4, 2, 0)), (2, (4, 3, 0)), (4, (1, 4, 0))], [], gi_640, []), [], ([(4, (-1))], 100))]
theorem ch_1030 : staG tb_X11_commonDivisor 1 bt_RX11 [] ct_1030 [] [] cu_1030 19 con_1030 = true := by decide +kernel
theorem cc_1030 : cu_1030.all (cutG tb_X11_commonDivisor 1 bt_RX11 [] ct_1030 [] [] cu_1030 19 con_1030) = true := by decide +kernel
theorem cto_1030 (l : Launch) : CTOK2 l RX11 vwCl gTbl ct_1030 := ct2_nil
theorem vl_1030 (l : Launch) : Vld2 l vwCl gTbl con_1030 := conR_ok3 gT_all (hd_1030) rfl pn_RX11 tk_X11_commonDivisor bo_RX11 xo_RX11 (cto_1030 l) ch_1030 (cut_all cc_1030)
/-- RookHusting partOf -/
noncomputable def gi_641 : GI := jl_n [jl_m 9223372036854775807 25600000000, jl_i 1 10000, jl_i 0 1, jl_u]
noncomputable def con_1031 : Con2 := ((yX11_partOf, cX11_partOf, 7, (some .long)), (1, 26), ([(4, 0, 0), (4, 1, 0), (1, 2, 0)], [((-9223372036854775808), 25600000000), (1, 10000), (0, 1)], [], []), [((4, 3, 0), gi_641, [], [], [4])])
theorem hd_1031 : con_1031.1 = (yX11_partOf, cX11_partOf, 7, (some .long)) := rfl
theorem ck_RX11_492_1030 : COK2 RX11 vwCl gTbl 492 1 con_1030 := ⟨wd_987, wd_125, mh_X11_commonDivisor, .inl ⟨rfl, wd_985, wd_986, pd_X11_commonDivisor⟩⟩
noncomputable def ct_1031 : CTB2 := [(2, 492, 1, con_1030, [])]
noncomputable def cu_1031 : List CUT2 := []
theorem ch_1031 : staG tb_X11_partOf 1 bt_RX11 [] ct_1031 [] [] cu_1031 16 con_1031 = true := by decide +kernel
theorem cto_1031 (l : Launch) : CTOK2 l RX11 vwCl gTbl ct_1031 := ct2_cons (vl_1030 l) ck_RX11_492_1030 (ct2_nil)
theorem vl_1031 (l : Launch) : Vld2 l vwCl gTbl con_1031 := conR_ok3 gT_all (hd_1031) rfl pn_RX11 tk_X11_partOf bo_RX11 xo_RX11 (cto_1031 l) ch_1031 cut_nil
/-- RookHusting isVoter -/
noncomputable def ac_569 : AC := .inl (4, jl_n [jl_8 27 7, jl_c 6, jl_8 37 9])
noncomputable def hq_543 : HP := [(false, ac_431), (false, .inl (9, [(6, 2, 0), (8, 19, 0)])), (false, ac_569)]
noncomputable def gi_642 : GI := jl_n [jl_z 1, jl_i 0 5, jl_z 36]
noncomputable def con_1032 : Con2 := ((yX11_isVoter, cX11_isVoter, 2, (some .boolean)), (0, 0), ([(6, 0, 0), (1, 1, 0)], gi_633, [ac_431, .inl (9, [(6, 2, 0), (8, 19, 0)]), ac_569], []), [((0, 0, 0), gi_634, hq_543, [], [1]), ((0, 1, 0), gi_642, hq_543, [], [1])])
theorem hd_1032 : con_1032.1 = (yX11_isVoter, cX11_isVoter, 2, (some .boolean)) := rfl
noncomputable def ct_1032 : CTB2 := []
noncomputable def cu_1032 : List CUT2 := []
theorem ch_1032 : staG tb_X11_isVoter 1 bt_RX11 [] ct_1032 [] [] cu_1032 13 con_1032 = true := by decide +kernel
theorem cto_1032 (l : Launch) : CTOK2 l RX11 vwCl gTbl ct_1032 := ct2_nil
theorem vl_1032 (l : Launch) : Vld2 l vwCl gTbl con_1032 := conR_ok3 gT_all (hd_1032) rfl pn_RX11 tk_X11_isVoter bo_RX11 xo_RX11 (cto_1032 l) ch_1032 cut_nil
/-- RookHusting hasBit -/
noncomputable def con_1033 : Con2 := ((yX11_hasBit, cX11_hasBit, 2, (some .boolean)), (0, 0), ([(0, 63, 0), (0, 5, 0)], [(0, 0), (0, 0)], [], []), [((0, 1, 0), [(0, 0), (0, 0), (0, 0)], [], [], [1])])
theorem hd_1033 : con_1033.1 = (yX11_hasBit, cX11_hasBit, 2, (some .boolean)) := rfl
noncomputable def ct_1033 : CTB2 := []
noncomputable def cu_1033 : List CUT2 := []
theorem ch_1033 : staG tb_X11_hasBit 1 bt_RX11 [] ct_1033 [] [] cu_1033 12 con_1033 = true := by decide +kernel
theorem cto_1033 (l : Launch) : CTOK2 l RX11 vwCl gTbl ct_1033 := ct2_nil
theorem vl_1033 (l : Launch) : Vld2 l vwCl gTbl con_1033 := conR_ok3 gT_all (hd_1033) rfl pn_RX11 tk_X11_hasBit bo_RX11 xo_RX11 (cto_1033 l) ch_1033 cut_nil
/-- RookHusting hasBit -/
noncomputable def con_1034 : Con2 := ((yX11_hasBit, cX11_hasBit, 2, (some .boolean)), (0, 0), ([(0, 63, 0), (0, 4, 0)], [(0, 0), (0, 0)], [], []), [((0, 1, 0), [(0, 0), (0, 0), (0, 0)], [], [], [1])])
theorem hd_1034 : con_1034.1 = (yX11_hasBit, cX11_hasBit, 2, (some .boolean)) := rfl
noncomputable def ct_1034 : CTB2 := []
noncomputable def cu_1034 : List CUT2 := []
theorem ch_1034 : staG tb_X11_hasBit 1 bt_RX11 [] ct_1034 [] [] cu_1034 12 con_1034 = true := by decide +kernel
theorem cto_1034 (l : Launch) : CTOK2 l RX11 vwCl gTbl ct_1034 := ct2_nil
theorem vl_1034 (l : Launch) : Vld2 l vwCl gTbl con_1034 := conR_ok3 gT_all (hd_1034) rfl pn_RX11 tk_X11_hasBit bo_RX11 xo_RX11 (cto_1034 l) ch_1034 cut_nil
/-- RookHusting hasBit -/
noncomputable def con_1035 : Con2 := ((yX11_hasBit, cX11_hasBit, 2, (some .boolean)), (0, 0), ([(0, 63, 0), (0, 3, 0)], [(0, 0), (0, 0)], [], []), [((0, 1, 0), [(0, 0), (0, 0), (0, 0)], [], [], [1])])
theorem hd_1035 : con_1035.1 = (yX11_hasBit, cX11_hasBit, 2, (some .boolean)) := rfl
noncomputable def ct_1035 : CTB2 := []
noncomputable def cu_1035 : List CUT2 := []
theorem ch_1035 : staG tb_X11_hasBit 1 bt_RX11 [] ct_1035 [] [] cu_1035 12 con_1035 = true := by decide +kernel
theorem cto_1035 (l : Launch) : CTOK2 l RX11 vwCl gTbl ct_1035 := ct2_nil
theorem vl_1035 (l : Launch) : Vld2 l vwCl gTbl con_1035 := conR_ok3 gT_all (hd_1035) rfl pn_RX11 tk_X11_hasBit bo_RX11 xo_RX11 (cto_1035 l) ch_1035 cut_nil
/-- RookHusting hasBit -/
noncomputable def con_1036 : Con2 := ((yX11_hasBit, cX11_hasBit, 2, (some .boolean)), (0, 0), ([(0, 63, 0), (0, 2, 0)], [(0, 0), (0, 0)], [], []), [((0, 1, 0), [(0, 0), (0, 0), (0, 0)], [], [], [1])])
theorem hd_1036 : con_1036.1 = (yX11_hasBit, cX11_hasBit, 2, (some .boolean)) := rfl
noncomputable def ct_1036 : CTB2 := []
noncomputable def cu_1036 : List CUT2 := []
theorem ch_1036 : staG tb_X11_hasBit 1 bt_RX11 [] ct_1036 [] [] cu_1036 12 con_1036 = true := by decide +kernel
theorem cto_1036 (l : Launch) : CTOK2 l RX11 vwCl gTbl ct_1036 := ct2_nil
theorem vl_1036 (l : Launch) : Vld2 l vwCl gTbl con_1036 := conR_ok3 gT_all (hd_1036) rfl pn_RX11 tk_X11_hasBit bo_RX11 xo_RX11 (cto_1036 l) ch_1036 cut_nil
/-- RookHusting hasBit -/
noncomputable def con_1037 : Con2 := ((yX11_hasBit, cX11_hasBit, 2, (some .boolean)), (0, 0), ([(0, 63, 0), (0, 1, 0)], [(0, 0), (0, 0)], [], []), [((0, 1, 0), [(0, 0), (0, 0), (0, 0)], [], [], [1])])
theorem hd_1037 : con_1037.1 = (yX11_hasBit, cX11_hasBit, 2, (some .boolean)) := rfl
noncomputable def ct_1037 : CTB2 := []
noncomputable def cu_1037 : List CUT2 := []
theorem ch_1037 : staG tb_X11_hasBit 1 bt_RX11 [] ct_1037 [] [] cu_1037 12 con_1037 = true := by decide +kernel
theorem cto_1037 (l : Launch) : CTOK2 l RX11 vwCl gTbl ct_1037 := ct2_nil
theorem vl_1037 (l : Launch) : Vld2 l vwCl gTbl con_1037 := conR_ok3 gT_all (hd_1037) rfl pn_RX11 tk_X11_hasBit bo_RX11 xo_RX11 (cto_1037 l) ch_1037 cut_nil
/-- RookHusting hasBit -/
noncomputable def con_1038 : Con2 := ((yX11_hasBit, cX11_hasBit, 2, (some .boolean)), (0, 0), ([(0, 63, 0), (0, 0, 0)], [(0, 0), (0, 0)], [], []), [((0, 1, 0), [(0, 0), (0, 0), (0, 0)], [], [], [1])])
theorem hd_1038 : con_1038.1 = (yX11_hasBit, cX11_hasBit, 2, (some .boolean)) := rfl
noncomputable def ct_1038 : CTB2 := []
noncomputable def cu_1038 : List CUT2 := []
theorem ch_1038 : staG tb_X11_hasBit 1 bt_RX11 [] ct_1038 [] [] cu_1038 12 con_1038 = true := by decide +kernel
theorem cto_1038 (l : Launch) : CTOK2 l RX11 vwCl gTbl ct_1038 := ct2_nil
theorem vl_1038 (l : Launch) : Vld2 l vwCl gTbl con_1038 := conR_ok3 gT_all (hd_1038) rfl pn_RX11 tk_X11_hasBit bo_RX11 xo_RX11 (cto_1038 l) ch_1038 cut_nil
/-- RookHusting$Election ordersDecided -/
noncomputable def gi_643 : GI := jl_n [jl_z 1, jl_i 0 5, jl_z 19]
noncomputable def ac_570 : AC := .inl (4, jl_n [jl_8 11 7, jl_c 6, jl_8 17 5, jl_6 3 1, jl_8 21 3])
noncomputable def hc_134 : List AC := [.inl (1, [(6, 1, 0), (8, 3, 0)]), ac_570, .inr (1, [(7, (2, 0, 9))])]
noncomputable def gi_644 : GI := jl_n [jl_z 1, jl_i 0 5, jl_z 19, jl_t]
noncomputable def hq_544 : HP := [(false, .inl (1, [(6, 1, 0), (8, 3, 0)])), (false, ac_570), (false, .inr (1, [(7, (2, 0, 9))]))]
noncomputable def con_1039 : Con2 := ((yX1_ordersDecided, cX1_ordersDecided, 8, (some .int)), (2, 44), ([(6, 0, 0), (1, 1, 0)], gi_643, hc_134, []), [((1, 21, 0), gi_644, hq_544, [], [1])])
theorem hd_1039 : con_1039.1 = (yX1_ordersDecided, cX1_ordersDecided, 8, (some .int)) := rfl
theorem ck_RX1_45_1033 : COK2 RX1 vwCl gTbl 45 2 con_1033 := ⟨wd_682, wd_125, mh_X11_hasBit, .inr (.inl ⟨rfl, by decide +kernel, wd_681, pd_X11_hasBit⟩)⟩
theorem ck_RX1_45_1034 : COK2 RX1 vwCl gTbl 45 2 con_1034 := ⟨wd_682, wd_125, mh_X11_hasBit, .inr (.inl ⟨rfl, by decide +kernel, wd_681, pd_X11_hasBit⟩)⟩
theorem ck_RX1_45_1035 : COK2 RX1 vwCl gTbl 45 2 con_1035 := ⟨wd_682, wd_125, mh_X11_hasBit, .inr (.inl ⟨rfl, by decide +kernel, wd_681, pd_X11_hasBit⟩)⟩
theorem ck_RX1_45_1036 : COK2 RX1 vwCl gTbl 45 2 con_1036 := ⟨wd_682, wd_125, mh_X11_hasBit, .inr (.inl ⟨rfl, by decide +kernel, wd_681, pd_X11_hasBit⟩)⟩
theorem ck_RX1_45_1037 : COK2 RX1 vwCl gTbl 45 2 con_1037 := ⟨wd_682, wd_125, mh_X11_hasBit, .inr (.inl ⟨rfl, by decide +kernel, wd_681, pd_X11_hasBit⟩)⟩
theorem ck_RX1_45_1038 : COK2 RX1 vwCl gTbl 45 2 con_1038 := ⟨wd_682, wd_125, mh_X11_hasBit, .inr (.inl ⟨rfl, by decide +kernel, wd_681, pd_X11_hasBit⟩)⟩
noncomputable def ct_1039 : CTB2 := [(14, 84, 0, con_927, [0, 1, 2]), (34, 84, 0, con_927, [0, 1, 2]), (43, 45, 2, con_1038, []), (43, 45, 2, con_1037, []), (43, 45, 2, con_1036, []), (43, 45, 2, con_1035, []), (43, 45, 2, con_1034, []), (43, 45, 2, con_1033, []), (43, 45, 2, con_46, []), (75, 19, 1, con_1015, [])]
noncomputable def rf_1039 : List (Nat × List POP) := [(40, [(2, (1, 5, 0), 63, 0), (1, (1, 1, 0), 0, 0)])]
noncomputable def gi_645 : GI := jl_n [jl_z 1, jl_i 0 5, jl_z 20, jl_i 0 5, jl_z 1, jl_r 2 (jl_t), jl_i 0 64]
noncomputable def cu_1039 : List CUT2 := [((24, [(0, (6, 0, 0)), (1, (1, 22, 0)), (2, (0, 63, 0)), (3, (1, 24, 0)), (4, (1, 25, 0)), (5, (1, 26, 0))], [], gi_645, hq_544), [], ([(26, (-1))], 64))]
theorem ch_1039 : staG tb_X1_ordersDecided 1 bt_RX1 [] ct_1039 rf_1039 [] cu_1039 51 con_1039 = true := by decide +kernel
theorem cc_1039 : cu_1039.all (cutG tb_X1_ordersDecided 1 bt_RX1 [] ct_1039 rf_1039 [] cu_1039 51 con_1039) = true := by decide +kernel
theorem cto_1039 (l : Launch) : CTOK2 l RX1 vwCl gTbl ct_1039 := ct2_cons (vl_927 l) ck_RX1_84_927 (ct2_cons (vl_927 l) ck_RX1_84_927 (ct2_cons (vl_1038 l) ck_RX1_45_1038 (ct2_cons (vl_1037 l) ck_RX1_45_1037 (ct2_cons (vl_1036 l) ck_RX1_45_1036 (ct2_cons (vl_1035 l) ck_RX1_45_1035 (ct2_cons (vl_1034 l) ck_RX1_45_1034 (ct2_cons (vl_1033 l) ck_RX1_45_1033 (ct2_cons (vl_46 l) ck_RX1_45_46 (ct2_cons (vl_1015 l) ck_RX1_19_1015 (ct2_nil))))))))))
theorem vl_1039 (l : Launch) : Vld2 l vwCl gTbl con_1039 := conR_ok3 gT_all (hd_1039) rfl pn_RX1 tk_X1_ordersDecided bo_RX1 xo_RX1 (cto_1039 l) ch_1039 (cut_all cc_1039)
/-- RookHusting isVoter -/
noncomputable def ac_571 : AC := .inl (4, jl_n [jl_8 27 7, jl_c 5, jl_8 37 9])
noncomputable def hq_545 : HP := [(false, ac_431), (false, .inl (9, [(6, 2, 0), (8, 19, 0)])), (false, ac_571)]
noncomputable def gi_646 : GI := jl_n [jl_z 1, jl_i 0 4, jl_z 36]
noncomputable def con_1040 : Con2 := ((yX11_isVoter, cX11_isVoter, 2, (some .boolean)), (0, 0), ([(6, 0, 0), (1, 1, 0)], gi_633, [ac_431, .inl (9, [(6, 2, 0), (8, 19, 0)]), ac_571], []), [((0, 0, 0), gi_634, hq_545, [], [1]), ((0, 1, 0), gi_646, hq_545, [], [1])])
theorem hd_1040 : con_1040.1 = (yX11_isVoter, cX11_isVoter, 2, (some .boolean)) := rfl
noncomputable def ct_1040 : CTB2 := []
noncomputable def cu_1040 : List CUT2 := []
theorem ch_1040 : staG tb_X11_isVoter 1 bt_RX11 [] ct_1040 [] [] cu_1040 13 con_1040 = true := by decide +kernel
theorem cto_1040 (l : Launch) : CTOK2 l RX11 vwCl gTbl ct_1040 := ct2_nil
theorem vl_1040 (l : Launch) : Vld2 l vwCl gTbl con_1040 := conR_ok3 gT_all (hd_1040) rfl pn_RX11 tk_X11_isVoter bo_RX11 xo_RX11 (cto_1040 l) ch_1040 cut_nil
/-- RookHusting$Election ordersDecided -/
noncomputable def ac_572 : AC := .inl (4, jl_n [jl_8 11 7, jl_c 5, jl_8 17 5, jl_6 3 1, jl_8 21 3])
noncomputable def hc_135 : List AC := [.inl (1, [(6, 1, 0), (8, 3, 0)]), ac_572, .inr (1, [(7, (2, 0, 9))])]
noncomputable def gi_647 : GI := jl_n [jl_z 1, jl_i 0 4, jl_z 19, jl_t]
noncomputable def hq_546 : HP := [(false, .inl (1, [(6, 1, 0), (8, 3, 0)])), (false, ac_572), (false, .inr (1, [(7, (2, 0, 9))]))]
noncomputable def con_1041 : Con2 := ((yX1_ordersDecided, cX1_ordersDecided, 8, (some .int)), (2, 44), ([(6, 0, 0), (1, 1, 0)], gi_91, hc_135, []), [((1, 21, 0), gi_647, hq_546, [], [1])])
theorem hd_1041 : con_1041.1 = (yX1_ordersDecided, cX1_ordersDecided, 8, (some .int)) := rfl
theorem ck_RX1_45_257 : COK2 RX1 vwCl gTbl 45 2 con_257 := ⟨wd_682, wd_125, mh_X11_hasBit, .inr (.inl ⟨rfl, by decide +kernel, wd_681, pd_X11_hasBit⟩)⟩
theorem ck_RX1_45_258 : COK2 RX1 vwCl gTbl 45 2 con_258 := ⟨wd_682, wd_125, mh_X11_hasBit, .inr (.inl ⟨rfl, by decide +kernel, wd_681, pd_X11_hasBit⟩)⟩
theorem ck_RX1_45_259 : COK2 RX1 vwCl gTbl 45 2 con_259 := ⟨wd_682, wd_125, mh_X11_hasBit, .inr (.inl ⟨rfl, by decide +kernel, wd_681, pd_X11_hasBit⟩)⟩
theorem ck_RX1_45_260 : COK2 RX1 vwCl gTbl 45 2 con_260 := ⟨wd_682, wd_125, mh_X11_hasBit, .inr (.inl ⟨rfl, by decide +kernel, wd_681, pd_X11_hasBit⟩)⟩
theorem ck_RX1_45_261 : COK2 RX1 vwCl gTbl 45 2 con_261 := ⟨wd_682, wd_125, mh_X11_hasBit, .inr (.inl ⟨rfl, by decide +kernel, wd_681, pd_X11_hasBit⟩)⟩
noncomputable def ct_1041 : CTB2 := [(14, 84, 0, con_927, [0, 1, 2]), (34, 84, 0, con_927, [0, 1, 2]), (43, 45, 2, con_261, []), (43, 45, 2, con_260, []), (43, 45, 2, con_259, []), (43, 45, 2, con_258, []), (43, 45, 2, con_257, []), (43, 45, 2, con_46, []), (75, 19, 1, con_1015, [])]
noncomputable def rf_1041 : List (Nat × List POP) := [(40, [(2, (1, 5, 0), 31, 0), (1, (1, 1, 0), 0, 0)])]
noncomputable def gi_648 : GI := jl_n [jl_z 1, jl_i 0 4, jl_z 20, jl_i 0 4, jl_z 1, jl_r 2 (jl_t), jl_i 0 32]
noncomputable def cu_1041 : List CUT2 := [((24, [(0, (6, 0, 0)), (1, (1, 22, 0)), (2, (0, 31, 0)), (3, (1, 24, 0)), (4, (1, 25, 0)), (5, (1, 26, 0))], [], gi_648, hq_546), [], ([(26, (-1))], 32))]
theorem ch_1041 : staG tb_X1_ordersDecided 1 bt_RX1 [] ct_1041 rf_1041 [] cu_1041 51 con_1041 = true := by decide +kernel
theorem cc_1041 : cu_1041.all (cutG tb_X1_ordersDecided 1 bt_RX1 [] ct_1041 rf_1041 [] cu_1041 51 con_1041) = true := by decide +kernel
theorem cto_1041 (l : Launch) : CTOK2 l RX1 vwCl gTbl ct_1041 := ct2_cons (vl_927 l) ck_RX1_84_927 (ct2_cons (vl_927 l) ck_RX1_84_927 (ct2_cons (vl_261 l) ck_RX1_45_261 (ct2_cons (vl_260 l) ck_RX1_45_260 (ct2_cons (vl_259 l) ck_RX1_45_259 (ct2_cons (vl_258 l) ck_RX1_45_258 (ct2_cons (vl_257 l) ck_RX1_45_257 (ct2_cons (vl_46 l) ck_RX1_45_46 (ct2_cons (vl_1015 l) ck_RX1_19_1015 (ct2_nil)))))))))
theorem vl_1041 (l : Launch) : Vld2 l vwCl gTbl con_1041 := conR_ok3 gT_all (hd_1041) rfl pn_RX1 tk_X1_ordersDecided bo_RX1 xo_RX1 (cto_1041 l) ch_1041 (cut_all cc_1041)
/-- RookHusting isVoter -/
noncomputable def ac_573 : AC := .inl (4, jl_n [jl_8 27 7, jl_c 4, jl_8 37 9])
noncomputable def hq_547 : HP := [(false, ac_431), (false, .inl (9, [(6, 2, 0), (8, 19, 0)])), (false, ac_573)]
noncomputable def gi_649 : GI := jl_n [jl_z 1, jl_i 0 3, jl_z 36]
noncomputable def con_1042 : Con2 := ((yX11_isVoter, cX11_isVoter, 2, (some .boolean)), (0, 0), ([(6, 0, 0), (1, 1, 0)], gi_633, [ac_431, .inl (9, [(6, 2, 0), (8, 19, 0)]), ac_573], []), [((0, 0, 0), gi_634, hq_547, [], [1]), ((0, 1, 0), gi_649, hq_547, [], [1])])
theorem hd_1042 : con_1042.1 = (yX11_isVoter, cX11_isVoter, 2, (some .boolean)) := rfl
noncomputable def ct_1042 : CTB2 := []
noncomputable def cu_1042 : List CUT2 := []
theorem ch_1042 : staG tb_X11_isVoter 1 bt_RX11 [] ct_1042 [] [] cu_1042 13 con_1042 = true := by decide +kernel
theorem cto_1042 (l : Launch) : CTOK2 l RX11 vwCl gTbl ct_1042 := ct2_nil
theorem vl_1042 (l : Launch) : Vld2 l vwCl gTbl con_1042 := conR_ok3 gT_all (hd_1042) rfl pn_RX11 tk_X11_isVoter bo_RX11 xo_RX11 (cto_1042 l) ch_1042 cut_nil
/-- RookHusting$Election ordersDecided -/
noncomputable def gi_650 : GI := jl_n [jl_z 1, jl_i 0 3, jl_z 19]
noncomputable def ac_574 : AC := .inl (4, jl_n [jl_8 11 7, jl_c 4, jl_8 17 5, jl_6 3 1, jl_8 21 3])
noncomputable def hc_136 : List AC := [.inl (1, [(6, 1, 0), (8, 3, 0)]), ac_574, .inr (1, [(7, (2, 0, 9))])]
noncomputable def gi_651 : GI := jl_n [jl_z 1, jl_i 0 3, jl_z 19, jl_t]
noncomputable def hq_548 : HP := [(false, .inl (1, [(6, 1, 0), (8, 3, 0)])), (false, ac_574), (false, .inr (1, [(7, (2, 0, 9))]))]
noncomputable def con_1043 : Con2 := ((yX1_ordersDecided, cX1_ordersDecided, 8, (some .int)), (2, 44), ([(6, 0, 0), (1, 1, 0)], gi_650, hc_136, []), [((1, 21, 0), gi_651, hq_548, [], [1])])
theorem hd_1043 : con_1043.1 = (yX1_ordersDecided, cX1_ordersDecided, 8, (some .int)) := rfl
theorem ck_RX1_45_252 : COK2 RX1 vwCl gTbl 45 2 con_252 := ⟨wd_682, wd_125, mh_X11_hasBit, .inr (.inl ⟨rfl, by decide +kernel, wd_681, pd_X11_hasBit⟩)⟩
theorem ck_RX1_45_253 : COK2 RX1 vwCl gTbl 45 2 con_253 := ⟨wd_682, wd_125, mh_X11_hasBit, .inr (.inl ⟨rfl, by decide +kernel, wd_681, pd_X11_hasBit⟩)⟩
theorem ck_RX1_45_254 : COK2 RX1 vwCl gTbl 45 2 con_254 := ⟨wd_682, wd_125, mh_X11_hasBit, .inr (.inl ⟨rfl, by decide +kernel, wd_681, pd_X11_hasBit⟩)⟩
theorem ck_RX1_45_255 : COK2 RX1 vwCl gTbl 45 2 con_255 := ⟨wd_682, wd_125, mh_X11_hasBit, .inr (.inl ⟨rfl, by decide +kernel, wd_681, pd_X11_hasBit⟩)⟩
noncomputable def ct_1043 : CTB2 := [(14, 84, 0, con_927, [0, 1, 2]), (34, 84, 0, con_927, [0, 1, 2]), (43, 45, 2, con_255, []), (43, 45, 2, con_254, []), (43, 45, 2, con_253, []), (43, 45, 2, con_252, []), (43, 45, 2, con_46, []), (75, 19, 1, con_1015, [])]
noncomputable def rf_1043 : List (Nat × List POP) := [(40, [(2, (1, 5, 0), 15, 0), (1, (1, 1, 0), 0, 0)])]
noncomputable def gi_652 : GI := jl_n [jl_z 1, jl_i 0 3, jl_z 20, jl_i 0 3, jl_z 1, jl_r 2 (jl_t), jl_i 0 16]
noncomputable def cu_1043 : List CUT2 := [((24, [(0, (6, 0, 0)), (1, (1, 22, 0)), (2, (0, 15, 0)), (3, (1, 24, 0)), (4, (1, 25, 0)), (5, (1, 26, 0))], [], gi_652, hq_548), [], ([(26, (-1))], 16))]
theorem ch_1043 : staG tb_X1_ordersDecided 1 bt_RX1 [] ct_1043 rf_1043 [] cu_1043 51 con_1043 = true := by decide +kernel
theorem cc_1043 : cu_1043.all (cutG tb_X1_ordersDecided 1 bt_RX1 [] ct_1043 rf_1043 [] cu_1043 51 con_1043) = true := by decide +kernel
theorem cto_1043 (l : Launch) : CTOK2 l RX1 vwCl gTbl ct_1043 := ct2_cons (vl_927 l) ck_RX1_84_927 (ct2_cons (vl_927 l) ck_RX1_84_927 (ct2_cons (vl_255 l) ck_RX1_45_255 (ct2_cons (vl_254 l) ck_RX1_45_254 (ct2_cons (vl_253 l) ck_RX1_45_253 (ct2_cons (vl_252 l) ck_RX1_45_252 (ct2_cons (vl_46 l) ck_RX1_45_46 (ct2_cons (vl_1015 l) ck_RX1_19_1015 (ct2_nil))))))))
theorem vl_1043 (l : Launch) : Vld2 l vwCl gTbl con_1043 := conR_ok3 gT_all (hd_1043) rfl pn_RX1 tk_X1_ordersDecided bo_RX1 xo_RX1 (cto_1043 l) ch_1043 (cut_all cc_1043)
/-- RookHusting isVoter -/
noncomputable def ac_575 : AC := .inl (4, jl_n [jl_8 27 7, jl_c 3, jl_8 37 9])
noncomputable def hq_549 : HP := [(false, ac_431), (false, .inl (9, [(6, 2, 0), (8, 19, 0)])), (false, ac_575)]
noncomputable def gi_653 : GI := jl_n [jl_z 1, jl_i 0 2, jl_z 36]
noncomputable def con_1044 : Con2 := ((yX11_isVoter, cX11_isVoter, 2, (some .boolean)), (0, 0), ([(6, 0, 0), (1, 1, 0)], gi_633, [ac_431, .inl (9, [(6, 2, 0), (8, 19, 0)]), ac_575], []), [((0, 0, 0), gi_634, hq_549, [], [1]), ((0, 1, 0), gi_653, hq_549, [], [1])])
theorem hd_1044 : con_1044.1 = (yX11_isVoter, cX11_isVoter, 2, (some .boolean)) := rfl
noncomputable def ct_1044 : CTB2 := []
noncomputable def cu_1044 : List CUT2 := []
theorem ch_1044 : staG tb_X11_isVoter 1 bt_RX11 [] ct_1044 [] [] cu_1044 13 con_1044 = true := by decide +kernel
theorem cto_1044 (l : Launch) : CTOK2 l RX11 vwCl gTbl ct_1044 := ct2_nil
theorem vl_1044 (l : Launch) : Vld2 l vwCl gTbl con_1044 := conR_ok3 gT_all (hd_1044) rfl pn_RX11 tk_X11_isVoter bo_RX11 xo_RX11 (cto_1044 l) ch_1044 cut_nil
/-- RookHusting$Election ordersDecided -/
noncomputable def gi_654 : GI := jl_n [jl_z 1, jl_i 0 2, jl_z 19]
noncomputable def ac_576 : AC := .inl (4, jl_n [jl_8 11 7, jl_c 3, jl_8 17 5, jl_6 3 1, jl_8 21 3])
noncomputable def hc_137 : List AC := [.inl (1, [(6, 1, 0), (8, 3, 0)]), ac_576, .inr (1, [(7, (2, 0, 9))])]
noncomputable def gi_655 : GI := jl_n [jl_z 1, jl_i 0 2, jl_z 19, jl_t]
noncomputable def hq_550 : HP := [(false, .inl (1, [(6, 1, 0), (8, 3, 0)])), (false, ac_576), (false, .inr (1, [(7, (2, 0, 9))]))]
noncomputable def con_1045 : Con2 := ((yX1_ordersDecided, cX1_ordersDecided, 8, (some .int)), (2, 44), ([(6, 0, 0), (1, 1, 0)], gi_654, hc_137, []), [((1, 21, 0), gi_655, hq_550, [], [1])])
theorem hd_1045 : con_1045.1 = (yX1_ordersDecided, cX1_ordersDecided, 8, (some .int)) := rfl
theorem ck_RX1_45_222 : COK2 RX1 vwCl gTbl 45 2 con_222 := ⟨wd_682, wd_125, mh_X11_hasBit, .inr (.inl ⟨rfl, by decide +kernel, wd_681, pd_X11_hasBit⟩)⟩
theorem ck_RX1_45_223 : COK2 RX1 vwCl gTbl 45 2 con_223 := ⟨wd_682, wd_125, mh_X11_hasBit, .inr (.inl ⟨rfl, by decide +kernel, wd_681, pd_X11_hasBit⟩)⟩
theorem ck_RX1_45_224 : COK2 RX1 vwCl gTbl 45 2 con_224 := ⟨wd_682, wd_125, mh_X11_hasBit, .inr (.inl ⟨rfl, by decide +kernel, wd_681, pd_X11_hasBit⟩)⟩
noncomputable def ct_1045 : CTB2 := [(14, 84, 0, con_927, [0, 1, 2]), (34, 84, 0, con_927, [0, 1, 2]), (43, 45, 2, con_224, []), (43, 45, 2, con_223, []), (43, 45, 2, con_222, []), (43, 45, 2, con_46, []), (75, 19, 1, con_1015, [])]
noncomputable def rf_1045 : List (Nat × List POP) := [(40, [(2, (1, 5, 0), 7, 0), (1, (1, 1, 0), 0, 0)])]
noncomputable def gi_656 : GI := jl_n [jl_z 1, jl_i 0 2, jl_z 20, jl_i 0 2, jl_z 1, jl_r 2 (jl_t), jl_i 0 8]
noncomputable def cu_1045 : List CUT2 := [((24, [(0, (6, 0, 0)), (1, (1, 22, 0)), (2, (0, 7, 0)), (3, (1, 24, 0)), (4, (1, 25, 0)), (5, (1, 26, 0))], [], gi_656, hq_550), [], ([(26, (-1))], 8))]
theorem ch_1045 : staG tb_X1_ordersDecided 1 bt_RX1 [] ct_1045 rf_1045 [] cu_1045 51 con_1045 = true := by decide +kernel
theorem cc_1045 : cu_1045.all (cutG tb_X1_ordersDecided 1 bt_RX1 [] ct_1045 rf_1045 [] cu_1045 51 con_1045) = true := by decide +kernel
theorem cto_1045 (l : Launch) : CTOK2 l RX1 vwCl gTbl ct_1045 := ct2_cons (vl_927 l) ck_RX1_84_927 (ct2_cons (vl_927 l) ck_RX1_84_927 (ct2_cons (vl_224 l) ck_RX1_45_224 (ct2_cons (vl_223 l) ck_RX1_45_223 (ct2_cons (vl_222 l) ck_RX1_45_222 (ct2_cons (vl_46 l) ck_RX1_45_46 (ct2_cons (vl_1015 l) ck_RX1_19_1015 (ct2_nil)))))))
theorem vl_1045 (l : Launch) : Vld2 l vwCl gTbl con_1045 := conR_ok3 gT_all (hd_1045) rfl pn_RX1 tk_X1_ordersDecided bo_RX1 xo_RX1 (cto_1045 l) ch_1045 (cut_all cc_1045)
/-- RookHusting isVoter -/
noncomputable def ac_577 : AC := .inl (4, jl_n [jl_8 27 7, jl_c 2, jl_8 37 9])
noncomputable def hq_551 : HP := [(false, ac_431), (false, .inl (9, [(6, 2, 0), (8, 19, 0)])), (false, ac_577)]
noncomputable def gi_657 : GI := jl_n [jl_z 1, jl_i 0 1, jl_z 36]
noncomputable def con_1046 : Con2 := ((yX11_isVoter, cX11_isVoter, 2, (some .boolean)), (0, 0), ([(6, 0, 0), (1, 1, 0)], gi_633, [ac_431, .inl (9, [(6, 2, 0), (8, 19, 0)]), ac_577], []), [((0, 0, 0), gi_634, hq_551, [], [1]), ((0, 1, 0), gi_657, hq_551, [], [1])])
theorem hd_1046 : con_1046.1 = (yX11_isVoter, cX11_isVoter, 2, (some .boolean)) := rfl
noncomputable def ct_1046 : CTB2 := []
noncomputable def cu_1046 : List CUT2 := []
theorem ch_1046 : staG tb_X11_isVoter 1 bt_RX11 [] ct_1046 [] [] cu_1046 13 con_1046 = true := by decide +kernel
theorem cto_1046 (l : Launch) : CTOK2 l RX11 vwCl gTbl ct_1046 := ct2_nil
theorem vl_1046 (l : Launch) : Vld2 l vwCl gTbl con_1046 := conR_ok3 gT_all (hd_1046) rfl pn_RX11 tk_X11_isVoter bo_RX11 xo_RX11 (cto_1046 l) ch_1046 cut_nil
/-- RookHusting$Election ordersDecided -/
noncomputable def gi_658 : GI := jl_n [jl_z 1, jl_i 0 1, jl_z 19]
noncomputable def ac_578 : AC := .inl (4, jl_n [jl_8 11 7, jl_c 2, jl_8 17 5, jl_6 3 1, jl_8 21 3])
noncomputable def hc_138 : List AC := [.inl (1, [(6, 1, 0), (8, 3, 0)]), ac_578, .inr (1, [(7, (2, 0, 9))])]
noncomputable def gi_659 : GI := jl_n [jl_z 1, jl_i 0 1, jl_z 19, jl_t]
noncomputable def hq_552 : HP := [(false, .inl (1, [(6, 1, 0), (8, 3, 0)])), (false, ac_578), (false, .inr (1, [(7, (2, 0, 9))]))]
noncomputable def con_1047 : Con2 := ((yX1_ordersDecided, cX1_ordersDecided, 8, (some .int)), (2, 44), ([(6, 0, 0), (1, 1, 0)], gi_658, hc_138, []), [((1, 21, 0), gi_659, hq_552, [], [1])])
theorem hd_1047 : con_1047.1 = (yX1_ordersDecided, cX1_ordersDecided, 8, (some .int)) := rfl
theorem ck_RX1_45_162 : COK2 RX1 vwCl gTbl 45 2 con_162 := ⟨wd_682, wd_125, mh_X11_hasBit, .inr (.inl ⟨rfl, by decide +kernel, wd_681, pd_X11_hasBit⟩)⟩
theorem ck_RX1_45_163 : COK2 RX1 vwCl gTbl 45 2 con_163 := ⟨wd_682, wd_125, mh_X11_hasBit, .inr (.inl ⟨rfl, by decide +kernel, wd_681, pd_X11_hasBit⟩)⟩
noncomputable def ct_1047 : CTB2 := [(14, 84, 0, con_927, [0, 1, 2]), (34, 84, 0, con_927, [0, 1, 2]), (43, 45, 2, con_163, []), (43, 45, 2, con_162, []), (43, 45, 2, con_46, []), (75, 19, 1, con_1015, [])]
noncomputable def rf_1047 : List (Nat × List POP) := [(40, [(2, (1, 5, 0), 3, 0), (1, (1, 1, 0), 0, 0)])]
noncomputable def gi_660 : GI := jl_n [jl_z 1, jl_i 0 1, jl_z 20, jl_i 0 1, jl_z 1, jl_r 2 (jl_t), jl_i 0 4]
noncomputable def cu_1047 : List CUT2 := [((24, [(0, (6, 0, 0)), (1, (1, 22, 0)), (2, (0, 3, 0)), (3, (1, 24, 0)), (4, (1, 25, 0)), (5, (1, 26, 0))], [], gi_660, hq_552), [], ([(26, (-1))], 4))]
theorem ch_1047 : staG tb_X1_ordersDecided 1 bt_RX1 [] ct_1047 rf_1047 [] cu_1047 51 con_1047 = true := by decide +kernel
theorem cc_1047 : cu_1047.all (cutG tb_X1_ordersDecided 1 bt_RX1 [] ct_1047 rf_1047 [] cu_1047 51 con_1047) = true := by decide +kernel
theorem cto_1047 (l : Launch) : CTOK2 l RX1 vwCl gTbl ct_1047 := ct2_cons (vl_927 l) ck_RX1_84_927 (ct2_cons (vl_927 l) ck_RX1_84_927 (ct2_cons (vl_163 l) ck_RX1_45_163 (ct2_cons (vl_162 l) ck_RX1_45_162 (ct2_cons (vl_46 l) ck_RX1_45_46 (ct2_cons (vl_1015 l) ck_RX1_19_1015 (ct2_nil))))))
theorem vl_1047 (l : Launch) : Vld2 l vwCl gTbl con_1047 := conR_ok3 gT_all (hd_1047) rfl pn_RX1 tk_X1_ordersDecided bo_RX1 xo_RX1 (cto_1047 l) ch_1047 (cut_all cc_1047)
/-- RookHusting isVoter -/
noncomputable def ac_579 : AC := .inl (4, jl_n [jl_8 27 7, jl_c 1, jl_8 37 9])
noncomputable def hq_553 : HP := [(false, ac_431), (false, .inl (9, [(6, 2, 0), (8, 19, 0)])), (false, ac_579)]
noncomputable def gi_661 : GI := jl_n [jl_z 38]
noncomputable def con_1048 : Con2 := ((yX11_isVoter, cX11_isVoter, 2, (some .boolean)), (0, 0), ([(6, 0, 0), (1, 1, 0)], gi_633, [ac_431, .inl (9, [(6, 2, 0), (8, 19, 0)]), ac_579], []), [((0, 0, 0), gi_634, hq_553, [], [1]), ((0, 1, 0), gi_661, hq_553, [], [1])])
theorem hd_1048 : con_1048.1 = (yX11_isVoter, cX11_isVoter, 2, (some .boolean)) := rfl
noncomputable def ct_1048 : CTB2 := []
noncomputable def cu_1048 : List CUT2 := []
theorem ch_1048 : staG tb_X11_isVoter 1 bt_RX11 [] ct_1048 [] [] cu_1048 13 con_1048 = true := by decide +kernel
theorem cto_1048 (l : Launch) : CTOK2 l RX11 vwCl gTbl ct_1048 := ct2_nil
theorem vl_1048 (l : Launch) : Vld2 l vwCl gTbl con_1048 := conR_ok3 gT_all (hd_1048) rfl pn_RX11 tk_X11_isVoter bo_RX11 xo_RX11 (cto_1048 l) ch_1048 cut_nil
/-- RookHusting$Election ordersDecided -/
noncomputable def gi_662 : GI := jl_n [jl_z 21]
noncomputable def ac_580 : AC := .inl (4, jl_n [jl_8 11 7, jl_c 1, jl_8 17 5, jl_6 3 1, jl_8 21 3])
noncomputable def hc_139 : List AC := [.inl (1, [(6, 1, 0), (8, 3, 0)]), ac_580, .inr (1, [(7, (2, 0, 9))])]
noncomputable def gi_663 : GI := jl_n [jl_z 21, jl_t]
noncomputable def hq_554 : HP := [(false, .inl (1, [(6, 1, 0), (8, 3, 0)])), (false, ac_580), (false, .inr (1, [(7, (2, 0, 9))]))]
noncomputable def con_1049 : Con2 := ((yX1_ordersDecided, cX1_ordersDecided, 8, (some .int)), (2, 44), ([(6, 0, 0), (0, 0, 0)], gi_662, hc_139, []), [((1, 21, 0), gi_663, hq_554, [], [1])])
theorem hd_1049 : con_1049.1 = (yX1_ordersDecided, cX1_ordersDecided, 8, (some .int)) := rfl
theorem ck_RX1_45_57 : COK2 RX1 vwCl gTbl 45 2 con_57 := ⟨wd_682, wd_125, mh_X11_hasBit, .inr (.inl ⟨rfl, by decide +kernel, wd_681, pd_X11_hasBit⟩)⟩
theorem ck_RX1_45_1021 : COK2 RX1 vwCl gTbl 45 2 con_1021 := ⟨wd_682, wd_125, mh_X11_hasBit, .inr (.inl ⟨rfl, by decide +kernel, wd_681, pd_X11_hasBit⟩)⟩
noncomputable def ct_1049 : CTB2 := [(14, 84, 0, con_927, [0, 1, 2]), (34, 84, 0, con_927, [0, 1, 2]), (43, 45, 2, con_1021, []), (43, 45, 2, con_57, []), (75, 19, 1, con_1015, [])]
noncomputable def rf_1049 : List (Nat × List POP) := [(40, [(2, (1, 5, 0), 1, 0), (1, (1, 1, 0), 0, 0)])]
noncomputable def gi_664 : GI := jl_n [jl_z 24, jl_r 2 (jl_t), jl_i 0 2]
noncomputable def cu_1049 : List CUT2 := [((24, [(0, (6, 0, 0)), (1, (0, 0, 0)), (2, (0, 1, 0)), (3, (1, 24, 0)), (4, (1, 25, 0)), (5, (1, 26, 0))], [], gi_664, hq_554), [], ([(26, (-1))], 2))]
theorem ch_1049 : staG tb_X1_ordersDecided 1 bt_RX1 [] ct_1049 rf_1049 [] cu_1049 51 con_1049 = true := by decide +kernel
theorem cc_1049 : cu_1049.all (cutG tb_X1_ordersDecided 1 bt_RX1 [] ct_1049 rf_1049 [] cu_1049 51 con_1049) = true := by decide +kernel
theorem cto_1049 (l : Launch) : CTOK2 l RX1 vwCl gTbl ct_1049 := ct2_cons (vl_927 l) ck_RX1_84_927 (ct2_cons (vl_927 l) ck_RX1_84_927 (ct2_cons (vl_1021 l) ck_RX1_45_1021 (ct2_cons (vl_57 l) ck_RX1_45_57 (ct2_cons (vl_1015 l) ck_RX1_19_1015 (ct2_nil)))))
theorem vl_1049 (l : Launch) : Vld2 l vwCl gTbl con_1049 := conR_ok3 gT_all (hd_1049) rfl pn_RX1 tk_X1_ordersDecided bo_RX1 xo_RX1 (cto_1049 l) ch_1049 (cut_all cc_1049)
/-- RookHusting isVoter -/
noncomputable def ac_581 : AC := .inl (4, jl_n [jl_8 27 7, jl_c 0, jl_8 37 9])
noncomputable def hq_555 : HP := [(false, ac_431), (false, .inl (9, [(6, 2, 0), (8, 19, 0)])), (false, ac_581)]
noncomputable def con_1050 : Con2 := ((yX11_isVoter, cX11_isVoter, 2, (some .boolean)), (0, 0), ([(6, 0, 0), (1, 1, 0)], gi_633, [ac_431, .inl (9, [(6, 2, 0), (8, 19, 0)]), ac_581], []), [((0, 0, 0), gi_634, hq_555, [], [1])])
theorem hd_1050 : con_1050.1 = (yX11_isVoter, cX11_isVoter, 2, (some .boolean)) := rfl
noncomputable def ct_1050 : CTB2 := []
noncomputable def cu_1050 : List CUT2 := []
theorem ch_1050 : staG tb_X11_isVoter 1 bt_RX11 [] ct_1050 [] [] cu_1050 12 con_1050 = true := by decide +kernel
theorem cto_1050 (l : Launch) : CTOK2 l RX11 vwCl gTbl ct_1050 := ct2_nil
theorem vl_1050 (l : Launch) : Vld2 l vwCl gTbl con_1050 := conR_ok3 gT_all (hd_1050) rfl pn_RX11 tk_X11_isVoter bo_RX11 xo_RX11 (cto_1050 l) ch_1050 cut_nil
/-- RookHusting power -/
noncomputable def gi_665 : GI := jl_n [jl_z 1, jl_r 2 (jl_t), jl_z 25, jl_i 0 7, jl_z 11]
noncomputable def ac_582 : AC := .inl (4, jl_n [jl_8 28 7, jl_1 29 1, jl_8 34 5, jl_6 5 1, jl_8 38 3])
noncomputable def hc_140 : List AC := [ac_465, .inl (9, [(6, 2, 0), (8, 20, 0)]), ac_582, .inl (1, [(6, 2, 0), (8, 39, 0)]), .inr (1, [(7, (2, 0, 9))])]
noncomputable def gi_666 : GI := jl_n [jl_z 1, jl_r 2 (jl_t), jl_z 25, jl_i 0 7, jl_z 11, jl_t]
noncomputable def hq_556 : HP := [(false, ac_465), (false, .inl (9, [(6, 2, 0), (8, 20, 0)])), (false, ac_582), (false, .inl (1, [(6, 2, 0), (8, 39, 0)])), (false, .inr (1, [(7, (2, 0, 9))]))]
noncomputable def con_1051 : Con2 := ((yX11_power, cX11_power, 3, (some .int)), (3, 71), ([(6, 0, 0), (1, 1, 0), (1, 2, 0)], gi_665, hc_140, []), [((1, 40, 0), gi_666, hq_556, [], [1])])
theorem hd_1051 : con_1051.1 = (yX11_power, cX11_power, 3, (some .int)) := rfl
theorem ck_RX11_247_1031 : COK2 RX11 vwCl gTbl 247 1 con_1031 := ⟨wd_984, wd_125, mh_X11_partOf, .inl ⟨rfl, wd_982, wd_983, pd_X11_partOf⟩⟩
theorem ck_RX11_238_1049 : COK2 RX11 vwCl gTbl 238 0 con_1049 := ⟨wd_978, wd_132, mh_X1_ordersDecided, .inr (.inr ⟨rfl, wd_975, wd_976, wd_977, ⟨_, rfl, pd_X1_ordersDecided⟩, 1, _, TX1, 2, rfl, rfl⟩)⟩
theorem ck_RX11_238_1047 : COK2 RX11 vwCl gTbl 238 0 con_1047 := ⟨wd_978, wd_132, mh_X1_ordersDecided, .inr (.inr ⟨rfl, wd_975, wd_976, wd_977, ⟨_, rfl, pd_X1_ordersDecided⟩, 1, _, TX1, 2, rfl, rfl⟩)⟩
theorem ck_RX11_238_1045 : COK2 RX11 vwCl gTbl 238 0 con_1045 := ⟨wd_978, wd_132, mh_X1_ordersDecided, .inr (.inr ⟨rfl, wd_975, wd_976, wd_977, ⟨_, rfl, pd_X1_ordersDecided⟩, 1, _, TX1, 2, rfl, rfl⟩)⟩
theorem ck_RX11_238_1043 : COK2 RX11 vwCl gTbl 238 0 con_1043 := ⟨wd_978, wd_132, mh_X1_ordersDecided, .inr (.inr ⟨rfl, wd_975, wd_976, wd_977, ⟨_, rfl, pd_X1_ordersDecided⟩, 1, _, TX1, 2, rfl, rfl⟩)⟩
theorem ck_RX11_238_1041 : COK2 RX11 vwCl gTbl 238 0 con_1041 := ⟨wd_978, wd_132, mh_X1_ordersDecided, .inr (.inr ⟨rfl, wd_975, wd_976, wd_977, ⟨_, rfl, pd_X1_ordersDecided⟩, 1, _, TX1, 2, rfl, rfl⟩)⟩
theorem ck_RX11_238_1039 : COK2 RX11 vwCl gTbl 238 0 con_1039 := ⟨wd_978, wd_132, mh_X1_ordersDecided, .inr (.inr ⟨rfl, wd_975, wd_976, wd_977, ⟨_, rfl, pd_X1_ordersDecided⟩, 1, _, TX1, 2, rfl, rfl⟩)⟩
theorem ck_RX11_238_1029 : COK2 RX11 vwCl gTbl 238 0 con_1029 := ⟨wd_978, wd_132, mh_X1_ordersDecided, .inr (.inr ⟨rfl, wd_975, wd_976, wd_977, ⟨_, rfl, pd_X1_ordersDecided⟩, 1, _, TX1, 2, rfl, rfl⟩)⟩
theorem ck_RX11_165_1050 : COK2 RX11 vwCl gTbl 165 0 con_1050 := ⟨wd_779, wd_125, mh_X11_isVoter, .inr (.inr ⟨rfl, wd_776, wd_778, wd_13, ⟨_, rfl, pd_X11_isVoter⟩, 11, _, TX11, 16, rfl, rfl⟩)⟩
theorem ck_RX11_165_1048 : COK2 RX11 vwCl gTbl 165 0 con_1048 := ⟨wd_779, wd_125, mh_X11_isVoter, .inr (.inr ⟨rfl, wd_776, wd_778, wd_13, ⟨_, rfl, pd_X11_isVoter⟩, 11, _, TX11, 16, rfl, rfl⟩)⟩
theorem ck_RX11_165_1046 : COK2 RX11 vwCl gTbl 165 0 con_1046 := ⟨wd_779, wd_125, mh_X11_isVoter, .inr (.inr ⟨rfl, wd_776, wd_778, wd_13, ⟨_, rfl, pd_X11_isVoter⟩, 11, _, TX11, 16, rfl, rfl⟩)⟩
theorem ck_RX11_165_1044 : COK2 RX11 vwCl gTbl 165 0 con_1044 := ⟨wd_779, wd_125, mh_X11_isVoter, .inr (.inr ⟨rfl, wd_776, wd_778, wd_13, ⟨_, rfl, pd_X11_isVoter⟩, 11, _, TX11, 16, rfl, rfl⟩)⟩
theorem ck_RX11_165_1042 : COK2 RX11 vwCl gTbl 165 0 con_1042 := ⟨wd_779, wd_125, mh_X11_isVoter, .inr (.inr ⟨rfl, wd_776, wd_778, wd_13, ⟨_, rfl, pd_X11_isVoter⟩, 11, _, TX11, 16, rfl, rfl⟩)⟩
theorem ck_RX11_165_1040 : COK2 RX11 vwCl gTbl 165 0 con_1040 := ⟨wd_779, wd_125, mh_X11_isVoter, .inr (.inr ⟨rfl, wd_776, wd_778, wd_13, ⟨_, rfl, pd_X11_isVoter⟩, 11, _, TX11, 16, rfl, rfl⟩)⟩
theorem ck_RX11_165_1032 : COK2 RX11 vwCl gTbl 165 0 con_1032 := ⟨wd_779, wd_125, mh_X11_isVoter, .inr (.inr ⟨rfl, wd_776, wd_778, wd_13, ⟨_, rfl, pd_X11_isVoter⟩, 11, _, TX11, 16, rfl, rfl⟩)⟩
theorem ck_RX11_165_1013 : COK2 RX11 vwCl gTbl 165 0 con_1013 := ⟨wd_779, wd_125, mh_X11_isVoter, .inr (.inr ⟨rfl, wd_776, wd_778, wd_13, ⟨_, rfl, pd_X11_isVoter⟩, 11, _, TX11, 16, rfl, rfl⟩)⟩
noncomputable def ct_1051 : CTB2 := [(2, 165, 0, con_1013, [0, 1, 2]), (2, 165, 0, con_1032, [0, 1, 2]), (2, 165, 0, con_1040, [0, 1, 2]), (2, 165, 0, con_1042, [0, 1, 2]), (2, 165, 0, con_1044, [0, 1, 2]), (2, 165, 0, con_1046, [0, 1, 2]), (2, 165, 0, con_1048, [0, 1, 2]), (2, 165, 0, con_1050, [0, 1, 2]), (9, 143, 1, con_644, []), (23, 238, 0, con_1029, [3, 2, 4]), (23, 238, 0, con_1039, [3, 2, 4]), (23, 238, 0, con_1041, [3, 2, 4]), (23, 238, 0, con_1043, [3, 2, 4]), (23, 238, 0, con_1045, [3, 2, 4]), (23, 238, 0, con_1047, [3, 2, 4]), (23, 238, 0, con_1049, [3, 2, 4]), (43, 247, 1, con_1031, [])]
noncomputable def cu_1051 : List CUT2 := []
theorem ch_1051 : staG tb_X11_power 1 bt_RX11 [] ct_1051 [(0, [(1, (2, 2, 7), 0, 0)])] [] cu_1051 25 con_1051 = true := by decide +kernel
theorem cto_1051 (l : Launch) : CTOK2 l RX11 vwCl gTbl ct_1051 := ct2_cons (vl_1013 l) ck_RX11_165_1013 (ct2_cons (vl_1032 l) ck_RX11_165_1032 (ct2_cons (vl_1040 l) ck_RX11_165_1040 (ct2_cons (vl_1042 l) ck_RX11_165_1042 (ct2_cons (vl_1044 l) ck_RX11_165_1044 (ct2_cons (vl_1046 l) ck_RX11_165_1046 (ct2_cons (vl_1048 l) ck_RX11_165_1048 (ct2_cons (vl_1050 l) ck_RX11_165_1050 (ct2_cons (vl_644 l) ck_RX11_143_644 (ct2_cons (vl_1029 l) ck_RX11_238_1029 (ct2_cons (vl_1039 l) ck_RX11_238_1039 (ct2_cons (vl_1041 l) ck_RX11_238_1041 (ct2_cons (vl_1043 l) ck_RX11_238_1043 (ct2_cons (vl_1045 l) ck_RX11_238_1045 (ct2_cons (vl_1047 l) ck_RX11_238_1047 (ct2_cons (vl_1049 l) ck_RX11_238_1049 (ct2_cons (vl_1031 l) ck_RX11_247_1031 (ct2_nil)))))))))))))))))
theorem vl_1051 (l : Launch) : Vld2 l vwCl gTbl con_1051 := conR_ok3 gT_all (hd_1051) rfl pn_RX11 tk_X11_power bo_RX11 xo_RX11 (cto_1051 l) ch_1051 cut_nil
/-- RookHustingModel in -/
noncomputable def con_1052 : Con2 := ((yX12_in, cX12_in, 6, (some .boolean)), (0, 0), ([(4, 0, 0), (3, 0, 0), (3, 6, 0)], gi_146, [], []), [((0, 0, 0), gi_147, [], [], [1]), ((0, 1, 0), [(0, 6), (0, 0), (0, 0), (0, 0)], [], [], [1])])
theorem hd_1052 : con_1052.1 = (yX12_in, cX12_in, 6, (some .boolean)) := rfl
noncomputable def ct_1052 : CTB2 := []
noncomputable def cu_1052 : List CUT2 := []
theorem ch_1052 : staG tb_X12_in 1 bt_RX12 [] ct_1052 [] [] cu_1052 11 con_1052 = true := by decide +kernel
theorem cto_1052 (l : Launch) : CTOK2 l RX12 vwCl gTbl ct_1052 := ct2_nil
theorem vl_1052 (l : Launch) : Vld2 l vwCl gTbl con_1052 := conR_ok3 gT_all (hd_1052) rfl pn_RX12 tk_X12_in bo_RX12 xo_RX12 (cto_1052 l) ch_1052 cut_nil
/-- RookHustingModel isVoter -/
noncomputable def gi_667 : GI := jl_n [jl_z 1, jl_t, jl_z 45, jl_i 0 16, jl_i 0 3, jl_i 0 10, jl_i 0 5, jl_i 0 8, jl_i 0 5, jl_z 1, jl_i 0 30, jl_i 0 2147483647, jl_z 14]
noncomputable def ac_583 : AC := .inr (1, jl_n [js_1 53 6, jl_x (1, (0, 7, 0)), js_1 56 2, js_2 10 0 300, js_2 16 0 4, js_2 10 0 40, js_2 1 0 9, js_2 1 0 5, js_2 5 0 4, js_2 1 0 9, js_2 1 0 5, js_2 5 0 4, js_2 1 0 9, js_2 1 0 5, js_2 5 0 4, js_2 1 0 9, js_2 1 0 5, js_2 5 0 4, js_2 1 0 9, js_2 1 0 5, js_2 5 0 4, js_2 1 0 9, js_2 1 0 5, js_2 5 0 4, js_2 1 0 9, js_2 1 0 5, js_2 5 0 4, jl_x (30, (12, 0, 0))])
noncomputable def gi_668 : GI := jl_n [jl_z 1, jl_t, jl_z 45, jl_i 0 16, jl_i 0 3, jl_i 0 10, jl_i 0 5, jl_i 0 8, jl_i 0 5, jl_z 1, jl_i 0 30, jl_i 0 2147483647, jl_z 15]
noncomputable def gi_669 : GI := jl_n [jl_z 1, jl_i 0 6, jl_z 45, jl_i 0 16, jl_i 0 3, jl_i 0 10, jl_i 0 5, jl_i 0 8, jl_i 0 5, jl_z 1, jl_i 0 30, jl_i 0 2147483647, jl_z 15]
noncomputable def con_1053 : Con2 := ((yX12_isVoter, cX12_isVoter, 2, (some .boolean)), (1, 25), ([(6, 0, 0), (1, 1, 0)], gi_667, [ac_437, ac_583], []), [((0, 0, 0), gi_668, [(false, ac_437), (false, ac_583)], [], [1]), ((0, 1, 0), gi_669, [(false, ac_437), (false, ac_583)], [], [1])])
theorem hd_1053 : con_1053.1 = (yX12_isVoter, cX12_isVoter, 2, (some .boolean)) := rfl
theorem ck_RX12_91_1052 : COK2 RX12 vwCl gTbl 91 1 con_1052 := ⟨wd_1544, wd_137, mh_X12_in, .inl ⟨rfl, wd_1542, wd_1543, pd_X12_in⟩⟩
noncomputable def ct_1053 : CTB2 := [(13, 91, 1, con_1052, [])]
noncomputable def cu_1053 : List CUT2 := []
theorem ch_1053 : staG tb_X12_isVoter 1 bt_RX12 [] ct_1053 [] [] cu_1053 14 con_1053 = true := by decide +kernel
theorem cto_1053 (l : Launch) : CTOK2 l RX12 vwCl gTbl ct_1053 := ct2_cons (vl_1052 l) ck_RX12_91_1052 (ct2_nil)
theorem vl_1053 (l : Launch) : Vld2 l vwCl gTbl con_1053 := conR_ok3 gT_all (hd_1053) rfl pn_RX12 tk_X12_isVoter bo_RX12 xo_RX12 (cto_1053 l) ch_1053 cut_nil
/-- RookHustingModel hatsIn -/
noncomputable def gi_670 : GI := jl_n [jl_z 1, jl_t, jl_z 45, jl_i 0 16, jl_i 0 3, jl_i 0 10, jl_i 0 5, jl_i 0 8, jl_i 0 5, jl_z 1, jl_i 0 30, jl_i 0 2147483647, jl_z 14, jl_t]
noncomputable def con_1054 : Con2 := ((yX12_hatsIn, cX12_hatsIn, 4, (some .int)), (1, 21), ([(6, 0, 0), (1, 1, 0)], gi_667, [ac_437, ac_583], []), [((1, 70, 0), gi_670, [(false, ac_437), (false, ac_583)], [], [1])])
theorem hd_1054 : con_1054.1 = (yX12_hatsIn, cX12_hatsIn, 4, (some .int)) := rfl
noncomputable def ct_1054 : CTB2 := [(18, 199, 1, con_390, []), (27, 243, 0, con_662, [0, 1])]
noncomputable def gi_671 : GI := jl_n [jl_z 1, jl_t, jl_z 45, jl_i 0 16, jl_i 0 3, jl_i 0 10, jl_i 0 5, jl_i 0 8, jl_i 0 5, jl_z 1, jl_i 0 30, jl_i 0 2147483647, jl_z 16, jl_t, jl_i 0 7]
noncomputable def cu_1054 : List CUT2 := [((4, [(0, (6, 0, 0)), (1, (1, 1, 0)), (2, (1, 72, 0)), (3, (1, 73, 0))], [], gi_671, [(false, ac_437), (false, ac_583)]), [], ([(73, (-1))], 7))]
theorem ch_1054 : staG tb_X12_hatsIn 1 bt_RX12 [] ct_1054 [] [] cu_1054 23 con_1054 = true := by decide +kernel
theorem cc_1054 : cu_1054.all (cutG tb_X12_hatsIn 1 bt_RX12 [] ct_1054 [] [] cu_1054 23 con_1054) = true := by decide +kernel
theorem cto_1054 (l : Launch) : CTOK2 l RX12 vwCl gTbl ct_1054 := ct2_cons (vl_390 l) ck_RX12_199_390 (ct2_cons (vl_662 l) ck_RX12_243_662 (ct2_nil))
theorem vl_1054 (l : Launch) : Vld2 l vwCl gTbl con_1054 := conR_ok3 gT_all (hd_1054) rfl pn_RX12 tk_X12_hatsIn bo_RX12 xo_RX12 (cto_1054 l) ch_1054 (cut_all cc_1054)
/-- RookHustingModel in -/
noncomputable def con_1055 : Con2 := ((yX12_in, cX12_in, 6, (some .boolean)), (0, 0), ([(4, 0, 0), (3, 0, 0), (3, 5, 0)], gi_146, [], []), [((0, 0, 0), gi_147, [], [], [1]), ((0, 1, 0), [(0, 5), (0, 0), (0, 0), (0, 0)], [], [], [1])])
theorem hd_1055 : con_1055.1 = (yX12_in, cX12_in, 6, (some .boolean)) := rfl
noncomputable def ct_1055 : CTB2 := []
noncomputable def cu_1055 : List CUT2 := []
theorem ch_1055 : staG tb_X12_in 1 bt_RX12 [] ct_1055 [] [] cu_1055 11 con_1055 = true := by decide +kernel
theorem cto_1055 (l : Launch) : CTOK2 l RX12 vwCl gTbl ct_1055 := ct2_nil
theorem vl_1055 (l : Launch) : Vld2 l vwCl gTbl con_1055 := conR_ok3 gT_all (hd_1055) rfl pn_RX12 tk_X12_in bo_RX12 xo_RX12 (cto_1055 l) ch_1055 cut_nil
/-- RookHustingModel isVoter -/
noncomputable def ac_584 : AC := .inr (1, jl_n [js_1 53 6, jl_x (1, (0, 6, 0)), js_1 56 2, js_2 10 0 300, js_2 16 0 4, js_2 10 0 40, js_2 1 0 9, js_2 1 0 5, js_2 5 0 4, js_2 1 0 9, js_2 1 0 5, js_2 5 0 4, js_2 1 0 9, js_2 1 0 5, js_2 5 0 4, js_2 1 0 9, js_2 1 0 5, js_2 5 0 4, js_2 1 0 9, js_2 1 0 5, js_2 5 0 4, js_2 1 0 9, js_2 1 0 5, js_2 5 0 4, js_2 1 0 9, js_2 1 0 5, js_2 5 0 4, jl_x (30, (12, 0, 0))])
noncomputable def gi_672 : GI := jl_n [jl_z 1, jl_i 0 5, jl_z 45, jl_i 0 16, jl_i 0 3, jl_i 0 10, jl_i 0 5, jl_i 0 8, jl_i 0 5, jl_z 1, jl_i 0 30, jl_i 0 2147483647, jl_z 15]
noncomputable def con_1056 : Con2 := ((yX12_isVoter, cX12_isVoter, 2, (some .boolean)), (1, 25), ([(6, 0, 0), (1, 1, 0)], gi_667, [ac_437, ac_584], []), [((0, 0, 0), gi_668, [(false, ac_437), (false, ac_584)], [], [1]), ((0, 1, 0), gi_672, [(false, ac_437), (false, ac_584)], [], [1])])
theorem hd_1056 : con_1056.1 = (yX12_isVoter, cX12_isVoter, 2, (some .boolean)) := rfl
theorem ck_RX12_91_1055 : COK2 RX12 vwCl gTbl 91 1 con_1055 := ⟨wd_1544, wd_137, mh_X12_in, .inl ⟨rfl, wd_1542, wd_1543, pd_X12_in⟩⟩
noncomputable def ct_1056 : CTB2 := [(13, 91, 1, con_1055, [])]
noncomputable def cu_1056 : List CUT2 := []
theorem ch_1056 : staG tb_X12_isVoter 1 bt_RX12 [] ct_1056 [] [] cu_1056 14 con_1056 = true := by decide +kernel
theorem cto_1056 (l : Launch) : CTOK2 l RX12 vwCl gTbl ct_1056 := ct2_cons (vl_1055 l) ck_RX12_91_1055 (ct2_nil)
theorem vl_1056 (l : Launch) : Vld2 l vwCl gTbl con_1056 := conR_ok3 gT_all (hd_1056) rfl pn_RX12 tk_X12_isVoter bo_RX12 xo_RX12 (cto_1056 l) ch_1056 cut_nil
/-- RookHustingModel hatsIn -/
noncomputable def con_1057 : Con2 := ((yX12_hatsIn, cX12_hatsIn, 4, (some .int)), (1, 21), ([(6, 0, 0), (1, 1, 0)], gi_667, [ac_437, ac_584], []), [((1, 70, 0), gi_670, [(false, ac_437), (false, ac_584)], [], [1])])
theorem hd_1057 : con_1057.1 = (yX12_hatsIn, cX12_hatsIn, 4, (some .int)) := rfl
theorem ck_RX12_243_684 : COK2 RX12 vwCl gTbl 243 0 con_684 := ⟨wd_1684, wd_137, mh_X12_hatsOf, .inr (.inr ⟨rfl, wd_1681, wd_1683, wd_71, ⟨_, rfl, pd_X12_hatsOf⟩, 12, _, TX12, 45, rfl, rfl⟩)⟩
noncomputable def ct_1057 : CTB2 := [(18, 199, 1, con_390, []), (27, 243, 0, con_684, [0, 1])]
noncomputable def gi_673 : GI := jl_n [jl_z 1, jl_t, jl_z 45, jl_i 0 16, jl_i 0 3, jl_i 0 10, jl_i 0 5, jl_i 0 8, jl_i 0 5, jl_z 1, jl_i 0 30, jl_i 0 2147483647, jl_z 16, jl_t, jl_i 0 6]
noncomputable def cu_1057 : List CUT2 := [((4, [(0, (6, 0, 0)), (1, (1, 1, 0)), (2, (1, 72, 0)), (3, (1, 73, 0))], [], gi_673, [(false, ac_437), (false, ac_584)]), [], ([(73, (-1))], 6))]
theorem ch_1057 : staG tb_X12_hatsIn 1 bt_RX12 [] ct_1057 [] [] cu_1057 23 con_1057 = true := by decide +kernel
theorem cc_1057 : cu_1057.all (cutG tb_X12_hatsIn 1 bt_RX12 [] ct_1057 [] [] cu_1057 23 con_1057) = true := by decide +kernel
theorem cto_1057 (l : Launch) : CTOK2 l RX12 vwCl gTbl ct_1057 := ct2_cons (vl_390 l) ck_RX12_199_390 (ct2_cons (vl_684 l) ck_RX12_243_684 (ct2_nil))
theorem vl_1057 (l : Launch) : Vld2 l vwCl gTbl con_1057 := conR_ok3 gT_all (hd_1057) rfl pn_RX12 tk_X12_hatsIn bo_RX12 xo_RX12 (cto_1057 l) ch_1057 (cut_all cc_1057)
/-- RookHustingModel in -/
noncomputable def con_1058 : Con2 := ((yX12_in, cX12_in, 6, (some .boolean)), (0, 0), ([(4, 0, 0), (3, 0, 0), (3, 4, 0)], gi_146, [], []), [((0, 0, 0), gi_147, [], [], [1]), ((0, 1, 0), [(0, 4), (0, 0), (0, 0), (0, 0)], [], [], [1])])
theorem hd_1058 : con_1058.1 = (yX12_in, cX12_in, 6, (some .boolean)) := rfl
noncomputable def ct_1058 : CTB2 := []
noncomputable def cu_1058 : List CUT2 := []
theorem ch_1058 : staG tb_X12_in 1 bt_RX12 [] ct_1058 [] [] cu_1058 11 con_1058 = true := by decide +kernel
theorem cto_1058 (l : Launch) : CTOK2 l RX12 vwCl gTbl ct_1058 := ct2_nil
theorem vl_1058 (l : Launch) : Vld2 l vwCl gTbl con_1058 := conR_ok3 gT_all (hd_1058) rfl pn_RX12 tk_X12_in bo_RX12 xo_RX12 (cto_1058 l) ch_1058 cut_nil
/-- RookHustingModel isVoter -/
noncomputable def ac_585 : AC := .inr (1, jl_n [js_1 53 6, jl_x (1, (0, 5, 0)), js_1 56 2, js_2 10 0 300, js_2 16 0 4, js_2 10 0 40, js_2 1 0 9, js_2 1 0 5, js_2 5 0 4, js_2 1 0 9, js_2 1 0 5, js_2 5 0 4, js_2 1 0 9, js_2 1 0 5, js_2 5 0 4, js_2 1 0 9, js_2 1 0 5, js_2 5 0 4, js_2 1 0 9, js_2 1 0 5, js_2 5 0 4, js_2 1 0 9, js_2 1 0 5, js_2 5 0 4, js_2 1 0 9, js_2 1 0 5, js_2 5 0 4, jl_x (30, (12, 0, 0))])
noncomputable def gi_674 : GI := jl_n [jl_z 1, jl_i 0 4, jl_z 45, jl_i 0 16, jl_i 0 3, jl_i 0 10, jl_i 0 5, jl_i 0 8, jl_i 0 5, jl_z 1, jl_i 0 30, jl_i 0 2147483647, jl_z 15]
noncomputable def con_1059 : Con2 := ((yX12_isVoter, cX12_isVoter, 2, (some .boolean)), (1, 25), ([(6, 0, 0), (1, 1, 0)], gi_667, [ac_437, ac_585], []), [((0, 0, 0), gi_668, [(false, ac_437), (false, ac_585)], [], [1]), ((0, 1, 0), gi_674, [(false, ac_437), (false, ac_585)], [], [1])])
theorem hd_1059 : con_1059.1 = (yX12_isVoter, cX12_isVoter, 2, (some .boolean)) := rfl
theorem ck_RX12_91_1058 : COK2 RX12 vwCl gTbl 91 1 con_1058 := ⟨wd_1544, wd_137, mh_X12_in, .inl ⟨rfl, wd_1542, wd_1543, pd_X12_in⟩⟩
noncomputable def ct_1059 : CTB2 := [(13, 91, 1, con_1058, [])]
noncomputable def cu_1059 : List CUT2 := []
theorem ch_1059 : staG tb_X12_isVoter 1 bt_RX12 [] ct_1059 [] [] cu_1059 14 con_1059 = true := by decide +kernel
theorem cto_1059 (l : Launch) : CTOK2 l RX12 vwCl gTbl ct_1059 := ct2_cons (vl_1058 l) ck_RX12_91_1058 (ct2_nil)
theorem vl_1059 (l : Launch) : Vld2 l vwCl gTbl con_1059 := conR_ok3 gT_all (hd_1059) rfl pn_RX12 tk_X12_isVoter bo_RX12 xo_RX12 (cto_1059 l) ch_1059 cut_nil
/-- RookHustingModel hatsIn -/
noncomputable def con_1060 : Con2 := ((yX12_hatsIn, cX12_hatsIn, 4, (some .int)), (1, 21), ([(6, 0, 0), (1, 1, 0)], gi_667, [ac_437, ac_585], []), [((1, 70, 0), gi_670, [(false, ac_437), (false, ac_585)], [], [1])])
theorem hd_1060 : con_1060.1 = (yX12_hatsIn, cX12_hatsIn, 4, (some .int)) := rfl
theorem ck_RX12_243_683 : COK2 RX12 vwCl gTbl 243 0 con_683 := ⟨wd_1684, wd_137, mh_X12_hatsOf, .inr (.inr ⟨rfl, wd_1681, wd_1683, wd_71, ⟨_, rfl, pd_X12_hatsOf⟩, 12, _, TX12, 45, rfl, rfl⟩)⟩
noncomputable def ct_1060 : CTB2 := [(18, 199, 1, con_390, []), (27, 243, 0, con_683, [0, 1])]
noncomputable def gi_675 : GI := jl_n [jl_z 1, jl_t, jl_z 45, jl_i 0 16, jl_i 0 3, jl_i 0 10, jl_i 0 5, jl_i 0 8, jl_i 0 5, jl_z 1, jl_i 0 30, jl_i 0 2147483647, jl_z 16, jl_t, jl_i 0 5]
noncomputable def cu_1060 : List CUT2 := [((4, [(0, (6, 0, 0)), (1, (1, 1, 0)), (2, (1, 72, 0)), (3, (1, 73, 0))], [], gi_675, [(false, ac_437), (false, ac_585)]), [], ([(73, (-1))], 5))]
theorem ch_1060 : staG tb_X12_hatsIn 1 bt_RX12 [] ct_1060 [] [] cu_1060 23 con_1060 = true := by decide +kernel
theorem cc_1060 : cu_1060.all (cutG tb_X12_hatsIn 1 bt_RX12 [] ct_1060 [] [] cu_1060 23 con_1060) = true := by decide +kernel
theorem cto_1060 (l : Launch) : CTOK2 l RX12 vwCl gTbl ct_1060 := ct2_cons (vl_390 l) ck_RX12_199_390 (ct2_cons (vl_683 l) ck_RX12_243_683 (ct2_nil))
theorem vl_1060 (l : Launch) : Vld2 l vwCl gTbl con_1060 := conR_ok3 gT_all (hd_1060) rfl pn_RX12 tk_X12_hatsIn bo_RX12 xo_RX12 (cto_1060 l) ch_1060 (cut_all cc_1060)
/-- RookHustingModel isVoter -/
noncomputable def ac_586 : AC := .inr (1, jl_n [js_1 53 6, jl_x (1, (0, 4, 0)), js_1 56 2, js_2 10 0 300, js_2 16 0 4, js_2 10 0 40, js_2 1 0 9, js_2 1 0 5, js_2 5 0 4, js_2 1 0 9, js_2 1 0 5, js_2 5 0 4, js_2 1 0 9, js_2 1 0 5, js_2 5 0 4, js_2 1 0 9, js_2 1 0 5, js_2 5 0 4, js_2 1 0 9, js_2 1 0 5, js_2 5 0 4, js_2 1 0 9, js_2 1 0 5, js_2 5 0 4, js_2 1 0 9, js_2 1 0 5, js_2 5 0 4, jl_x (30, (12, 0, 0))])
noncomputable def gi_676 : GI := jl_n [jl_z 1, jl_i 0 3, jl_z 45, jl_i 0 16, jl_i 0 3, jl_i 0 10, jl_i 0 5, jl_i 0 8, jl_i 0 5, jl_z 1, jl_i 0 30, jl_i 0 2147483647, jl_z 15]
noncomputable def con_1061 : Con2 := ((yX12_isVoter, cX12_isVoter, 2, (some .boolean)), (1, 25), ([(6, 0, 0), (1, 1, 0)], gi_667, [ac_437, ac_586], []), [((0, 0, 0), gi_668, [(false, ac_437), (false, ac_586)], [], [1]), ((0, 1, 0), gi_676, [(false, ac_437), (false, ac_586)], [], [1])])
theorem hd_1061 : con_1061.1 = (yX12_isVoter, cX12_isVoter, 2, (some .boolean)) := rfl
noncomputable def ct_1061 : CTB2 := [(13, 91, 1, con_332, [])]
noncomputable def cu_1061 : List CUT2 := []
theorem ch_1061 : staG tb_X12_isVoter 1 bt_RX12 [] ct_1061 [] [] cu_1061 14 con_1061 = true := by decide +kernel
theorem cto_1061 (l : Launch) : CTOK2 l RX12 vwCl gTbl ct_1061 := ct2_cons (vl_332 l) ck_RX12_91_332 (ct2_nil)
theorem vl_1061 (l : Launch) : Vld2 l vwCl gTbl con_1061 := conR_ok3 gT_all (hd_1061) rfl pn_RX12 tk_X12_isVoter bo_RX12 xo_RX12 (cto_1061 l) ch_1061 cut_nil
/-- RookHustingModel hatsIn -/
noncomputable def con_1062 : Con2 := ((yX12_hatsIn, cX12_hatsIn, 4, (some .int)), (1, 21), ([(6, 0, 0), (1, 1, 0)], gi_667, [ac_437, ac_586], []), [((1, 70, 0), gi_670, [(false, ac_437), (false, ac_586)], [], [1])])
theorem hd_1062 : con_1062.1 = (yX12_hatsIn, cX12_hatsIn, 4, (some .int)) := rfl
theorem ck_RX12_243_682 : COK2 RX12 vwCl gTbl 243 0 con_682 := ⟨wd_1684, wd_137, mh_X12_hatsOf, .inr (.inr ⟨rfl, wd_1681, wd_1683, wd_71, ⟨_, rfl, pd_X12_hatsOf⟩, 12, _, TX12, 45, rfl, rfl⟩)⟩
noncomputable def ct_1062 : CTB2 := [(18, 199, 1, con_390, []), (27, 243, 0, con_682, [0, 1])]
noncomputable def gi_677 : GI := jl_n [jl_z 1, jl_t, jl_z 45, jl_i 0 16, jl_i 0 3, jl_i 0 10, jl_i 0 5, jl_i 0 8, jl_i 0 5, jl_z 1, jl_i 0 30, jl_i 0 2147483647, jl_z 16, jl_t, jl_i 0 4]
noncomputable def cu_1062 : List CUT2 := [((4, [(0, (6, 0, 0)), (1, (1, 1, 0)), (2, (1, 72, 0)), (3, (1, 73, 0))], [], gi_677, [(false, ac_437), (false, ac_586)]), [], ([(73, (-1))], 4))]
theorem ch_1062 : staG tb_X12_hatsIn 1 bt_RX12 [] ct_1062 [] [] cu_1062 23 con_1062 = true := by decide +kernel
theorem cc_1062 : cu_1062.all (cutG tb_X12_hatsIn 1 bt_RX12 [] ct_1062 [] [] cu_1062 23 con_1062) = true := by decide +kernel
theorem cto_1062 (l : Launch) : CTOK2 l RX12 vwCl gTbl ct_1062 := ct2_cons (vl_390 l) ck_RX12_199_390 (ct2_cons (vl_682 l) ck_RX12_243_682 (ct2_nil))
theorem vl_1062 (l : Launch) : Vld2 l vwCl gTbl con_1062 := conR_ok3 gT_all (hd_1062) rfl pn_RX12 tk_X12_hatsIn bo_RX12 xo_RX12 (cto_1062 l) ch_1062 (cut_all cc_1062)
/-- RookHustingModel in -/
noncomputable def con_1063 : Con2 := ((yX12_in, cX12_in, 6, (some .boolean)), (0, 0), ([(4, 0, 0), (3, 0, 0), (3, 2, 0)], gi_146, [], []), [((0, 0, 0), [(3, 9223372036854775807), (0, 0), (0, 0), (0, 0)], [], [], [1]), ((0, 0, 0), [((-9223372036854775808), (-1)), (0, 0), (0, 0), (0, 0)], [], [], [1]), ((0, 1, 0), [(0, 2), (0, 0), (0, 0), (0, 0)], [], [], [1])])
theorem hd_1063 : con_1063.1 = (yX12_in, cX12_in, 6, (some .boolean)) := rfl
noncomputable def ct_1063 : CTB2 := []
noncomputable def cu_1063 : List CUT2 := []
theorem ch_1063 : staG tb_X12_in 1 bt_RX12 [] ct_1063 [] [] cu_1063 11 con_1063 = true := by decide +kernel
theorem cto_1063 (l : Launch) : CTOK2 l RX12 vwCl gTbl ct_1063 := ct2_nil
theorem vl_1063 (l : Launch) : Vld2 l vwCl gTbl con_1063 := conR_ok3 gT_all (hd_1063) rfl pn_RX12 tk_X12_in bo_RX12 xo_RX12 (cto_1063 l) ch_1063 cut_nil
/-- RookHustingModel isVoter -/
noncomputable def ac_587 : AC := .inr (1, jl_n [js_1 53 6, jl_x (1, (0, 3, 0)), js_1 56 2, js_2 10 0 300, js_2 16 0 4, js_2 10 0 40, js_2 1 0 9, js_2 1 0 5, js_2 5 0 4, js_2 1 0 9, js_2 1 0 5, js_2 5 0 4, js_2 1 0 9, js_2 1 0 5, js_2 5 0 4, js_2 1 0 9, js_2 1 0 5, js_2 5 0 4, js_2 1 0 9, js_2 1 0 5, js_2 5 0 4, js_2 1 0 9, js_2 1 0 5, js_2 5 0 4, js_2 1 0 9, js_2 1 0 5, js_2 5 0 4, jl_x (30, (12, 0, 0))])
noncomputable def gi_678 : GI := jl_n [jl_z 1, jl_i 0 2, jl_z 45, jl_i 0 16, jl_i 0 3, jl_i 0 10, jl_i 0 5, jl_i 0 8, jl_i 0 5, jl_z 1, jl_i 0 30, jl_i 0 2147483647, jl_z 15]
noncomputable def con_1064 : Con2 := ((yX12_isVoter, cX12_isVoter, 2, (some .boolean)), (1, 25), ([(6, 0, 0), (1, 1, 0)], gi_667, [ac_437, ac_587], []), [((0, 0, 0), gi_668, [(false, ac_437), (false, ac_587)], [], [1]), ((0, 1, 0), gi_678, [(false, ac_437), (false, ac_587)], [], [1])])
theorem hd_1064 : con_1064.1 = (yX12_isVoter, cX12_isVoter, 2, (some .boolean)) := rfl
theorem ck_RX12_91_1063 : COK2 RX12 vwCl gTbl 91 1 con_1063 := ⟨wd_1544, wd_137, mh_X12_in, .inl ⟨rfl, wd_1542, wd_1543, pd_X12_in⟩⟩
noncomputable def ct_1064 : CTB2 := [(13, 91, 1, con_1063, [])]
noncomputable def cu_1064 : List CUT2 := []
theorem ch_1064 : staG tb_X12_isVoter 1 bt_RX12 [] ct_1064 [] [] cu_1064 14 con_1064 = true := by decide +kernel
theorem cto_1064 (l : Launch) : CTOK2 l RX12 vwCl gTbl ct_1064 := ct2_cons (vl_1063 l) ck_RX12_91_1063 (ct2_nil)
theorem vl_1064 (l : Launch) : Vld2 l vwCl gTbl con_1064 := conR_ok3 gT_all (hd_1064) rfl pn_RX12 tk_X12_isVoter bo_RX12 xo_RX12 (cto_1064 l) ch_1064 cut_nil
/-- RookHustingModel hatsIn -/
noncomputable def con_1065 : Con2 := ((yX12_hatsIn, cX12_hatsIn, 4, (some .int)), (1, 21), ([(6, 0, 0), (1, 1, 0)], gi_667, [ac_437, ac_587], []), [((1, 70, 0), gi_670, [(false, ac_437), (false, ac_587)], [], [1])])
theorem hd_1065 : con_1065.1 = (yX12_hatsIn, cX12_hatsIn, 4, (some .int)) := rfl
theorem ck_RX12_243_681 : COK2 RX12 vwCl gTbl 243 0 con_681 := ⟨wd_1684, wd_137, mh_X12_hatsOf, .inr (.inr ⟨rfl, wd_1681, wd_1683, wd_71, ⟨_, rfl, pd_X12_hatsOf⟩, 12, _, TX12, 45, rfl, rfl⟩)⟩
noncomputable def ct_1065 : CTB2 := [(18, 199, 1, con_390, []), (27, 243, 0, con_681, [0, 1])]
noncomputable def gi_679 : GI := jl_n [jl_z 1, jl_t, jl_z 45, jl_i 0 16, jl_i 0 3, jl_i 0 10, jl_i 0 5, jl_i 0 8, jl_i 0 5, jl_z 1, jl_i 0 30, jl_i 0 2147483647, jl_z 16, jl_t, jl_i 0 3]
noncomputable def cu_1065 : List CUT2 := [((4, [(0, (6, 0, 0)), (1, (1, 1, 0)), (2, (1, 72, 0)), (3, (1, 73, 0))], [], gi_679, [(false, ac_437), (false, ac_587)]), [], ([(73, (-1))], 3))]
theorem ch_1065 : staG tb_X12_hatsIn 1 bt_RX12 [] ct_1065 [] [] cu_1065 23 con_1065 = true := by decide +kernel
theorem cc_1065 : cu_1065.all (cutG tb_X12_hatsIn 1 bt_RX12 [] ct_1065 [] [] cu_1065 23 con_1065) = true := by decide +kernel
theorem cto_1065 (l : Launch) : CTOK2 l RX12 vwCl gTbl ct_1065 := ct2_cons (vl_390 l) ck_RX12_199_390 (ct2_cons (vl_681 l) ck_RX12_243_681 (ct2_nil))
theorem vl_1065 (l : Launch) : Vld2 l vwCl gTbl con_1065 := conR_ok3 gT_all (hd_1065) rfl pn_RX12 tk_X12_hatsIn bo_RX12 xo_RX12 (cto_1065 l) ch_1065 (cut_all cc_1065)
/-- RookHustingModel isVoter -/
noncomputable def ac_588 : AC := .inr (1, jl_n [js_1 53 6, jl_x (1, (0, 2, 0)), js_1 56 2, js_2 10 0 300, js_2 16 0 4, js_2 10 0 40, js_2 1 0 9, js_2 1 0 5, js_2 5 0 4, js_2 1 0 9, js_2 1 0 5, js_2 5 0 4, js_2 1 0 9, js_2 1 0 5, js_2 5 0 4, js_2 1 0 9, js_2 1 0 5, js_2 5 0 4, js_2 1 0 9, js_2 1 0 5, js_2 5 0 4, js_2 1 0 9, js_2 1 0 5, js_2 5 0 4, js_2 1 0 9, js_2 1 0 5, js_2 5 0 4, jl_x (30, (12, 0, 0))])
noncomputable def gi_680 : GI := jl_n [jl_z 1, jl_i 0 1, jl_z 45, jl_i 0 16, jl_i 0 3, jl_i 0 10, jl_i 0 5, jl_i 0 8, jl_i 0 5, jl_z 1, jl_i 0 30, jl_i 0 2147483647, jl_z 15]
noncomputable def con_1066 : Con2 := ((yX12_isVoter, cX12_isVoter, 2, (some .boolean)), (1, 25), ([(6, 0, 0), (1, 1, 0)], gi_667, [ac_437, ac_588], []), [((0, 0, 0), gi_668, [(false, ac_437), (false, ac_588)], [], [1]), ((0, 1, 0), gi_680, [(false, ac_437), (false, ac_588)], [], [1])])
theorem hd_1066 : con_1066.1 = (yX12_isVoter, cX12_isVoter, 2, (some .boolean)) := rfl
noncomputable def ct_1066 : CTB2 := [(13, 91, 1, con_648, [])]
noncomputable def cu_1066 : List CUT2 := []
theorem ch_1066 : staG tb_X12_isVoter 1 bt_RX12 [] ct_1066 [] [] cu_1066 14 con_1066 = true := by decide +kernel
theorem cto_1066 (l : Launch) : CTOK2 l RX12 vwCl gTbl ct_1066 := ct2_cons (vl_648 l) ck_RX12_91_648 (ct2_nil)
theorem vl_1066 (l : Launch) : Vld2 l vwCl gTbl con_1066 := conR_ok3 gT_all (hd_1066) rfl pn_RX12 tk_X12_isVoter bo_RX12 xo_RX12 (cto_1066 l) ch_1066 cut_nil
/-- RookHustingModel hatsIn -/
noncomputable def con_1067 : Con2 := ((yX12_hatsIn, cX12_hatsIn, 4, (some .int)), (1, 21), ([(6, 0, 0), (1, 1, 0)], gi_667, [ac_437, ac_588], []), [((1, 70, 0), gi_670, [(false, ac_437), (false, ac_588)], [], [1])])
theorem hd_1067 : con_1067.1 = (yX12_hatsIn, cX12_hatsIn, 4, (some .int)) := rfl
theorem ck_RX12_243_680 : COK2 RX12 vwCl gTbl 243 0 con_680 := ⟨wd_1684, wd_137, mh_X12_hatsOf, .inr (.inr ⟨rfl, wd_1681, wd_1683, wd_71, ⟨_, rfl, pd_X12_hatsOf⟩, 12, _, TX12, 45, rfl, rfl⟩)⟩
noncomputable def ct_1067 : CTB2 := [(18, 199, 1, con_390, []), (27, 243, 0, con_680, [0, 1])]
noncomputable def gi_681 : GI := jl_n [jl_z 1, jl_t, jl_z 45, jl_i 0 16, jl_i 0 3, jl_i 0 10, jl_i 0 5, jl_i 0 8, jl_i 0 5, jl_z 1, jl_i 0 30, jl_i 0 2147483647, jl_z 16, jl_t, jl_i 0 2]
noncomputable def cu_1067 : List CUT2 := [((4, [(0, (6, 0, 0)), (1, (1, 1, 0)), (2, (1, 72, 0)), (3, (1, 73, 0))], [], gi_681, [(false, ac_437), (false, ac_588)]), [], ([(73, (-1))], 2))]
theorem ch_1067 : staG tb_X12_hatsIn 1 bt_RX12 [] ct_1067 [] [] cu_1067 23 con_1067 = true := by decide +kernel
theorem cc_1067 : cu_1067.all (cutG tb_X12_hatsIn 1 bt_RX12 [] ct_1067 [] [] cu_1067 23 con_1067) = true := by decide +kernel
theorem cto_1067 (l : Launch) : CTOK2 l RX12 vwCl gTbl ct_1067 := ct2_cons (vl_390 l) ck_RX12_199_390 (ct2_cons (vl_680 l) ck_RX12_243_680 (ct2_nil))
theorem vl_1067 (l : Launch) : Vld2 l vwCl gTbl con_1067 := conR_ok3 gT_all (hd_1067) rfl pn_RX12 tk_X12_hatsIn bo_RX12 xo_RX12 (cto_1067 l) ch_1067 (cut_all cc_1067)
/-- RookHustingModel isVoter -/
noncomputable def ac_589 : AC := .inr (1, jl_n [js_1 53 6, jl_x (1, (0, 1, 0)), js_1 56 2, js_2 10 0 300, js_2 16 0 4, js_2 10 0 40, js_2 1 0 9, js_2 1 0 5, js_2 5 0 4, js_2 1 0 9, js_2 1 0 5, js_2 5 0 4, js_2 1 0 9, js_2 1 0 5, js_2 5 0 4, js_2 1 0 9, js_2 1 0 5, js_2 5 0 4, js_2 1 0 9, js_2 1 0 5, js_2 5 0 4, js_2 1 0 9, js_2 1 0 5, js_2 5 0 4, js_2 1 0 9, js_2 1 0 5, js_2 5 0 4, jl_x (30, (12, 0, 0))])
noncomputable def gi_682 : GI := jl_n [jl_z 47, jl_i 0 16, jl_i 0 3, jl_i 0 10, jl_i 0 5, jl_i 0 8, jl_i 0 5, jl_z 1, jl_i 0 30, jl_i 0 2147483647, jl_z 15]
noncomputable def con_1068 : Con2 := ((yX12_isVoter, cX12_isVoter, 2, (some .boolean)), (1, 25), ([(6, 0, 0), (1, 1, 0)], gi_667, [ac_437, ac_589], []), [((0, 0, 0), gi_668, [(false, ac_437), (false, ac_589)], [], [1]), ((0, 1, 0), gi_682, [(false, ac_437), (false, ac_589)], [], [1])])
theorem hd_1068 : con_1068.1 = (yX12_isVoter, cX12_isVoter, 2, (some .boolean)) := rfl
noncomputable def ct_1068 : CTB2 := [(13, 91, 1, con_848, [])]
noncomputable def cu_1068 : List CUT2 := []
theorem ch_1068 : staG tb_X12_isVoter 1 bt_RX12 [] ct_1068 [] [] cu_1068 14 con_1068 = true := by decide +kernel
theorem cto_1068 (l : Launch) : CTOK2 l RX12 vwCl gTbl ct_1068 := ct2_cons (vl_848 l) ck_RX12_91_848 (ct2_nil)
theorem vl_1068 (l : Launch) : Vld2 l vwCl gTbl con_1068 := conR_ok3 gT_all (hd_1068) rfl pn_RX12 tk_X12_isVoter bo_RX12 xo_RX12 (cto_1068 l) ch_1068 cut_nil
/-- RookHustingModel hatsIn -/
noncomputable def con_1069 : Con2 := ((yX12_hatsIn, cX12_hatsIn, 4, (some .int)), (1, 21), ([(6, 0, 0), (1, 1, 0)], gi_667, [ac_437, ac_589], []), [((1, 70, 0), gi_670, [(false, ac_437), (false, ac_589)], [], [1])])
theorem hd_1069 : con_1069.1 = (yX12_hatsIn, cX12_hatsIn, 4, (some .int)) := rfl
theorem ck_RX12_243_677 : COK2 RX12 vwCl gTbl 243 0 con_677 := ⟨wd_1684, wd_137, mh_X12_hatsOf, .inr (.inr ⟨rfl, wd_1681, wd_1683, wd_71, ⟨_, rfl, pd_X12_hatsOf⟩, 12, _, TX12, 45, rfl, rfl⟩)⟩
noncomputable def ct_1069 : CTB2 := [(18, 199, 1, con_390, []), (27, 243, 0, con_677, [0, 1])]
noncomputable def gi_683 : GI := jl_n [jl_z 1, jl_t, jl_z 45, jl_i 0 16, jl_i 0 3, jl_i 0 10, jl_i 0 5, jl_i 0 8, jl_i 0 5, jl_z 1, jl_i 0 30, jl_i 0 2147483647, jl_z 16, jl_t, jl_i 0 1]
noncomputable def cu_1069 : List CUT2 := [((4, [(0, (6, 0, 0)), (1, (1, 1, 0)), (2, (1, 72, 0)), (3, (1, 73, 0))], [], gi_683, [(false, ac_437), (false, ac_589)]), [], ([(73, (-1))], 1))]
theorem ch_1069 : staG tb_X12_hatsIn 1 bt_RX12 [] ct_1069 [] [] cu_1069 23 con_1069 = true := by decide +kernel
theorem cc_1069 : cu_1069.all (cutG tb_X12_hatsIn 1 bt_RX12 [] ct_1069 [] [] cu_1069 23 con_1069) = true := by decide +kernel
theorem cto_1069 (l : Launch) : CTOK2 l RX12 vwCl gTbl ct_1069 := ct2_cons (vl_390 l) ck_RX12_199_390 (ct2_cons (vl_677 l) ck_RX12_243_677 (ct2_nil))
theorem vl_1069 (l : Launch) : Vld2 l vwCl gTbl con_1069 := conR_ok3 gT_all (hd_1069) rfl pn_RX12 tk_X12_hatsIn bo_RX12 xo_RX12 (cto_1069 l) ch_1069 (cut_all cc_1069)
/-- RookHustingModel in -/
noncomputable def con_1070 : Con2 := ((yX12_in, cX12_in, 6, (some .boolean)), (0, 0), ([(4, 0, 0), (3, 0, 0), (3, (-1), 0)], gi_146, [], []), [((0, 0, 0), gi_147, [], [], [1])])
theorem hd_1070 : con_1070.1 = (yX12_in, cX12_in, 6, (some .boolean)) := rfl
noncomputable def ct_1070 : CTB2 := []
noncomputable def cu_1070 : List CUT2 := []
theorem ch_1070 : staG tb_X12_in 1 bt_RX12 [] ct_1070 [] [] cu_1070 10 con_1070 = true := by decide +kernel
theorem cto_1070 (l : Launch) : CTOK2 l RX12 vwCl gTbl ct_1070 := ct2_nil
theorem vl_1070 (l : Launch) : Vld2 l vwCl gTbl con_1070 := conR_ok3 gT_all (hd_1070) rfl pn_RX12 tk_X12_in bo_RX12 xo_RX12 (cto_1070 l) ch_1070 cut_nil
/-- RookHustingModel isVoter -/
noncomputable def ac_590 : AC := .inr (1, jl_n [js_1 53 6, jl_x (1, (0, 0, 0)), js_1 56 2, js_2 10 0 300, js_2 16 0 4, js_2 10 0 40, js_2 1 0 9, js_2 1 0 5, js_2 5 0 4, js_2 1 0 9, js_2 1 0 5, js_2 5 0 4, js_2 1 0 9, js_2 1 0 5, js_2 5 0 4, js_2 1 0 9, js_2 1 0 5, js_2 5 0 4, js_2 1 0 9, js_2 1 0 5, js_2 5 0 4, js_2 1 0 9, js_2 1 0 5, js_2 5 0 4, js_2 1 0 9, js_2 1 0 5, js_2 5 0 4, jl_x (30, (12, 0, 0))])
noncomputable def con_1071 : Con2 := ((yX12_isVoter, cX12_isVoter, 2, (some .boolean)), (1, 25), ([(6, 0, 0), (1, 1, 0)], gi_667, [ac_437, ac_590], []), [((0, 0, 0), gi_668, [(false, ac_437), (false, ac_590)], [], [1])])
theorem hd_1071 : con_1071.1 = (yX12_isVoter, cX12_isVoter, 2, (some .boolean)) := rfl
theorem ck_RX12_91_1070 : COK2 RX12 vwCl gTbl 91 1 con_1070 := ⟨wd_1544, wd_137, mh_X12_in, .inl ⟨rfl, wd_1542, wd_1543, pd_X12_in⟩⟩
noncomputable def ct_1071 : CTB2 := [(13, 91, 1, con_1070, [])]
noncomputable def cu_1071 : List CUT2 := []
theorem ch_1071 : staG tb_X12_isVoter 1 bt_RX12 [] ct_1071 [] [] cu_1071 14 con_1071 = true := by decide +kernel
theorem cto_1071 (l : Launch) : CTOK2 l RX12 vwCl gTbl ct_1071 := ct2_cons (vl_1070 l) ck_RX12_91_1070 (ct2_nil)
theorem vl_1071 (l : Launch) : Vld2 l vwCl gTbl con_1071 := conR_ok3 gT_all (hd_1071) rfl pn_RX12 tk_X12_isVoter bo_RX12 xo_RX12 (cto_1071 l) ch_1071 cut_nil
/-- RookHustingModel factorial -/
noncomputable def con_1073 : Con2 := ((yX12_factorial, cX12_factorial, 3, (some .int)), (0, 0), ([(0, 6, 0)], [(0, 0)], [], []), [((0, 720, 0), [(0, 0), (0, 0)], [], [], [1])])
theorem hd_1073 : con_1073.1 = (yX12_factorial, cX12_factorial, 3, (some .int)) := rfl
noncomputable def ct_1073 : CTB2 := []
noncomputable def cu_1073 : List CUT2 := []
theorem ch_1073 : staG tb_X12_factorial 1 bt_RX12 [] ct_1073 [] [] cu_1073 56 con_1073 = true := by decide +kernel
theorem cto_1073 (l : Launch) : CTOK2 l RX12 vwCl gTbl ct_1073 := ct2_nil
theorem vl_1073 (l : Launch) : Vld2 l vwCl gTbl con_1073 := conR_ok3 gT_all (hd_1073) rfl pn_RX12 tk_X12_factorial bo_RX12 xo_RX12 (cto_1073 l) ch_1073 cut_nil
/-- RookHustingModel factorial -/
noncomputable def con_1074 : Con2 := ((yX12_factorial, cX12_factorial, 3, (some .int)), (0, 0), ([(0, 5, 0)], [(0, 0)], [], []), [((0, 120, 0), [(0, 0), (0, 0)], [], [], [1])])
theorem hd_1074 : con_1074.1 = (yX12_factorial, cX12_factorial, 3, (some .int)) := rfl
noncomputable def ct_1074 : CTB2 := []
noncomputable def cu_1074 : List CUT2 := []
theorem ch_1074 : staG tb_X12_factorial 1 bt_RX12 [] ct_1074 [] [] cu_1074 47 con_1074 = true := by decide +kernel
theorem cto_1074 (l : Launch) : CTOK2 l RX12 vwCl gTbl ct_1074 := ct2_nil
theorem vl_1074 (l : Launch) : Vld2 l vwCl gTbl con_1074 := conR_ok3 gT_all (hd_1074) rfl pn_RX12 tk_X12_factorial bo_RX12 xo_RX12 (cto_1074 l) ch_1074 cut_nil
/-- RookHustingModel factorial -/
noncomputable def con_1075 : Con2 := ((yX12_factorial, cX12_factorial, 3, (some .int)), (0, 0), ([(0, 4, 0)], [(0, 0)], [], []), [((0, 24, 0), [(0, 0), (0, 0)], [], [], [1])])
theorem hd_1075 : con_1075.1 = (yX12_factorial, cX12_factorial, 3, (some .int)) := rfl
noncomputable def ct_1075 : CTB2 := []
noncomputable def cu_1075 : List CUT2 := []
theorem ch_1075 : staG tb_X12_factorial 1 bt_RX12 [] ct_1075 [] [] cu_1075 38 con_1075 = true := by decide +kernel
theorem cto_1075 (l : Launch) : CTOK2 l RX12 vwCl gTbl ct_1075 := ct2_nil
theorem vl_1075 (l : Launch) : Vld2 l vwCl gTbl con_1075 := conR_ok3 gT_all (hd_1075) rfl pn_RX12 tk_X12_factorial bo_RX12 xo_RX12 (cto_1075 l) ch_1075 cut_nil
/-- RookHustingModel factorial -/
noncomputable def con_1076 : Con2 := ((yX12_factorial, cX12_factorial, 3, (some .int)), (0, 0), ([(0, 3, 0)], [(0, 0)], [], []), [((0, 6, 0), [(0, 0), (0, 0)], [], [], [1])])
theorem hd_1076 : con_1076.1 = (yX12_factorial, cX12_factorial, 3, (some .int)) := rfl
noncomputable def ct_1076 : CTB2 := []
noncomputable def cu_1076 : List CUT2 := []
theorem ch_1076 : staG tb_X12_factorial 1 bt_RX12 [] ct_1076 [] [] cu_1076 29 con_1076 = true := by decide +kernel
theorem cto_1076 (l : Launch) : CTOK2 l RX12 vwCl gTbl ct_1076 := ct2_nil
theorem vl_1076 (l : Launch) : Vld2 l vwCl gTbl con_1076 := conR_ok3 gT_all (hd_1076) rfl pn_RX12 tk_X12_factorial bo_RX12 xo_RX12 (cto_1076 l) ch_1076 cut_nil
/-- RookHustingModel factorial -/
noncomputable def con_1077 : Con2 := ((yX12_factorial, cX12_factorial, 3, (some .int)), (0, 0), ([(0, 2, 0)], [(0, 0)], [], []), [((0, 2, 0), [(0, 0), (0, 0)], [], [], [1])])
theorem hd_1077 : con_1077.1 = (yX12_factorial, cX12_factorial, 3, (some .int)) := rfl
noncomputable def ct_1077 : CTB2 := []
noncomputable def cu_1077 : List CUT2 := []
theorem ch_1077 : staG tb_X12_factorial 1 bt_RX12 [] ct_1077 [] [] cu_1077 20 con_1077 = true := by decide +kernel
theorem cto_1077 (l : Launch) : CTOK2 l RX12 vwCl gTbl ct_1077 := ct2_nil
theorem vl_1077 (l : Launch) : Vld2 l vwCl gTbl con_1077 := conR_ok3 gT_all (hd_1077) rfl pn_RX12 tk_X12_factorial bo_RX12 xo_RX12 (cto_1077 l) ch_1077 cut_nil
/-- RookHustingModel factorial -/
noncomputable def con_1078 : Con2 := ((yX12_factorial, cX12_factorial, 3, (some .int)), (0, 0), ([(0, 1, 0)], [(0, 0)], [], []), [((0, 1, 0), [(0, 0), (0, 0)], [], [], [1])])
theorem hd_1078 : con_1078.1 = (yX12_factorial, cX12_factorial, 3, (some .int)) := rfl
noncomputable def ct_1078 : CTB2 := []
noncomputable def cu_1078 : List CUT2 := []
theorem ch_1078 : staG tb_X12_factorial 1 bt_RX12 [] ct_1078 [] [] cu_1078 11 con_1078 = true := by decide +kernel
theorem cto_1078 (l : Launch) : CTOK2 l RX12 vwCl gTbl ct_1078 := ct2_nil
theorem vl_1078 (l : Launch) : Vld2 l vwCl gTbl con_1078 := conR_ok3 gT_all (hd_1078) rfl pn_RX12 tk_X12_factorial bo_RX12 xo_RX12 (cto_1078 l) ch_1078 cut_nil
/-- RookHustingModel bits -/
noncomputable def con_1079 : Con2 := ((yX12_bits, cX12_bits, 3, (some .int)), (0, 0), ([(1, 0, 0)], [(0, 127)], [], []), [((1, 1, 0), [(0, 127), (0, 7)], [], [], [1])])
theorem hd_1079 : con_1079.1 = (yX12_bits, cX12_bits, 3, (some .int)) := rfl
noncomputable def ct_1079 : CTB2 := []
noncomputable def cu_1079 : List CUT2 := []
theorem ch_1079 : staG tb_X12_bits 1 bt_RX12 [] ct_1079 [] [] cu_1079 219 con_1079 = true := by decide +kernel
theorem cto_1079 (l : Launch) : CTOK2 l RX12 vwCl gTbl ct_1079 := ct2_nil
theorem vl_1079 (l : Launch) : Vld2 l vwCl gTbl con_1079 := conR_ok3 gT_all (hd_1079) rfl pn_RX12 tk_X12_bits bo_RX12 xo_RX12 (cto_1079 l) ch_1079 cut_nil
/-- RookHustingModel factorial -/
noncomputable def con_1080 : Con2 := ((yX12_factorial, cX12_factorial, 3, (some .int)), (0, 0), ([(1, 0, 0)], [((-100), 100)], [], []), [((1, 1, 0), [((-100), 100), ((-2147483648), 2147483647)], [], [], [1])])
theorem hd_1080 : con_1080.1 = (yX12_factorial, cX12_factorial, 3, (some .int)) := rfl
noncomputable def ct_1080 : CTB2 := []
noncomputable def gi_684 : GI := jl_n [jl_m 99 100, jl_z 1, jl_t, jl_i 2 101]
noncomputable def cu_1080 : List CUT2 := [((4, [(0, (1, 0, 0)), (1, (1, 2, 0)), (2, (1, 3, 0))], [], gi_684, []), [], ([(3, (-1))], 101))]
theorem ch_1080 : staG tb_X12_factorial 1 bt_RX12 [] ct_1080 [] [] cu_1080 12 con_1080 = true := by decide +kernel
theorem cc_1080 : cu_1080.all (cutG tb_X12_factorial 1 bt_RX12 [] ct_1080 [] [] cu_1080 12 con_1080) = true := by decide +kernel
theorem cto_1080 (l : Launch) : CTOK2 l RX12 vwCl gTbl ct_1080 := ct2_nil
theorem vl_1080 (l : Launch) : Vld2 l vwCl gTbl con_1080 := conR_ok3 gT_all (hd_1080) rfl pn_RX12 tk_X12_factorial bo_RX12 xo_RX12 (cto_1080 l) ch_1080 (cut_all cc_1080)
/-- RookHustingModel divisor -/
noncomputable def con_1081 : Con2 := ((yX12_divisor, cX12_divisor, 10, (some .long)), (1, 13), ([(4, 0, 0), (3, 1, 0)], [((-9223372036854775808), 25600000000), (0, 0)], [], []), [((3, 1, 0), [((-9223372036854775808), 25600000000), (0, 0), (0, 0)], [], [], [1])])
theorem hd_1081 : con_1081.1 = (yX12_divisor, cX12_divisor, 10, (some .long)) := rfl
noncomputable def ct_1081 : CTB2 := []
noncomputable def gi_685 : GI := jl_n [jl_m 9223372036854775807 25600000000, jl_z 3, jl_u, jl_z 1]
noncomputable def gi_686 : GI := jl_n [jl_m 9223372036854775807 25600000000, jl_z 6]
noncomputable def cu_1081 : List CUT2 := [((9, [(0, (4, 0, 0)), (2, (3, 1, 0)), (4, (4, 4, 0)), (6, (3, 1, 0))], [], gi_685, []), [], ([], 1)), ((9, [(0, (4, 0, 0)), (2, (3, 1, 0)), (4, (3, 1, 0)), (6, (3, 0, 0)), (8, (3, 0, 0))], [], gi_686, []), [], ([], 0))]
theorem ch_1081 : staG tb_X12_divisor 1 bt_RX12 [] ct_1081 [(16, [(2, (1, 4, 0), 0, 0)])] [20] cu_1081 15 con_1081 = true := by decide +kernel
theorem cc_1081 : cu_1081.all (cutG tb_X12_divisor 1 bt_RX12 [] ct_1081 [(16, [(2, (1, 4, 0), 0, 0)])] [20] cu_1081 15 con_1081) = true := by decide +kernel
theorem cto_1081 (l : Launch) : CTOK2 l RX12 vwCl gTbl ct_1081 := ct2_nil
theorem vl_1081 (l : Launch) : Vld2 l vwCl gTbl con_1081 := conR_ok3 gT_all (hd_1081) rfl pn_RX12 tk_X12_divisor bo_RX12 xo_RX12 (cto_1081 l) ch_1081 (cut_all cc_1081)
/-- RookHustingModel part -/
noncomputable def gi_687 : GI := jl_n [jl_m 9223372036854775807 25600000000, jl_z 1, jl_i 0 1, jl_u]
noncomputable def con_1082 : Con2 := ((yX12_part, cX12_part, 5, (some .long)), (2, 42), ([(4, 0, 0), (3, 1, 0), (1, 2, 0)], [((-9223372036854775808), 25600000000), (0, 0), (0, 1)], [], []), [((4, 3, 0), gi_687, [], [], [4])])
theorem hd_1082 : con_1082.1 = (yX12_part, cX12_part, 5, (some .long)) := rfl
theorem ck_RX12_312_1081 : COK2 RX12 vwCl gTbl 312 1 con_1081 := ⟨wd_1810, wd_137, mh_X12_divisor, .inl ⟨rfl, wd_1808, wd_1809, pd_X12_divisor⟩⟩
noncomputable def ct_1082 : CTB2 := [(12, 312, 1, con_1081, [])]
noncomputable def cu_1082 : List CUT2 := []
theorem ch_1082 : staG tb_X12_part 1 bt_RX12 [] ct_1082 [] [] cu_1082 11 con_1082 = true := by decide +kernel
theorem cto_1082 (l : Launch) : CTOK2 l RX12 vwCl gTbl ct_1082 := ct2_cons (vl_1081 l) ck_RX12_312_1081 (ct2_nil)
theorem vl_1082 (l : Launch) : Vld2 l vwCl gTbl con_1082 := conR_ok3 gT_all (hd_1082) rfl pn_RX12 tk_X12_part bo_RX12 xo_RX12 (cto_1082 l) ch_1082 cut_nil
/-- RookHustingModel divisor -/
noncomputable def con_1083 : Con2 := ((yX12_divisor, cX12_divisor, 10, (some .long)), (1, 13), ([(4, 0, 0), (3, 2, 0)], [((-9223372036854775808), 25600000000), (0, 0)], [], []), [((3, (-1), 0), [((-9223372036854775808), 25600000000), (0, 0), (0, 0)], [], [], [1]), ((4, 2, 0), [((-9223372036854775808), 25600000000), (0, 0), (1, 2)], [], [], [4])])
theorem hd_1083 : con_1083.1 = (yX12_divisor, cX12_divisor, 10, (some .long)) := rfl
noncomputable def ct_1083 : CTB2 := []
noncomputable def gi_688 : GI := jl_n [jl_m 9223372036854775807 25600000000, jl_z 3, jl_i 1 2, jl_r 2 (jl_i 0 1)]
noncomputable def gi_689 : GI := jl_n [jl_m 9223372036854775807 25600000000, jl_z 4, jl_r 2 (jl_m 0 0)]
noncomputable def cu_1083 : List CUT2 := [((9, [(0, (4, 0, 0)), (2, (3, 2, 0)), (4, (4, 4, 0)), (6, (3, 2, 0))], [], gi_685, []), [], ([], 2)), ((9, [(0, (4, 0, 0)), (2, (3, 2, 0)), (4, (4, 4, 0)), (6, (4, 5, 0)), (8, (4, 6, 0))], [], gi_688, []), [], ([(5, 1)], 0)), ((9, [(0, (4, 0, 0)), (2, (3, 2, 0)), (4, (3, 2, 0)), (6, (4, 5, 0)), (8, (4, 6, 0))], [], gi_689, []), [], ([(5, (-1))], 0)), ((9, [(0, (4, 0, 0)), (2, (3, 2, 0)), (4, (3, (-1), 0)), (6, (3, 0, 0)), (8, (3, 0, 0))], [], gi_686, []), [], ([], 0))]
theorem ch_1083 : staG tb_X12_divisor 1 bt_RX12 [] ct_1083 [(16, [(2, (1, 4, 0), 0, 0)])] [20] cu_1083 15 con_1083 = true := by decide +kernel
theorem cc_1083 : cu_1083.all (cutG tb_X12_divisor 1 bt_RX12 [] ct_1083 [(16, [(2, (1, 4, 0), 0, 0)])] [20] cu_1083 15 con_1083) = true := by decide +kernel
theorem cto_1083 (l : Launch) : CTOK2 l RX12 vwCl gTbl ct_1083 := ct2_nil
theorem vl_1083 (l : Launch) : Vld2 l vwCl gTbl con_1083 := conR_ok3 gT_all (hd_1083) rfl pn_RX12 tk_X12_divisor bo_RX12 xo_RX12 (cto_1083 l) ch_1083 (cut_all cc_1083)
/-- RookHustingModel part -/
noncomputable def con_1084 : Con2 := ((yX12_part, cX12_part, 5, (some .long)), (2, 42), ([(4, 0, 0), (3, 2, 0), (1, 2, 0)], [((-9223372036854775808), 25600000000), (0, 0), (0, 1)], [], []), [((4, 3, 0), gi_687, [], [], [4])])
theorem hd_1084 : con_1084.1 = (yX12_part, cX12_part, 5, (some .long)) := rfl
theorem ck_RX12_312_1083 : COK2 RX12 vwCl gTbl 312 1 con_1083 := ⟨wd_1810, wd_137, mh_X12_divisor, .inl ⟨rfl, wd_1808, wd_1809, pd_X12_divisor⟩⟩
noncomputable def ct_1084 : CTB2 := [(12, 312, 1, con_1083, [])]
noncomputable def cu_1084 : List CUT2 := []
theorem ch_1084 : staG tb_X12_part 1 bt_RX12 [] ct_1084 [] [] cu_1084 11 con_1084 = true := by decide +kernel
theorem cto_1084 (l : Launch) : CTOK2 l RX12 vwCl gTbl ct_1084 := ct2_cons (vl_1083 l) ck_RX12_312_1083 (ct2_nil)
theorem vl_1084 (l : Launch) : Vld2 l vwCl gTbl con_1084 := conR_ok3 gT_all (hd_1084) rfl pn_RX12 tk_X12_part bo_RX12 xo_RX12 (cto_1084 l) ch_1084 cut_nil
/-- RookHustingModel divisor -/
noncomputable def gi_690 : GI := jl_n [jl_m 9223372036854775807 25600000000, jl_z 1, jl_k 4 0]
noncomputable def con_1085 : Con2 := ((yX12_divisor, cX12_divisor, 10, (some .long)), (1, 13), ([(4, 0, 0), (3, 6, 0)], [((-9223372036854775808), 25600000000), (0, 0)], [], []), [((4, 2, 0), gi_690, [], [], [4]), ((4, 2, 0), [((-9223372036854775808), 25600000000), (0, 0), (1, 6)], [], [], [4])])
theorem hd_1085 : con_1085.1 = (yX12_divisor, cX12_divisor, 10, (some .long)) := rfl
noncomputable def ct_1085 : CTB2 := []
noncomputable def gi_691 : GI := jl_n [jl_m 9223372036854775807 25600000000, jl_z 3, jl_i 1 6, jl_r 2 (jl_i 0 5)]
noncomputable def gi_692 : GI := jl_n [jl_m 9223372036854775807 25600000000, jl_z 3, jl_i 1 6, jl_r 2 (jl_m 4 0)]
noncomputable def gi_693 : GI := jl_n [jl_m 9223372036854775807 25600000000, jl_z 3, jl_k 4 0, jl_r 2 (jl_i 0 4)]
noncomputable def cu_1085 : List CUT2 := [((9, [(0, (4, 0, 0)), (2, (3, 6, 0)), (4, (4, 4, 0)), (6, (3, 6, 0))], [], gi_685, []), [], ([], 6)), ((9, [(0, (4, 0, 0)), (2, (3, 6, 0)), (4, (4, 4, 0)), (6, (4, 5, 0)), (8, (4, 6, 0))], [], gi_691, []), [], ([(5, 1)], 0)), ((9, [(0, (4, 0, 0)), (2, (3, 6, 0)), (4, (4, 4, 0)), (6, (4, 5, 0)), (8, (4, 6, 0))], [], gi_692, []), [], ([(5, (-1))], 0)), ((9, [(0, (4, 0, 0)), (2, (3, 6, 0)), (4, (4, 4, 0)), (6, (4, 5, 0)), (8, (4, 6, 0))], [], gi_693, []), [], ([(5, 1)], 0))]
theorem ch_1085 : staG tb_X12_divisor 1 bt_RX12 [] ct_1085 [(16, [(2, (1, 4, 0), 0, 0)])] [20] cu_1085 15 con_1085 = true := by decide +kernel
theorem cc_1085 : cu_1085.all (cutG tb_X12_divisor 1 bt_RX12 [] ct_1085 [(16, [(2, (1, 4, 0), 0, 0)])] [20] cu_1085 15 con_1085) = true := by decide +kernel
theorem cto_1085 (l : Launch) : CTOK2 l RX12 vwCl gTbl ct_1085 := ct2_nil
theorem vl_1085 (l : Launch) : Vld2 l vwCl gTbl con_1085 := conR_ok3 gT_all (hd_1085) rfl pn_RX12 tk_X12_divisor bo_RX12 xo_RX12 (cto_1085 l) ch_1085 (cut_all cc_1085)
/-- RookHustingModel part -/
noncomputable def con_1086 : Con2 := ((yX12_part, cX12_part, 5, (some .long)), (2, 42), ([(4, 0, 0), (3, 6, 0), (1, 2, 0)], [((-9223372036854775808), 25600000000), (0, 0), (0, 1)], [], []), [((4, 3, 0), gi_687, [], [], [4])])
theorem hd_1086 : con_1086.1 = (yX12_part, cX12_part, 5, (some .long)) := rfl
theorem ck_RX12_312_1085 : COK2 RX12 vwCl gTbl 312 1 con_1085 := ⟨wd_1810, wd_137, mh_X12_divisor, .inl ⟨rfl, wd_1808, wd_1809, pd_X12_divisor⟩⟩
noncomputable def ct_1086 : CTB2 := [(12, 312, 1, con_1085, [])]
noncomputable def cu_1086 : List CUT2 := []
theorem ch_1086 : staG tb_X12_part 1 bt_RX12 [] ct_1086 [] [] cu_1086 11 con_1086 = true := by decide +kernel
theorem cto_1086 (l : Launch) : CTOK2 l RX12 vwCl gTbl ct_1086 := ct2_cons (vl_1085 l) ck_RX12_312_1085 (ct2_nil)
theorem vl_1086 (l : Launch) : Vld2 l vwCl gTbl con_1086 := conR_ok3 gT_all (hd_1086) rfl pn_RX12 tk_X12_part bo_RX12 xo_RX12 (cto_1086 l) ch_1086 cut_nil
/-- RookHustingModel divisor -/
noncomputable def gi_694 : GI := jl_n [jl_m 9223372036854775807 25600000000, jl_z 1, jl_k 22 0]
noncomputable def con_1087 : Con2 := ((yX12_divisor, cX12_divisor, 10, (some .long)), (1, 13), ([(4, 0, 0), (3, 24, 0)], [((-9223372036854775808), 25600000000), (0, 0)], [], []), [((4, 2, 0), gi_694, [], [], [4]), ((4, 2, 0), [((-9223372036854775808), 25600000000), (0, 0), (1, 24)], [], [], [4])])
theorem hd_1087 : con_1087.1 = (yX12_divisor, cX12_divisor, 10, (some .long)) := rfl
noncomputable def ct_1087 : CTB2 := []
noncomputable def gi_695 : GI := jl_n [jl_m 9223372036854775807 25600000000, jl_z 3, jl_i 1 24, jl_r 2 (jl_i 0 23)]
noncomputable def gi_696 : GI := jl_n [jl_m 9223372036854775807 25600000000, jl_z 3, jl_i 1 24, jl_r 2 (jl_m 22 0)]
noncomputable def gi_697 : GI := jl_n [jl_m 9223372036854775807 25600000000, jl_z 3, jl_k 22 0, jl_r 2 (jl_i 0 22)]
noncomputable def cu_1087 : List CUT2 := [((9, [(0, (4, 0, 0)), (2, (3, 24, 0)), (4, (4, 4, 0)), (6, (3, 24, 0))], [], gi_685, []), [], ([], 24)), ((9, [(0, (4, 0, 0)), (2, (3, 24, 0)), (4, (4, 4, 0)), (6, (4, 5, 0)), (8, (4, 6, 0))], [], gi_695, []), [], ([(5, 1)], 0)), ((9, [(0, (4, 0, 0)), (2, (3, 24, 0)), (4, (4, 4, 0)), (6, (4, 5, 0)), (8, (4, 6, 0))], [], gi_696, []), [], ([(5, (-1))], 0)), ((9, [(0, (4, 0, 0)), (2, (3, 24, 0)), (4, (4, 4, 0)), (6, (4, 5, 0)), (8, (4, 6, 0))], [], gi_697, []), [], ([(5, 1)], 0))]
theorem ch_1087 : staG tb_X12_divisor 1 bt_RX12 [] ct_1087 [(16, [(2, (1, 4, 0), 0, 0)])] [20] cu_1087 15 con_1087 = true := by decide +kernel
theorem cc_1087 : cu_1087.all (cutG tb_X12_divisor 1 bt_RX12 [] ct_1087 [(16, [(2, (1, 4, 0), 0, 0)])] [20] cu_1087 15 con_1087) = true := by decide +kernel
theorem cto_1087 (l : Launch) : CTOK2 l RX12 vwCl gTbl ct_1087 := ct2_nil
theorem vl_1087 (l : Launch) : Vld2 l vwCl gTbl con_1087 := conR_ok3 gT_all (hd_1087) rfl pn_RX12 tk_X12_divisor bo_RX12 xo_RX12 (cto_1087 l) ch_1087 (cut_all cc_1087)
/-- RookHustingModel part -/
noncomputable def con_1088 : Con2 := ((yX12_part, cX12_part, 5, (some .long)), (2, 42), ([(4, 0, 0), (3, 24, 0), (1, 2, 0)], [((-9223372036854775808), 25600000000), (0, 0), (0, 1)], [], []), [((4, 3, 0), gi_687, [], [], [4])])
theorem hd_1088 : con_1088.1 = (yX12_part, cX12_part, 5, (some .long)) := rfl
theorem ck_RX12_312_1087 : COK2 RX12 vwCl gTbl 312 1 con_1087 := ⟨wd_1810, wd_137, mh_X12_divisor, .inl ⟨rfl, wd_1808, wd_1809, pd_X12_divisor⟩⟩
noncomputable def ct_1088 : CTB2 := [(12, 312, 1, con_1087, [])]
noncomputable def cu_1088 : List CUT2 := []
theorem ch_1088 : staG tb_X12_part 1 bt_RX12 [] ct_1088 [] [] cu_1088 11 con_1088 = true := by decide +kernel
theorem cto_1088 (l : Launch) : CTOK2 l RX12 vwCl gTbl ct_1088 := ct2_cons (vl_1087 l) ck_RX12_312_1087 (ct2_nil)
theorem vl_1088 (l : Launch) : Vld2 l vwCl gTbl con_1088 := conR_ok3 gT_all (hd_1088) rfl pn_RX12 tk_X12_part bo_RX12 xo_RX12 (cto_1088 l) ch_1088 cut_nil
/-- RookHustingModel divisor -/
noncomputable def gi_698 : GI := jl_n [jl_m 9223372036854775807 25600000000, jl_z 1, jl_k 118 0]
noncomputable def con_1089 : Con2 := ((yX12_divisor, cX12_divisor, 10, (some .long)), (1, 13), ([(4, 0, 0), (3, 120, 0)], [((-9223372036854775808), 25600000000), (0, 0)], [], []), [((4, 2, 0), gi_698, [], [], [4]), ((4, 2, 0), [((-9223372036854775808), 25600000000), (0, 0), (1, 120)], [], [], [4])])
theorem hd_1089 : con_1089.1 = (yX12_divisor, cX12_divisor, 10, (some .long)) := rfl
noncomputable def ct_1089 : CTB2 := []
noncomputable def gi_699 : GI := jl_n [jl_m 9223372036854775807 25600000000, jl_z 3, jl_i 1 120, jl_r 2 (jl_i 0 119)]
noncomputable def gi_700 : GI := jl_n [jl_m 9223372036854775807 25600000000, jl_z 3, jl_i 1 120, jl_r 2 (jl_m 118 0)]
noncomputable def gi_701 : GI := jl_n [jl_m 9223372036854775807 25600000000, jl_z 3, jl_k 118 0, jl_r 2 (jl_i 0 118)]
noncomputable def cu_1089 : List CUT2 := [((9, [(0, (4, 0, 0)), (2, (3, 120, 0)), (4, (4, 4, 0)), (6, (3, 120, 0))], [], gi_685, []), [], ([], 120)), ((9, [(0, (4, 0, 0)), (2, (3, 120, 0)), (4, (4, 4, 0)), (6, (4, 5, 0)), (8, (4, 6, 0))], [], gi_699, []), [], ([(5, 1)], 0)), ((9, [(0, (4, 0, 0)), (2, (3, 120, 0)), (4, (4, 4, 0)), (6, (4, 5, 0)), (8, (4, 6, 0))], [], gi_700, []), [], ([(5, (-1))], 0)), ((9, [(0, (4, 0, 0)), (2, (3, 120, 0)), (4, (4, 4, 0)), (6, (4, 5, 0)), (8, (4, 6, 0))], [], gi_701, []), [], ([(5, 1)], 0))]
theorem ch_1089 : staG tb_X12_divisor 1 bt_RX12 [] ct_1089 [(16, [(2, (1, 4, 0), 0, 0)])] [20] cu_1089 15 con_1089 = true := by decide +kernel
theorem cc_1089 : cu_1089.all (cutG tb_X12_divisor 1 bt_RX12 [] ct_1089 [(16, [(2, (1, 4, 0), 0, 0)])] [20] cu_1089 15 con_1089) = true := by decide +kernel
theorem cto_1089 (l : Launch) : CTOK2 l RX12 vwCl gTbl ct_1089 := ct2_nil
theorem vl_1089 (l : Launch) : Vld2 l vwCl gTbl con_1089 := conR_ok3 gT_all (hd_1089) rfl pn_RX12 tk_X12_divisor bo_RX12 xo_RX12 (cto_1089 l) ch_1089 (cut_all cc_1089)
/-- RookHustingModel part -/
noncomputable def con_1090 : Con2 := ((yX12_part, cX12_part, 5, (some .long)), (2, 42), ([(4, 0, 0), (3, 120, 0), (1, 2, 0)], [((-9223372036854775808), 25600000000), (0, 0), (0, 1)], [], []), [((4, 3, 0), gi_687, [], [], [4])])
theorem hd_1090 : con_1090.1 = (yX12_part, cX12_part, 5, (some .long)) := rfl
theorem ck_RX12_312_1089 : COK2 RX12 vwCl gTbl 312 1 con_1089 := ⟨wd_1810, wd_137, mh_X12_divisor, .inl ⟨rfl, wd_1808, wd_1809, pd_X12_divisor⟩⟩
noncomputable def ct_1090 : CTB2 := [(12, 312, 1, con_1089, [])]
noncomputable def cu_1090 : List CUT2 := []
theorem ch_1090 : staG tb_X12_part 1 bt_RX12 [] ct_1090 [] [] cu_1090 11 con_1090 = true := by decide +kernel
theorem cto_1090 (l : Launch) : CTOK2 l RX12 vwCl gTbl ct_1090 := ct2_cons (vl_1089 l) ck_RX12_312_1089 (ct2_nil)
theorem vl_1090 (l : Launch) : Vld2 l vwCl gTbl con_1090 := conR_ok3 gT_all (hd_1090) rfl pn_RX12 tk_X12_part bo_RX12 xo_RX12 (cto_1090 l) ch_1090 cut_nil
/-- RookHustingModel divisor -/
noncomputable def gi_702 : GI := jl_n [jl_m 9223372036854775807 25600000000, jl_z 1, jl_k 718 0]
noncomputable def con_1091 : Con2 := ((yX12_divisor, cX12_divisor, 10, (some .long)), (1, 13), ([(4, 0, 0), (3, 720, 0)], [((-9223372036854775808), 25600000000), (0, 0)], [], []), [((4, 2, 0), gi_702, [], [], [4]), ((4, 2, 0), [((-9223372036854775808), 25600000000), (0, 0), (1, 720)], [], [], [4])])
theorem hd_1091 : con_1091.1 = (yX12_divisor, cX12_divisor, 10, (some .long)) := rfl
noncomputable def ct_1091 : CTB2 := []
noncomputable def gi_703 : GI := jl_n [jl_m 9223372036854775807 25600000000, jl_z 3, jl_i 1 720, jl_r 2 (jl_i 0 719)]
noncomputable def gi_704 : GI := jl_n [jl_m 9223372036854775807 25600000000, jl_z 3, jl_i 1 720, jl_r 2 (jl_m 718 0)]
noncomputable def gi_705 : GI := jl_n [jl_m 9223372036854775807 25600000000, jl_z 3, jl_k 718 0, jl_r 2 (jl_i 0 718)]
noncomputable def cu_1091 : List CUT2 := [((9, [(0, (4, 0, 0)), (2, (3, 720, 0)), (4, (4, 4, 0)), (6, (3, 720, 0))], [], gi_685, []), [], ([], 720)), ((9, [(0, (4, 0, 0)), (2, (3, 720, 0)), (4, (4, 4, 0)), (6, (4, 5, 0)), (8, (4, 6, 0))], [], gi_703, []), [], ([(5, 1)], 0)), ((9, [(0, (4, 0, 0)), (2, (3, 720, 0)), (4, (4, 4, 0)), (6, (4, 5, 0)), (8, (4, 6, 0))], [], gi_704, []), [], ([(5, (-1))], 0)), ((9, [(0, (4, 0, 0)), (2, (3, 720, 0)), (4, (4, 4, 0)), (6, (4, 5, 0)), (8, (4, 6, 0))], [], gi_705, []), [], ([(5, 1)], 0))]
theorem ch_1091 : staG tb_X12_divisor 1 bt_RX12 [] ct_1091 [(16, [(2, (1, 4, 0), 0, 0)])] [20] cu_1091 15 con_1091 = true := by decide +kernel
theorem cc_1091 : cu_1091.all (cutG tb_X12_divisor 1 bt_RX12 [] ct_1091 [(16, [(2, (1, 4, 0), 0, 0)])] [20] cu_1091 15 con_1091) = true := by decide +kernel
theorem cto_1091 (l : Launch) : CTOK2 l RX12 vwCl gTbl ct_1091 := ct2_nil
theorem vl_1091 (l : Launch) : Vld2 l vwCl gTbl con_1091 := conR_ok3 gT_all (hd_1091) rfl pn_RX12 tk_X12_divisor bo_RX12 xo_RX12 (cto_1091 l) ch_1091 (cut_all cc_1091)
/-- RookHustingModel part -/
noncomputable def con_1092 : Con2 := ((yX12_part, cX12_part, 5, (some .long)), (2, 42), ([(4, 0, 0), (3, 720, 0), (1, 2, 0)], [((-9223372036854775808), 25600000000), (0, 0), (0, 1)], [], []), [((4, 3, 0), gi_687, [], [], [4])])
theorem hd_1092 : con_1092.1 = (yX12_part, cX12_part, 5, (some .long)) := rfl
theorem ck_RX12_312_1091 : COK2 RX12 vwCl gTbl 312 1 con_1091 := ⟨wd_1810, wd_137, mh_X12_divisor, .inl ⟨rfl, wd_1808, wd_1809, pd_X12_divisor⟩⟩
noncomputable def ct_1092 : CTB2 := [(12, 312, 1, con_1091, [])]
noncomputable def cu_1092 : List CUT2 := []
theorem ch_1092 : staG tb_X12_part 1 bt_RX12 [] ct_1092 [] [] cu_1092 11 con_1092 = true := by decide +kernel
theorem cto_1092 (l : Launch) : CTOK2 l RX12 vwCl gTbl ct_1092 := ct2_cons (vl_1091 l) ck_RX12_312_1091 (ct2_nil)
theorem vl_1092 (l : Launch) : Vld2 l vwCl gTbl con_1092 := conR_ok3 gT_all (hd_1092) rfl pn_RX12 tk_X12_part bo_RX12 xo_RX12 (cto_1092 l) ch_1092 cut_nil
/-- RookHustingModel factorial -/
noncomputable def con_1093 : Con2 := ((yX12_factorial, cX12_factorial, 3, (some .int)), (0, 0), ([(0, 7, 0)], [(0, 0)], [], []), [((0, 5040, 0), [(0, 0), (0, 0)], [], [], [1])])
theorem hd_1093 : con_1093.1 = (yX12_factorial, cX12_factorial, 3, (some .int)) := rfl
noncomputable def ct_1093 : CTB2 := []
noncomputable def cu_1093 : List CUT2 := []
theorem ch_1093 : staG tb_X12_factorial 1 bt_RX12 [] ct_1093 [] [] cu_1093 65 con_1093 = true := by decide +kernel
theorem cto_1093 (l : Launch) : CTOK2 l RX12 vwCl gTbl ct_1093 := ct2_nil
theorem vl_1093 (l : Launch) : Vld2 l vwCl gTbl con_1093 := conR_ok3 gT_all (hd_1093) rfl pn_RX12 tk_X12_factorial bo_RX12 xo_RX12 (cto_1093 l) ch_1093 cut_nil
/-- RookHustingModel divisor -/
noncomputable def gi_706 : GI := jl_n [jl_m 9223372036854775807 25600000000, jl_z 1, jl_k 5038 0]
noncomputable def con_1094 : Con2 := ((yX12_divisor, cX12_divisor, 10, (some .long)), (1, 13), ([(4, 0, 0), (3, 5040, 0)], [((-9223372036854775808), 25600000000), (0, 0)], [], []), [((4, 2, 0), gi_706, [], [], [4]), ((4, 2, 0), [((-9223372036854775808), 25600000000), (0, 0), (1, 5040)], [], [], [4])])
theorem hd_1094 : con_1094.1 = (yX12_divisor, cX12_divisor, 10, (some .long)) := rfl
noncomputable def ct_1094 : CTB2 := []
noncomputable def gi_707 : GI := jl_n [jl_m 9223372036854775807 25600000000, jl_z 3, jl_i 1 5040, jl_r 2 (jl_i 0 5039)]
noncomputable def gi_708 : GI := jl_n [jl_m 9223372036854775807 25600000000, jl_z 3, jl_i 1 5040, jl_r 2 (jl_m 5038 0)]
noncomputable def gi_709 : GI := jl_n [jl_m 9223372036854775807 25600000000, jl_z 3, jl_k 5038 0, jl_r 2 (jl_i 0 5038)]
noncomputable def cu_1094 : List CUT2 := [((9, [(0, (4, 0, 0)), (2, (3, 5040, 0)), (4, (4, 4, 0)), (6, (3, 5040, 0))], [], gi_685, []), [], ([], 5040)), ((9, [(0, (4, 0, 0)), (2, (3, 5040, 0)), (4, (4, 4, 0)), (6, (4, 5, 0)), (8, (4, 6, 0))], [], gi_707, []), [], ([(5, 1)], 0)), ((9, [(0, (4, 0, 0)), (2, (3, 5040, 0)), (4, (4, 4, 0)), (6, (4, 5, 0)), (8, (4, 6, 0))], [], gi_708, []), [], ([(5, (-1))], 0)), ((9, [(0, (4, 0, 0)), (2, (3, 5040, 0)), (4, (4, 4, 0)), (6, (4, 5, 0)), (8, (4, 6, 0))], [], gi_709, []), [], ([(5, 1)], 0))]
theorem ch_1094 : staG tb_X12_divisor 1 bt_RX12 [] ct_1094 [(16, [(2, (1, 4, 0), 0, 0)])] [20] cu_1094 15 con_1094 = true := by decide +kernel
theorem cc_1094 : cu_1094.all (cutG tb_X12_divisor 1 bt_RX12 [] ct_1094 [(16, [(2, (1, 4, 0), 0, 0)])] [20] cu_1094 15 con_1094) = true := by decide +kernel
theorem cto_1094 (l : Launch) : CTOK2 l RX12 vwCl gTbl ct_1094 := ct2_nil
theorem vl_1094 (l : Launch) : Vld2 l vwCl gTbl con_1094 := conR_ok3 gT_all (hd_1094) rfl pn_RX12 tk_X12_divisor bo_RX12 xo_RX12 (cto_1094 l) ch_1094 (cut_all cc_1094)
/-- RookHustingModel part -/
noncomputable def con_1095 : Con2 := ((yX12_part, cX12_part, 5, (some .long)), (2, 42), ([(4, 0, 0), (3, 5040, 0), (1, 2, 0)], [((-9223372036854775808), 25600000000), (0, 0), (0, 1)], [], []), [((4, 3, 0), gi_687, [], [], [4])])
theorem hd_1095 : con_1095.1 = (yX12_part, cX12_part, 5, (some .long)) := rfl
theorem ck_RX12_312_1094 : COK2 RX12 vwCl gTbl 312 1 con_1094 := ⟨wd_1810, wd_137, mh_X12_divisor, .inl ⟨rfl, wd_1808, wd_1809, pd_X12_divisor⟩⟩
noncomputable def ct_1095 : CTB2 := [(12, 312, 1, con_1094, [])]
noncomputable def cu_1095 : List CUT2 := []
theorem ch_1095 : staG tb_X12_part 1 bt_RX12 [] ct_1095 [] [] cu_1095 11 con_1095 = true := by decide +kernel
theorem cto_1095 (l : Launch) : CTOK2 l RX12 vwCl gTbl ct_1095 := ct2_cons (vl_1094 l) ck_RX12_312_1094 (ct2_nil)
theorem vl_1095 (l : Launch) : Vld2 l vwCl gTbl con_1095 := conR_ok3 gT_all (hd_1095) rfl pn_RX12 tk_X12_part bo_RX12 xo_RX12 (cto_1095 l) ch_1095 cut_nil
