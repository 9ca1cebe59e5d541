/-! ===== contracts, 22 ===== -/
/-- RookHustingModel fewestOf -/
noncomputable def con_824 : Con2 := ((yX12_fewestOf, cX12_fewestOf, 4, (some .int)), (3, 74), ([(6, 0, 0), (0, 6, 0)], gi_388, hc_86, []), [((0, 1, 0), gi_389, hq_471, [], [1]), ((0, 2, 0), gi_389, hq_471, [], [1])])
theorem hd_824 : con_824.1 = (yX12_fewestOf, cX12_fewestOf, 4, (some .int)) := rfl
noncomputable def ct_824 : CTB2 := [(6, 95, 0, con_817, [0, 1]), (14, 199, 1, con_454, []), (14, 199, 1, con_455, []), (14, 199, 1, con_456, []), (30, 259, 0, con_685, [0, 1, 2, 3]), (37, 259, 0, con_685, [0, 1, 2, 3])]
noncomputable def cu_824 : List CUT2 := [((4, [lq 0 6 0, lq 1 0 6, (2, (0, (-1), 0)), lq 3 0 0], [], gi_390, hq_471), [], ([], 3)), ((4, [lq 0 6 0, lq 1 0 6, (2, (0, (-1), 0)), lq 3 0 1], [], gi_390, hq_471), [], ([], 2)), ((4, [lq 0 6 0, lq 1 0 6, lq 2 0 1, lq 3 0 2], [], gi_390, hq_471), [], ([], 1)), ((4, [lq 0 6 0, lq 1 0 6, lq 2 0 2, lq 3 0 3], [], gi_390, hq_471), [], ([], 0)), ((4, [lq 0 6 0, lq 1 0 6, lq 2 0 1, lq 3 0 3], [], gi_390, hq_471), [], ([], 0))]
theorem ch_824 : staG tb_X12_fewestOf 1 bt_RX12 [] ct_824 [] [] cu_824 30 con_824 = true := by decide +kernel
theorem cc_824 : cu_824.all (cutG tb_X12_fewestOf 1 bt_RX12 [] ct_824 [] [] cu_824 30 con_824) = true := by decide +kernel
theorem cto_824 (l : Launch) : CTOK2 l RX12 vwCl gTbl ct_824 := ct2_cons (vl_817 l) ck_RX12_95_817 (ct2_cons (vl_454 l) ck_RX12_199_454 (ct2_cons (vl_455 l) ck_RX12_199_455 (ct2_cons (vl_456 l) ck_RX12_199_456 (ct2_cons (vl_685 l) ck_RX12_259_685 (ct2_cons (vl_685 l) ck_RX12_259_685 (ct2_nil))))))
theorem vl_824 (l : Launch) : Vld2 l vwCl gTbl con_824 := conR_ok3 gT_all (hd_824) rfl pn_RX12 tk_X12_fewestOf bo_RX12 xo_RX12 (cto_824 l) ch_824 (cut_all cc_824)
/-- RookHustingModel electsOf -/
noncomputable def ac_476 : AC := .inr (1, jl_n [js_1 53 5, jl_x (1, (0, 3, 0)), sp_129])
noncomputable def hc_87 : List AC := [ac_451, ac_476, am_8, am_6]
noncomputable def hq_472 : HP := [(false, ac_451), (false, ac_476), (false, am_8), (false, am_6)]
noncomputable def con_825 : Con2 := ((yX12_electsOf, cX12_electsOf, 4, (some .int)), (4, 98), ([(6, 0, 0), (0, 7, 0), (1, 2, 0)], gi_394, hc_87, []), [((1, 71, 0), gi_395, hq_472, [], [1])])
theorem hd_825 : con_825.1 = (yX12_electsOf, cX12_electsOf, 4, (some .int)) := rfl
theorem ck_RX12_263_824 : COK2 RX12 vwCl gTbl 263 0 con_824 := ⟨wd_1732, wd_137, mh_X12_fewestOf, .inr (.inr ⟨rfl, wd_1729, wd_1731, wd_79, ⟨_, rfl, pd_X12_fewestOf⟩, 12, _, TX12, 45, rfl, rfl⟩)⟩
theorem ck_RX12_263_823 : COK2 RX12 vwCl gTbl 263 0 con_823 := ⟨wd_1732, wd_137, mh_X12_fewestOf, .inr (.inr ⟨rfl, wd_1729, wd_1731, wd_79, ⟨_, rfl, pd_X12_fewestOf⟩, 12, _, TX12, 45, rfl, rfl⟩)⟩
theorem ck_RX12_263_822 : COK2 RX12 vwCl gTbl 263 0 con_822 := ⟨wd_1732, wd_137, mh_X12_fewestOf, .inr (.inr ⟨rfl, wd_1729, wd_1731, wd_79, ⟨_, rfl, pd_X12_fewestOf⟩, 12, _, TX12, 45, rfl, rfl⟩)⟩
theorem ck_RX12_263_821 : COK2 RX12 vwCl gTbl 263 0 con_821 := ⟨wd_1732, wd_137, mh_X12_fewestOf, .inr (.inr ⟨rfl, wd_1729, wd_1731, wd_79, ⟨_, rfl, pd_X12_fewestOf⟩, 12, _, TX12, 45, rfl, rfl⟩)⟩
noncomputable def ct_825 : CTB2 := [(8, 252, 1, con_750, []), (8, 252, 1, con_749, []), (8, 252, 1, con_748, []), (8, 252, 1, con_732, []), (8, 252, 1, con_730, []), (8, 252, 1, con_728, []), (8, 252, 1, con_708, []), (19, 263, 0, con_821, [0, 1, 2, 3]), (19, 263, 0, con_822, [0, 1, 2, 3]), (19, 263, 0, con_823, [0, 1, 2, 3]), (19, 263, 0, con_824, [0, 1, 2, 3]), (42, 266, 0, con_697, [0, 1, 2, 3])]
noncomputable def cu_825 : List CUT2 := [((2, [lq 0 6 0, lq 1 0 7, lq 2 1 2, lq 3 0 7], [], gi_396, hq_472), [], ([], 7)), ((2, [lq 0 6 0, lq 1 0 7, lq 2 0 2, lq 3 0 3], [], gi_397, hq_472), [], ([], 3)), ((2, [lq 0 6 0, lq 1 0 7, lq 2 0 2, lq 3 0 5], [], gi_397, hq_472), [], ([], 5)), ((2, [lq 0 6 0, lq 1 0 7, lq 2 0 2, lq 3 0 6], [], gi_397, hq_472), [], ([], 6)), ((2, [lq 0 6 0, lq 1 0 7, lq 2 0 2, lq 3 0 1], [], gi_397, hq_472), [], ([], 1)), ((2, [lq 0 6 0, lq 1 0 7, lq 2 0 2, lq 3 0 2], [], gi_397, hq_472), [], ([], 2)), ((2, [lq 0 6 0, lq 1 0 7, lq 2 0 2, lq 3 0 4], [], gi_397, hq_472), [], ([], 4))]
theorem ch_825 : staG tb_X12_electsOf 1 bt_RX12 [] ct_825 [] [] cu_825 21 con_825 = true := by decide +kernel
theorem cc_825 : cu_825.all (cutG tb_X12_electsOf 1 bt_RX12 [] ct_825 [] [] cu_825 21 con_825) = true := by decide +kernel
theorem cto_825 (l : Launch) : CTOK2 l RX12 vwCl gTbl ct_825 := ct2_cons (vl_750 l) ck_RX12_252_750 (ct2_cons (vl_749 l) ck_RX12_252_749 (ct2_cons (vl_748 l) ck_RX12_252_748 (ct2_cons (vl_732 l) ck_RX12_252_732 (ct2_cons (vl_730 l) ck_RX12_252_730 (ct2_cons (vl_728 l) ck_RX12_252_728 (ct2_cons (vl_708 l) ck_RX12_252_708 (ct2_cons (vl_821 l) ck_RX12_263_821 (ct2_cons (vl_822 l) ck_RX12_263_822 (ct2_cons (vl_823 l) ck_RX12_263_823 (ct2_cons (vl_824 l) ck_RX12_263_824 (ct2_cons (vl_697 l) ck_RX12_266_697 (ct2_nil))))))))))))
theorem vl_825 (l : Launch) : Vld2 l vwCl gTbl con_825 := conR_ok3 gT_all (hd_825) rfl pn_RX12 tk_X12_electsOf bo_RX12 xo_RX12 (cto_825 l) ch_825 (cut_all cc_825)
/-- RookHustingModel electsOf -/
noncomputable def con_826 : Con2 := ((yX12_electsOf, cX12_electsOf, 4, (some .int)), (4, 98), ([(6, 0, 0), (0, 6, 0), (1, 2, 0)], gi_394, hc_87, []), [((1, 71, 0), gi_395, hq_472, [], [1])])
theorem hd_826 : con_826.1 = (yX12_electsOf, cX12_electsOf, 4, (some .int)) := rfl
noncomputable def ct_826 : CTB2 := [(8, 252, 1, con_750, []), (8, 252, 1, con_749, []), (8, 252, 1, con_732, []), (19, 263, 0, con_824, [0, 1, 2, 3]), (42, 266, 0, con_697, [0, 1, 2, 3])]
noncomputable def cu_826 : List CUT2 := [((2, [lq 0 6 0, lq 1 0 6, lq 2 1 2, lq 3 0 6], [], gi_396, hq_472), [], ([], 6)), ((2, [lq 0 6 0, lq 1 0 6, lq 2 0 2, lq 3 0 2], [], gi_397, hq_472), [], ([], 2)), ((2, [lq 0 6 0, lq 1 0 6, lq 2 0 2, lq 3 0 4], [], gi_397, hq_472), [], ([], 4))]
theorem ch_826 : staG tb_X12_electsOf 1 bt_RX12 [] ct_826 [] [] cu_826 21 con_826 = true := by decide +kernel
theorem cc_826 : cu_826.all (cutG tb_X12_electsOf 1 bt_RX12 [] ct_826 [] [] cu_826 21 con_826) = true := by decide +kernel
theorem cto_826 (l : Launch) : CTOK2 l RX12 vwCl gTbl ct_826 := ct2_cons (vl_750 l) ck_RX12_252_750 (ct2_cons (vl_749 l) ck_RX12_252_749 (ct2_cons (vl_732 l) ck_RX12_252_732 (ct2_cons (vl_824 l) ck_RX12_263_824 (ct2_cons (vl_697 l) ck_RX12_266_697 (ct2_nil)))))
theorem vl_826 (l : Launch) : Vld2 l vwCl gTbl con_826 := conR_ok3 gT_all (hd_826) rfl pn_RX12 tk_X12_electsOf bo_RX12 xo_RX12 (cto_826 l) ch_826 (cut_all cc_826)
/-- RookHustingModel electsOf -/
noncomputable def con_827 : Con2 := ((yX12_electsOf, cX12_electsOf, 4, (some .int)), (4, 98), ([(6, 0, 0), (0, 5, 0), (1, 2, 0)], gi_394, hc_87, []), [((1, 71, 0), gi_395, hq_472, [], [1])])
theorem hd_827 : con_827.1 = (yX12_electsOf, cX12_electsOf, 4, (some .int)) := rfl
noncomputable def ct_827 : CTB2 := [(8, 252, 1, con_750, []), (8, 252, 1, con_748, []), (8, 252, 1, con_730, []), (19, 263, 0, con_823, [0, 1, 2, 3]), (42, 266, 0, con_697, [0, 1, 2, 3])]
noncomputable def cu_827 : List CUT2 := [((2, [lq 0 6 0, lq 1 0 5, lq 2 1 2, lq 3 0 5], [], gi_396, hq_472), [], ([], 5)), ((2, [lq 0 6 0, lq 1 0 5, lq 2 0 2, lq 3 0 1], [], gi_397, hq_472), [], ([], 1)), ((2, [lq 0 6 0, lq 1 0 5, lq 2 0 2, lq 3 0 4], [], gi_397, hq_472), [], ([], 4))]
theorem ch_827 : staG tb_X12_electsOf 1 bt_RX12 [] ct_827 [] [] cu_827 21 con_827 = true := by decide +kernel
theorem cc_827 : cu_827.all (cutG tb_X12_electsOf 1 bt_RX12 [] ct_827 [] [] cu_827 21 con_827) = true := by decide +kernel
theorem cto_827 (l : Launch) : CTOK2 l RX12 vwCl gTbl ct_827 := ct2_cons (vl_750 l) ck_RX12_252_750 (ct2_cons (vl_748 l) ck_RX12_252_748 (ct2_cons (vl_730 l) ck_RX12_252_730 (ct2_cons (vl_823 l) ck_RX12_263_823 (ct2_cons (vl_697 l) ck_RX12_266_697 (ct2_nil)))))
theorem vl_827 (l : Launch) : Vld2 l vwCl gTbl con_827 := conR_ok3 gT_all (hd_827) rfl pn_RX12 tk_X12_electsOf bo_RX12 xo_RX12 (cto_827 l) ch_827 (cut_all cc_827)
/-- RookHustingModel electsOf -/
noncomputable def con_828 : Con2 := ((yX12_electsOf, cX12_electsOf, 4, (some .int)), (4, 98), ([(6, 0, 0), (0, 4, 0), (1, 2, 0)], gi_394, hc_87, []), [((1, 71, 0), gi_395, hq_472, [], [1])])
theorem hd_828 : con_828.1 = (yX12_electsOf, cX12_electsOf, 4, (some .int)) := rfl
noncomputable def cu_828 : List CUT2 := [((2, [lq 0 6 0, lq 1 0 4, lq 2 1 2, lq 3 0 4], [], gi_396, hq_472), [], ([], 4))]
theorem ch_828 : staG tb_X12_electsOf 1 bt_RX12 [] ct_780 [] [] cu_828 18 con_828 = true := by decide +kernel
theorem cc_828 : cu_828.all (cutG tb_X12_electsOf 1 bt_RX12 [] ct_780 [] [] cu_828 18 con_828) = true := by decide +kernel
theorem vl_828 (l : Launch) : Vld2 l vwCl gTbl con_828 := conR_ok3 gT_all (hd_828) rfl pn_RX12 tk_X12_electsOf bo_RX12 xo_RX12 (cto_780 l) ch_828 (cut_all cc_828)
/-- RookHustingModel electsOf -/
noncomputable def con_829 : Con2 := ((yX12_electsOf, cX12_electsOf, 4, (some .int)), (4, 98), ([(6, 0, 0), (0, 3, 0), (1, 2, 0)], gi_394, hc_87, []), [((1, 71, 0), gi_395, hq_472, [], [1])])
theorem hd_829 : con_829.1 = (yX12_electsOf, cX12_electsOf, 4, (some .int)) := rfl
noncomputable def ct_829 : CTB2 := [(8, 252, 1, con_749, []), (8, 252, 1, con_748, []), (8, 252, 1, con_728, []), (19, 263, 0, con_822, [0, 1, 2, 3]), (42, 266, 0, con_697, [0, 1, 2, 3])]
noncomputable def cu_829 : List CUT2 := [((2, [lq 0 6 0, lq 1 0 3, lq 2 1 2, lq 3 0 3], [], gi_396, hq_472), [], ([], 3)), ((2, [lq 0 6 0, lq 1 0 3, lq 2 0 2, lq 3 0 1], [], gi_397, hq_472), [], ([], 1)), ((2, [lq 0 6 0, lq 1 0 3, lq 2 0 2, lq 3 0 2], [], gi_397, hq_472), [], ([], 2))]
theorem ch_829 : staG tb_X12_electsOf 1 bt_RX12 [] ct_829 [] [] cu_829 21 con_829 = true := by decide +kernel
theorem cc_829 : cu_829.all (cutG tb_X12_electsOf 1 bt_RX12 [] ct_829 [] [] cu_829 21 con_829) = true := by decide +kernel
theorem cto_829 (l : Launch) : CTOK2 l RX12 vwCl gTbl ct_829 := ct2_cons (vl_749 l) ck_RX12_252_749 (ct2_cons (vl_748 l) ck_RX12_252_748 (ct2_cons (vl_728 l) ck_RX12_252_728 (ct2_cons (vl_822 l) ck_RX12_263_822 (ct2_cons (vl_697 l) ck_RX12_266_697 (ct2_nil)))))
theorem vl_829 (l : Launch) : Vld2 l vwCl gTbl con_829 := conR_ok3 gT_all (hd_829) rfl pn_RX12 tk_X12_electsOf bo_RX12 xo_RX12 (cto_829 l) ch_829 (cut_all cc_829)
/-- RookHustingModel electsOf -/
noncomputable def con_830 : Con2 := ((yX12_electsOf, cX12_electsOf, 4, (some .int)), (4, 98), ([(6, 0, 0), (0, 2, 0), (1, 2, 0)], gi_394, hc_87, []), [((1, 71, 0), gi_395, hq_472, [], [1])])
theorem hd_830 : con_830.1 = (yX12_electsOf, cX12_electsOf, 4, (some .int)) := rfl
noncomputable def cu_830 : List CUT2 := [((2, [lq 0 6 0, lq 1 0 2, lq 2 1 2, lq 3 0 2], [], gi_396, hq_472), [], ([], 2))]
theorem ch_830 : staG tb_X12_electsOf 1 bt_RX12 [] ct_782 [] [] cu_830 18 con_830 = true := by decide +kernel
theorem cc_830 : cu_830.all (cutG tb_X12_electsOf 1 bt_RX12 [] ct_782 [] [] cu_830 18 con_830) = true := by decide +kernel
theorem vl_830 (l : Launch) : Vld2 l vwCl gTbl con_830 := conR_ok3 gT_all (hd_830) rfl pn_RX12 tk_X12_electsOf bo_RX12 xo_RX12 (cto_782 l) ch_830 (cut_all cc_830)
/-- RookHustingModel electsOf -/
noncomputable def con_831 : Con2 := ((yX12_electsOf, cX12_electsOf, 4, (some .int)), (4, 98), ([(6, 0, 0), (0, 1, 0), (1, 2, 0)], gi_394, hc_87, []), [((1, 71, 0), gi_395, hq_472, [], [1])])
theorem hd_831 : con_831.1 = (yX12_electsOf, cX12_electsOf, 4, (some .int)) := rfl
noncomputable def cu_831 : List CUT2 := [((2, [lq 0 6 0, lq 1 0 1, lq 2 1 2, lq 3 0 1], [], gi_396, hq_472), [], ([], 1))]
theorem ch_831 : staG tb_X12_electsOf 1 bt_RX12 [] ct_783 [] [] cu_831 18 con_831 = true := by decide +kernel
theorem cc_831 : cu_831.all (cutG tb_X12_electsOf 1 bt_RX12 [] ct_783 [] [] cu_831 18 con_831) = true := by decide +kernel
theorem vl_831 (l : Launch) : Vld2 l vwCl gTbl con_831 := conR_ok3 gT_all (hd_831) rfl pn_RX12 tk_X12_electsOf bo_RX12 xo_RX12 (cto_783 l) ch_831 (cut_all cc_831)
/-- RookHustingModel electsOf -/
noncomputable def con_832 : Con2 := ((yX12_electsOf, cX12_electsOf, 4, (some .int)), (4, 98), ([(6, 0, 0), (0, 0, 0), (1, 2, 0)], gi_394, hc_87, []), [((1, 71, 0), gi_395, hq_472, [], [1])])
theorem hd_832 : con_832.1 = (yX12_electsOf, cX12_electsOf, 4, (some .int)) := rfl
noncomputable def cu_832 : List CUT2 := [((2, [lq 0 6 0, lq 1 0 0, lq 2 1 2, lq 3 0 0], [], gi_396, hq_472), [], ([], 0))]
theorem ch_832 : staG tb_X12_electsOf 1 bt_RX12 [] ct_785 [] [] cu_832 18 con_832 = true := by decide +kernel
theorem cc_832 : cu_832.all (cutG tb_X12_electsOf 1 bt_RX12 [] ct_785 [] [] cu_832 18 con_832) = true := by decide +kernel
theorem vl_832 (l : Launch) : Vld2 l vwCl gTbl con_832 := conR_ok3 gT_all (hd_832) rfl pn_RX12 tk_X12_electsOf bo_RX12 xo_RX12 (cto_785 l) ch_832 (cut_all cc_832)
/-- RookHustingModel men -/
noncomputable def ac_477 : AC := .inr (1, jl_n [js_1 51 5, jl_x (1, (0, 2, 0)), sp_127])
noncomputable def con_833 : Con2 := ((yX12_men, cX12_men, 1, (some .int)), (0, 0), ([(6, 0, 0)], gi_383, [ac_435, ac_477], []), [((0, 2, 0), gi_384, [(false, ac_435), (false, ac_477)], [], [1])])
theorem hd_833 : con_833.1 = (yX12_men, cX12_men, 1, (some .int)) := rfl
noncomputable def cu_833 : List CUT2 := []
theorem ch_833 : staG tb_X12_men 1 bt_RX12 [] ct_2 [] [] cu_833 7 con_833 = true := by decide +kernel
theorem vl_833 (l : Launch) : Vld2 l vwCl gTbl con_833 := conR_ok3 gT_all (hd_833) rfl pn_RX12 tk_X12_men bo_RX12 xo_RX12 (cto_2 l) ch_833 cut_nil
/-- RookHustingModel allMen -/
noncomputable def con_834 : Con2 := ((yX12_allMen, cX12_allMen, 1, (some .int)), (1, 20), ([(6, 0, 0)], gi_383, [ac_435, ac_477], []), [((0, 3, 0), gi_384, [(false, ac_435), (false, ac_477)], [], [1])])
theorem hd_834 : con_834.1 = (yX12_allMen, cX12_allMen, 1, (some .int)) := rfl
theorem ck_RX12_95_833 : COK2 RX12 vwCl gTbl 95 0 con_833 := ⟨wd_1672, wd_137, mh_X12_men, .inr (.inr ⟨rfl, wd_1669, wd_1671, wd_69, ⟨_, rfl, pd_X12_men⟩, 12, _, TX12, 45, rfl, rfl⟩)⟩
noncomputable def ct_834 : CTB2 := [(2, 95, 0, con_833, [0, 1])]
noncomputable def cu_834 : List CUT2 := []
theorem ch_834 : staG tb_X12_allMen 1 bt_RX12 [] ct_834 [] [] cu_834 9 con_834 = true := by decide +kernel
theorem cto_834 (l : Launch) : CTOK2 l RX12 vwCl gTbl ct_834 := ct2_cons (vl_833 l) ck_RX12_95_833 (ct2_nil)
theorem vl_834 (l : Launch) : Vld2 l vwCl gTbl con_834 := conR_ok3 gT_all (hd_834) rfl pn_RX12 tk_X12_allMen bo_RX12 xo_RX12 (cto_834 l) ch_834 cut_nil
/-- RookHustingModel isSet -/
noncomputable def ac_478 : AC := .inr (1, jl_n [js_1 52 5, jl_x (1, (0, 2, 0)), sp_128])
noncomputable def gi_400 : GI := jl_n [gp_211, gp_223]
noncomputable def con_835 : Con2 := ((yX12_isSet, cX12_isSet, 2, (some .boolean)), (2, 40), ([(6, 0, 0), (1, 1, 0)], gi_385, [ac_437, ac_478], []), [((0, 0, 0), gi_386, [(false, ac_437), (false, ac_478)], [], [1]), ((0, 1, 0), gi_400, [(false, ac_437), (false, ac_478)], [], [1])])
theorem hd_835 : con_835.1 = (yX12_isSet, cX12_isSet, 2, (some .boolean)) := rfl
theorem ck_RX12_269_834 : COK2 RX12 vwCl gTbl 269 0 con_834 := ⟨wd_1708, wd_137, mh_X12_allMen, .inr (.inr ⟨rfl, wd_1705, wd_1707, wd_75, ⟨_, rfl, pd_X12_allMen⟩, 12, _, TX12, 45, rfl, rfl⟩)⟩
noncomputable def ct_835 : CTB2 := [(1, 99, 0, con_673, [0, 1]), (11, 269, 0, con_834, [0, 1]), (15, 91, 1, con_332, [])]
noncomputable def cu_835 : List CUT2 := []
theorem ch_835 : staG tb_X12_isSet 1 bt_RX12 [] ct_835 [] [] cu_835 16 con_835 = true := by decide +kernel
theorem cto_835 (l : Launch) : CTOK2 l RX12 vwCl gTbl ct_835 := ct2_cons (vl_673 l) ck_RX12_99_673 (ct2_cons (vl_834 l) ck_RX12_269_834 (ct2_cons (vl_332 l) ck_RX12_91_332 (ct2_nil)))
theorem vl_835 (l : Launch) : Vld2 l vwCl gTbl con_835 := conR_ok3 gT_all (hd_835) rfl pn_RX12 tk_X12_isSet bo_RX12 xo_RX12 (cto_835 l) ch_835 cut_nil
/-- RookHustingModel fewestOf -/
noncomputable def hc_88 : List AC := [ac_469, ac_478, am_8, am_6]
noncomputable def hq_473 : HP := [(false, ac_469), (false, ac_478), (false, am_8), (false, am_6)]
noncomputable def con_836 : Con2 := ((yX12_fewestOf, cX12_fewestOf, 4, (some .int)), (3, 74), ([(6, 0, 0), (0, 3, 0)], gi_388, hc_88, []), [((0, 0, 0), gi_389, hq_473, [], [1]), ((0, 1, 0), gi_389, hq_473, [], [1])])
theorem hd_836 : con_836.1 = (yX12_fewestOf, cX12_fewestOf, 4, (some .int)) := rfl
noncomputable def ct_836 : CTB2 := [(6, 95, 0, con_833, [0, 1]), (14, 199, 1, con_465, []), (14, 199, 1, con_466, []), (30, 259, 0, con_685, [0, 1, 2, 3]), (37, 259, 0, con_685, [0, 1, 2, 3])]
noncomputable def cu_836 : List CUT2 := [((4, [lq 0 6 0, lq 1 0 3, (2, (0, (-1), 0)), lq 3 0 0], [], gi_390, hq_473), [], ([], 2)), ((4, [lq 0 6 0, lq 1 0 3, lq 2 0 0, lq 3 0 1], [], gi_390, hq_473), [], ([], 1)), ((4, [lq 0 6 0, lq 1 0 3, lq 2 0 1, lq 3 0 2], [], gi_390, hq_473), [], ([], 0)), ((4, [lq 0 6 0, lq 1 0 3, lq 2 0 0, lq 3 0 2], [], gi_390, hq_473), [], ([], 0))]
theorem ch_836 : staG tb_X12_fewestOf 1 bt_RX12 [] ct_836 [] [] cu_836 30 con_836 = true := by decide +kernel
theorem cc_836 : cu_836.all (cutG tb_X12_fewestOf 1 bt_RX12 [] ct_836 [] [] cu_836 30 con_836) = true := by decide +kernel
theorem cto_836 (l : Launch) : CTOK2 l RX12 vwCl gTbl ct_836 := ct2_cons (vl_833 l) ck_RX12_95_833 (ct2_cons (vl_465 l) ck_RX12_199_465 (ct2_cons (vl_466 l) ck_RX12_199_466 (ct2_cons (vl_685 l) ck_RX12_259_685 (ct2_cons (vl_685 l) ck_RX12_259_685 (ct2_nil)))))
theorem vl_836 (l : Launch) : Vld2 l vwCl gTbl con_836 := conR_ok3 gT_all (hd_836) rfl pn_RX12 tk_X12_fewestOf bo_RX12 xo_RX12 (cto_836 l) ch_836 (cut_all cc_836)
/-- RookHustingModel electsOf -/
noncomputable def ac_479 : AC := .inr (1, jl_n [js_1 53 5, jl_x (1, (0, 2, 0)), sp_129])
noncomputable def hc_89 : List AC := [ac_451, ac_479, am_8, am_6]
noncomputable def hq_474 : HP := [(false, ac_451), (false, ac_479), (false, am_8), (false, am_6)]
noncomputable def con_837 : Con2 := ((yX12_electsOf, cX12_electsOf, 4, (some .int)), (4, 98), ([(6, 0, 0), (0, 3, 0), (1, 2, 0)], gi_394, hc_89, []), [((1, 71, 0), gi_395, hq_474, [], [1])])
theorem hd_837 : con_837.1 = (yX12_electsOf, cX12_electsOf, 4, (some .int)) := rfl
theorem ck_RX12_263_836 : COK2 RX12 vwCl gTbl 263 0 con_836 := ⟨wd_1732, wd_137, mh_X12_fewestOf, .inr (.inr ⟨rfl, wd_1729, wd_1731, wd_79, ⟨_, rfl, pd_X12_fewestOf⟩, 12, _, TX12, 45, rfl, rfl⟩)⟩
noncomputable def ct_837 : CTB2 := [(8, 252, 1, con_749, []), (8, 252, 1, con_748, []), (8, 252, 1, con_728, []), (19, 263, 0, con_836, [0, 1, 2, 3]), (42, 266, 0, con_697, [0, 1, 2, 3])]
noncomputable def cu_837 : List CUT2 := [((2, [lq 0 6 0, lq 1 0 3, lq 2 1 2, lq 3 0 3], [], gi_396, hq_474), [], ([], 3)), ((2, [lq 0 6 0, lq 1 0 3, lq 2 0 2, lq 3 0 1], [], gi_397, hq_474), [], ([], 1)), ((2, [lq 0 6 0, lq 1 0 3, lq 2 0 2, lq 3 0 2], [], gi_397, hq_474), [], ([], 2))]
theorem ch_837 : staG tb_X12_electsOf 1 bt_RX12 [] ct_837 [] [] cu_837 21 con_837 = true := by decide +kernel
theorem cc_837 : cu_837.all (cutG tb_X12_electsOf 1 bt_RX12 [] ct_837 [] [] cu_837 21 con_837) = true := by decide +kernel
theorem cto_837 (l : Launch) : CTOK2 l RX12 vwCl gTbl ct_837 := ct2_cons (vl_749 l) ck_RX12_252_749 (ct2_cons (vl_748 l) ck_RX12_252_748 (ct2_cons (vl_728 l) ck_RX12_252_728 (ct2_cons (vl_836 l) ck_RX12_263_836 (ct2_cons (vl_697 l) ck_RX12_266_697 (ct2_nil)))))
theorem vl_837 (l : Launch) : Vld2 l vwCl gTbl con_837 := conR_ok3 gT_all (hd_837) rfl pn_RX12 tk_X12_electsOf bo_RX12 xo_RX12 (cto_837 l) ch_837 (cut_all cc_837)
/-- RookHustingModel electsOf -/
noncomputable def con_838 : Con2 := ((yX12_electsOf, cX12_electsOf, 4, (some .int)), (4, 98), ([(6, 0, 0), (0, 2, 0), (1, 2, 0)], gi_394, hc_89, []), [((1, 71, 0), gi_395, hq_474, [], [1])])
theorem hd_838 : con_838.1 = (yX12_electsOf, cX12_electsOf, 4, (some .int)) := rfl
noncomputable def cu_838 : List CUT2 := [((2, [lq 0 6 0, lq 1 0 2, lq 2 1 2, lq 3 0 2], [], gi_396, hq_474), [], ([], 2))]
theorem ch_838 : staG tb_X12_electsOf 1 bt_RX12 [] ct_782 [] [] cu_838 18 con_838 = true := by decide +kernel
theorem cc_838 : cu_838.all (cutG tb_X12_electsOf 1 bt_RX12 [] ct_782 [] [] cu_838 18 con_838) = true := by decide +kernel
theorem vl_838 (l : Launch) : Vld2 l vwCl gTbl con_838 := conR_ok3 gT_all (hd_838) rfl pn_RX12 tk_X12_electsOf bo_RX12 xo_RX12 (cto_782 l) ch_838 (cut_all cc_838)
/-- RookHustingModel electsOf -/
noncomputable def con_839 : Con2 := ((yX12_electsOf, cX12_electsOf, 4, (some .int)), (4, 98), ([(6, 0, 0), (0, 1, 0), (1, 2, 0)], gi_394, hc_89, []), [((1, 71, 0), gi_395, hq_474, [], [1])])
theorem hd_839 : con_839.1 = (yX12_electsOf, cX12_electsOf, 4, (some .int)) := rfl
noncomputable def cu_839 : List CUT2 := [((2, [lq 0 6 0, lq 1 0 1, lq 2 1 2, lq 3 0 1], [], gi_396, hq_474), [], ([], 1))]
theorem ch_839 : staG tb_X12_electsOf 1 bt_RX12 [] ct_783 [] [] cu_839 18 con_839 = true := by decide +kernel
theorem cc_839 : cu_839.all (cutG tb_X12_electsOf 1 bt_RX12 [] ct_783 [] [] cu_839 18 con_839) = true := by decide +kernel
theorem vl_839 (l : Launch) : Vld2 l vwCl gTbl con_839 := conR_ok3 gT_all (hd_839) rfl pn_RX12 tk_X12_electsOf bo_RX12 xo_RX12 (cto_783 l) ch_839 (cut_all cc_839)
/-- RookHustingModel electsOf -/
noncomputable def con_840 : Con2 := ((yX12_electsOf, cX12_electsOf, 4, (some .int)), (4, 98), ([(6, 0, 0), (0, 0, 0), (1, 2, 0)], gi_394, hc_89, []), [((1, 71, 0), gi_395, hq_474, [], [1])])
theorem hd_840 : con_840.1 = (yX12_electsOf, cX12_electsOf, 4, (some .int)) := rfl
noncomputable def cu_840 : List CUT2 := [((2, [lq 0 6 0, lq 1 0 0, lq 2 1 2, lq 3 0 0], [], gi_396, hq_474), [], ([], 0))]
theorem ch_840 : staG tb_X12_electsOf 1 bt_RX12 [] ct_785 [] [] cu_840 18 con_840 = true := by decide +kernel
theorem cc_840 : cu_840.all (cutG tb_X12_electsOf 1 bt_RX12 [] ct_785 [] [] cu_840 18 con_840) = true := by decide +kernel
theorem vl_840 (l : Launch) : Vld2 l vwCl gTbl con_840 := conR_ok3 gT_all (hd_840) rfl pn_RX12 tk_X12_electsOf bo_RX12 xo_RX12 (cto_785 l) ch_840 (cut_all cc_840)
/-- RookHustingModel men -/
noncomputable def ac_480 : AC := .inr (1, jl_n [js_1 51 5, jl_x (1, (0, 1, 0)), sp_127])
noncomputable def con_841 : Con2 := ((yX12_men, cX12_men, 1, (some .int)), (0, 0), ([(6, 0, 0)], gi_383, [ac_435, ac_480], []), [((0, 1, 0), gi_384, [(false, ac_435), (false, ac_480)], [], [1])])
theorem hd_841 : con_841.1 = (yX12_men, cX12_men, 1, (some .int)) := rfl
noncomputable def cu_841 : List CUT2 := []
theorem ch_841 : staG tb_X12_men 1 bt_RX12 [] ct_2 [] [] cu_841 7 con_841 = true := by decide +kernel
theorem vl_841 (l : Launch) : Vld2 l vwCl gTbl con_841 := conR_ok3 gT_all (hd_841) rfl pn_RX12 tk_X12_men bo_RX12 xo_RX12 (cto_2 l) ch_841 cut_nil
/-- RookHustingModel allMen -/
noncomputable def con_842 : Con2 := ((yX12_allMen, cX12_allMen, 1, (some .int)), (1, 20), ([(6, 0, 0)], gi_383, [ac_435, ac_480], []), [((0, 1, 0), gi_384, [(false, ac_435), (false, ac_480)], [], [1])])
theorem hd_842 : con_842.1 = (yX12_allMen, cX12_allMen, 1, (some .int)) := rfl
theorem ck_RX12_95_841 : COK2 RX12 vwCl gTbl 95 0 con_841 := ⟨wd_1672, wd_137, mh_X12_men, .inr (.inr ⟨rfl, wd_1669, wd_1671, wd_69, ⟨_, rfl, pd_X12_men⟩, 12, _, TX12, 45, rfl, rfl⟩)⟩
noncomputable def ct_842 : CTB2 := [(2, 95, 0, con_841, [0, 1])]
noncomputable def cu_842 : List CUT2 := []
theorem ch_842 : staG tb_X12_allMen 1 bt_RX12 [] ct_842 [] [] cu_842 9 con_842 = true := by decide +kernel
theorem cto_842 (l : Launch) : CTOK2 l RX12 vwCl gTbl ct_842 := ct2_cons (vl_841 l) ck_RX12_95_841 (ct2_nil)
theorem vl_842 (l : Launch) : Vld2 l vwCl gTbl con_842 := conR_ok3 gT_all (hd_842) rfl pn_RX12 tk_X12_allMen bo_RX12 xo_RX12 (cto_842 l) ch_842 cut_nil
/-- RookHustingModel isSet -/
noncomputable def ac_481 : AC := .inr (1, jl_n [js_1 52 5, jl_x (1, (0, 1, 0)), sp_128])
noncomputable def gi_401 : GI := jl_n [jl_z 1, gp_230, gp_222]
noncomputable def con_843 : Con2 := ((yX12_isSet, cX12_isSet, 2, (some .boolean)), (2, 40), ([(6, 0, 0), (1, 1, 0)], gi_385, [ac_437, ac_481], []), [((0, 0, 0), gi_386, [(false, ac_437), (false, ac_481)], [], [1]), ((0, 1, 0), gi_401, [(false, ac_437), (false, ac_481)], [], [1])])
theorem hd_843 : con_843.1 = (yX12_isSet, cX12_isSet, 2, (some .boolean)) := rfl
theorem ck_RX12_269_842 : COK2 RX12 vwCl gTbl 269 0 con_842 := ⟨wd_1708, wd_137, mh_X12_allMen, .inr (.inr ⟨rfl, wd_1705, wd_1707, wd_75, ⟨_, rfl, pd_X12_allMen⟩, 12, _, TX12, 45, rfl, rfl⟩)⟩
noncomputable def ct_843 : CTB2 := [(1, 99, 0, con_673, [0, 1]), (11, 269, 0, con_842, [0, 1]), (15, 91, 1, con_648, [])]
noncomputable def cu_843 : List CUT2 := []
theorem ch_843 : staG tb_X12_isSet 1 bt_RX12 [] ct_843 [] [] cu_843 16 con_843 = true := by decide +kernel
theorem cto_843 (l : Launch) : CTOK2 l RX12 vwCl gTbl ct_843 := ct2_cons (vl_673 l) ck_RX12_99_673 (ct2_cons (vl_842 l) ck_RX12_269_842 (ct2_cons (vl_648 l) ck_RX12_91_648 (ct2_nil)))
theorem vl_843 (l : Launch) : Vld2 l vwCl gTbl con_843 := conR_ok3 gT_all (hd_843) rfl pn_RX12 tk_X12_isSet bo_RX12 xo_RX12 (cto_843 l) ch_843 cut_nil
/-- RookHustingModel electsOf -/
noncomputable def ac_482 : AC := .inr (1, jl_n [js_1 53 5, jl_x (1, (0, 1, 0)), sp_129])
noncomputable def hc_90 : List AC := [ac_451, ac_482, am_8, am_6]
noncomputable def hq_475 : HP := [(false, ac_451), (false, ac_482), (false, am_8), (false, am_6)]
noncomputable def con_844 : Con2 := ((yX12_electsOf, cX12_electsOf, 4, (some .int)), (4, 98), ([(6, 0, 0), (0, 1, 0), (1, 2, 0)], gi_394, hc_90, []), [((1, 71, 0), gi_395, hq_475, [], [1])])
theorem hd_844 : con_844.1 = (yX12_electsOf, cX12_electsOf, 4, (some .int)) := rfl
noncomputable def cu_844 : List CUT2 := [((2, [lq 0 6 0, lq 1 0 1, lq 2 1 2, lq 3 0 1], [], gi_396, hq_475), [], ([], 1))]
theorem ch_844 : staG tb_X12_electsOf 1 bt_RX12 [] ct_783 [] [] cu_844 18 con_844 = true := by decide +kernel
theorem cc_844 : cu_844.all (cutG tb_X12_electsOf 1 bt_RX12 [] ct_783 [] [] cu_844 18 con_844) = true := by decide +kernel
theorem vl_844 (l : Launch) : Vld2 l vwCl gTbl con_844 := conR_ok3 gT_all (hd_844) rfl pn_RX12 tk_X12_electsOf bo_RX12 xo_RX12 (cto_783 l) ch_844 (cut_all cc_844)
/-- RookHustingModel electsOf -/
noncomputable def con_845 : Con2 := ((yX12_electsOf, cX12_electsOf, 4, (some .int)), (4, 98), ([(6, 0, 0), (0, 0, 0), (1, 2, 0)], gi_394, hc_90, []), [((1, 71, 0), gi_395, hq_475, [], [1])])
theorem hd_845 : con_845.1 = (yX12_electsOf, cX12_electsOf, 4, (some .int)) := rfl
noncomputable def cu_845 : List CUT2 := [((2, [lq 0 6 0, lq 1 0 0, lq 2 1 2, lq 3 0 0], [], gi_396, hq_475), [], ([], 0))]
theorem ch_845 : staG tb_X12_electsOf 1 bt_RX12 [] ct_785 [] [] cu_845 18 con_845 = true := by decide +kernel
theorem cc_845 : cu_845.all (cutG tb_X12_electsOf 1 bt_RX12 [] ct_785 [] [] cu_845 18 con_845) = true := by decide +kernel
theorem vl_845 (l : Launch) : Vld2 l vwCl gTbl con_845 := conR_ok3 gT_all (hd_845) rfl pn_RX12 tk_X12_electsOf bo_RX12 xo_RX12 (cto_785 l) ch_845 (cut_all cc_845)
/-- RookHustingModel men -/
noncomputable def ac_483 : AC := .inr (1, jl_n [js_1 51 5, jl_x (1, (0, 0, 0)), sp_127])
noncomputable def con_846 : Con2 := ((yX12_men, cX12_men, 1, (some .int)), (0, 0), ([(6, 0, 0)], gi_383, [ac_435, ac_483], []), [((0, 0, 0), gi_384, [(false, ac_435), (false, ac_483)], [], [1])])
theorem hd_846 : con_846.1 = (yX12_men, cX12_men, 1, (some .int)) := rfl
noncomputable def cu_846 : List CUT2 := []
theorem ch_846 : staG tb_X12_men 1 bt_RX12 [] ct_2 [] [] cu_846 7 con_846 = true := by decide +kernel
theorem vl_846 (l : Launch) : Vld2 l vwCl gTbl con_846 := conR_ok3 gT_all (hd_846) rfl pn_RX12 tk_X12_men bo_RX12 xo_RX12 (cto_2 l) ch_846 cut_nil
/-- RookHustingModel allMen -/
noncomputable def con_847 : Con2 := ((yX12_allMen, cX12_allMen, 1, (some .int)), (1, 20), ([(6, 0, 0)], gi_383, [ac_435, ac_483], []), [((0, 0, 0), gi_384, [(false, ac_435), (false, ac_483)], [], [1])])
theorem hd_847 : con_847.1 = (yX12_allMen, cX12_allMen, 1, (some .int)) := rfl
theorem ck_RX12_95_846 : COK2 RX12 vwCl gTbl 95 0 con_846 := ⟨wd_1672, wd_137, mh_X12_men, .inr (.inr ⟨rfl, wd_1669, wd_1671, wd_69, ⟨_, rfl, pd_X12_men⟩, 12, _, TX12, 45, rfl, rfl⟩)⟩
noncomputable def ct_847 : CTB2 := [(2, 95, 0, con_846, [0, 1])]
noncomputable def cu_847 : List CUT2 := []
theorem ch_847 : staG tb_X12_allMen 1 bt_RX12 [] ct_847 [] [] cu_847 9 con_847 = true := by decide +kernel
theorem cto_847 (l : Launch) : CTOK2 l RX12 vwCl gTbl ct_847 := ct2_cons (vl_846 l) ck_RX12_95_846 (ct2_nil)
theorem vl_847 (l : Launch) : Vld2 l vwCl gTbl con_847 := conR_ok3 gT_all (hd_847) rfl pn_RX12 tk_X12_allMen bo_RX12 xo_RX12 (cto_847 l) ch_847 cut_nil
/-- RookHustingModel in -/
noncomputable def con_848 : Con2 := ((yX12_in, cX12_in, 6, (some .boolean)), (0, 0), ([(4, 0, 0), (3, 0, 0), (3, 0, 0)], gi_146, [], []), [((0, 0, 0), gi_147, [], [], [1]), ((0, 1, 0), [(0, 0), (0, 0), (0, 0), (0, 0)], [], [], [1])])
theorem hd_848 : con_848.1 = (yX12_in, cX12_in, 6, (some .boolean)) := rfl
noncomputable def cu_848 : List CUT2 := []
theorem ch_848 : staG tb_X12_in 1 bt_RX12 [] ct_2 [] [] cu_848 11 con_848 = true := by decide +kernel
theorem vl_848 (l : Launch) : Vld2 l vwCl gTbl con_848 := conR_ok3 gT_all (hd_848) rfl pn_RX12 tk_X12_in bo_RX12 xo_RX12 (cto_2 l) ch_848 cut_nil
/-- RookHustingModel isSet -/
noncomputable def ac_484 : AC := .inr (1, jl_n [js_1 52 5, jl_x (1, (0, 0, 0)), sp_128])
noncomputable def gi_402 : GI := jl_n [jl_z 47, gp_222]
noncomputable def con_849 : Con2 := ((yX12_isSet, cX12_isSet, 2, (some .boolean)), (2, 40), ([(6, 0, 0), (1, 1, 0)], gi_385, [ac_437, ac_484], []), [((0, 0, 0), gi_386, [(false, ac_437), (false, ac_484)], [], [1]), ((0, 1, 0), gi_402, [(false, ac_437), (false, ac_484)], [], [1])])
theorem hd_849 : con_849.1 = (yX12_isSet, cX12_isSet, 2, (some .boolean)) := rfl
theorem ck_RX12_91_848 : COK2 RX12 vwCl gTbl 91 1 con_848 := ⟨wd_1544, wd_137, mh_X12_in, .inl ⟨rfl, wd_1542, wd_1543, pd_X12_in⟩⟩
theorem ck_RX12_269_847 : COK2 RX12 vwCl gTbl 269 0 con_847 := ⟨wd_1708, wd_137, mh_X12_allMen, .inr (.inr ⟨rfl, wd_1705, wd_1707, wd_75, ⟨_, rfl, pd_X12_allMen⟩, 12, _, TX12, 45, rfl, rfl⟩)⟩
noncomputable def ct_849 : CTB2 := [(1, 99, 0, con_673, [0, 1]), (11, 269, 0, con_847, [0, 1]), (15, 91, 1, con_848, [])]
noncomputable def cu_849 : List CUT2 := []
theorem ch_849 : staG tb_X12_isSet 1 bt_RX12 [] ct_849 [] [] cu_849 16 con_849 = true := by decide +kernel
theorem cto_849 (l : Launch) : CTOK2 l RX12 vwCl gTbl ct_849 := ct2_cons (vl_673 l) ck_RX12_99_673 (ct2_cons (vl_847 l) ck_RX12_269_847 (ct2_cons (vl_848 l) ck_RX12_91_848 (ct2_nil)))
theorem vl_849 (l : Launch) : Vld2 l vwCl gTbl con_849 := conR_ok3 gT_all (hd_849) rfl pn_RX12 tk_X12_isSet bo_RX12 xo_RX12 (cto_849 l) ch_849 cut_nil
/-- RookHustingModel electsOf -/
noncomputable def ac_485 : AC := .inr (1, jl_n [js_1 53 5, jl_x (1, (0, 0, 0)), sp_129])
noncomputable def hc_91 : List AC := [ac_451, ac_485, am_8, am_6]
noncomputable def hq_476 : HP := [(false, ac_451), (false, ac_485), (false, am_8), (false, am_6)]
noncomputable def con_850 : Con2 := ((yX12_electsOf, cX12_electsOf, 4, (some .int)), (4, 98), ([(6, 0, 0), (0, 0, 0), (1, 2, 0)], gi_394, hc_91, []), [((1, 71, 0), gi_395, hq_476, [], [1])])
theorem hd_850 : con_850.1 = (yX12_electsOf, cX12_electsOf, 4, (some .int)) := rfl
noncomputable def cu_850 : List CUT2 := [((2, [lq 0 6 0, lq 1 0 0, lq 2 1 2, lq 3 0 0], [], gi_396, hq_476), [], ([], 0))]
theorem ch_850 : staG tb_X12_electsOf 1 bt_RX12 [] ct_785 [] [] cu_850 18 con_850 = true := by decide +kernel
theorem cc_850 : cu_850.all (cutG tb_X12_electsOf 1 bt_RX12 [] ct_785 [] [] cu_850 18 con_850) = true := by decide +kernel
theorem vl_850 (l : Launch) : Vld2 l vwCl gTbl con_850 := conR_ok3 gT_all (hd_850) rfl pn_RX12 tk_X12_electsOf bo_RX12 xo_RX12 (cto_785 l) ch_850 (cut_all cc_850)
/-- RookHustingModel elects -/
noncomputable def gi_403 : GI := jl_n [gp_162, gp_190, jl_m 1 4, jl_z 45]
noncomputable def ac_486 : AC := .inl (12, jl_n [vp_48, vp_47, jl_8 48 27])
noncomputable def hq_477 : HP := [(true, ac_486), (false, ac_440), (true, am_8), (true, am_6)]
noncomputable def con_851 : Con2 := ((yX12_elects, cX12_elects, 3, (some .int)), (5, 121), ([(6, 0, 0), (1, 1, 0), (1, 2, 0)], gi_335, hc_74, []), [((1, 71, 0), gi_403, hq_477, [], tg_1)])
theorem hd_851 : con_851.1 = (yX12_elects, cX12_elects, 3, (some .int)) := rfl
theorem ck_RX12_277_850 : COK2 RX12 vwCl gTbl 277 0 con_850 := ⟨wd_1728, wd_137, mh_X12_electsOf, .inr (.inr ⟨rfl, wd_1725, wd_1727, wd_78, ⟨_, rfl, pd_X12_electsOf⟩, 12, _, TX12, 45, rfl, rfl⟩)⟩
theorem ck_RX12_277_845 : COK2 RX12 vwCl gTbl 277 0 con_845 := ⟨wd_1728, wd_137, mh_X12_electsOf, .inr (.inr ⟨rfl, wd_1725, wd_1727, wd_78, ⟨_, rfl, pd_X12_electsOf⟩, 12, _, TX12, 45, rfl, rfl⟩)⟩
theorem ck_RX12_277_844 : COK2 RX12 vwCl gTbl 277 0 con_844 := ⟨wd_1728, wd_137, mh_X12_electsOf, .inr (.inr ⟨rfl, wd_1725, wd_1727, wd_78, ⟨_, rfl, pd_X12_electsOf⟩, 12, _, TX12, 45, rfl, rfl⟩)⟩
theorem ck_RX12_277_840 : COK2 RX12 vwCl gTbl 277 0 con_840 := ⟨wd_1728, wd_137, mh_X12_electsOf, .inr (.inr ⟨rfl, wd_1725, wd_1727, wd_78, ⟨_, rfl, pd_X12_electsOf⟩, 12, _, TX12, 45, rfl, rfl⟩)⟩
theorem ck_RX12_277_839 : COK2 RX12 vwCl gTbl 277 0 con_839 := ⟨wd_1728, wd_137, mh_X12_electsOf, .inr (.inr ⟨rfl, wd_1725, wd_1727, wd_78, ⟨_, rfl, pd_X12_electsOf⟩, 12, _, TX12, 45, rfl, rfl⟩)⟩
theorem ck_RX12_277_838 : COK2 RX12 vwCl gTbl 277 0 con_838 := ⟨wd_1728, wd_137, mh_X12_electsOf, .inr (.inr ⟨rfl, wd_1725, wd_1727, wd_78, ⟨_, rfl, pd_X12_electsOf⟩, 12, _, TX12, 45, rfl, rfl⟩)⟩
theorem ck_RX12_277_837 : COK2 RX12 vwCl gTbl 277 0 con_837 := ⟨wd_1728, wd_137, mh_X12_electsOf, .inr (.inr ⟨rfl, wd_1725, wd_1727, wd_78, ⟨_, rfl, pd_X12_electsOf⟩, 12, _, TX12, 45, rfl, rfl⟩)⟩
theorem ck_RX12_277_832 : COK2 RX12 vwCl gTbl 277 0 con_832 := ⟨wd_1728, wd_137, mh_X12_electsOf, .inr (.inr ⟨rfl, wd_1725, wd_1727, wd_78, ⟨_, rfl, pd_X12_electsOf⟩, 12, _, TX12, 45, rfl, rfl⟩)⟩
theorem ck_RX12_277_831 : COK2 RX12 vwCl gTbl 277 0 con_831 := ⟨wd_1728, wd_137, mh_X12_electsOf, .inr (.inr ⟨rfl, wd_1725, wd_1727, wd_78, ⟨_, rfl, pd_X12_electsOf⟩, 12, _, TX12, 45, rfl, rfl⟩)⟩
theorem ck_RX12_277_830 : COK2 RX12 vwCl gTbl 277 0 con_830 := ⟨wd_1728, wd_137, mh_X12_electsOf, .inr (.inr ⟨rfl, wd_1725, wd_1727, wd_78, ⟨_, rfl, pd_X12_electsOf⟩, 12, _, TX12, 45, rfl, rfl⟩)⟩
theorem ck_RX12_277_829 : COK2 RX12 vwCl gTbl 277 0 con_829 := ⟨wd_1728, wd_137, mh_X12_electsOf, .inr (.inr ⟨rfl, wd_1725, wd_1727, wd_78, ⟨_, rfl, pd_X12_electsOf⟩, 12, _, TX12, 45, rfl, rfl⟩)⟩
theorem ck_RX12_277_828 : COK2 RX12 vwCl gTbl 277 0 con_828 := ⟨wd_1728, wd_137, mh_X12_electsOf, .inr (.inr ⟨rfl, wd_1725, wd_1727, wd_78, ⟨_, rfl, pd_X12_electsOf⟩, 12, _, TX12, 45, rfl, rfl⟩)⟩
theorem ck_RX12_277_827 : COK2 RX12 vwCl gTbl 277 0 con_827 := ⟨wd_1728, wd_137, mh_X12_electsOf, .inr (.inr ⟨rfl, wd_1725, wd_1727, wd_78, ⟨_, rfl, pd_X12_electsOf⟩, 12, _, TX12, 45, rfl, rfl⟩)⟩
theorem ck_RX12_277_826 : COK2 RX12 vwCl gTbl 277 0 con_826 := ⟨wd_1728, wd_137, mh_X12_electsOf, .inr (.inr ⟨rfl, wd_1725, wd_1727, wd_78, ⟨_, rfl, pd_X12_electsOf⟩, 12, _, TX12, 45, rfl, rfl⟩)⟩
theorem ck_RX12_277_825 : COK2 RX12 vwCl gTbl 277 0 con_825 := ⟨wd_1728, wd_137, mh_X12_electsOf, .inr (.inr ⟨rfl, wd_1725, wd_1727, wd_78, ⟨_, rfl, pd_X12_electsOf⟩, 12, _, TX12, 45, rfl, rfl⟩)⟩
theorem ck_RX12_277_816 : COK2 RX12 vwCl gTbl 277 0 con_816 := ⟨wd_1728, wd_137, mh_X12_electsOf, .inr (.inr ⟨rfl, wd_1725, wd_1727, wd_78, ⟨_, rfl, pd_X12_electsOf⟩, 12, _, TX12, 45, rfl, rfl⟩)⟩
theorem ck_RX12_277_815 : COK2 RX12 vwCl gTbl 277 0 con_815 := ⟨wd_1728, wd_137, mh_X12_electsOf, .inr (.inr ⟨rfl, wd_1725, wd_1727, wd_78, ⟨_, rfl, pd_X12_electsOf⟩, 12, _, TX12, 45, rfl, rfl⟩)⟩
theorem ck_RX12_277_814 : COK2 RX12 vwCl gTbl 277 0 con_814 := ⟨wd_1728, wd_137, mh_X12_electsOf, .inr (.inr ⟨rfl, wd_1725, wd_1727, wd_78, ⟨_, rfl, pd_X12_electsOf⟩, 12, _, TX12, 45, rfl, rfl⟩)⟩
theorem ck_RX12_277_813 : COK2 RX12 vwCl gTbl 277 0 con_813 := ⟨wd_1728, wd_137, mh_X12_electsOf, .inr (.inr ⟨rfl, wd_1725, wd_1727, wd_78, ⟨_, rfl, pd_X12_electsOf⟩, 12, _, TX12, 45, rfl, rfl⟩)⟩
theorem ck_RX12_277_812 : COK2 RX12 vwCl gTbl 277 0 con_812 := ⟨wd_1728, wd_137, mh_X12_electsOf, .inr (.inr ⟨rfl, wd_1725, wd_1727, wd_78, ⟨_, rfl, pd_X12_electsOf⟩, 12, _, TX12, 45, rfl, rfl⟩)⟩
theorem ck_RX12_277_811 : COK2 RX12 vwCl gTbl 277 0 con_811 := ⟨wd_1728, wd_137, mh_X12_electsOf, .inr (.inr ⟨rfl, wd_1725, wd_1727, wd_78, ⟨_, rfl, pd_X12_electsOf⟩, 12, _, TX12, 45, rfl, rfl⟩)⟩
theorem ck_RX12_277_810 : COK2 RX12 vwCl gTbl 277 0 con_810 := ⟨wd_1728, wd_137, mh_X12_electsOf, .inr (.inr ⟨rfl, wd_1725, wd_1727, wd_78, ⟨_, rfl, pd_X12_electsOf⟩, 12, _, TX12, 45, rfl, rfl⟩)⟩
theorem ck_RX12_277_809 : COK2 RX12 vwCl gTbl 277 0 con_809 := ⟨wd_1728, wd_137, mh_X12_electsOf, .inr (.inr ⟨rfl, wd_1725, wd_1727, wd_78, ⟨_, rfl, pd_X12_electsOf⟩, 12, _, TX12, 45, rfl, rfl⟩)⟩
theorem ck_RX12_277_808 : COK2 RX12 vwCl gTbl 277 0 con_808 := ⟨wd_1728, wd_137, mh_X12_electsOf, .inr (.inr ⟨rfl, wd_1725, wd_1727, wd_78, ⟨_, rfl, pd_X12_electsOf⟩, 12, _, TX12, 45, rfl, rfl⟩)⟩
theorem ck_RX12_277_807 : COK2 RX12 vwCl gTbl 277 0 con_807 := ⟨wd_1728, wd_137, mh_X12_electsOf, .inr (.inr ⟨rfl, wd_1725, wd_1727, wd_78, ⟨_, rfl, pd_X12_electsOf⟩, 12, _, TX12, 45, rfl, rfl⟩)⟩
theorem ck_RX12_277_806 : COK2 RX12 vwCl gTbl 277 0 con_806 := ⟨wd_1728, wd_137, mh_X12_electsOf, .inr (.inr ⟨rfl, wd_1725, wd_1727, wd_78, ⟨_, rfl, pd_X12_electsOf⟩, 12, _, TX12, 45, rfl, rfl⟩)⟩
theorem ck_RX12_277_805 : COK2 RX12 vwCl gTbl 277 0 con_805 := ⟨wd_1728, wd_137, mh_X12_electsOf, .inr (.inr ⟨rfl, wd_1725, wd_1727, wd_78, ⟨_, rfl, pd_X12_electsOf⟩, 12, _, TX12, 45, rfl, rfl⟩)⟩
theorem ck_RX12_277_804 : COK2 RX12 vwCl gTbl 277 0 con_804 := ⟨wd_1728, wd_137, mh_X12_electsOf, .inr (.inr ⟨rfl, wd_1725, wd_1727, wd_78, ⟨_, rfl, pd_X12_electsOf⟩, 12, _, TX12, 45, rfl, rfl⟩)⟩
theorem ck_RX12_277_803 : COK2 RX12 vwCl gTbl 277 0 con_803 := ⟨wd_1728, wd_137, mh_X12_electsOf, .inr (.inr ⟨rfl, wd_1725, wd_1727, wd_78, ⟨_, rfl, pd_X12_electsOf⟩, 12, _, TX12, 45, rfl, rfl⟩)⟩
theorem ck_RX12_277_802 : COK2 RX12 vwCl gTbl 277 0 con_802 := ⟨wd_1728, wd_137, mh_X12_electsOf, .inr (.inr ⟨rfl, wd_1725, wd_1727, wd_78, ⟨_, rfl, pd_X12_electsOf⟩, 12, _, TX12, 45, rfl, rfl⟩)⟩
theorem ck_RX12_277_801 : COK2 RX12 vwCl gTbl 277 0 con_801 := ⟨wd_1728, wd_137, mh_X12_electsOf, .inr (.inr ⟨rfl, wd_1725, wd_1727, wd_78, ⟨_, rfl, pd_X12_electsOf⟩, 12, _, TX12, 45, rfl, rfl⟩)⟩
theorem ck_RX12_277_785 : COK2 RX12 vwCl gTbl 277 0 con_785 := ⟨wd_1728, wd_137, mh_X12_electsOf, .inr (.inr ⟨rfl, wd_1725, wd_1727, wd_78, ⟨_, rfl, pd_X12_electsOf⟩, 12, _, TX12, 45, rfl, rfl⟩)⟩
theorem ck_RX12_277_783 : COK2 RX12 vwCl gTbl 277 0 con_783 := ⟨wd_1728, wd_137, mh_X12_electsOf, .inr (.inr ⟨rfl, wd_1725, wd_1727, wd_78, ⟨_, rfl, pd_X12_electsOf⟩, 12, _, TX12, 45, rfl, rfl⟩)⟩
theorem ck_RX12_277_782 : COK2 RX12 vwCl gTbl 277 0 con_782 := ⟨wd_1728, wd_137, mh_X12_electsOf, .inr (.inr ⟨rfl, wd_1725, wd_1727, wd_78, ⟨_, rfl, pd_X12_electsOf⟩, 12, _, TX12, 45, rfl, rfl⟩)⟩
theorem ck_RX12_277_781 : COK2 RX12 vwCl gTbl 277 0 con_781 := ⟨wd_1728, wd_137, mh_X12_electsOf, .inr (.inr ⟨rfl, wd_1725, wd_1727, wd_78, ⟨_, rfl, pd_X12_electsOf⟩, 12, _, TX12, 45, rfl, rfl⟩)⟩
theorem ck_RX12_277_780 : COK2 RX12 vwCl gTbl 277 0 con_780 := ⟨wd_1728, wd_137, mh_X12_electsOf, .inr (.inr ⟨rfl, wd_1725, wd_1727, wd_78, ⟨_, rfl, pd_X12_electsOf⟩, 12, _, TX12, 45, rfl, rfl⟩)⟩
theorem ck_RX12_277_779 : COK2 RX12 vwCl gTbl 277 0 con_779 := ⟨wd_1728, wd_137, mh_X12_electsOf, .inr (.inr ⟨rfl, wd_1725, wd_1727, wd_78, ⟨_, rfl, pd_X12_electsOf⟩, 12, _, TX12, 45, rfl, rfl⟩)⟩
theorem ck_RX12_277_778 : COK2 RX12 vwCl gTbl 277 0 con_778 := ⟨wd_1728, wd_137, mh_X12_electsOf, .inr (.inr ⟨rfl, wd_1725, wd_1727, wd_78, ⟨_, rfl, pd_X12_electsOf⟩, 12, _, TX12, 45, rfl, rfl⟩)⟩
theorem ck_RX12_277_777 : COK2 RX12 vwCl gTbl 277 0 con_777 := ⟨wd_1728, wd_137, mh_X12_electsOf, .inr (.inr ⟨rfl, wd_1725, wd_1727, wd_78, ⟨_, rfl, pd_X12_electsOf⟩, 12, _, TX12, 45, rfl, rfl⟩)⟩
theorem ck_RX12_277_776 : COK2 RX12 vwCl gTbl 277 0 con_776 := ⟨wd_1728, wd_137, mh_X12_electsOf, .inr (.inr ⟨rfl, wd_1725, wd_1727, wd_78, ⟨_, rfl, pd_X12_electsOf⟩, 12, _, TX12, 45, rfl, rfl⟩)⟩
theorem ck_RX12_277_775 : COK2 RX12 vwCl gTbl 277 0 con_775 := ⟨wd_1728, wd_137, mh_X12_electsOf, .inr (.inr ⟨rfl, wd_1725, wd_1727, wd_78, ⟨_, rfl, pd_X12_electsOf⟩, 12, _, TX12, 45, rfl, rfl⟩)⟩
theorem ck_RX12_277_774 : COK2 RX12 vwCl gTbl 277 0 con_774 := ⟨wd_1728, wd_137, mh_X12_electsOf, .inr (.inr ⟨rfl, wd_1725, wd_1727, wd_78, ⟨_, rfl, pd_X12_electsOf⟩, 12, _, TX12, 45, rfl, rfl⟩)⟩
theorem ck_RX12_277_773 : COK2 RX12 vwCl gTbl 277 0 con_773 := ⟨wd_1728, wd_137, mh_X12_electsOf, .inr (.inr ⟨rfl, wd_1725, wd_1727, wd_78, ⟨_, rfl, pd_X12_electsOf⟩, 12, _, TX12, 45, rfl, rfl⟩)⟩
theorem ck_RX12_277_772 : COK2 RX12 vwCl gTbl 277 0 con_772 := ⟨wd_1728, wd_137, mh_X12_electsOf, .inr (.inr ⟨rfl, wd_1725, wd_1727, wd_78, ⟨_, rfl, pd_X12_electsOf⟩, 12, _, TX12, 45, rfl, rfl⟩)⟩
theorem ck_RX12_277_771 : COK2 RX12 vwCl gTbl 277 0 con_771 := ⟨wd_1728, wd_137, mh_X12_electsOf, .inr (.inr ⟨rfl, wd_1725, wd_1727, wd_78, ⟨_, rfl, pd_X12_electsOf⟩, 12, _, TX12, 45, rfl, rfl⟩)⟩
theorem ck_RX12_277_770 : COK2 RX12 vwCl gTbl 277 0 con_770 := ⟨wd_1728, wd_137, mh_X12_electsOf, .inr (.inr ⟨rfl, wd_1725, wd_1727, wd_78, ⟨_, rfl, pd_X12_electsOf⟩, 12, _, TX12, 45, rfl, rfl⟩)⟩
theorem ck_RX12_277_769 : COK2 RX12 vwCl gTbl 277 0 con_769 := ⟨wd_1728, wd_137, mh_X12_electsOf, .inr (.inr ⟨rfl, wd_1725, wd_1727, wd_78, ⟨_, rfl, pd_X12_electsOf⟩, 12, _, TX12, 45, rfl, rfl⟩)⟩
theorem ck_RX12_277_768 : COK2 RX12 vwCl gTbl 277 0 con_768 := ⟨wd_1728, wd_137, mh_X12_electsOf, .inr (.inr ⟨rfl, wd_1725, wd_1727, wd_78, ⟨_, rfl, pd_X12_electsOf⟩, 12, _, TX12, 45, rfl, rfl⟩)⟩
theorem ck_RX12_277_767 : COK2 RX12 vwCl gTbl 277 0 con_767 := ⟨wd_1728, wd_137, mh_X12_electsOf, .inr (.inr ⟨rfl, wd_1725, wd_1727, wd_78, ⟨_, rfl, pd_X12_electsOf⟩, 12, _, TX12, 45, rfl, rfl⟩)⟩
theorem ck_RX12_277_766 : COK2 RX12 vwCl gTbl 277 0 con_766 := ⟨wd_1728, wd_137, mh_X12_electsOf, .inr (.inr ⟨rfl, wd_1725, wd_1727, wd_78, ⟨_, rfl, pd_X12_electsOf⟩, 12, _, TX12, 45, rfl, rfl⟩)⟩
theorem ck_RX12_277_765 : COK2 RX12 vwCl gTbl 277 0 con_765 := ⟨wd_1728, wd_137, mh_X12_electsOf, .inr (.inr ⟨rfl, wd_1725, wd_1727, wd_78, ⟨_, rfl, pd_X12_electsOf⟩, 12, _, TX12, 45, rfl, rfl⟩)⟩
theorem ck_RX12_277_764 : COK2 RX12 vwCl gTbl 277 0 con_764 := ⟨wd_1728, wd_137, mh_X12_electsOf, .inr (.inr ⟨rfl, wd_1725, wd_1727, wd_78, ⟨_, rfl, pd_X12_electsOf⟩, 12, _, TX12, 45, rfl, rfl⟩)⟩
theorem ck_RX12_277_763 : COK2 RX12 vwCl gTbl 277 0 con_763 := ⟨wd_1728, wd_137, mh_X12_electsOf, .inr (.inr ⟨rfl, wd_1725, wd_1727, wd_78, ⟨_, rfl, pd_X12_electsOf⟩, 12, _, TX12, 45, rfl, rfl⟩)⟩
theorem ck_RX12_277_762 : COK2 RX12 vwCl gTbl 277 0 con_762 := ⟨wd_1728, wd_137, mh_X12_electsOf, .inr (.inr ⟨rfl, wd_1725, wd_1727, wd_78, ⟨_, rfl, pd_X12_electsOf⟩, 12, _, TX12, 45, rfl, rfl⟩)⟩
theorem ck_RX12_277_761 : COK2 RX12 vwCl gTbl 277 0 con_761 := ⟨wd_1728, wd_137, mh_X12_electsOf, .inr (.inr ⟨rfl, wd_1725, wd_1727, wd_78, ⟨_, rfl, pd_X12_electsOf⟩, 12, _, TX12, 45, rfl, rfl⟩)⟩
theorem ck_RX12_277_760 : COK2 RX12 vwCl gTbl 277 0 con_760 := ⟨wd_1728, wd_137, mh_X12_electsOf, .inr (.inr ⟨rfl, wd_1725, wd_1727, wd_78, ⟨_, rfl, pd_X12_electsOf⟩, 12, _, TX12, 45, rfl, rfl⟩)⟩
theorem ck_RX12_277_759 : COK2 RX12 vwCl gTbl 277 0 con_759 := ⟨wd_1728, wd_137, mh_X12_electsOf, .inr (.inr ⟨rfl, wd_1725, wd_1727, wd_78, ⟨_, rfl, pd_X12_electsOf⟩, 12, _, TX12, 45, rfl, rfl⟩)⟩
theorem ck_RX12_277_758 : COK2 RX12 vwCl gTbl 277 0 con_758 := ⟨wd_1728, wd_137, mh_X12_electsOf, .inr (.inr ⟨rfl, wd_1725, wd_1727, wd_78, ⟨_, rfl, pd_X12_electsOf⟩, 12, _, TX12, 45, rfl, rfl⟩)⟩
theorem ck_RX12_277_757 : COK2 RX12 vwCl gTbl 277 0 con_757 := ⟨wd_1728, wd_137, mh_X12_electsOf, .inr (.inr ⟨rfl, wd_1725, wd_1727, wd_78, ⟨_, rfl, pd_X12_electsOf⟩, 12, _, TX12, 45, rfl, rfl⟩)⟩
theorem ck_RX12_277_756 : COK2 RX12 vwCl gTbl 277 0 con_756 := ⟨wd_1728, wd_137, mh_X12_electsOf, .inr (.inr ⟨rfl, wd_1725, wd_1727, wd_78, ⟨_, rfl, pd_X12_electsOf⟩, 12, _, TX12, 45, rfl, rfl⟩)⟩
theorem ck_RX12_277_755 : COK2 RX12 vwCl gTbl 277 0 con_755 := ⟨wd_1728, wd_137, mh_X12_electsOf, .inr (.inr ⟨rfl, wd_1725, wd_1727, wd_78, ⟨_, rfl, pd_X12_electsOf⟩, 12, _, TX12, 45, rfl, rfl⟩)⟩
theorem ck_RX12_277_754 : COK2 RX12 vwCl gTbl 277 0 con_754 := ⟨wd_1728, wd_137, mh_X12_electsOf, .inr (.inr ⟨rfl, wd_1725, wd_1727, wd_78, ⟨_, rfl, pd_X12_electsOf⟩, 12, _, TX12, 45, rfl, rfl⟩)⟩
theorem ck_RX12_277_753 : COK2 RX12 vwCl gTbl 277 0 con_753 := ⟨wd_1728, wd_137, mh_X12_electsOf, .inr (.inr ⟨rfl, wd_1725, wd_1727, wd_78, ⟨_, rfl, pd_X12_electsOf⟩, 12, _, TX12, 45, rfl, rfl⟩)⟩
theorem ck_RX12_272_849 : COK2 RX12 vwCl gTbl 272 0 con_849 := ⟨wd_1700, wd_137, mh_X12_isSet, .inr (.inr ⟨rfl, wd_1697, wd_1699, wd_73, ⟨_, rfl, pd_X12_isSet⟩, 12, _, TX12, 45, rfl, rfl⟩)⟩
theorem ck_RX12_272_843 : COK2 RX12 vwCl gTbl 272 0 con_843 := ⟨wd_1700, wd_137, mh_X12_isSet, .inr (.inr ⟨rfl, wd_1697, wd_1699, wd_73, ⟨_, rfl, pd_X12_isSet⟩, 12, _, TX12, 45, rfl, rfl⟩)⟩
theorem ck_RX12_272_835 : COK2 RX12 vwCl gTbl 272 0 con_835 := ⟨wd_1700, wd_137, mh_X12_isSet, .inr (.inr ⟨rfl, wd_1697, wd_1699, wd_73, ⟨_, rfl, pd_X12_isSet⟩, 12, _, TX12, 45, rfl, rfl⟩)⟩
theorem ck_RX12_272_820 : COK2 RX12 vwCl gTbl 272 0 con_820 := ⟨wd_1700, wd_137, mh_X12_isSet, .inr (.inr ⟨rfl, wd_1697, wd_1699, wd_73, ⟨_, rfl, pd_X12_isSet⟩, 12, _, TX12, 45, rfl, rfl⟩)⟩
theorem ck_RX12_272_789 : COK2 RX12 vwCl gTbl 272 0 con_789 := ⟨wd_1700, wd_137, mh_X12_isSet, .inr (.inr ⟨rfl, wd_1697, wd_1699, wd_73, ⟨_, rfl, pd_X12_isSet⟩, 12, _, TX12, 45, rfl, rfl⟩)⟩
theorem ck_RX12_272_694 : COK2 RX12 vwCl gTbl 272 0 con_694 := ⟨wd_1700, wd_137, mh_X12_isSet, .inr (.inr ⟨rfl, wd_1697, wd_1699, wd_73, ⟨_, rfl, pd_X12_isSet⟩, 12, _, TX12, 45, rfl, rfl⟩)⟩
noncomputable def ct_851 : CTB2 := [(1, 249, 0, con_665, [0, 1, 2, 3]), (6, 272, 0, con_694, [0, 1]), (6, 272, 0, con_789, [0, 1]), (6, 272, 0, con_820, [0, 1]), (6, 272, 0, con_835, [0, 1]), (6, 272, 0, con_843, [0, 1]), (6, 272, 0, con_849, [0, 1]), (18, 91, 1, con_332, []), (27, 277, 0, con_753, [0, 1, 2, 3]), (27, 277, 0, con_754, [0, 1, 2, 3]), (27, 277, 0, con_755, [0, 1, 2, 3]), (27, 277, 0, con_756, [0, 1, 2, 3]), (27, 277, 0, con_757, [0, 1, 2, 3]), (27, 277, 0, con_758, [0, 1, 2, 3]), (27, 277, 0, con_759, [0, 1, 2, 3]), (27, 277, 0, con_760, [0, 1, 2, 3]), (27, 277, 0, con_761, [0, 1, 2, 3]), (27, 277, 0, con_762, [0, 1, 2, 3]), (27, 277, 0, con_763, [0, 1, 2, 3]), (27, 277, 0, con_764, [0, 1, 2, 3]), (27, 277, 0, con_765, [0, 1, 2, 3]), (27, 277, 0, con_766, [0, 1, 2, 3]), (27, 277, 0, con_767, [0, 1, 2, 3]), (27, 277, 0, con_768, [0, 1, 2, 3]), (27, 277, 0, con_769, [0, 1, 2, 3]), (27, 277, 0, con_770, [0, 1, 2, 3]), (27, 277, 0, con_771, [0, 1, 2, 3]), (27, 277, 0, con_772, [0, 1, 2, 3]), (27, 277, 0, con_773, [0, 1, 2, 3]), (27, 277, 0, con_774, [0, 1, 2, 3]), (27, 277, 0, con_775, [0, 1, 2, 3]), (27, 277, 0, con_776, [0, 1, 2, 3]), (27, 277, 0, con_777, [0, 1, 2, 3]), (27, 277, 0, con_778, [0, 1, 2, 3]), (27, 277, 0, con_779, [0, 1, 2, 3]), (27, 277, 0, con_780, [0, 1, 2, 3]), (27, 277, 0, con_781, [0, 1, 2, 3]), (27, 277, 0, con_782, [0, 1, 2, 3]), (27, 277, 0, con_783, [0, 1, 2, 3]), (27, 277, 0, con_785, [0, 1, 2, 3]), (27, 277, 0, con_801, [0, 1, 2, 3]), (27, 277, 0, con_802, [0, 1, 2, 3]), (27, 277, 0, con_803, [0, 1, 2, 3]), (27, 277, 0, con_804, [0, 1, 2, 3]), (27, 277, 0, con_805, [0, 1, 2, 3]), (27, 277, 0, con_806, [0, 1, 2, 3]), (27, 277, 0, con_807, [0, 1, 2, 3]), (27, 277, 0, con_808, [0, 1, 2, 3]), (27, 277, 0, con_809, [0, 1, 2, 3]), (27, 277, 0, con_810, [0, 1, 2, 3]), (27, 277, 0, con_811, [0, 1, 2, 3]), (27, 277, 0, con_812, [0, 1, 2, 3]), (27, 277, 0, con_813, [0, 1, 2, 3]), (27, 277, 0, con_814, [0, 1, 2, 3]), (27, 277, 0, con_815, [0, 1, 2, 3]), (27, 277, 0, con_816, [0, 1, 2, 3]), (27, 277, 0, con_825, [0, 1, 2, 3]), (27, 277, 0, con_826, [0, 1, 2, 3]), (27, 277, 0, con_827, [0, 1, 2, 3]), (27, 277, 0, con_828, [0, 1, 2, 3]), (27, 277, 0, con_829, [0, 1, 2, 3]), (27, 277, 0, con_830, [0, 1, 2, 3]), (27, 277, 0, con_831, [0, 1, 2, 3]), (27, 277, 0, con_832, [0, 1, 2, 3]), (27, 277, 0, con_837, [0, 1, 2, 3]), (27, 277, 0, con_838, [0, 1, 2, 3]), (27, 277, 0, con_839, [0, 1, 2, 3]), (27, 277, 0, con_840, [0, 1, 2, 3]), (27, 277, 0, con_844, [0, 1, 2, 3]), (27, 277, 0, con_845, [0, 1, 2, 3]), (27, 277, 0, con_850, [0, 1, 2, 3])]
noncomputable def rf_851 : List (Nat × List POP) := [(4, [(1, (2, 1, 5), 0, 0)]), (24, [(1, (1, 1, 0), 0, 0)])]
noncomputable def cu_851 : List CUT2 := []
theorem ch_851 : staG tb_X12_elects 1 bt_RX12 [] ct_851 rf_851 [] cu_851 20 con_851 = true := by decide +kernel
theorem cto_851 (l : Launch) : CTOK2 l RX12 vwCl gTbl ct_851 := ct2_cons (vl_665 l) ck_RX12_249_665 (ct2_cons (vl_694 l) ck_RX12_272_694 (ct2_cons (vl_789 l) ck_RX12_272_789 (ct2_cons (vl_820 l) ck_RX12_272_820 (ct2_cons (vl_835 l) ck_RX12_272_835 (ct2_cons (vl_843 l) ck_RX12_272_843 (ct2_cons (vl_849 l) ck_RX12_272_849 (ct2_cons (vl_332 l) ck_RX12_91_332 (ct2_cons (vl_753 l) ck_RX12_277_753 (ct2_cons (vl_754 l) ck_RX12_277_754 (ct2_cons (vl_755 l) ck_RX12_277_755 (ct2_cons (vl_756 l) ck_RX12_277_756 (ct2_cons (vl_757 l) ck_RX12_277_757 (ct2_cons (vl_758 l) ck_RX12_277_758 (ct2_cons (vl_759 l) ck_RX12_277_759 (ct2_cons (vl_760 l) ck_RX12_277_760 (ct2_cons (vl_761 l) ck_RX12_277_761 (ct2_cons (vl_762 l) ck_RX12_277_762 (ct2_cons (vl_763 l) ck_RX12_277_763 (ct2_cons (vl_764 l) ck_RX12_277_764 (ct2_cons (vl_765 l) ck_RX12_277_765 (ct2_cons (vl_766 l) ck_RX12_277_766 (ct2_cons (vl_767 l) ck_RX12_277_767 (ct2_cons (vl_768 l) ck_RX12_277_768 (ct2_cons (vl_769 l) ck_RX12_277_769 (ct2_cons (vl_770 l) ck_RX12_277_770 (ct2_cons (vl_771 l) ck_RX12_277_771 (ct2_cons (vl_772 l) ck_RX12_277_772 (ct2_cons (vl_773 l) ck_RX12_277_773 (ct2_cons (vl_774 l) ck_RX12_277_774 (ct2_cons (vl_775 l) ck_RX12_277_775 (ct2_cons (vl_776 l) ck_RX12_277_776 (ct2_cons (vl_777 l) ck_RX12_277_777 (ct2_cons (vl_778 l) ck_RX12_277_778 (ct2_cons (vl_779 l) ck_RX12_277_779 (ct2_cons (vl_780 l) ck_RX12_277_780 (ct2_cons (vl_781 l) ck_RX12_277_781 (ct2_cons (vl_782 l) ck_RX12_277_782 (ct2_cons (vl_783 l) ck_RX12_277_783 (ct2_cons (vl_785 l) ck_RX12_277_785 (ct2_cons (vl_801 l) ck_RX12_277_801 (ct2_cons (vl_802 l) ck_RX12_277_802 (ct2_cons (vl_803 l) ck_RX12_277_803 (ct2_cons (vl_804 l) ck_RX12_277_804 (ct2_cons (vl_805 l) ck_RX12_277_805 (ct2_cons (vl_806 l) ck_RX12_277_806 (ct2_cons (vl_807 l) ck_RX12_277_807 (ct2_cons (vl_808 l) ck_RX12_277_808 (ct2_cons (vl_809 l) ck_RX12_277_809 (ct2_cons (vl_810 l) ck_RX12_277_810 (ct2_cons (vl_811 l) ck_RX12_277_811 (ct2_cons (vl_812 l) ck_RX12_277_812 (ct2_cons (vl_813 l) ck_RX12_277_813 (ct2_cons (vl_814 l) ck_RX12_277_814 (ct2_cons (vl_815 l) ck_RX12_277_815 (ct2_cons (vl_816 l) ck_RX12_277_816 (ct2_cons (vl_825 l) ck_RX12_277_825 (ct2_cons (vl_826 l) ck_RX12_277_826 (ct2_cons (vl_827 l) ck_RX12_277_827 (ct2_cons (vl_828 l) ck_RX12_277_828 (ct2_cons (vl_829 l) ck_RX12_277_829 (ct2_cons (vl_830 l) ck_RX12_277_830 (ct2_cons (vl_831 l) ck_RX12_277_831 (ct2_cons (vl_832 l) ck_RX12_277_832 (ct2_cons (vl_837 l) ck_RX12_277_837 (ct2_cons (vl_838 l) ck_RX12_277_838 (ct2_cons (vl_839 l) ck_RX12_277_839 (ct2_cons (vl_840 l) ck_RX12_277_840 (ct2_cons (vl_844 l) ck_RX12_277_844 (ct2_cons (vl_845 l) ck_RX12_277_845 (ct2_cons (vl_850 l) ck_RX12_277_850 (ct2_nil)))))))))))))))))))))))))))))))))))))))))))))))))))))))))))))))))))))))
theorem vl_851 (l : Launch) : Vld2 l vwCl gTbl con_851 := conR_ok3 gT_all (hd_851) rfl pn_RX12 tk_X12_elects bo_RX12 xo_RX12 (cto_851 l) ch_851 cut_nil
/-- RookHusting$Election allMen -/
noncomputable def gi_404 : GI := jl_n [gp_231]
noncomputable def ac_487 : AC := .inl (4, jl_n [jl_8 9 6, jl_1 10 1, jl_8 20 10])
noncomputable def gi_405 : GI := jl_n [gp_231, jl_i 0 31]
noncomputable def hq_478 : HP := [(false, .inl (1, [(6, 1, 0), (8, 2, 0)])), (false, ac_487)]
noncomputable def con_852 : Con2 := ((yX1_allMen, cX1_allMen, 1, (some .int)), (0, 0), ([(6, 0, 0)], gi_404, [.inl (1, [(6, 1, 0), (8, 2, 0)]), ac_487], []), [((1, 20, 0), gi_405, hq_478, [], [1])])
theorem hd_852 : con_852.1 = (yX1_allMen, cX1_allMen, 1, (some .int)) := rfl
noncomputable def ct_852 : CTB2 := []
noncomputable def cu_852 : List CUT2 := []
theorem ch_852 : staG tb_X1_allMen 1 bt_RX1 [] ct_852 [] [] cu_852 10 con_852 = true := by decide +kernel
theorem cto_852 (l : Launch) : CTOK2 l RX1 vwCl gTbl ct_852 := ct2_nil
theorem vl_852 (l : Launch) : Vld2 l vwCl gTbl con_852 := conR_ok3 gT_all (hd_852) rfl pn_RX1 tk_X1_allMen bo_RX1 xo_RX1 (cto_852 l) ch_852 cut_nil
/-- RookHusting$Election fillFields -/
noncomputable def gi_406 : GI := jl_n [gp_28, jl_z 6, jl_i 0 5, gp_232, jl_z 9]
noncomputable def ac_488 : AC := .inl (4, jl_n [jl_8 9 4, jl_1 10 1, jl_8 11 1, jl_1 13 2, jl_8 18 5, jl_6 5 1, jl_8 21 2, jl_6 4 1])
noncomputable def hc_92 : List AC := [.inl (1, [(6, 2, 0), (8, 4, 0)]), am_3, ac_488, am_5, am_7]
noncomputable def hq_479 : HP := [(false, .inl (1, [(6, 2, 0), (8, 4, 0)])), (true, am_3), (false, ac_488), (false, am_5), (false, am_7)]
noncomputable def con_853 : Con2 := ((yX1_fillFields, cX1_fillFields, 6, none), (4, 106), ([(6, 0, 0), (6, 1, 0), (1, 2, 0)], gi_406, hc_92, []), [((9, 0, 0), gi_406, hq_479, [], [])])
theorem hd_853 : con_853.1 = (yX1_fillFields, cX1_fillFields, 6, none) := rfl
theorem ck_RX1_64_689 : COK2 RX1 vwCl gTbl 64 0 con_689 := ⟨wd_817, wd_132, mh_X1_winner, .inr (.inr ⟨rfl, wd_841, wd_815, wd_816, ⟨_, rfl, pd_X1_winner⟩, 1, _, TX1, 2, rfl, rfl⟩)⟩
theorem ck_RX1_57_852 : COK2 RX1 vwCl gTbl 57 0 con_852 := ⟨wd_840, wd_132, mh_X1_allMen, .inr (.inr ⟨rfl, wd_837, wd_839, wd_18, ⟨_, rfl, pd_X1_allMen⟩, 1, _, TX1, 2, rfl, rfl⟩)⟩
noncomputable def ct_853 : CTB2 := [(1, 57, 0, con_852, [0, 2]), (31, 64, 0, con_689, [0, 3, 2, 4])]
noncomputable def gi_407 : GI := jl_n [gp_28, jl_z 6, jl_i 0 5, gp_233, jl_i 0 31, jl_i 0 5]
noncomputable def cu_853 : List CUT2 := [((8, [lq 0 6 0, lq 1 6 1, lq 2 1 2, lq 3 1 25, lq 4 1 26], [], gi_407, hq_479), [], ([(26, (-1))], 5))]
theorem ch_853 : staG tb_X1_fillFields 1 bt_RX1 [] ct_853 [] [] cu_853 34 con_853 = true := by decide +kernel
theorem cc_853 : cu_853.all (cutG tb_X1_fillFields 1 bt_RX1 [] ct_853 [] [] cu_853 34 con_853) = true := by decide +kernel
theorem cto_853 (l : Launch) : CTOK2 l RX1 vwCl gTbl ct_853 := ct2_cons (vl_852 l) ck_RX1_57_852 (ct2_cons (vl_689 l) ck_RX1_64_689 (ct2_nil))
theorem vl_853 (l : Launch) : Vld2 l vwCl gTbl con_853 := conR_ok3 gT_all (hd_853) rfl pn_RX1 tk_X1_fillFields bo_RX1 xo_RX1 (cto_853 l) ch_853 (cut_all cc_853)
/-- RookHusting elected -/
noncomputable def gi_408 : GI := jl_n [gp_234, jl_i 0 3, gp_212, gp_232, jl_z 15]
noncomputable def ac_489 : AC := .inl (11, jl_n [vp_61, jl_6 5 1, jl_8 9 1, jl_6 4 1, jl_8 18 8])
noncomputable def ac_490 : AC := .inl (4, jl_n [vp_62, vp_65, jl_8 33 5, jl_6 8 1, jl_8 36 2, jl_6 7 1])
noncomputable def hc_93 : List AC := [ac_489, .inl (9, [(6, 2, 0), (8, 19, 0)]), ac_490, .inl (7, [(6, 5, 0), (8, 38, 0), (8, 39, 0), (8, 40, 0)]), .inl (1, [(6, 2, 0), (8, 42, 0)]), am_3, am_5, am_7]
noncomputable def gi_409 : GI := jl_n [gp_234, jl_i 0 3, gp_212, gp_232, jl_z 15, jl_m 1 4]
noncomputable def hq_480 : HP := [(false, ac_489), (false, .inl (9, [(6, 2, 0), (8, 19, 0)])), (false, ac_490), (false, .inl (7, [(6, 5, 0), (8, 38, 0), (8, 39, 0), (8, 40, 0)])), (false, .inl (1, [(6, 2, 0), (8, 42, 0)])), (true, am_3), (false, am_5), (false, am_7)]
noncomputable def con_854 : Con2 := ((yX11_elected, cX11_elected, 2, (some .int)), (5, 131), ([(6, 0, 0), (1, 1, 0)], gi_408, hc_93, []), [((1, 43, 0), gi_409, hq_480, [], [1])])
theorem hd_854 : con_854.1 = (yX11_elected, cX11_elected, 2, (some .int)) := rfl
theorem ck_RX11_204_853 : COK2 RX11 vwCl gTbl 204 0 con_853 := ⟨wd_836, wd_132, mh_X1_fillFields, .inr (.inr ⟨rfl, wd_833, wd_834, wd_835, ⟨_, rfl, pd_X1_fillFields⟩, 1, _, TX1, 2, rfl, rfl⟩)⟩
noncomputable def ct_854 : CTB2 := [(2, 139, 0, con_643, [0, 1, 2]), (32, 204, 0, con_853, [4, 5, 2, 6, 7])]
noncomputable def cu_854 : List CUT2 := []
theorem ch_854 : staG tb_X11_elected 1 bt_RX11 [] ct_854 [] [] cu_854 22 con_854 = true := by decide +kernel
theorem cto_854 (l : Launch) : CTOK2 l RX11 vwCl gTbl ct_854 := ct2_cons (vl_643 l) ck_RX11_139_643 (ct2_cons (vl_853 l) ck_RX11_204_853 (ct2_nil))
theorem vl_854 (l : Launch) : Vld2 l vwCl gTbl con_854 := conR_ok3 gT_all (hd_854) rfl pn_RX11 tk_X11_elected bo_RX11 xo_RX11 (cto_854 l) ch_854 cut_nil
