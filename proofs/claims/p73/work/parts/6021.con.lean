/-! ===== contracts, 21 ===== -/
/-- RookHustingModel electsOf -/
noncomputable def con_764 : Con2 := ((yX12_electsOf, cX12_electsOf, 4, (some .int)), (4, 98), ([(6, 0, 0), (0, 20, 0), (1, 2, 0)], gi_394, hc_83, []), [((1, 71, 0), gi_395, hq_468, [], [1])])
theorem hd_764 : con_764.1 = (yX12_electsOf, cX12_electsOf, 4, (some .int)) := rfl
noncomputable def ct_764 : CTB2 := [(8, 252, 1, con_752, []), (8, 252, 1, con_750, []), (8, 252, 1, con_744, []), (19, 263, 0, con_745, [0, 1, 2, 3]), (42, 266, 0, con_697, [0, 1, 2, 3])]
noncomputable def cu_764 : List CUT2 := [((2, [lq 0 6 0, lq 1 0 20, lq 2 1 2, lq 3 0 20], [], gi_396, hq_468), [], ([], 20)), ((2, [lq 0 6 0, lq 1 0 20, lq 2 0 2, lq 3 0 4], [], gi_397, hq_468), [], ([], 4)), ((2, [lq 0 6 0, lq 1 0 20, lq 2 0 2, lq 3 0 16], [], gi_397, hq_468), [], ([], 16))]
theorem ch_764 : staG tb_X12_electsOf 1 bt_RX12 [] ct_764 [] [] cu_764 21 con_764 = true := by decide +kernel
theorem cc_764 : cu_764.all (cutG tb_X12_electsOf 1 bt_RX12 [] ct_764 [] [] cu_764 21 con_764) = true := by decide +kernel
theorem cto_764 (l : Launch) : CTOK2 l RX12 vwCl gTbl ct_764 := ct2_cons (vl_752 l) ck_RX12_252_752 (ct2_cons (vl_750 l) ck_RX12_252_750 (ct2_cons (vl_744 l) ck_RX12_252_744 (ct2_cons (vl_745 l) ck_RX12_263_745 (ct2_cons (vl_697 l) ck_RX12_266_697 (ct2_nil)))))
theorem vl_764 (l : Launch) : Vld2 l vwCl gTbl con_764 := conR_ok3 gT_all (hd_764) rfl pn_RX12 tk_X12_electsOf bo_RX12 xo_RX12 (cto_764 l) ch_764 (cut_all cc_764)
/-- RookHustingModel electsOf -/
noncomputable def con_765 : Con2 := ((yX12_electsOf, cX12_electsOf, 4, (some .int)), (4, 98), ([(6, 0, 0), (0, 19, 0), (1, 2, 0)], gi_394, hc_83, []), [((1, 71, 0), gi_395, hq_468, [], [1])])
theorem hd_765 : con_765.1 = (yX12_electsOf, cX12_electsOf, 4, (some .int)) := rfl
noncomputable def ct_765 : CTB2 := [(8, 252, 1, con_752, []), (8, 252, 1, con_749, []), (8, 252, 1, con_748, []), (8, 252, 1, con_742, []), (8, 252, 1, con_740, []), (8, 252, 1, con_728, []), (8, 252, 1, con_716, []), (19, 263, 0, con_717, [0, 1, 2, 3]), (19, 263, 0, con_729, [0, 1, 2, 3]), (19, 263, 0, con_741, [0, 1, 2, 3]), (19, 263, 0, con_743, [0, 1, 2, 3]), (42, 266, 0, con_697, [0, 1, 2, 3])]
noncomputable def cu_765 : List CUT2 := [((2, [lq 0 6 0, lq 1 0 19, lq 2 1 2, lq 3 0 19], [], gi_396, hq_468), [], ([], 19)), ((2, [lq 0 6 0, lq 1 0 19, lq 2 0 2, lq 3 0 3], [], gi_397, hq_468), [], ([], 3)), ((2, [lq 0 6 0, lq 1 0 19, lq 2 0 2, lq 3 0 17], [], gi_397, hq_468), [], ([], 17)), ((2, [lq 0 6 0, lq 1 0 19, lq 2 0 2, lq 3 0 18], [], gi_397, hq_468), [], ([], 18)), ((2, [lq 0 6 0, lq 1 0 19, lq 2 0 2, lq 3 0 1], [], gi_397, hq_468), [], ([], 1)), ((2, [lq 0 6 0, lq 1 0 19, lq 2 0 2, lq 3 0 2], [], gi_397, hq_468), [], ([], 2)), ((2, [lq 0 6 0, lq 1 0 19, lq 2 0 2, lq 3 0 16], [], gi_397, hq_468), [], ([], 16))]
theorem ch_765 : staG tb_X12_electsOf 1 bt_RX12 [] ct_765 [] [] cu_765 21 con_765 = true := by decide +kernel
theorem cc_765 : cu_765.all (cutG tb_X12_electsOf 1 bt_RX12 [] ct_765 [] [] cu_765 21 con_765) = true := by decide +kernel
theorem cto_765 (l : Launch) : CTOK2 l RX12 vwCl gTbl ct_765 := ct2_cons (vl_752 l) ck_RX12_252_752 (ct2_cons (vl_749 l) ck_RX12_252_749 (ct2_cons (vl_748 l) ck_RX12_252_748 (ct2_cons (vl_742 l) ck_RX12_252_742 (ct2_cons (vl_740 l) ck_RX12_252_740 (ct2_cons (vl_728 l) ck_RX12_252_728 (ct2_cons (vl_716 l) ck_RX12_252_716 (ct2_cons (vl_717 l) ck_RX12_263_717 (ct2_cons (vl_729 l) ck_RX12_263_729 (ct2_cons (vl_741 l) ck_RX12_263_741 (ct2_cons (vl_743 l) ck_RX12_263_743 (ct2_cons (vl_697 l) ck_RX12_266_697 (ct2_nil))))))))))))
theorem vl_765 (l : Launch) : Vld2 l vwCl gTbl con_765 := conR_ok3 gT_all (hd_765) rfl pn_RX12 tk_X12_electsOf bo_RX12 xo_RX12 (cto_765 l) ch_765 (cut_all cc_765)
/-- RookHustingModel electsOf -/
noncomputable def con_766 : Con2 := ((yX12_electsOf, cX12_electsOf, 4, (some .int)), (4, 98), ([(6, 0, 0), (0, 18, 0), (1, 2, 0)], gi_394, hc_83, []), [((1, 71, 0), gi_395, hq_468, [], [1])])
theorem hd_766 : con_766.1 = (yX12_electsOf, cX12_electsOf, 4, (some .int)) := rfl
noncomputable def ct_766 : CTB2 := [(8, 252, 1, con_752, []), (8, 252, 1, con_749, []), (8, 252, 1, con_742, []), (19, 263, 0, con_743, [0, 1, 2, 3]), (42, 266, 0, con_697, [0, 1, 2, 3])]
noncomputable def cu_766 : List CUT2 := [((2, [lq 0 6 0, lq 1 0 18, lq 2 1 2, lq 3 0 18], [], gi_396, hq_468), [], ([], 18)), ((2, [lq 0 6 0, lq 1 0 18, lq 2 0 2, lq 3 0 2], [], gi_397, hq_468), [], ([], 2)), ((2, [lq 0 6 0, lq 1 0 18, lq 2 0 2, lq 3 0 16], [], gi_397, hq_468), [], ([], 16))]
theorem ch_766 : staG tb_X12_electsOf 1 bt_RX12 [] ct_766 [] [] cu_766 21 con_766 = true := by decide +kernel
theorem cc_766 : cu_766.all (cutG tb_X12_electsOf 1 bt_RX12 [] ct_766 [] [] cu_766 21 con_766) = true := by decide +kernel
theorem cto_766 (l : Launch) : CTOK2 l RX12 vwCl gTbl ct_766 := ct2_cons (vl_752 l) ck_RX12_252_752 (ct2_cons (vl_749 l) ck_RX12_252_749 (ct2_cons (vl_742 l) ck_RX12_252_742 (ct2_cons (vl_743 l) ck_RX12_263_743 (ct2_cons (vl_697 l) ck_RX12_266_697 (ct2_nil)))))
theorem vl_766 (l : Launch) : Vld2 l vwCl gTbl con_766 := conR_ok3 gT_all (hd_766) rfl pn_RX12 tk_X12_electsOf bo_RX12 xo_RX12 (cto_766 l) ch_766 (cut_all cc_766)
/-- RookHustingModel electsOf -/
noncomputable def con_767 : Con2 := ((yX12_electsOf, cX12_electsOf, 4, (some .int)), (4, 98), ([(6, 0, 0), (0, 17, 0), (1, 2, 0)], gi_394, hc_83, []), [((1, 71, 0), gi_395, hq_468, [], [1])])
theorem hd_767 : con_767.1 = (yX12_electsOf, cX12_electsOf, 4, (some .int)) := rfl
noncomputable def ct_767 : CTB2 := [(8, 252, 1, con_752, []), (8, 252, 1, con_748, []), (8, 252, 1, con_740, []), (19, 263, 0, con_741, [0, 1, 2, 3]), (42, 266, 0, con_697, [0, 1, 2, 3])]
noncomputable def cu_767 : List CUT2 := [((2, [lq 0 6 0, lq 1 0 17, lq 2 1 2, lq 3 0 17], [], gi_396, hq_468), [], ([], 17)), ((2, [lq 0 6 0, lq 1 0 17, lq 2 0 2, lq 3 0 1], [], gi_397, hq_468), [], ([], 1)), ((2, [lq 0 6 0, lq 1 0 17, lq 2 0 2, lq 3 0 16], [], gi_397, hq_468), [], ([], 16))]
theorem ch_767 : staG tb_X12_electsOf 1 bt_RX12 [] ct_767 [] [] cu_767 21 con_767 = true := by decide +kernel
theorem cc_767 : cu_767.all (cutG tb_X12_electsOf 1 bt_RX12 [] ct_767 [] [] cu_767 21 con_767) = true := by decide +kernel
theorem cto_767 (l : Launch) : CTOK2 l RX12 vwCl gTbl ct_767 := ct2_cons (vl_752 l) ck_RX12_252_752 (ct2_cons (vl_748 l) ck_RX12_252_748 (ct2_cons (vl_740 l) ck_RX12_252_740 (ct2_cons (vl_741 l) ck_RX12_263_741 (ct2_cons (vl_697 l) ck_RX12_266_697 (ct2_nil)))))
theorem vl_767 (l : Launch) : Vld2 l vwCl gTbl con_767 := conR_ok3 gT_all (hd_767) rfl pn_RX12 tk_X12_electsOf bo_RX12 xo_RX12 (cto_767 l) ch_767 (cut_all cc_767)
/-- RookHustingModel electsOf -/
noncomputable def con_768 : Con2 := ((yX12_electsOf, cX12_electsOf, 4, (some .int)), (4, 98), ([(6, 0, 0), (0, 16, 0), (1, 2, 0)], gi_394, hc_83, []), [((1, 71, 0), gi_395, hq_468, [], [1])])
theorem hd_768 : con_768.1 = (yX12_electsOf, cX12_electsOf, 4, (some .int)) := rfl
noncomputable def ct_768 : CTB2 := [(8, 252, 1, con_752, []), (42, 266, 0, con_697, [0, 1, 2, 3])]
noncomputable def cu_768 : List CUT2 := [((2, [lq 0 6 0, lq 1 0 16, lq 2 1 2, lq 3 0 16], [], gi_396, hq_468), [], ([], 16))]
theorem ch_768 : staG tb_X12_electsOf 1 bt_RX12 [] ct_768 [] [] cu_768 18 con_768 = true := by decide +kernel
theorem cc_768 : cu_768.all (cutG tb_X12_electsOf 1 bt_RX12 [] ct_768 [] [] cu_768 18 con_768) = true := by decide +kernel
theorem cto_768 (l : Launch) : CTOK2 l RX12 vwCl gTbl ct_768 := ct2_cons (vl_752 l) ck_RX12_252_752 (ct2_cons (vl_697 l) ck_RX12_266_697 (ct2_nil))
theorem vl_768 (l : Launch) : Vld2 l vwCl gTbl con_768 := conR_ok3 gT_all (hd_768) rfl pn_RX12 tk_X12_electsOf bo_RX12 xo_RX12 (cto_768 l) ch_768 (cut_all cc_768)
/-- RookHustingModel electsOf -/
noncomputable def con_769 : Con2 := ((yX12_electsOf, cX12_electsOf, 4, (some .int)), (4, 98), ([(6, 0, 0), (0, 15, 0), (1, 2, 0)], gi_394, hc_83, []), [((1, 71, 0), gi_395, hq_468, [], [1])])
theorem hd_769 : con_769.1 = (yX12_electsOf, cX12_electsOf, 4, (some .int)) := rfl
noncomputable def ct_769 : CTB2 := [(8, 252, 1, con_751, []), (8, 252, 1, con_750, []), (8, 252, 1, con_749, []), (8, 252, 1, con_748, []), (8, 252, 1, con_738, []), (8, 252, 1, con_736, []), (8, 252, 1, con_734, []), (8, 252, 1, con_732, []), (8, 252, 1, con_730, []), (8, 252, 1, con_728, []), (8, 252, 1, con_714, []), (8, 252, 1, con_712, []), (8, 252, 1, con_710, []), (8, 252, 1, con_708, []), (8, 252, 1, con_698, []), (19, 263, 0, con_699, [0, 1, 2, 3]), (19, 263, 0, con_709, [0, 1, 2, 3]), (19, 263, 0, con_711, [0, 1, 2, 3]), (19, 263, 0, con_713, [0, 1, 2, 3]), (19, 263, 0, con_715, [0, 1, 2, 3]), (19, 263, 0, con_729, [0, 1, 2, 3]), (19, 263, 0, con_731, [0, 1, 2, 3]), (19, 263, 0, con_733, [0, 1, 2, 3]), (19, 263, 0, con_735, [0, 1, 2, 3]), (19, 263, 0, con_737, [0, 1, 2, 3]), (19, 263, 0, con_739, [0, 1, 2, 3]), (42, 266, 0, con_697, [0, 1, 2, 3])]
noncomputable def cu_769 : List CUT2 := [((2, [lq 0 6 0, lq 1 0 15, lq 2 1 2, lq 3 0 15], [], gi_396, hq_468), [], ([], 15)), ((2, [lq 0 6 0, lq 1 0 15, lq 2 0 2, lq 3 0 7], [], gi_397, hq_468), [], ([], 7)), ((2, [lq 0 6 0, lq 1 0 15, lq 2 0 2, lq 3 0 11], [], gi_397, hq_468), [], ([], 11)), ((2, [lq 0 6 0, lq 1 0 15, lq 2 0 2, lq 3 0 13], [], gi_397, hq_468), [], ([], 13)), ((2, [lq 0 6 0, lq 1 0 15, lq 2 0 2, lq 3 0 14], [], gi_397, hq_468), [], ([], 14)), ((2, [lq 0 6 0, lq 1 0 15, lq 2 0 2, lq 3 0 3], [], gi_397, hq_468), [], ([], 3)), ((2, [lq 0 6 0, lq 1 0 15, lq 2 0 2, lq 3 0 5], [], gi_397, hq_468), [], ([], 5)), ((2, [lq 0 6 0, lq 1 0 15, lq 2 0 2, lq 3 0 6], [], gi_397, hq_468), [], ([], 6)), ((2, [lq 0 6 0, lq 1 0 15, lq 2 0 2, lq 3 0 9], [], gi_397, hq_468), [], ([], 9)), ((2, [lq 0 6 0, lq 1 0 15, lq 2 0 2, lq 3 0 10], [], gi_397, hq_468), [], ([], 10)), ((2, [lq 0 6 0, lq 1 0 15, lq 2 0 2, lq 3 0 12], [], gi_397, hq_468), [], ([], 12)), ((2, [lq 0 6 0, lq 1 0 15, lq 2 0 2, lq 3 0 1], [], gi_397, hq_468), [], ([], 1)), ((2, [lq 0 6 0, lq 1 0 15, lq 2 0 2, lq 3 0 2], [], gi_397, hq_468), [], ([], 2)), ((2, [lq 0 6 0, lq 1 0 15, lq 2 0 2, lq 3 0 4], [], gi_397, hq_468), [], ([], 4)), ((2, [lq 0 6 0, lq 1 0 15, lq 2 0 2, lq 3 0 8], [], gi_397, hq_468), [], ([], 8))]
theorem ch_769 : staG tb_X12_electsOf 1 bt_RX12 [] ct_769 [] [] cu_769 21 con_769 = true := by decide +kernel
theorem cc_769 : cu_769.all (cutG tb_X12_electsOf 1 bt_RX12 [] ct_769 [] [] cu_769 21 con_769) = true := by decide +kernel
theorem cto_769 (l : Launch) : CTOK2 l RX12 vwCl gTbl ct_769 := ct2_cons (vl_751 l) ck_RX12_252_751 (ct2_cons (vl_750 l) ck_RX12_252_750 (ct2_cons (vl_749 l) ck_RX12_252_749 (ct2_cons (vl_748 l) ck_RX12_252_748 (ct2_cons (vl_738 l) ck_RX12_252_738 (ct2_cons (vl_736 l) ck_RX12_252_736 (ct2_cons (vl_734 l) ck_RX12_252_734 (ct2_cons (vl_732 l) ck_RX12_252_732 (ct2_cons (vl_730 l) ck_RX12_252_730 (ct2_cons (vl_728 l) ck_RX12_252_728 (ct2_cons (vl_714 l) ck_RX12_252_714 (ct2_cons (vl_712 l) ck_RX12_252_712 (ct2_cons (vl_710 l) ck_RX12_252_710 (ct2_cons (vl_708 l) ck_RX12_252_708 (ct2_cons (vl_698 l) ck_RX12_252_698 (ct2_cons (vl_699 l) ck_RX12_263_699 (ct2_cons (vl_709 l) ck_RX12_263_709 (ct2_cons (vl_711 l) ck_RX12_263_711 (ct2_cons (vl_713 l) ck_RX12_263_713 (ct2_cons (vl_715 l) ck_RX12_263_715 (ct2_cons (vl_729 l) ck_RX12_263_729 (ct2_cons (vl_731 l) ck_RX12_263_731 (ct2_cons (vl_733 l) ck_RX12_263_733 (ct2_cons (vl_735 l) ck_RX12_263_735 (ct2_cons (vl_737 l) ck_RX12_263_737 (ct2_cons (vl_739 l) ck_RX12_263_739 (ct2_cons (vl_697 l) ck_RX12_266_697 (ct2_nil)))))))))))))))))))))))))))
theorem vl_769 (l : Launch) : Vld2 l vwCl gTbl con_769 := conR_ok3 gT_all (hd_769) rfl pn_RX12 tk_X12_electsOf bo_RX12 xo_RX12 (cto_769 l) ch_769 (cut_all cc_769)
/-- RookHustingModel electsOf -/
noncomputable def con_770 : Con2 := ((yX12_electsOf, cX12_electsOf, 4, (some .int)), (4, 98), ([(6, 0, 0), (0, 14, 0), (1, 2, 0)], gi_394, hc_83, []), [((1, 71, 0), gi_395, hq_468, [], [1])])
theorem hd_770 : con_770.1 = (yX12_electsOf, cX12_electsOf, 4, (some .int)) := rfl
noncomputable def ct_770 : CTB2 := [(8, 252, 1, con_751, []), (8, 252, 1, con_750, []), (8, 252, 1, con_749, []), (8, 252, 1, con_738, []), (8, 252, 1, con_736, []), (8, 252, 1, con_732, []), (8, 252, 1, con_714, []), (19, 263, 0, con_715, [0, 1, 2, 3]), (19, 263, 0, con_733, [0, 1, 2, 3]), (19, 263, 0, con_737, [0, 1, 2, 3]), (19, 263, 0, con_739, [0, 1, 2, 3]), (42, 266, 0, con_697, [0, 1, 2, 3])]
noncomputable def cu_770 : List CUT2 := [((2, [lq 0 6 0, lq 1 0 14, lq 2 1 2, lq 3 0 14], [], gi_396, hq_468), [], ([], 14)), ((2, [lq 0 6 0, lq 1 0 14, lq 2 0 2, lq 3 0 6], [], gi_397, hq_468), [], ([], 6)), ((2, [lq 0 6 0, lq 1 0 14, lq 2 0 2, lq 3 0 10], [], gi_397, hq_468), [], ([], 10)), ((2, [lq 0 6 0, lq 1 0 14, lq 2 0 2, lq 3 0 12], [], gi_397, hq_468), [], ([], 12)), ((2, [lq 0 6 0, lq 1 0 14, lq 2 0 2, lq 3 0 2], [], gi_397, hq_468), [], ([], 2)), ((2, [lq 0 6 0, lq 1 0 14, lq 2 0 2, lq 3 0 4], [], gi_397, hq_468), [], ([], 4)), ((2, [lq 0 6 0, lq 1 0 14, lq 2 0 2, lq 3 0 8], [], gi_397, hq_468), [], ([], 8))]
theorem ch_770 : staG tb_X12_electsOf 1 bt_RX12 [] ct_770 [] [] cu_770 21 con_770 = true := by decide +kernel
theorem cc_770 : cu_770.all (cutG tb_X12_electsOf 1 bt_RX12 [] ct_770 [] [] cu_770 21 con_770) = true := by decide +kernel
theorem cto_770 (l : Launch) : CTOK2 l RX12 vwCl gTbl ct_770 := ct2_cons (vl_751 l) ck_RX12_252_751 (ct2_cons (vl_750 l) ck_RX12_252_750 (ct2_cons (vl_749 l) ck_RX12_252_749 (ct2_cons (vl_738 l) ck_RX12_252_738 (ct2_cons (vl_736 l) ck_RX12_252_736 (ct2_cons (vl_732 l) ck_RX12_252_732 (ct2_cons (vl_714 l) ck_RX12_252_714 (ct2_cons (vl_715 l) ck_RX12_263_715 (ct2_cons (vl_733 l) ck_RX12_263_733 (ct2_cons (vl_737 l) ck_RX12_263_737 (ct2_cons (vl_739 l) ck_RX12_263_739 (ct2_cons (vl_697 l) ck_RX12_266_697 (ct2_nil))))))))))))
theorem vl_770 (l : Launch) : Vld2 l vwCl gTbl con_770 := conR_ok3 gT_all (hd_770) rfl pn_RX12 tk_X12_electsOf bo_RX12 xo_RX12 (cto_770 l) ch_770 (cut_all cc_770)
/-- RookHustingModel electsOf -/
noncomputable def con_771 : Con2 := ((yX12_electsOf, cX12_electsOf, 4, (some .int)), (4, 98), ([(6, 0, 0), (0, 13, 0), (1, 2, 0)], gi_394, hc_83, []), [((1, 71, 0), gi_395, hq_468, [], [1])])
theorem hd_771 : con_771.1 = (yX12_electsOf, cX12_electsOf, 4, (some .int)) := rfl
noncomputable def ct_771 : CTB2 := [(8, 252, 1, con_751, []), (8, 252, 1, con_750, []), (8, 252, 1, con_748, []), (8, 252, 1, con_738, []), (8, 252, 1, con_734, []), (8, 252, 1, con_730, []), (8, 252, 1, con_712, []), (19, 263, 0, con_713, [0, 1, 2, 3]), (19, 263, 0, con_731, [0, 1, 2, 3]), (19, 263, 0, con_735, [0, 1, 2, 3]), (19, 263, 0, con_739, [0, 1, 2, 3]), (42, 266, 0, con_697, [0, 1, 2, 3])]
noncomputable def cu_771 : List CUT2 := [((2, [lq 0 6 0, lq 1 0 13, lq 2 1 2, lq 3 0 13], [], gi_396, hq_468), [], ([], 13)), ((2, [lq 0 6 0, lq 1 0 13, lq 2 0 2, lq 3 0 5], [], gi_397, hq_468), [], ([], 5)), ((2, [lq 0 6 0, lq 1 0 13, lq 2 0 2, lq 3 0 9], [], gi_397, hq_468), [], ([], 9)), ((2, [lq 0 6 0, lq 1 0 13, lq 2 0 2, lq 3 0 12], [], gi_397, hq_468), [], ([], 12)), ((2, [lq 0 6 0, lq 1 0 13, lq 2 0 2, lq 3 0 1], [], gi_397, hq_468), [], ([], 1)), ((2, [lq 0 6 0, lq 1 0 13, lq 2 0 2, lq 3 0 4], [], gi_397, hq_468), [], ([], 4)), ((2, [lq 0 6 0, lq 1 0 13, lq 2 0 2, lq 3 0 8], [], gi_397, hq_468), [], ([], 8))]
theorem ch_771 : staG tb_X12_electsOf 1 bt_RX12 [] ct_771 [] [] cu_771 21 con_771 = true := by decide +kernel
theorem cc_771 : cu_771.all (cutG tb_X12_electsOf 1 bt_RX12 [] ct_771 [] [] cu_771 21 con_771) = true := by decide +kernel
theorem cto_771 (l : Launch) : CTOK2 l RX12 vwCl gTbl ct_771 := ct2_cons (vl_751 l) ck_RX12_252_751 (ct2_cons (vl_750 l) ck_RX12_252_750 (ct2_cons (vl_748 l) ck_RX12_252_748 (ct2_cons (vl_738 l) ck_RX12_252_738 (ct2_cons (vl_734 l) ck_RX12_252_734 (ct2_cons (vl_730 l) ck_RX12_252_730 (ct2_cons (vl_712 l) ck_RX12_252_712 (ct2_cons (vl_713 l) ck_RX12_263_713 (ct2_cons (vl_731 l) ck_RX12_263_731 (ct2_cons (vl_735 l) ck_RX12_263_735 (ct2_cons (vl_739 l) ck_RX12_263_739 (ct2_cons (vl_697 l) ck_RX12_266_697 (ct2_nil))))))))))))
theorem vl_771 (l : Launch) : Vld2 l vwCl gTbl con_771 := conR_ok3 gT_all (hd_771) rfl pn_RX12 tk_X12_electsOf bo_RX12 xo_RX12 (cto_771 l) ch_771 (cut_all cc_771)
/-- RookHustingModel electsOf -/
noncomputable def con_772 : Con2 := ((yX12_electsOf, cX12_electsOf, 4, (some .int)), (4, 98), ([(6, 0, 0), (0, 12, 0), (1, 2, 0)], gi_394, hc_83, []), [((1, 71, 0), gi_395, hq_468, [], [1])])
theorem hd_772 : con_772.1 = (yX12_electsOf, cX12_electsOf, 4, (some .int)) := rfl
noncomputable def ct_772 : CTB2 := [(8, 252, 1, con_751, []), (8, 252, 1, con_750, []), (8, 252, 1, con_738, []), (19, 263, 0, con_739, [0, 1, 2, 3]), (42, 266, 0, con_697, [0, 1, 2, 3])]
noncomputable def cu_772 : List CUT2 := [((2, [lq 0 6 0, lq 1 0 12, lq 2 1 2, lq 3 0 12], [], gi_396, hq_468), [], ([], 12)), ((2, [lq 0 6 0, lq 1 0 12, lq 2 0 2, lq 3 0 4], [], gi_397, hq_468), [], ([], 4)), ((2, [lq 0 6 0, lq 1 0 12, lq 2 0 2, lq 3 0 8], [], gi_397, hq_468), [], ([], 8))]
theorem ch_772 : staG tb_X12_electsOf 1 bt_RX12 [] ct_772 [] [] cu_772 21 con_772 = true := by decide +kernel
theorem cc_772 : cu_772.all (cutG tb_X12_electsOf 1 bt_RX12 [] ct_772 [] [] cu_772 21 con_772) = true := by decide +kernel
theorem cto_772 (l : Launch) : CTOK2 l RX12 vwCl gTbl ct_772 := ct2_cons (vl_751 l) ck_RX12_252_751 (ct2_cons (vl_750 l) ck_RX12_252_750 (ct2_cons (vl_738 l) ck_RX12_252_738 (ct2_cons (vl_739 l) ck_RX12_263_739 (ct2_cons (vl_697 l) ck_RX12_266_697 (ct2_nil)))))
theorem vl_772 (l : Launch) : Vld2 l vwCl gTbl con_772 := conR_ok3 gT_all (hd_772) rfl pn_RX12 tk_X12_electsOf bo_RX12 xo_RX12 (cto_772 l) ch_772 (cut_all cc_772)
/-- RookHustingModel electsOf -/
noncomputable def con_773 : Con2 := ((yX12_electsOf, cX12_electsOf, 4, (some .int)), (4, 98), ([(6, 0, 0), (0, 11, 0), (1, 2, 0)], gi_394, hc_83, []), [((1, 71, 0), gi_395, hq_468, [], [1])])
theorem hd_773 : con_773.1 = (yX12_electsOf, cX12_electsOf, 4, (some .int)) := rfl
noncomputable def ct_773 : CTB2 := [(8, 252, 1, con_751, []), (8, 252, 1, con_749, []), (8, 252, 1, con_748, []), (8, 252, 1, con_736, []), (8, 252, 1, con_734, []), (8, 252, 1, con_728, []), (8, 252, 1, con_710, []), (19, 263, 0, con_711, [0, 1, 2, 3]), (19, 263, 0, con_729, [0, 1, 2, 3]), (19, 263, 0, con_735, [0, 1, 2, 3]), (19, 263, 0, con_737, [0, 1, 2, 3]), (42, 266, 0, con_697, [0, 1, 2, 3])]
noncomputable def cu_773 : List CUT2 := [((2, [lq 0 6 0, lq 1 0 11, lq 2 1 2, lq 3 0 11], [], gi_396, hq_468), [], ([], 11)), ((2, [lq 0 6 0, lq 1 0 11, lq 2 0 2, lq 3 0 3], [], gi_397, hq_468), [], ([], 3)), ((2, [lq 0 6 0, lq 1 0 11, lq 2 0 2, lq 3 0 9], [], gi_397, hq_468), [], ([], 9)), ((2, [lq 0 6 0, lq 1 0 11, lq 2 0 2, lq 3 0 10], [], gi_397, hq_468), [], ([], 10)), ((2, [lq 0 6 0, lq 1 0 11, lq 2 0 2, lq 3 0 1], [], gi_397, hq_468), [], ([], 1)), ((2, [lq 0 6 0, lq 1 0 11, lq 2 0 2, lq 3 0 2], [], gi_397, hq_468), [], ([], 2)), ((2, [lq 0 6 0, lq 1 0 11, lq 2 0 2, lq 3 0 8], [], gi_397, hq_468), [], ([], 8))]
theorem ch_773 : staG tb_X12_electsOf 1 bt_RX12 [] ct_773 [] [] cu_773 21 con_773 = true := by decide +kernel
theorem cc_773 : cu_773.all (cutG tb_X12_electsOf 1 bt_RX12 [] ct_773 [] [] cu_773 21 con_773) = true := by decide +kernel
theorem cto_773 (l : Launch) : CTOK2 l RX12 vwCl gTbl ct_773 := ct2_cons (vl_751 l) ck_RX12_252_751 (ct2_cons (vl_749 l) ck_RX12_252_749 (ct2_cons (vl_748 l) ck_RX12_252_748 (ct2_cons (vl_736 l) ck_RX12_252_736 (ct2_cons (vl_734 l) ck_RX12_252_734 (ct2_cons (vl_728 l) ck_RX12_252_728 (ct2_cons (vl_710 l) ck_RX12_252_710 (ct2_cons (vl_711 l) ck_RX12_263_711 (ct2_cons (vl_729 l) ck_RX12_263_729 (ct2_cons (vl_735 l) ck_RX12_263_735 (ct2_cons (vl_737 l) ck_RX12_263_737 (ct2_cons (vl_697 l) ck_RX12_266_697 (ct2_nil))))))))))))
theorem vl_773 (l : Launch) : Vld2 l vwCl gTbl con_773 := conR_ok3 gT_all (hd_773) rfl pn_RX12 tk_X12_electsOf bo_RX12 xo_RX12 (cto_773 l) ch_773 (cut_all cc_773)
/-- RookHustingModel electsOf -/
noncomputable def con_774 : Con2 := ((yX12_electsOf, cX12_electsOf, 4, (some .int)), (4, 98), ([(6, 0, 0), (0, 10, 0), (1, 2, 0)], gi_394, hc_83, []), [((1, 71, 0), gi_395, hq_468, [], [1])])
theorem hd_774 : con_774.1 = (yX12_electsOf, cX12_electsOf, 4, (some .int)) := rfl
noncomputable def ct_774 : CTB2 := [(8, 252, 1, con_751, []), (8, 252, 1, con_749, []), (8, 252, 1, con_736, []), (19, 263, 0, con_737, [0, 1, 2, 3]), (42, 266, 0, con_697, [0, 1, 2, 3])]
noncomputable def cu_774 : List CUT2 := [((2, [lq 0 6 0, lq 1 0 10, lq 2 1 2, lq 3 0 10], [], gi_396, hq_468), [], ([], 10)), ((2, [lq 0 6 0, lq 1 0 10, lq 2 0 2, lq 3 0 2], [], gi_397, hq_468), [], ([], 2)), ((2, [lq 0 6 0, lq 1 0 10, lq 2 0 2, lq 3 0 8], [], gi_397, hq_468), [], ([], 8))]
theorem ch_774 : staG tb_X12_electsOf 1 bt_RX12 [] ct_774 [] [] cu_774 21 con_774 = true := by decide +kernel
theorem cc_774 : cu_774.all (cutG tb_X12_electsOf 1 bt_RX12 [] ct_774 [] [] cu_774 21 con_774) = true := by decide +kernel
theorem cto_774 (l : Launch) : CTOK2 l RX12 vwCl gTbl ct_774 := ct2_cons (vl_751 l) ck_RX12_252_751 (ct2_cons (vl_749 l) ck_RX12_252_749 (ct2_cons (vl_736 l) ck_RX12_252_736 (ct2_cons (vl_737 l) ck_RX12_263_737 (ct2_cons (vl_697 l) ck_RX12_266_697 (ct2_nil)))))
theorem vl_774 (l : Launch) : Vld2 l vwCl gTbl con_774 := conR_ok3 gT_all (hd_774) rfl pn_RX12 tk_X12_electsOf bo_RX12 xo_RX12 (cto_774 l) ch_774 (cut_all cc_774)
/-- RookHustingModel electsOf -/
noncomputable def con_775 : Con2 := ((yX12_electsOf, cX12_electsOf, 4, (some .int)), (4, 98), ([(6, 0, 0), (0, 9, 0), (1, 2, 0)], gi_394, hc_83, []), [((1, 71, 0), gi_395, hq_468, [], [1])])
theorem hd_775 : con_775.1 = (yX12_electsOf, cX12_electsOf, 4, (some .int)) := rfl
noncomputable def ct_775 : CTB2 := [(8, 252, 1, con_751, []), (8, 252, 1, con_748, []), (8, 252, 1, con_734, []), (19, 263, 0, con_735, [0, 1, 2, 3]), (42, 266, 0, con_697, [0, 1, 2, 3])]
noncomputable def cu_775 : List CUT2 := [((2, [lq 0 6 0, lq 1 0 9, lq 2 1 2, lq 3 0 9], [], gi_396, hq_468), [], ([], 9)), ((2, [lq 0 6 0, lq 1 0 9, lq 2 0 2, lq 3 0 1], [], gi_397, hq_468), [], ([], 1)), ((2, [lq 0 6 0, lq 1 0 9, lq 2 0 2, lq 3 0 8], [], gi_397, hq_468), [], ([], 8))]
theorem ch_775 : staG tb_X12_electsOf 1 bt_RX12 [] ct_775 [] [] cu_775 21 con_775 = true := by decide +kernel
theorem cc_775 : cu_775.all (cutG tb_X12_electsOf 1 bt_RX12 [] ct_775 [] [] cu_775 21 con_775) = true := by decide +kernel
theorem cto_775 (l : Launch) : CTOK2 l RX12 vwCl gTbl ct_775 := ct2_cons (vl_751 l) ck_RX12_252_751 (ct2_cons (vl_748 l) ck_RX12_252_748 (ct2_cons (vl_734 l) ck_RX12_252_734 (ct2_cons (vl_735 l) ck_RX12_263_735 (ct2_cons (vl_697 l) ck_RX12_266_697 (ct2_nil)))))
theorem vl_775 (l : Launch) : Vld2 l vwCl gTbl con_775 := conR_ok3 gT_all (hd_775) rfl pn_RX12 tk_X12_electsOf bo_RX12 xo_RX12 (cto_775 l) ch_775 (cut_all cc_775)
/-- RookHustingModel electsOf -/
noncomputable def con_776 : Con2 := ((yX12_electsOf, cX12_electsOf, 4, (some .int)), (4, 98), ([(6, 0, 0), (0, 8, 0), (1, 2, 0)], gi_394, hc_83, []), [((1, 71, 0), gi_395, hq_468, [], [1])])
theorem hd_776 : con_776.1 = (yX12_electsOf, cX12_electsOf, 4, (some .int)) := rfl
noncomputable def ct_776 : CTB2 := [(8, 252, 1, con_751, []), (42, 266, 0, con_697, [0, 1, 2, 3])]
noncomputable def cu_776 : List CUT2 := [((2, [lq 0 6 0, lq 1 0 8, lq 2 1 2, lq 3 0 8], [], gi_396, hq_468), [], ([], 8))]
theorem ch_776 : staG tb_X12_electsOf 1 bt_RX12 [] ct_776 [] [] cu_776 18 con_776 = true := by decide +kernel
theorem cc_776 : cu_776.all (cutG tb_X12_electsOf 1 bt_RX12 [] ct_776 [] [] cu_776 18 con_776) = true := by decide +kernel
theorem cto_776 (l : Launch) : CTOK2 l RX12 vwCl gTbl ct_776 := ct2_cons (vl_751 l) ck_RX12_252_751 (ct2_cons (vl_697 l) ck_RX12_266_697 (ct2_nil))
theorem vl_776 (l : Launch) : Vld2 l vwCl gTbl con_776 := conR_ok3 gT_all (hd_776) rfl pn_RX12 tk_X12_electsOf bo_RX12 xo_RX12 (cto_776 l) ch_776 (cut_all cc_776)
/-- RookHustingModel electsOf -/
noncomputable def con_777 : Con2 := ((yX12_electsOf, cX12_electsOf, 4, (some .int)), (4, 98), ([(6, 0, 0), (0, 7, 0), (1, 2, 0)], gi_394, hc_83, []), [((1, 71, 0), gi_395, hq_468, [], [1])])
theorem hd_777 : con_777.1 = (yX12_electsOf, cX12_electsOf, 4, (some .int)) := rfl
noncomputable def ct_777 : CTB2 := [(8, 252, 1, con_750, []), (8, 252, 1, con_749, []), (8, 252, 1, con_748, []), (8, 252, 1, con_732, []), (8, 252, 1, con_730, []), (8, 252, 1, con_728, []), (8, 252, 1, con_708, []), (19, 263, 0, con_709, [0, 1, 2, 3]), (19, 263, 0, con_729, [0, 1, 2, 3]), (19, 263, 0, con_731, [0, 1, 2, 3]), (19, 263, 0, con_733, [0, 1, 2, 3]), (42, 266, 0, con_697, [0, 1, 2, 3])]
noncomputable def cu_777 : List CUT2 := [((2, [lq 0 6 0, lq 1 0 7, lq 2 1 2, lq 3 0 7], [], gi_396, hq_468), [], ([], 7)), ((2, [lq 0 6 0, lq 1 0 7, lq 2 0 2, lq 3 0 3], [], gi_397, hq_468), [], ([], 3)), ((2, [lq 0 6 0, lq 1 0 7, lq 2 0 2, lq 3 0 5], [], gi_397, hq_468), [], ([], 5)), ((2, [lq 0 6 0, lq 1 0 7, lq 2 0 2, lq 3 0 6], [], gi_397, hq_468), [], ([], 6)), ((2, [lq 0 6 0, lq 1 0 7, lq 2 0 2, lq 3 0 1], [], gi_397, hq_468), [], ([], 1)), ((2, [lq 0 6 0, lq 1 0 7, lq 2 0 2, lq 3 0 2], [], gi_397, hq_468), [], ([], 2)), ((2, [lq 0 6 0, lq 1 0 7, lq 2 0 2, lq 3 0 4], [], gi_397, hq_468), [], ([], 4))]
theorem ch_777 : staG tb_X12_electsOf 1 bt_RX12 [] ct_777 [] [] cu_777 21 con_777 = true := by decide +kernel
theorem cc_777 : cu_777.all (cutG tb_X12_electsOf 1 bt_RX12 [] ct_777 [] [] cu_777 21 con_777) = true := by decide +kernel
theorem cto_777 (l : Launch) : CTOK2 l RX12 vwCl gTbl ct_777 := ct2_cons (vl_750 l) ck_RX12_252_750 (ct2_cons (vl_749 l) ck_RX12_252_749 (ct2_cons (vl_748 l) ck_RX12_252_748 (ct2_cons (vl_732 l) ck_RX12_252_732 (ct2_cons (vl_730 l) ck_RX12_252_730 (ct2_cons (vl_728 l) ck_RX12_252_728 (ct2_cons (vl_708 l) ck_RX12_252_708 (ct2_cons (vl_709 l) ck_RX12_263_709 (ct2_cons (vl_729 l) ck_RX12_263_729 (ct2_cons (vl_731 l) ck_RX12_263_731 (ct2_cons (vl_733 l) ck_RX12_263_733 (ct2_cons (vl_697 l) ck_RX12_266_697 (ct2_nil))))))))))))
theorem vl_777 (l : Launch) : Vld2 l vwCl gTbl con_777 := conR_ok3 gT_all (hd_777) rfl pn_RX12 tk_X12_electsOf bo_RX12 xo_RX12 (cto_777 l) ch_777 (cut_all cc_777)
/-- RookHustingModel electsOf -/
noncomputable def con_778 : Con2 := ((yX12_electsOf, cX12_electsOf, 4, (some .int)), (4, 98), ([(6, 0, 0), (0, 6, 0), (1, 2, 0)], gi_394, hc_83, []), [((1, 71, 0), gi_395, hq_468, [], [1])])
theorem hd_778 : con_778.1 = (yX12_electsOf, cX12_electsOf, 4, (some .int)) := rfl
noncomputable def ct_778 : CTB2 := [(8, 252, 1, con_750, []), (8, 252, 1, con_749, []), (8, 252, 1, con_732, []), (19, 263, 0, con_733, [0, 1, 2, 3]), (42, 266, 0, con_697, [0, 1, 2, 3])]
noncomputable def cu_778 : List CUT2 := [((2, [lq 0 6 0, lq 1 0 6, lq 2 1 2, lq 3 0 6], [], gi_396, hq_468), [], ([], 6)), ((2, [lq 0 6 0, lq 1 0 6, lq 2 0 2, lq 3 0 2], [], gi_397, hq_468), [], ([], 2)), ((2, [lq 0 6 0, lq 1 0 6, lq 2 0 2, lq 3 0 4], [], gi_397, hq_468), [], ([], 4))]
theorem ch_778 : staG tb_X12_electsOf 1 bt_RX12 [] ct_778 [] [] cu_778 21 con_778 = true := by decide +kernel
theorem cc_778 : cu_778.all (cutG tb_X12_electsOf 1 bt_RX12 [] ct_778 [] [] cu_778 21 con_778) = true := by decide +kernel
theorem cto_778 (l : Launch) : CTOK2 l RX12 vwCl gTbl ct_778 := ct2_cons (vl_750 l) ck_RX12_252_750 (ct2_cons (vl_749 l) ck_RX12_252_749 (ct2_cons (vl_732 l) ck_RX12_252_732 (ct2_cons (vl_733 l) ck_RX12_263_733 (ct2_cons (vl_697 l) ck_RX12_266_697 (ct2_nil)))))
theorem vl_778 (l : Launch) : Vld2 l vwCl gTbl con_778 := conR_ok3 gT_all (hd_778) rfl pn_RX12 tk_X12_electsOf bo_RX12 xo_RX12 (cto_778 l) ch_778 (cut_all cc_778)
/-- RookHustingModel electsOf -/
noncomputable def con_779 : Con2 := ((yX12_electsOf, cX12_electsOf, 4, (some .int)), (4, 98), ([(6, 0, 0), (0, 5, 0), (1, 2, 0)], gi_394, hc_83, []), [((1, 71, 0), gi_395, hq_468, [], [1])])
theorem hd_779 : con_779.1 = (yX12_electsOf, cX12_electsOf, 4, (some .int)) := rfl
noncomputable def ct_779 : CTB2 := [(8, 252, 1, con_750, []), (8, 252, 1, con_748, []), (8, 252, 1, con_730, []), (19, 263, 0, con_731, [0, 1, 2, 3]), (42, 266, 0, con_697, [0, 1, 2, 3])]
noncomputable def cu_779 : List CUT2 := [((2, [lq 0 6 0, lq 1 0 5, lq 2 1 2, lq 3 0 5], [], gi_396, hq_468), [], ([], 5)), ((2, [lq 0 6 0, lq 1 0 5, lq 2 0 2, lq 3 0 1], [], gi_397, hq_468), [], ([], 1)), ((2, [lq 0 6 0, lq 1 0 5, lq 2 0 2, lq 3 0 4], [], gi_397, hq_468), [], ([], 4))]
theorem ch_779 : staG tb_X12_electsOf 1 bt_RX12 [] ct_779 [] [] cu_779 21 con_779 = true := by decide +kernel
theorem cc_779 : cu_779.all (cutG tb_X12_electsOf 1 bt_RX12 [] ct_779 [] [] cu_779 21 con_779) = true := by decide +kernel
theorem cto_779 (l : Launch) : CTOK2 l RX12 vwCl gTbl ct_779 := ct2_cons (vl_750 l) ck_RX12_252_750 (ct2_cons (vl_748 l) ck_RX12_252_748 (ct2_cons (vl_730 l) ck_RX12_252_730 (ct2_cons (vl_731 l) ck_RX12_263_731 (ct2_cons (vl_697 l) ck_RX12_266_697 (ct2_nil)))))
theorem vl_779 (l : Launch) : Vld2 l vwCl gTbl con_779 := conR_ok3 gT_all (hd_779) rfl pn_RX12 tk_X12_electsOf bo_RX12 xo_RX12 (cto_779 l) ch_779 (cut_all cc_779)
/-- RookHustingModel electsOf -/
noncomputable def con_780 : Con2 := ((yX12_electsOf, cX12_electsOf, 4, (some .int)), (4, 98), ([(6, 0, 0), (0, 4, 0), (1, 2, 0)], gi_394, hc_83, []), [((1, 71, 0), gi_395, hq_468, [], [1])])
theorem hd_780 : con_780.1 = (yX12_electsOf, cX12_electsOf, 4, (some .int)) := rfl
noncomputable def ct_780 : CTB2 := [(8, 252, 1, con_750, []), (42, 266, 0, con_697, [0, 1, 2, 3])]
noncomputable def cu_780 : List CUT2 := [((2, [lq 0 6 0, lq 1 0 4, lq 2 1 2, lq 3 0 4], [], gi_396, hq_468), [], ([], 4))]
theorem ch_780 : staG tb_X12_electsOf 1 bt_RX12 [] ct_780 [] [] cu_780 18 con_780 = true := by decide +kernel
theorem cc_780 : cu_780.all (cutG tb_X12_electsOf 1 bt_RX12 [] ct_780 [] [] cu_780 18 con_780) = true := by decide +kernel
theorem cto_780 (l : Launch) : CTOK2 l RX12 vwCl gTbl ct_780 := ct2_cons (vl_750 l) ck_RX12_252_750 (ct2_cons (vl_697 l) ck_RX12_266_697 (ct2_nil))
theorem vl_780 (l : Launch) : Vld2 l vwCl gTbl con_780 := conR_ok3 gT_all (hd_780) rfl pn_RX12 tk_X12_electsOf bo_RX12 xo_RX12 (cto_780 l) ch_780 (cut_all cc_780)
/-- RookHustingModel electsOf -/
noncomputable def con_781 : Con2 := ((yX12_electsOf, cX12_electsOf, 4, (some .int)), (4, 98), ([(6, 0, 0), (0, 3, 0), (1, 2, 0)], gi_394, hc_83, []), [((1, 71, 0), gi_395, hq_468, [], [1])])
theorem hd_781 : con_781.1 = (yX12_electsOf, cX12_electsOf, 4, (some .int)) := rfl
noncomputable def ct_781 : CTB2 := [(8, 252, 1, con_749, []), (8, 252, 1, con_748, []), (8, 252, 1, con_728, []), (19, 263, 0, con_729, [0, 1, 2, 3]), (42, 266, 0, con_697, [0, 1, 2, 3])]
noncomputable def cu_781 : List CUT2 := [((2, [lq 0 6 0, lq 1 0 3, lq 2 1 2, lq 3 0 3], [], gi_396, hq_468), [], ([], 3)), ((2, [lq 0 6 0, lq 1 0 3, lq 2 0 2, lq 3 0 1], [], gi_397, hq_468), [], ([], 1)), ((2, [lq 0 6 0, lq 1 0 3, lq 2 0 2, lq 3 0 2], [], gi_397, hq_468), [], ([], 2))]
theorem ch_781 : staG tb_X12_electsOf 1 bt_RX12 [] ct_781 [] [] cu_781 21 con_781 = true := by decide +kernel
theorem cc_781 : cu_781.all (cutG tb_X12_electsOf 1 bt_RX12 [] ct_781 [] [] cu_781 21 con_781) = true := by decide +kernel
theorem cto_781 (l : Launch) : CTOK2 l RX12 vwCl gTbl ct_781 := ct2_cons (vl_749 l) ck_RX12_252_749 (ct2_cons (vl_748 l) ck_RX12_252_748 (ct2_cons (vl_728 l) ck_RX12_252_728 (ct2_cons (vl_729 l) ck_RX12_263_729 (ct2_cons (vl_697 l) ck_RX12_266_697 (ct2_nil)))))
theorem vl_781 (l : Launch) : Vld2 l vwCl gTbl con_781 := conR_ok3 gT_all (hd_781) rfl pn_RX12 tk_X12_electsOf bo_RX12 xo_RX12 (cto_781 l) ch_781 (cut_all cc_781)
/-- RookHustingModel electsOf -/
noncomputable def con_782 : Con2 := ((yX12_electsOf, cX12_electsOf, 4, (some .int)), (4, 98), ([(6, 0, 0), (0, 2, 0), (1, 2, 0)], gi_394, hc_83, []), [((1, 71, 0), gi_395, hq_468, [], [1])])
theorem hd_782 : con_782.1 = (yX12_electsOf, cX12_electsOf, 4, (some .int)) := rfl
noncomputable def ct_782 : CTB2 := [(8, 252, 1, con_749, []), (42, 266, 0, con_697, [0, 1, 2, 3])]
noncomputable def cu_782 : List CUT2 := [((2, [lq 0 6 0, lq 1 0 2, lq 2 1 2, lq 3 0 2], [], gi_396, hq_468), [], ([], 2))]
theorem ch_782 : staG tb_X12_electsOf 1 bt_RX12 [] ct_782 [] [] cu_782 18 con_782 = true := by decide +kernel
theorem cc_782 : cu_782.all (cutG tb_X12_electsOf 1 bt_RX12 [] ct_782 [] [] cu_782 18 con_782) = true := by decide +kernel
theorem cto_782 (l : Launch) : CTOK2 l RX12 vwCl gTbl ct_782 := ct2_cons (vl_749 l) ck_RX12_252_749 (ct2_cons (vl_697 l) ck_RX12_266_697 (ct2_nil))
theorem vl_782 (l : Launch) : Vld2 l vwCl gTbl con_782 := conR_ok3 gT_all (hd_782) rfl pn_RX12 tk_X12_electsOf bo_RX12 xo_RX12 (cto_782 l) ch_782 (cut_all cc_782)
/-- RookHustingModel electsOf -/
noncomputable def con_783 : Con2 := ((yX12_electsOf, cX12_electsOf, 4, (some .int)), (4, 98), ([(6, 0, 0), (0, 1, 0), (1, 2, 0)], gi_394, hc_83, []), [((1, 71, 0), gi_395, hq_468, [], [1])])
theorem hd_783 : con_783.1 = (yX12_electsOf, cX12_electsOf, 4, (some .int)) := rfl
noncomputable def ct_783 : CTB2 := [(8, 252, 1, con_748, []), (42, 266, 0, con_697, [0, 1, 2, 3])]
noncomputable def cu_783 : List CUT2 := [((2, [lq 0 6 0, lq 1 0 1, lq 2 1 2, lq 3 0 1], [], gi_396, hq_468), [], ([], 1))]
theorem ch_783 : staG tb_X12_electsOf 1 bt_RX12 [] ct_783 [] [] cu_783 18 con_783 = true := by decide +kernel
theorem cc_783 : cu_783.all (cutG tb_X12_electsOf 1 bt_RX12 [] ct_783 [] [] cu_783 18 con_783) = true := by decide +kernel
theorem cto_783 (l : Launch) : CTOK2 l RX12 vwCl gTbl ct_783 := ct2_cons (vl_748 l) ck_RX12_252_748 (ct2_cons (vl_697 l) ck_RX12_266_697 (ct2_nil))
theorem vl_783 (l : Launch) : Vld2 l vwCl gTbl con_783 := conR_ok3 gT_all (hd_783) rfl pn_RX12 tk_X12_electsOf bo_RX12 xo_RX12 (cto_783 l) ch_783 (cut_all cc_783)
/-- RookHustingModel bits -/
noncomputable def con_784 : Con2 := ((yX12_bits, cX12_bits, 3, (some .int)), (0, 0), ([(0, 0, 0)], [(0, 0)], [], []), [((0, 0, 0), [(0, 0), (0, 0)], [], [], [1])])
theorem hd_784 : con_784.1 = (yX12_bits, cX12_bits, 3, (some .int)) := rfl
noncomputable def cu_784 : List CUT2 := []
theorem ch_784 : staG tb_X12_bits 1 bt_RX12 [] ct_2 [] [] cu_784 219 con_784 = true := by decide +kernel
theorem vl_784 (l : Launch) : Vld2 l vwCl gTbl con_784 := conR_ok3 gT_all (hd_784) rfl pn_RX12 tk_X12_bits bo_RX12 xo_RX12 (cto_2 l) ch_784 cut_nil
/-- RookHustingModel electsOf -/
noncomputable def con_785 : Con2 := ((yX12_electsOf, cX12_electsOf, 4, (some .int)), (4, 98), ([(6, 0, 0), (0, 0, 0), (1, 2, 0)], gi_394, hc_83, []), [((1, 71, 0), gi_395, hq_468, [], [1])])
theorem hd_785 : con_785.1 = (yX12_electsOf, cX12_electsOf, 4, (some .int)) := rfl
theorem ck_RX12_252_784 : COK2 RX12 vwCl gTbl 252 1 con_784 := ⟨wd_1720, wd_137, mh_X12_bits, .inl ⟨rfl, wd_1718, wd_1719, pd_X12_bits⟩⟩
noncomputable def ct_785 : CTB2 := [(8, 252, 1, con_784, []), (42, 266, 0, con_697, [0, 1, 2, 3])]
noncomputable def cu_785 : List CUT2 := [((2, [lq 0 6 0, lq 1 0 0, lq 2 1 2, lq 3 0 0], [], gi_396, hq_468), [], ([], 0))]
theorem ch_785 : staG tb_X12_electsOf 1 bt_RX12 [] ct_785 [] [] cu_785 18 con_785 = true := by decide +kernel
theorem cc_785 : cu_785.all (cutG tb_X12_electsOf 1 bt_RX12 [] ct_785 [] [] cu_785 18 con_785) = true := by decide +kernel
theorem cto_785 (l : Launch) : CTOK2 l RX12 vwCl gTbl ct_785 := ct2_cons (vl_784 l) ck_RX12_252_784 (ct2_cons (vl_697 l) ck_RX12_266_697 (ct2_nil))
theorem vl_785 (l : Launch) : Vld2 l vwCl gTbl con_785 := conR_ok3 gT_all (hd_785) rfl pn_RX12 tk_X12_electsOf bo_RX12 xo_RX12 (cto_785 l) ch_785 (cut_all cc_785)
/-- RookHustingModel men -/
noncomputable def ac_471 : AC := .inr (1, jl_n [js_1 51 5, jl_x (1, (0, 4, 0)), sp_127])
noncomputable def con_786 : Con2 := ((yX12_men, cX12_men, 1, (some .int)), (0, 0), ([(6, 0, 0)], gi_383, [ac_435, ac_471], []), [((0, 4, 0), gi_384, [(false, ac_435), (false, ac_471)], [], [1])])
theorem hd_786 : con_786.1 = (yX12_men, cX12_men, 1, (some .int)) := rfl
noncomputable def cu_786 : List CUT2 := []
theorem ch_786 : staG tb_X12_men 1 bt_RX12 [] ct_2 [] [] cu_786 7 con_786 = true := by decide +kernel
theorem vl_786 (l : Launch) : Vld2 l vwCl gTbl con_786 := conR_ok3 gT_all (hd_786) rfl pn_RX12 tk_X12_men bo_RX12 xo_RX12 (cto_2 l) ch_786 cut_nil
/-- RookHustingModel allMen -/
noncomputable def con_787 : Con2 := ((yX12_allMen, cX12_allMen, 1, (some .int)), (1, 20), ([(6, 0, 0)], gi_383, [ac_435, ac_471], []), [((0, 15, 0), gi_384, [(false, ac_435), (false, ac_471)], [], [1])])
theorem hd_787 : con_787.1 = (yX12_allMen, cX12_allMen, 1, (some .int)) := rfl
theorem ck_RX12_95_786 : COK2 RX12 vwCl gTbl 95 0 con_786 := ⟨wd_1672, wd_137, mh_X12_men, .inr (.inr ⟨rfl, wd_1669, wd_1671, wd_69, ⟨_, rfl, pd_X12_men⟩, 12, _, TX12, 45, rfl, rfl⟩)⟩
noncomputable def ct_787 : CTB2 := [(2, 95, 0, con_786, [0, 1])]
noncomputable def cu_787 : List CUT2 := []
theorem ch_787 : staG tb_X12_allMen 1 bt_RX12 [] ct_787 [] [] cu_787 9 con_787 = true := by decide +kernel
theorem cto_787 (l : Launch) : CTOK2 l RX12 vwCl gTbl ct_787 := ct2_cons (vl_786 l) ck_RX12_95_786 (ct2_nil)
theorem vl_787 (l : Launch) : Vld2 l vwCl gTbl con_787 := conR_ok3 gT_all (hd_787) rfl pn_RX12 tk_X12_allMen bo_RX12 xo_RX12 (cto_787 l) ch_787 cut_nil
/-- RookHustingModel in -/
noncomputable def con_788 : Con2 := ((yX12_in, cX12_in, 6, (some .boolean)), (0, 0), ([(4, 0, 0), (3, 0, 0), (3, 15, 0)], gi_146, [], []), [((0, 0, 0), gi_147, [], [], [1]), ((0, 1, 0), [(0, 15), (0, 0), (0, 0), (0, 0)], [], [], [1])])
theorem hd_788 : con_788.1 = (yX12_in, cX12_in, 6, (some .boolean)) := rfl
noncomputable def cu_788 : List CUT2 := []
theorem ch_788 : staG tb_X12_in 1 bt_RX12 [] ct_2 [] [] cu_788 11 con_788 = true := by decide +kernel
theorem vl_788 (l : Launch) : Vld2 l vwCl gTbl con_788 := conR_ok3 gT_all (hd_788) rfl pn_RX12 tk_X12_in bo_RX12 xo_RX12 (cto_2 l) ch_788 cut_nil
/-- RookHustingModel isSet -/
noncomputable def ac_472 : AC := .inr (1, jl_n [js_1 52 5, jl_x (1, (0, 4, 0)), sp_128])
noncomputable def gi_398 : GI := jl_n [gp_228, gp_223]
noncomputable def con_789 : Con2 := ((yX12_isSet, cX12_isSet, 2, (some .boolean)), (2, 40), ([(6, 0, 0), (1, 1, 0)], gi_385, [ac_437, ac_472], []), [((0, 0, 0), gi_386, [(false, ac_437), (false, ac_472)], [], [1]), ((0, 1, 0), gi_398, [(false, ac_437), (false, ac_472)], [], [1])])
theorem hd_789 : con_789.1 = (yX12_isSet, cX12_isSet, 2, (some .boolean)) := rfl
theorem ck_RX12_91_788 : COK2 RX12 vwCl gTbl 91 1 con_788 := ⟨wd_1544, wd_137, mh_X12_in, .inl ⟨rfl, wd_1542, wd_1543, pd_X12_in⟩⟩
theorem ck_RX12_269_787 : COK2 RX12 vwCl gTbl 269 0 con_787 := ⟨wd_1708, wd_137, mh_X12_allMen, .inr (.inr ⟨rfl, wd_1705, wd_1707, wd_75, ⟨_, rfl, pd_X12_allMen⟩, 12, _, TX12, 45, rfl, rfl⟩)⟩
noncomputable def ct_789 : CTB2 := [(1, 99, 0, con_673, [0, 1]), (11, 269, 0, con_787, [0, 1]), (15, 91, 1, con_788, [])]
noncomputable def cu_789 : List CUT2 := []
theorem ch_789 : staG tb_X12_isSet 1 bt_RX12 [] ct_789 [] [] cu_789 16 con_789 = true := by decide +kernel
theorem cto_789 (l : Launch) : CTOK2 l RX12 vwCl gTbl ct_789 := ct2_cons (vl_673 l) ck_RX12_99_673 (ct2_cons (vl_787 l) ck_RX12_269_787 (ct2_cons (vl_788 l) ck_RX12_91_788 (ct2_nil)))
theorem vl_789 (l : Launch) : Vld2 l vwCl gTbl con_789 := conR_ok3 gT_all (hd_789) rfl pn_RX12 tk_X12_isSet bo_RX12 xo_RX12 (cto_789 l) ch_789 cut_nil
/-- RookHustingModel fewestOf -/
noncomputable def hc_84 : List AC := [ac_469, ac_472, am_8, am_6]
noncomputable def hq_469 : HP := [(false, ac_469), (false, ac_472), (false, am_8), (false, am_6)]
noncomputable def con_790 : Con2 := ((yX12_fewestOf, cX12_fewestOf, 4, (some .int)), (3, 74), ([(6, 0, 0), (0, 15, 0)], gi_388, hc_84, []), [((0, 0, 0), gi_389, hq_469, [], [1]), ((0, 1, 0), gi_389, hq_469, [], [1]), ((0, 2, 0), gi_389, hq_469, [], [1]), ((0, 3, 0), gi_389, hq_469, [], [1])])
theorem hd_790 : con_790.1 = (yX12_fewestOf, cX12_fewestOf, 4, (some .int)) := rfl
noncomputable def ct_790 : CTB2 := [(6, 95, 0, con_786, [0, 1]), (14, 199, 1, con_538, []), (14, 199, 1, con_539, []), (14, 199, 1, con_540, []), (14, 199, 1, con_541, []), (30, 259, 0, con_685, [0, 1, 2, 3]), (37, 259, 0, con_685, [0, 1, 2, 3])]
noncomputable def cu_790 : List CUT2 := [((4, [lq 0 6 0, lq 1 0 15, (2, (0, (-1), 0)), lq 3 0 0], [], gi_390, hq_469), [], ([], 4)), ((4, [lq 0 6 0, lq 1 0 15, lq 2 0 0, lq 3 0 1], [], gi_390, hq_469), [], ([], 3)), ((4, [lq 0 6 0, lq 1 0 15, lq 2 0 1, lq 3 0 2], [], gi_390, hq_469), [], ([], 2)), ((4, [lq 0 6 0, lq 1 0 15, lq 2 0 0, lq 3 0 2], [], gi_390, hq_469), [], ([], 2)), ((4, [lq 0 6 0, lq 1 0 15, lq 2 0 2, lq 3 0 3], [], gi_390, hq_469), [], ([], 1)), ((4, [lq 0 6 0, lq 1 0 15, lq 2 0 1, lq 3 0 3], [], gi_390, hq_469), [], ([], 1)), ((4, [lq 0 6 0, lq 1 0 15, lq 2 0 0, lq 3 0 3], [], gi_390, hq_469), [], ([], 1)), ((4, [lq 0 6 0, lq 1 0 15, lq 2 0 3, lq 3 0 4], [], gi_390, hq_469), [], ([], 0)), ((4, [lq 0 6 0, lq 1 0 15, lq 2 0 2, lq 3 0 4], [], gi_390, hq_469), [], ([], 0)), ((4, [lq 0 6 0, lq 1 0 15, lq 2 0 1, lq 3 0 4], [], gi_390, hq_469), [], ([], 0)), ((4, [lq 0 6 0, lq 1 0 15, lq 2 0 0, lq 3 0 4], [], gi_390, hq_469), [], ([], 0))]
theorem ch_790 : staG tb_X12_fewestOf 1 bt_RX12 [] ct_790 [] [] cu_790 30 con_790 = true := by decide +kernel
theorem cc_790 : cu_790.all (cutG tb_X12_fewestOf 1 bt_RX12 [] ct_790 [] [] cu_790 30 con_790) = true := by decide +kernel
theorem cto_790 (l : Launch) : CTOK2 l RX12 vwCl gTbl ct_790 := ct2_cons (vl_786 l) ck_RX12_95_786 (ct2_cons (vl_538 l) ck_RX12_199_538 (ct2_cons (vl_539 l) ck_RX12_199_539 (ct2_cons (vl_540 l) ck_RX12_199_540 (ct2_cons (vl_541 l) ck_RX12_199_541 (ct2_cons (vl_685 l) ck_RX12_259_685 (ct2_cons (vl_685 l) ck_RX12_259_685 (ct2_nil)))))))
theorem vl_790 (l : Launch) : Vld2 l vwCl gTbl con_790 := conR_ok3 gT_all (hd_790) rfl pn_RX12 tk_X12_fewestOf bo_RX12 xo_RX12 (cto_790 l) ch_790 (cut_all cc_790)
/-- RookHustingModel fewestOf -/
noncomputable def con_791 : Con2 := ((yX12_fewestOf, cX12_fewestOf, 4, (some .int)), (3, 74), ([(6, 0, 0), (0, 7, 0)], gi_388, hc_84, []), [((0, 0, 0), gi_389, hq_469, [], [1]), ((0, 1, 0), gi_389, hq_469, [], [1]), ((0, 2, 0), gi_389, hq_469, [], [1])])
theorem hd_791 : con_791.1 = (yX12_fewestOf, cX12_fewestOf, 4, (some .int)) := rfl
noncomputable def ct_791 : CTB2 := [(6, 95, 0, con_786, [0, 1]), (14, 199, 1, con_513, []), (14, 199, 1, con_514, []), (14, 199, 1, con_515, []), (14, 199, 1, con_516, []), (30, 259, 0, con_685, [0, 1, 2, 3]), (37, 259, 0, con_685, [0, 1, 2, 3])]
noncomputable def cu_791 : List CUT2 := [((4, [lq 0 6 0, lq 1 0 7, (2, (0, (-1), 0)), lq 3 0 0], [], gi_390, hq_469), [], ([], 4)), ((4, [lq 0 6 0, lq 1 0 7, lq 2 0 0, lq 3 0 1], [], gi_390, hq_469), [], ([], 3)), ((4, [lq 0 6 0, lq 1 0 7, lq 2 0 1, lq 3 0 2], [], gi_390, hq_469), [], ([], 2)), ((4, [lq 0 6 0, lq 1 0 7, lq 2 0 0, lq 3 0 2], [], gi_390, hq_469), [], ([], 2)), ((4, [lq 0 6 0, lq 1 0 7, lq 2 0 2, lq 3 0 3], [], gi_390, hq_469), [], ([], 1)), ((4, [lq 0 6 0, lq 1 0 7, lq 2 0 1, lq 3 0 3], [], gi_390, hq_469), [], ([], 1)), ((4, [lq 0 6 0, lq 1 0 7, lq 2 0 0, lq 3 0 3], [], gi_390, hq_469), [], ([], 1)), ((4, [lq 0 6 0, lq 1 0 7, lq 2 0 2, lq 3 0 4], [], gi_390, hq_469), [], ([], 0)), ((4, [lq 0 6 0, lq 1 0 7, lq 2 0 1, lq 3 0 4], [], gi_390, hq_469), [], ([], 0)), ((4, [lq 0 6 0, lq 1 0 7, lq 2 0 0, lq 3 0 4], [], gi_390, hq_469), [], ([], 0))]
theorem ch_791 : staG tb_X12_fewestOf 1 bt_RX12 [] ct_791 [] [] cu_791 30 con_791 = true := by decide +kernel
theorem cc_791 : cu_791.all (cutG tb_X12_fewestOf 1 bt_RX12 [] ct_791 [] [] cu_791 30 con_791) = true := by decide +kernel
theorem cto_791 (l : Launch) : CTOK2 l RX12 vwCl gTbl ct_791 := ct2_cons (vl_786 l) ck_RX12_95_786 (ct2_cons (vl_513 l) ck_RX12_199_513 (ct2_cons (vl_514 l) ck_RX12_199_514 (ct2_cons (vl_515 l) ck_RX12_199_515 (ct2_cons (vl_516 l) ck_RX12_199_516 (ct2_cons (vl_685 l) ck_RX12_259_685 (ct2_cons (vl_685 l) ck_RX12_259_685 (ct2_nil)))))))
theorem vl_791 (l : Launch) : Vld2 l vwCl gTbl con_791 := conR_ok3 gT_all (hd_791) rfl pn_RX12 tk_X12_fewestOf bo_RX12 xo_RX12 (cto_791 l) ch_791 (cut_all cc_791)
/-- RookHustingModel fewestOf -/
noncomputable def con_792 : Con2 := ((yX12_fewestOf, cX12_fewestOf, 4, (some .int)), (3, 74), ([(6, 0, 0), (0, 11, 0)], gi_388, hc_84, []), [((0, 0, 0), gi_389, hq_469, [], [1]), ((0, 1, 0), gi_389, hq_469, [], [1]), ((0, 3, 0), gi_389, hq_469, [], [1])])
theorem hd_792 : con_792.1 = (yX12_fewestOf, cX12_fewestOf, 4, (some .int)) := rfl
noncomputable def ct_792 : CTB2 := [(6, 95, 0, con_786, [0, 1]), (14, 199, 1, con_508, []), (14, 199, 1, con_509, []), (14, 199, 1, con_510, []), (14, 199, 1, con_511, []), (30, 259, 0, con_685, [0, 1, 2, 3]), (37, 259, 0, con_685, [0, 1, 2, 3])]
noncomputable def cu_792 : List CUT2 := [((4, [lq 0 6 0, lq 1 0 11, (2, (0, (-1), 0)), lq 3 0 0], [], gi_390, hq_469), [], ([], 4)), ((4, [lq 0 6 0, lq 1 0 11, lq 2 0 0, lq 3 0 1], [], gi_390, hq_469), [], ([], 3)), ((4, [lq 0 6 0, lq 1 0 11, lq 2 0 1, lq 3 0 2], [], gi_390, hq_469), [], ([], 2)), ((4, [lq 0 6 0, lq 1 0 11, lq 2 0 0, lq 3 0 2], [], gi_390, hq_469), [], ([], 2)), ((4, [lq 0 6 0, lq 1 0 11, lq 2 0 1, lq 3 0 3], [], gi_390, hq_469), [], ([], 1)), ((4, [lq 0 6 0, lq 1 0 11, lq 2 0 0, lq 3 0 3], [], gi_390, hq_469), [], ([], 1)), ((4, [lq 0 6 0, lq 1 0 11, lq 2 0 3, lq 3 0 4], [], gi_390, hq_469), [], ([], 0)), ((4, [lq 0 6 0, lq 1 0 11, lq 2 0 1, lq 3 0 4], [], gi_390, hq_469), [], ([], 0)), ((4, [lq 0 6 0, lq 1 0 11, lq 2 0 0, lq 3 0 4], [], gi_390, hq_469), [], ([], 0))]
theorem ch_792 : staG tb_X12_fewestOf 1 bt_RX12 [] ct_792 [] [] cu_792 30 con_792 = true := by decide +kernel
theorem cc_792 : cu_792.all (cutG tb_X12_fewestOf 1 bt_RX12 [] ct_792 [] [] cu_792 30 con_792) = true := by decide +kernel
theorem cto_792 (l : Launch) : CTOK2 l RX12 vwCl gTbl ct_792 := ct2_cons (vl_786 l) ck_RX12_95_786 (ct2_cons (vl_508 l) ck_RX12_199_508 (ct2_cons (vl_509 l) ck_RX12_199_509 (ct2_cons (vl_510 l) ck_RX12_199_510 (ct2_cons (vl_511 l) ck_RX12_199_511 (ct2_cons (vl_685 l) ck_RX12_259_685 (ct2_cons (vl_685 l) ck_RX12_259_685 (ct2_nil)))))))
theorem vl_792 (l : Launch) : Vld2 l vwCl gTbl con_792 := conR_ok3 gT_all (hd_792) rfl pn_RX12 tk_X12_fewestOf bo_RX12 xo_RX12 (cto_792 l) ch_792 (cut_all cc_792)
/-- RookHustingModel fewestOf -/
noncomputable def con_793 : Con2 := ((yX12_fewestOf, cX12_fewestOf, 4, (some .int)), (3, 74), ([(6, 0, 0), (0, 13, 0)], gi_388, hc_84, []), [((0, 0, 0), gi_389, hq_469, [], [1]), ((0, 2, 0), gi_389, hq_469, [], [1]), ((0, 3, 0), gi_389, hq_469, [], [1])])
theorem hd_793 : con_793.1 = (yX12_fewestOf, cX12_fewestOf, 4, (some .int)) := rfl
noncomputable def ct_793 : CTB2 := [(6, 95, 0, con_786, [0, 1]), (14, 199, 1, con_503, []), (14, 199, 1, con_504, []), (14, 199, 1, con_505, []), (14, 199, 1, con_506, []), (30, 259, 0, con_685, [0, 1, 2, 3]), (37, 259, 0, con_685, [0, 1, 2, 3])]
noncomputable def cu_793 : List CUT2 := [((4, [lq 0 6 0, lq 1 0 13, (2, (0, (-1), 0)), lq 3 0 0], [], gi_390, hq_469), [], ([], 4)), ((4, [lq 0 6 0, lq 1 0 13, lq 2 0 0, lq 3 0 1], [], gi_390, hq_469), [], ([], 3)), ((4, [lq 0 6 0, lq 1 0 13, lq 2 0 0, lq 3 0 2], [], gi_390, hq_469), [], ([], 2)), ((4, [lq 0 6 0, lq 1 0 13, lq 2 0 2, lq 3 0 3], [], gi_390, hq_469), [], ([], 1)), ((4, [lq 0 6 0, lq 1 0 13, lq 2 0 0, lq 3 0 3], [], gi_390, hq_469), [], ([], 1)), ((4, [lq 0 6 0, lq 1 0 13, lq 2 0 3, lq 3 0 4], [], gi_390, hq_469), [], ([], 0)), ((4, [lq 0 6 0, lq 1 0 13, lq 2 0 2, lq 3 0 4], [], gi_390, hq_469), [], ([], 0)), ((4, [lq 0 6 0, lq 1 0 13, lq 2 0 0, lq 3 0 4], [], gi_390, hq_469), [], ([], 0))]
theorem ch_793 : staG tb_X12_fewestOf 1 bt_RX12 [] ct_793 [] [] cu_793 30 con_793 = true := by decide +kernel
theorem cc_793 : cu_793.all (cutG tb_X12_fewestOf 1 bt_RX12 [] ct_793 [] [] cu_793 30 con_793) = true := by decide +kernel
theorem cto_793 (l : Launch) : CTOK2 l RX12 vwCl gTbl ct_793 := ct2_cons (vl_786 l) ck_RX12_95_786 (ct2_cons (vl_503 l) ck_RX12_199_503 (ct2_cons (vl_504 l) ck_RX12_199_504 (ct2_cons (vl_505 l) ck_RX12_199_505 (ct2_cons (vl_506 l) ck_RX12_199_506 (ct2_cons (vl_685 l) ck_RX12_259_685 (ct2_cons (vl_685 l) ck_RX12_259_685 (ct2_nil)))))))
theorem vl_793 (l : Launch) : Vld2 l vwCl gTbl con_793 := conR_ok3 gT_all (hd_793) rfl pn_RX12 tk_X12_fewestOf bo_RX12 xo_RX12 (cto_793 l) ch_793 (cut_all cc_793)
/-- RookHustingModel fewestOf -/
noncomputable def con_794 : Con2 := ((yX12_fewestOf, cX12_fewestOf, 4, (some .int)), (3, 74), ([(6, 0, 0), (0, 14, 0)], gi_388, hc_84, []), [((0, 1, 0), gi_389, hq_469, [], [1]), ((0, 2, 0), gi_389, hq_469, [], [1]), ((0, 3, 0), gi_389, hq_469, [], [1])])
theorem hd_794 : con_794.1 = (yX12_fewestOf, cX12_fewestOf, 4, (some .int)) := rfl
noncomputable def ct_794 : CTB2 := [(6, 95, 0, con_786, [0, 1]), (14, 199, 1, con_498, []), (14, 199, 1, con_499, []), (14, 199, 1, con_500, []), (14, 199, 1, con_501, []), (30, 259, 0, con_685, [0, 1, 2, 3]), (37, 259, 0, con_685, [0, 1, 2, 3])]
noncomputable def cu_794 : List CUT2 := [((4, [lq 0 6 0, lq 1 0 14, (2, (0, (-1), 0)), lq 3 0 0], [], gi_390, hq_469), [], ([], 4)), ((4, [lq 0 6 0, lq 1 0 14, (2, (0, (-1), 0)), lq 3 0 1], [], gi_390, hq_469), [], ([], 3)), ((4, [lq 0 6 0, lq 1 0 14, lq 2 0 1, lq 3 0 2], [], gi_390, hq_469), [], ([], 2)), ((4, [lq 0 6 0, lq 1 0 14, lq 2 0 2, lq 3 0 3], [], gi_390, hq_469), [], ([], 1)), ((4, [lq 0 6 0, lq 1 0 14, lq 2 0 1, lq 3 0 3], [], gi_390, hq_469), [], ([], 1)), ((4, [lq 0 6 0, lq 1 0 14, lq 2 0 3, lq 3 0 4], [], gi_390, hq_469), [], ([], 0)), ((4, [lq 0 6 0, lq 1 0 14, lq 2 0 2, lq 3 0 4], [], gi_390, hq_469), [], ([], 0)), ((4, [lq 0 6 0, lq 1 0 14, lq 2 0 1, lq 3 0 4], [], gi_390, hq_469), [], ([], 0))]
theorem ch_794 : staG tb_X12_fewestOf 1 bt_RX12 [] ct_794 [] [] cu_794 30 con_794 = true := by decide +kernel
theorem cc_794 : cu_794.all (cutG tb_X12_fewestOf 1 bt_RX12 [] ct_794 [] [] cu_794 30 con_794) = true := by decide +kernel
theorem cto_794 (l : Launch) : CTOK2 l RX12 vwCl gTbl ct_794 := ct2_cons (vl_786 l) ck_RX12_95_786 (ct2_cons (vl_498 l) ck_RX12_199_498 (ct2_cons (vl_499 l) ck_RX12_199_499 (ct2_cons (vl_500 l) ck_RX12_199_500 (ct2_cons (vl_501 l) ck_RX12_199_501 (ct2_cons (vl_685 l) ck_RX12_259_685 (ct2_cons (vl_685 l) ck_RX12_259_685 (ct2_nil)))))))
theorem vl_794 (l : Launch) : Vld2 l vwCl gTbl con_794 := conR_ok3 gT_all (hd_794) rfl pn_RX12 tk_X12_fewestOf bo_RX12 xo_RX12 (cto_794 l) ch_794 (cut_all cc_794)
/-- RookHustingModel fewestOf -/
noncomputable def con_795 : Con2 := ((yX12_fewestOf, cX12_fewestOf, 4, (some .int)), (3, 74), ([(6, 0, 0), (0, 3, 0)], gi_388, hc_84, []), [((0, 0, 0), gi_389, hq_469, [], [1]), ((0, 1, 0), gi_389, hq_469, [], [1])])
theorem hd_795 : con_795.1 = (yX12_fewestOf, cX12_fewestOf, 4, (some .int)) := rfl
noncomputable def ct_795 : CTB2 := [(6, 95, 0, con_786, [0, 1]), (14, 199, 1, con_463, []), (14, 199, 1, con_464, []), (14, 199, 1, con_465, []), (14, 199, 1, con_466, []), (30, 259, 0, con_685, [0, 1, 2, 3]), (37, 259, 0, con_685, [0, 1, 2, 3])]
noncomputable def cu_795 : List CUT2 := [((4, [lq 0 6 0, lq 1 0 3, (2, (0, (-1), 0)), lq 3 0 0], [], gi_390, hq_469), [], ([], 4)), ((4, [lq 0 6 0, lq 1 0 3, lq 2 0 0, lq 3 0 1], [], gi_390, hq_469), [], ([], 3)), ((4, [lq 0 6 0, lq 1 0 3, lq 2 0 1, lq 3 0 2], [], gi_390, hq_469), [], ([], 2)), ((4, [lq 0 6 0, lq 1 0 3, lq 2 0 0, lq 3 0 2], [], gi_390, hq_469), [], ([], 2)), ((4, [lq 0 6 0, lq 1 0 3, lq 2 0 1, lq 3 0 3], [], gi_390, hq_469), [], ([], 1)), ((4, [lq 0 6 0, lq 1 0 3, lq 2 0 0, lq 3 0 3], [], gi_390, hq_469), [], ([], 1)), ((4, [lq 0 6 0, lq 1 0 3, lq 2 0 1, lq 3 0 4], [], gi_390, hq_469), [], ([], 0)), ((4, [lq 0 6 0, lq 1 0 3, lq 2 0 0, lq 3 0 4], [], gi_390, hq_469), [], ([], 0))]
theorem ch_795 : staG tb_X12_fewestOf 1 bt_RX12 [] ct_795 [] [] cu_795 30 con_795 = true := by decide +kernel
theorem cc_795 : cu_795.all (cutG tb_X12_fewestOf 1 bt_RX12 [] ct_795 [] [] cu_795 30 con_795) = true := by decide +kernel
theorem cto_795 (l : Launch) : CTOK2 l RX12 vwCl gTbl ct_795 := ct2_cons (vl_786 l) ck_RX12_95_786 (ct2_cons (vl_463 l) ck_RX12_199_463 (ct2_cons (vl_464 l) ck_RX12_199_464 (ct2_cons (vl_465 l) ck_RX12_199_465 (ct2_cons (vl_466 l) ck_RX12_199_466 (ct2_cons (vl_685 l) ck_RX12_259_685 (ct2_cons (vl_685 l) ck_RX12_259_685 (ct2_nil)))))))
theorem vl_795 (l : Launch) : Vld2 l vwCl gTbl con_795 := conR_ok3 gT_all (hd_795) rfl pn_RX12 tk_X12_fewestOf bo_RX12 xo_RX12 (cto_795 l) ch_795 (cut_all cc_795)
/-- RookHustingModel fewestOf -/
noncomputable def con_796 : Con2 := ((yX12_fewestOf, cX12_fewestOf, 4, (some .int)), (3, 74), ([(6, 0, 0), (0, 5, 0)], gi_388, hc_84, []), [((0, 0, 0), gi_389, hq_469, [], [1]), ((0, 2, 0), gi_389, hq_469, [], [1])])
theorem hd_796 : con_796.1 = (yX12_fewestOf, cX12_fewestOf, 4, (some .int)) := rfl
noncomputable def ct_796 : CTB2 := [(6, 95, 0, con_786, [0, 1]), (14, 199, 1, con_458, []), (14, 199, 1, con_459, []), (14, 199, 1, con_460, []), (14, 199, 1, con_461, []), (30, 259, 0, con_685, [0, 1, 2, 3]), (37, 259, 0, con_685, [0, 1, 2, 3])]
noncomputable def cu_796 : List CUT2 := [((4, [lq 0 6 0, lq 1 0 5, (2, (0, (-1), 0)), lq 3 0 0], [], gi_390, hq_469), [], ([], 4)), ((4, [lq 0 6 0, lq 1 0 5, lq 2 0 0, lq 3 0 1], [], gi_390, hq_469), [], ([], 3)), ((4, [lq 0 6 0, lq 1 0 5, lq 2 0 0, lq 3 0 2], [], gi_390, hq_469), [], ([], 2)), ((4, [lq 0 6 0, lq 1 0 5, lq 2 0 2, lq 3 0 3], [], gi_390, hq_469), [], ([], 1)), ((4, [lq 0 6 0, lq 1 0 5, lq 2 0 0, lq 3 0 3], [], gi_390, hq_469), [], ([], 1)), ((4, [lq 0 6 0, lq 1 0 5, lq 2 0 2, lq 3 0 4], [], gi_390, hq_469), [], ([], 0)), ((4, [lq 0 6 0, lq 1 0 5, lq 2 0 0, lq 3 0 4], [], gi_390, hq_469), [], ([], 0))]
theorem ch_796 : staG tb_X12_fewestOf 1 bt_RX12 [] ct_796 [] [] cu_796 30 con_796 = true := by decide +kernel
theorem cc_796 : cu_796.all (cutG tb_X12_fewestOf 1 bt_RX12 [] ct_796 [] [] cu_796 30 con_796) = true := by decide +kernel
theorem cto_796 (l : Launch) : CTOK2 l RX12 vwCl gTbl ct_796 := ct2_cons (vl_786 l) ck_RX12_95_786 (ct2_cons (vl_458 l) ck_RX12_199_458 (ct2_cons (vl_459 l) ck_RX12_199_459 (ct2_cons (vl_460 l) ck_RX12_199_460 (ct2_cons (vl_461 l) ck_RX12_199_461 (ct2_cons (vl_685 l) ck_RX12_259_685 (ct2_cons (vl_685 l) ck_RX12_259_685 (ct2_nil)))))))
theorem vl_796 (l : Launch) : Vld2 l vwCl gTbl con_796 := conR_ok3 gT_all (hd_796) rfl pn_RX12 tk_X12_fewestOf bo_RX12 xo_RX12 (cto_796 l) ch_796 (cut_all cc_796)
/-- RookHustingModel fewestOf -/
noncomputable def con_797 : Con2 := ((yX12_fewestOf, cX12_fewestOf, 4, (some .int)), (3, 74), ([(6, 0, 0), (0, 6, 0)], gi_388, hc_84, []), [((0, 1, 0), gi_389, hq_469, [], [1]), ((0, 2, 0), gi_389, hq_469, [], [1])])
theorem hd_797 : con_797.1 = (yX12_fewestOf, cX12_fewestOf, 4, (some .int)) := rfl
noncomputable def ct_797 : CTB2 := [(6, 95, 0, con_786, [0, 1]), (14, 199, 1, con_453, []), (14, 199, 1, con_454, []), (14, 199, 1, con_455, []), (14, 199, 1, con_456, []), (30, 259, 0, con_685, [0, 1, 2, 3]), (37, 259, 0, con_685, [0, 1, 2, 3])]
noncomputable def cu_797 : List CUT2 := [((4, [lq 0 6 0, lq 1 0 6, (2, (0, (-1), 0)), lq 3 0 0], [], gi_390, hq_469), [], ([], 4)), ((4, [lq 0 6 0, lq 1 0 6, (2, (0, (-1), 0)), lq 3 0 1], [], gi_390, hq_469), [], ([], 3)), ((4, [lq 0 6 0, lq 1 0 6, lq 2 0 1, lq 3 0 2], [], gi_390, hq_469), [], ([], 2)), ((4, [lq 0 6 0, lq 1 0 6, lq 2 0 2, lq 3 0 3], [], gi_390, hq_469), [], ([], 1)), ((4, [lq 0 6 0, lq 1 0 6, lq 2 0 1, lq 3 0 3], [], gi_390, hq_469), [], ([], 1)), ((4, [lq 0 6 0, lq 1 0 6, lq 2 0 2, lq 3 0 4], [], gi_390, hq_469), [], ([], 0)), ((4, [lq 0 6 0, lq 1 0 6, lq 2 0 1, lq 3 0 4], [], gi_390, hq_469), [], ([], 0))]
theorem ch_797 : staG tb_X12_fewestOf 1 bt_RX12 [] ct_797 [] [] cu_797 30 con_797 = true := by decide +kernel
theorem cc_797 : cu_797.all (cutG tb_X12_fewestOf 1 bt_RX12 [] ct_797 [] [] cu_797 30 con_797) = true := by decide +kernel
theorem cto_797 (l : Launch) : CTOK2 l RX12 vwCl gTbl ct_797 := ct2_cons (vl_786 l) ck_RX12_95_786 (ct2_cons (vl_453 l) ck_RX12_199_453 (ct2_cons (vl_454 l) ck_RX12_199_454 (ct2_cons (vl_455 l) ck_RX12_199_455 (ct2_cons (vl_456 l) ck_RX12_199_456 (ct2_cons (vl_685 l) ck_RX12_259_685 (ct2_cons (vl_685 l) ck_RX12_259_685 (ct2_nil)))))))
theorem vl_797 (l : Launch) : Vld2 l vwCl gTbl con_797 := conR_ok3 gT_all (hd_797) rfl pn_RX12 tk_X12_fewestOf bo_RX12 xo_RX12 (cto_797 l) ch_797 (cut_all cc_797)
/-- RookHustingModel fewestOf -/
noncomputable def con_798 : Con2 := ((yX12_fewestOf, cX12_fewestOf, 4, (some .int)), (3, 74), ([(6, 0, 0), (0, 9, 0)], gi_388, hc_84, []), [((0, 0, 0), gi_389, hq_469, [], [1]), ((0, 3, 0), gi_389, hq_469, [], [1])])
theorem hd_798 : con_798.1 = (yX12_fewestOf, cX12_fewestOf, 4, (some .int)) := rfl
noncomputable def ct_798 : CTB2 := [(6, 95, 0, con_786, [0, 1]), (14, 199, 1, con_448, []), (14, 199, 1, con_449, []), (14, 199, 1, con_450, []), (14, 199, 1, con_451, []), (30, 259, 0, con_685, [0, 1, 2, 3]), (37, 259, 0, con_685, [0, 1, 2, 3])]
noncomputable def cu_798 : List CUT2 := [((4, [lq 0 6 0, lq 1 0 9, (2, (0, (-1), 0)), lq 3 0 0], [], gi_390, hq_469), [], ([], 4)), ((4, [lq 0 6 0, lq 1 0 9, lq 2 0 0, lq 3 0 1], [], gi_390, hq_469), [], ([], 3)), ((4, [lq 0 6 0, lq 1 0 9, lq 2 0 0, lq 3 0 2], [], gi_390, hq_469), [], ([], 2)), ((4, [lq 0 6 0, lq 1 0 9, lq 2 0 0, lq 3 0 3], [], gi_390, hq_469), [], ([], 1)), ((4, [lq 0 6 0, lq 1 0 9, lq 2 0 3, lq 3 0 4], [], gi_390, hq_469), [], ([], 0)), ((4, [lq 0 6 0, lq 1 0 9, lq 2 0 0, lq 3 0 4], [], gi_390, hq_469), [], ([], 0))]
theorem ch_798 : staG tb_X12_fewestOf 1 bt_RX12 [] ct_798 [] [] cu_798 30 con_798 = true := by decide +kernel
theorem cc_798 : cu_798.all (cutG tb_X12_fewestOf 1 bt_RX12 [] ct_798 [] [] cu_798 30 con_798) = true := by decide +kernel
theorem cto_798 (l : Launch) : CTOK2 l RX12 vwCl gTbl ct_798 := ct2_cons (vl_786 l) ck_RX12_95_786 (ct2_cons (vl_448 l) ck_RX12_199_448 (ct2_cons (vl_449 l) ck_RX12_199_449 (ct2_cons (vl_450 l) ck_RX12_199_450 (ct2_cons (vl_451 l) ck_RX12_199_451 (ct2_cons (vl_685 l) ck_RX12_259_685 (ct2_cons (vl_685 l) ck_RX12_259_685 (ct2_nil)))))))
theorem vl_798 (l : Launch) : Vld2 l vwCl gTbl con_798 := conR_ok3 gT_all (hd_798) rfl pn_RX12 tk_X12_fewestOf bo_RX12 xo_RX12 (cto_798 l) ch_798 (cut_all cc_798)
/-- RookHustingModel fewestOf -/
noncomputable def con_799 : Con2 := ((yX12_fewestOf, cX12_fewestOf, 4, (some .int)), (3, 74), ([(6, 0, 0), (0, 10, 0)], gi_388, hc_84, []), [((0, 1, 0), gi_389, hq_469, [], [1]), ((0, 3, 0), gi_389, hq_469, [], [1])])
theorem hd_799 : con_799.1 = (yX12_fewestOf, cX12_fewestOf, 4, (some .int)) := rfl
noncomputable def ct_799 : CTB2 := [(6, 95, 0, con_786, [0, 1]), (14, 199, 1, con_443, []), (14, 199, 1, con_444, []), (14, 199, 1, con_445, []), (14, 199, 1, con_446, []), (30, 259, 0, con_685, [0, 1, 2, 3]), (37, 259, 0, con_685, [0, 1, 2, 3])]
noncomputable def cu_799 : List CUT2 := [((4, [lq 0 6 0, lq 1 0 10, (2, (0, (-1), 0)), lq 3 0 0], [], gi_390, hq_469), [], ([], 4)), ((4, [lq 0 6 0, lq 1 0 10, (2, (0, (-1), 0)), lq 3 0 1], [], gi_390, hq_469), [], ([], 3)), ((4, [lq 0 6 0, lq 1 0 10, lq 2 0 1, lq 3 0 2], [], gi_390, hq_469), [], ([], 2)), ((4, [lq 0 6 0, lq 1 0 10, lq 2 0 1, lq 3 0 3], [], gi_390, hq_469), [], ([], 1)), ((4, [lq 0 6 0, lq 1 0 10, lq 2 0 3, lq 3 0 4], [], gi_390, hq_469), [], ([], 0)), ((4, [lq 0 6 0, lq 1 0 10, lq 2 0 1, lq 3 0 4], [], gi_390, hq_469), [], ([], 0))]
theorem ch_799 : staG tb_X12_fewestOf 1 bt_RX12 [] ct_799 [] [] cu_799 30 con_799 = true := by decide +kernel
theorem cc_799 : cu_799.all (cutG tb_X12_fewestOf 1 bt_RX12 [] ct_799 [] [] cu_799 30 con_799) = true := by decide +kernel
theorem cto_799 (l : Launch) : CTOK2 l RX12 vwCl gTbl ct_799 := ct2_cons (vl_786 l) ck_RX12_95_786 (ct2_cons (vl_443 l) ck_RX12_199_443 (ct2_cons (vl_444 l) ck_RX12_199_444 (ct2_cons (vl_445 l) ck_RX12_199_445 (ct2_cons (vl_446 l) ck_RX12_199_446 (ct2_cons (vl_685 l) ck_RX12_259_685 (ct2_cons (vl_685 l) ck_RX12_259_685 (ct2_nil)))))))
theorem vl_799 (l : Launch) : Vld2 l vwCl gTbl con_799 := conR_ok3 gT_all (hd_799) rfl pn_RX12 tk_X12_fewestOf bo_RX12 xo_RX12 (cto_799 l) ch_799 (cut_all cc_799)
/-- RookHustingModel fewestOf -/
noncomputable def con_800 : Con2 := ((yX12_fewestOf, cX12_fewestOf, 4, (some .int)), (3, 74), ([(6, 0, 0), (0, 12, 0)], gi_388, hc_84, []), [((0, 2, 0), gi_389, hq_469, [], [1]), ((0, 3, 0), gi_389, hq_469, [], [1])])
theorem hd_800 : con_800.1 = (yX12_fewestOf, cX12_fewestOf, 4, (some .int)) := rfl
noncomputable def ct_800 : CTB2 := [(6, 95, 0, con_786, [0, 1]), (14, 199, 1, con_438, []), (14, 199, 1, con_439, []), (14, 199, 1, con_440, []), (14, 199, 1, con_441, []), (30, 259, 0, con_685, [0, 1, 2, 3]), (37, 259, 0, con_685, [0, 1, 2, 3])]
noncomputable def cu_800 : List CUT2 := [((4, [lq 0 6 0, lq 1 0 12, (2, (0, (-1), 0)), lq 3 0 0], [], gi_390, hq_469), [], ([], 4)), ((4, [lq 0 6 0, lq 1 0 12, (2, (0, (-1), 0)), lq 3 0 1], [], gi_390, hq_469), [], ([], 3)), ((4, [lq 0 6 0, lq 1 0 12, (2, (0, (-1), 0)), lq 3 0 2], [], gi_390, hq_469), [], ([], 2)), ((4, [lq 0 6 0, lq 1 0 12, lq 2 0 2, lq 3 0 3], [], gi_390, hq_469), [], ([], 1)), ((4, [lq 0 6 0, lq 1 0 12, lq 2 0 3, lq 3 0 4], [], gi_390, hq_469), [], ([], 0)), ((4, [lq 0 6 0, lq 1 0 12, lq 2 0 2, lq 3 0 4], [], gi_390, hq_469), [], ([], 0))]
theorem ch_800 : staG tb_X12_fewestOf 1 bt_RX12 [] ct_800 [] [] cu_800 30 con_800 = true := by decide +kernel
theorem cc_800 : cu_800.all (cutG tb_X12_fewestOf 1 bt_RX12 [] ct_800 [] [] cu_800 30 con_800) = true := by decide +kernel
theorem cto_800 (l : Launch) : CTOK2 l RX12 vwCl gTbl ct_800 := ct2_cons (vl_786 l) ck_RX12_95_786 (ct2_cons (vl_438 l) ck_RX12_199_438 (ct2_cons (vl_439 l) ck_RX12_199_439 (ct2_cons (vl_440 l) ck_RX12_199_440 (ct2_cons (vl_441 l) ck_RX12_199_441 (ct2_cons (vl_685 l) ck_RX12_259_685 (ct2_cons (vl_685 l) ck_RX12_259_685 (ct2_nil)))))))
theorem vl_800 (l : Launch) : Vld2 l vwCl gTbl con_800 := conR_ok3 gT_all (hd_800) rfl pn_RX12 tk_X12_fewestOf bo_RX12 xo_RX12 (cto_800 l) ch_800 (cut_all cc_800)
/-- RookHustingModel electsOf -/
noncomputable def ac_473 : AC := .inr (1, jl_n [js_1 53 5, jl_x (1, (0, 4, 0)), sp_129])
noncomputable def hc_85 : List AC := [ac_451, ac_473, am_8, am_6]
noncomputable def hq_470 : HP := [(false, ac_451), (false, ac_473), (false, am_8), (false, am_6)]
noncomputable def con_801 : Con2 := ((yX12_electsOf, cX12_electsOf, 4, (some .int)), (4, 98), ([(6, 0, 0), (0, 15, 0), (1, 2, 0)], gi_394, hc_85, []), [((1, 71, 0), gi_395, hq_470, [], [1])])
theorem hd_801 : con_801.1 = (yX12_electsOf, cX12_electsOf, 4, (some .int)) := rfl
theorem ck_RX12_263_800 : COK2 RX12 vwCl gTbl 263 0 con_800 := ⟨wd_1732, wd_137, mh_X12_fewestOf, .inr (.inr ⟨rfl, wd_1729, wd_1731, wd_79, ⟨_, rfl, pd_X12_fewestOf⟩, 12, _, TX12, 45, rfl, rfl⟩)⟩
theorem ck_RX12_263_799 : COK2 RX12 vwCl gTbl 263 0 con_799 := ⟨wd_1732, wd_137, mh_X12_fewestOf, .inr (.inr ⟨rfl, wd_1729, wd_1731, wd_79, ⟨_, rfl, pd_X12_fewestOf⟩, 12, _, TX12, 45, rfl, rfl⟩)⟩
theorem ck_RX12_263_798 : COK2 RX12 vwCl gTbl 263 0 con_798 := ⟨wd_1732, wd_137, mh_X12_fewestOf, .inr (.inr ⟨rfl, wd_1729, wd_1731, wd_79, ⟨_, rfl, pd_X12_fewestOf⟩, 12, _, TX12, 45, rfl, rfl⟩)⟩
theorem ck_RX12_263_797 : COK2 RX12 vwCl gTbl 263 0 con_797 := ⟨wd_1732, wd_137, mh_X12_fewestOf, .inr (.inr ⟨rfl, wd_1729, wd_1731, wd_79, ⟨_, rfl, pd_X12_fewestOf⟩, 12, _, TX12, 45, rfl, rfl⟩)⟩
theorem ck_RX12_263_796 : COK2 RX12 vwCl gTbl 263 0 con_796 := ⟨wd_1732, wd_137, mh_X12_fewestOf, .inr (.inr ⟨rfl, wd_1729, wd_1731, wd_79, ⟨_, rfl, pd_X12_fewestOf⟩, 12, _, TX12, 45, rfl, rfl⟩)⟩
theorem ck_RX12_263_795 : COK2 RX12 vwCl gTbl 263 0 con_795 := ⟨wd_1732, wd_137, mh_X12_fewestOf, .inr (.inr ⟨rfl, wd_1729, wd_1731, wd_79, ⟨_, rfl, pd_X12_fewestOf⟩, 12, _, TX12, 45, rfl, rfl⟩)⟩
theorem ck_RX12_263_794 : COK2 RX12 vwCl gTbl 263 0 con_794 := ⟨wd_1732, wd_137, mh_X12_fewestOf, .inr (.inr ⟨rfl, wd_1729, wd_1731, wd_79, ⟨_, rfl, pd_X12_fewestOf⟩, 12, _, TX12, 45, rfl, rfl⟩)⟩
theorem ck_RX12_263_793 : COK2 RX12 vwCl gTbl 263 0 con_793 := ⟨wd_1732, wd_137, mh_X12_fewestOf, .inr (.inr ⟨rfl, wd_1729, wd_1731, wd_79, ⟨_, rfl, pd_X12_fewestOf⟩, 12, _, TX12, 45, rfl, rfl⟩)⟩
theorem ck_RX12_263_792 : COK2 RX12 vwCl gTbl 263 0 con_792 := ⟨wd_1732, wd_137, mh_X12_fewestOf, .inr (.inr ⟨rfl, wd_1729, wd_1731, wd_79, ⟨_, rfl, pd_X12_fewestOf⟩, 12, _, TX12, 45, rfl, rfl⟩)⟩
theorem ck_RX12_263_791 : COK2 RX12 vwCl gTbl 263 0 con_791 := ⟨wd_1732, wd_137, mh_X12_fewestOf, .inr (.inr ⟨rfl, wd_1729, wd_1731, wd_79, ⟨_, rfl, pd_X12_fewestOf⟩, 12, _, TX12, 45, rfl, rfl⟩)⟩
theorem ck_RX12_263_790 : COK2 RX12 vwCl gTbl 263 0 con_790 := ⟨wd_1732, wd_137, mh_X12_fewestOf, .inr (.inr ⟨rfl, wd_1729, wd_1731, wd_79, ⟨_, rfl, pd_X12_fewestOf⟩, 12, _, TX12, 45, rfl, rfl⟩)⟩
noncomputable def ct_801 : CTB2 := [(8, 252, 1, con_751, []), (8, 252, 1, con_750, []), (8, 252, 1, con_749, []), (8, 252, 1, con_748, []), (8, 252, 1, con_738, []), (8, 252, 1, con_736, []), (8, 252, 1, con_734, []), (8, 252, 1, con_732, []), (8, 252, 1, con_730, []), (8, 252, 1, con_728, []), (8, 252, 1, con_714, []), (8, 252, 1, con_712, []), (8, 252, 1, con_710, []), (8, 252, 1, con_708, []), (8, 252, 1, con_698, []), (19, 263, 0, con_790, [0, 1, 2, 3]), (19, 263, 0, con_791, [0, 1, 2, 3]), (19, 263, 0, con_792, [0, 1, 2, 3]), (19, 263, 0, con_793, [0, 1, 2, 3]), (19, 263, 0, con_794, [0, 1, 2, 3]), (19, 263, 0, con_795, [0, 1, 2, 3]), (19, 263, 0, con_796, [0, 1, 2, 3]), (19, 263, 0, con_797, [0, 1, 2, 3]), (19, 263, 0, con_798, [0, 1, 2, 3]), (19, 263, 0, con_799, [0, 1, 2, 3]), (19, 263, 0, con_800, [0, 1, 2, 3]), (42, 266, 0, con_697, [0, 1, 2, 3])]
noncomputable def cu_801 : List CUT2 := [((2, [lq 0 6 0, lq 1 0 15, lq 2 1 2, lq 3 0 15], [], gi_396, hq_470), [], ([], 15)), ((2, [lq 0 6 0, lq 1 0 15, lq 2 0 2, lq 3 0 7], [], gi_397, hq_470), [], ([], 7)), ((2, [lq 0 6 0, lq 1 0 15, lq 2 0 2, lq 3 0 11], [], gi_397, hq_470), [], ([], 11)), ((2, [lq 0 6 0, lq 1 0 15, lq 2 0 2, lq 3 0 13], [], gi_397, hq_470), [], ([], 13)), ((2, [lq 0 6 0, lq 1 0 15, lq 2 0 2, lq 3 0 14], [], gi_397, hq_470), [], ([], 14)), ((2, [lq 0 6 0, lq 1 0 15, lq 2 0 2, lq 3 0 3], [], gi_397, hq_470), [], ([], 3)), ((2, [lq 0 6 0, lq 1 0 15, lq 2 0 2, lq 3 0 5], [], gi_397, hq_470), [], ([], 5)), ((2, [lq 0 6 0, lq 1 0 15, lq 2 0 2, lq 3 0 6], [], gi_397, hq_470), [], ([], 6)), ((2, [lq 0 6 0, lq 1 0 15, lq 2 0 2, lq 3 0 9], [], gi_397, hq_470), [], ([], 9)), ((2, [lq 0 6 0, lq 1 0 15, lq 2 0 2, lq 3 0 10], [], gi_397, hq_470), [], ([], 10)), ((2, [lq 0 6 0, lq 1 0 15, lq 2 0 2, lq 3 0 12], [], gi_397, hq_470), [], ([], 12)), ((2, [lq 0 6 0, lq 1 0 15, lq 2 0 2, lq 3 0 1], [], gi_397, hq_470), [], ([], 1)), ((2, [lq 0 6 0, lq 1 0 15, lq 2 0 2, lq 3 0 2], [], gi_397, hq_470), [], ([], 2)), ((2, [lq 0 6 0, lq 1 0 15, lq 2 0 2, lq 3 0 4], [], gi_397, hq_470), [], ([], 4)), ((2, [lq 0 6 0, lq 1 0 15, lq 2 0 2, lq 3 0 8], [], gi_397, hq_470), [], ([], 8))]
theorem ch_801 : staG tb_X12_electsOf 1 bt_RX12 [] ct_801 [] [] cu_801 21 con_801 = true := by decide +kernel
theorem cc_801 : cu_801.all (cutG tb_X12_electsOf 1 bt_RX12 [] ct_801 [] [] cu_801 21 con_801) = true := by decide +kernel
theorem cto_801 (l : Launch) : CTOK2 l RX12 vwCl gTbl ct_801 := ct2_cons (vl_751 l) ck_RX12_252_751 (ct2_cons (vl_750 l) ck_RX12_252_750 (ct2_cons (vl_749 l) ck_RX12_252_749 (ct2_cons (vl_748 l) ck_RX12_252_748 (ct2_cons (vl_738 l) ck_RX12_252_738 (ct2_cons (vl_736 l) ck_RX12_252_736 (ct2_cons (vl_734 l) ck_RX12_252_734 (ct2_cons (vl_732 l) ck_RX12_252_732 (ct2_cons (vl_730 l) ck_RX12_252_730 (ct2_cons (vl_728 l) ck_RX12_252_728 (ct2_cons (vl_714 l) ck_RX12_252_714 (ct2_cons (vl_712 l) ck_RX12_252_712 (ct2_cons (vl_710 l) ck_RX12_252_710 (ct2_cons (vl_708 l) ck_RX12_252_708 (ct2_cons (vl_698 l) ck_RX12_252_698 (ct2_cons (vl_790 l) ck_RX12_263_790 (ct2_cons (vl_791 l) ck_RX12_263_791 (ct2_cons (vl_792 l) ck_RX12_263_792 (ct2_cons (vl_793 l) ck_RX12_263_793 (ct2_cons (vl_794 l) ck_RX12_263_794 (ct2_cons (vl_795 l) ck_RX12_263_795 (ct2_cons (vl_796 l) ck_RX12_263_796 (ct2_cons (vl_797 l) ck_RX12_263_797 (ct2_cons (vl_798 l) ck_RX12_263_798 (ct2_cons (vl_799 l) ck_RX12_263_799 (ct2_cons (vl_800 l) ck_RX12_263_800 (ct2_cons (vl_697 l) ck_RX12_266_697 (ct2_nil)))))))))))))))))))))))))))
theorem vl_801 (l : Launch) : Vld2 l vwCl gTbl con_801 := conR_ok3 gT_all (hd_801) rfl pn_RX12 tk_X12_electsOf bo_RX12 xo_RX12 (cto_801 l) ch_801 (cut_all cc_801)
/-- RookHustingModel electsOf -/
noncomputable def con_802 : Con2 := ((yX12_electsOf, cX12_electsOf, 4, (some .int)), (4, 98), ([(6, 0, 0), (0, 14, 0), (1, 2, 0)], gi_394, hc_85, []), [((1, 71, 0), gi_395, hq_470, [], [1])])
theorem hd_802 : con_802.1 = (yX12_electsOf, cX12_electsOf, 4, (some .int)) := rfl
noncomputable def ct_802 : CTB2 := [(8, 252, 1, con_751, []), (8, 252, 1, con_750, []), (8, 252, 1, con_749, []), (8, 252, 1, con_738, []), (8, 252, 1, con_736, []), (8, 252, 1, con_732, []), (8, 252, 1, con_714, []), (19, 263, 0, con_794, [0, 1, 2, 3]), (19, 263, 0, con_797, [0, 1, 2, 3]), (19, 263, 0, con_799, [0, 1, 2, 3]), (19, 263, 0, con_800, [0, 1, 2, 3]), (42, 266, 0, con_697, [0, 1, 2, 3])]
noncomputable def cu_802 : List CUT2 := [((2, [lq 0 6 0, lq 1 0 14, lq 2 1 2, lq 3 0 14], [], gi_396, hq_470), [], ([], 14)), ((2, [lq 0 6 0, lq 1 0 14, lq 2 0 2, lq 3 0 6], [], gi_397, hq_470), [], ([], 6)), ((2, [lq 0 6 0, lq 1 0 14, lq 2 0 2, lq 3 0 10], [], gi_397, hq_470), [], ([], 10)), ((2, [lq 0 6 0, lq 1 0 14, lq 2 0 2, lq 3 0 12], [], gi_397, hq_470), [], ([], 12)), ((2, [lq 0 6 0, lq 1 0 14, lq 2 0 2, lq 3 0 2], [], gi_397, hq_470), [], ([], 2)), ((2, [lq 0 6 0, lq 1 0 14, lq 2 0 2, lq 3 0 4], [], gi_397, hq_470), [], ([], 4)), ((2, [lq 0 6 0, lq 1 0 14, lq 2 0 2, lq 3 0 8], [], gi_397, hq_470), [], ([], 8))]
theorem ch_802 : staG tb_X12_electsOf 1 bt_RX12 [] ct_802 [] [] cu_802 21 con_802 = true := by decide +kernel
theorem cc_802 : cu_802.all (cutG tb_X12_electsOf 1 bt_RX12 [] ct_802 [] [] cu_802 21 con_802) = true := by decide +kernel
theorem cto_802 (l : Launch) : CTOK2 l RX12 vwCl gTbl ct_802 := ct2_cons (vl_751 l) ck_RX12_252_751 (ct2_cons (vl_750 l) ck_RX12_252_750 (ct2_cons (vl_749 l) ck_RX12_252_749 (ct2_cons (vl_738 l) ck_RX12_252_738 (ct2_cons (vl_736 l) ck_RX12_252_736 (ct2_cons (vl_732 l) ck_RX12_252_732 (ct2_cons (vl_714 l) ck_RX12_252_714 (ct2_cons (vl_794 l) ck_RX12_263_794 (ct2_cons (vl_797 l) ck_RX12_263_797 (ct2_cons (vl_799 l) ck_RX12_263_799 (ct2_cons (vl_800 l) ck_RX12_263_800 (ct2_cons (vl_697 l) ck_RX12_266_697 (ct2_nil))))))))))))
theorem vl_802 (l : Launch) : Vld2 l vwCl gTbl con_802 := conR_ok3 gT_all (hd_802) rfl pn_RX12 tk_X12_electsOf bo_RX12 xo_RX12 (cto_802 l) ch_802 (cut_all cc_802)
/-- RookHustingModel electsOf -/
noncomputable def con_803 : Con2 := ((yX12_electsOf, cX12_electsOf, 4, (some .int)), (4, 98), ([(6, 0, 0), (0, 13, 0), (1, 2, 0)], gi_394, hc_85, []), [((1, 71, 0), gi_395, hq_470, [], [1])])
theorem hd_803 : con_803.1 = (yX12_electsOf, cX12_electsOf, 4, (some .int)) := rfl
noncomputable def ct_803 : CTB2 := [(8, 252, 1, con_751, []), (8, 252, 1, con_750, []), (8, 252, 1, con_748, []), (8, 252, 1, con_738, []), (8, 252, 1, con_734, []), (8, 252, 1, con_730, []), (8, 252, 1, con_712, []), (19, 263, 0, con_793, [0, 1, 2, 3]), (19, 263, 0, con_796, [0, 1, 2, 3]), (19, 263, 0, con_798, [0, 1, 2, 3]), (19, 263, 0, con_800, [0, 1, 2, 3]), (42, 266, 0, con_697, [0, 1, 2, 3])]
noncomputable def cu_803 : List CUT2 := [((2, [lq 0 6 0, lq 1 0 13, lq 2 1 2, lq 3 0 13], [], gi_396, hq_470), [], ([], 13)), ((2, [lq 0 6 0, lq 1 0 13, lq 2 0 2, lq 3 0 5], [], gi_397, hq_470), [], ([], 5)), ((2, [lq 0 6 0, lq 1 0 13, lq 2 0 2, lq 3 0 9], [], gi_397, hq_470), [], ([], 9)), ((2, [lq 0 6 0, lq 1 0 13, lq 2 0 2, lq 3 0 12], [], gi_397, hq_470), [], ([], 12)), ((2, [lq 0 6 0, lq 1 0 13, lq 2 0 2, lq 3 0 1], [], gi_397, hq_470), [], ([], 1)), ((2, [lq 0 6 0, lq 1 0 13, lq 2 0 2, lq 3 0 4], [], gi_397, hq_470), [], ([], 4)), ((2, [lq 0 6 0, lq 1 0 13, lq 2 0 2, lq 3 0 8], [], gi_397, hq_470), [], ([], 8))]
theorem ch_803 : staG tb_X12_electsOf 1 bt_RX12 [] ct_803 [] [] cu_803 21 con_803 = true := by decide +kernel
theorem cc_803 : cu_803.all (cutG tb_X12_electsOf 1 bt_RX12 [] ct_803 [] [] cu_803 21 con_803) = true := by decide +kernel
theorem cto_803 (l : Launch) : CTOK2 l RX12 vwCl gTbl ct_803 := ct2_cons (vl_751 l) ck_RX12_252_751 (ct2_cons (vl_750 l) ck_RX12_252_750 (ct2_cons (vl_748 l) ck_RX12_252_748 (ct2_cons (vl_738 l) ck_RX12_252_738 (ct2_cons (vl_734 l) ck_RX12_252_734 (ct2_cons (vl_730 l) ck_RX12_252_730 (ct2_cons (vl_712 l) ck_RX12_252_712 (ct2_cons (vl_793 l) ck_RX12_263_793 (ct2_cons (vl_796 l) ck_RX12_263_796 (ct2_cons (vl_798 l) ck_RX12_263_798 (ct2_cons (vl_800 l) ck_RX12_263_800 (ct2_cons (vl_697 l) ck_RX12_266_697 (ct2_nil))))))))))))
theorem vl_803 (l : Launch) : Vld2 l vwCl gTbl con_803 := conR_ok3 gT_all (hd_803) rfl pn_RX12 tk_X12_electsOf bo_RX12 xo_RX12 (cto_803 l) ch_803 (cut_all cc_803)
/-- RookHustingModel electsOf -/
noncomputable def con_804 : Con2 := ((yX12_electsOf, cX12_electsOf, 4, (some .int)), (4, 98), ([(6, 0, 0), (0, 12, 0), (1, 2, 0)], gi_394, hc_85, []), [((1, 71, 0), gi_395, hq_470, [], [1])])
theorem hd_804 : con_804.1 = (yX12_electsOf, cX12_electsOf, 4, (some .int)) := rfl
noncomputable def ct_804 : CTB2 := [(8, 252, 1, con_751, []), (8, 252, 1, con_750, []), (8, 252, 1, con_738, []), (19, 263, 0, con_800, [0, 1, 2, 3]), (42, 266, 0, con_697, [0, 1, 2, 3])]
noncomputable def cu_804 : List CUT2 := [((2, [lq 0 6 0, lq 1 0 12, lq 2 1 2, lq 3 0 12], [], gi_396, hq_470), [], ([], 12)), ((2, [lq 0 6 0, lq 1 0 12, lq 2 0 2, lq 3 0 4], [], gi_397, hq_470), [], ([], 4)), ((2, [lq 0 6 0, lq 1 0 12, lq 2 0 2, lq 3 0 8], [], gi_397, hq_470), [], ([], 8))]
theorem ch_804 : staG tb_X12_electsOf 1 bt_RX12 [] ct_804 [] [] cu_804 21 con_804 = true := by decide +kernel
theorem cc_804 : cu_804.all (cutG tb_X12_electsOf 1 bt_RX12 [] ct_804 [] [] cu_804 21 con_804) = true := by decide +kernel
theorem cto_804 (l : Launch) : CTOK2 l RX12 vwCl gTbl ct_804 := ct2_cons (vl_751 l) ck_RX12_252_751 (ct2_cons (vl_750 l) ck_RX12_252_750 (ct2_cons (vl_738 l) ck_RX12_252_738 (ct2_cons (vl_800 l) ck_RX12_263_800 (ct2_cons (vl_697 l) ck_RX12_266_697 (ct2_nil)))))
theorem vl_804 (l : Launch) : Vld2 l vwCl gTbl con_804 := conR_ok3 gT_all (hd_804) rfl pn_RX12 tk_X12_electsOf bo_RX12 xo_RX12 (cto_804 l) ch_804 (cut_all cc_804)
/-- RookHustingModel electsOf -/
noncomputable def con_805 : Con2 := ((yX12_electsOf, cX12_electsOf, 4, (some .int)), (4, 98), ([(6, 0, 0), (0, 11, 0), (1, 2, 0)], gi_394, hc_85, []), [((1, 71, 0), gi_395, hq_470, [], [1])])
theorem hd_805 : con_805.1 = (yX12_electsOf, cX12_electsOf, 4, (some .int)) := rfl
noncomputable def ct_805 : CTB2 := [(8, 252, 1, con_751, []), (8, 252, 1, con_749, []), (8, 252, 1, con_748, []), (8, 252, 1, con_736, []), (8, 252, 1, con_734, []), (8, 252, 1, con_728, []), (8, 252, 1, con_710, []), (19, 263, 0, con_792, [0, 1, 2, 3]), (19, 263, 0, con_795, [0, 1, 2, 3]), (19, 263, 0, con_798, [0, 1, 2, 3]), (19, 263, 0, con_799, [0, 1, 2, 3]), (42, 266, 0, con_697, [0, 1, 2, 3])]
noncomputable def cu_805 : List CUT2 := [((2, [lq 0 6 0, lq 1 0 11, lq 2 1 2, lq 3 0 11], [], gi_396, hq_470), [], ([], 11)), ((2, [lq 0 6 0, lq 1 0 11, lq 2 0 2, lq 3 0 3], [], gi_397, hq_470), [], ([], 3)), ((2, [lq 0 6 0, lq 1 0 11, lq 2 0 2, lq 3 0 9], [], gi_397, hq_470), [], ([], 9)), ((2, [lq 0 6 0, lq 1 0 11, lq 2 0 2, lq 3 0 10], [], gi_397, hq_470), [], ([], 10)), ((2, [lq 0 6 0, lq 1 0 11, lq 2 0 2, lq 3 0 1], [], gi_397, hq_470), [], ([], 1)), ((2, [lq 0 6 0, lq 1 0 11, lq 2 0 2, lq 3 0 2], [], gi_397, hq_470), [], ([], 2)), ((2, [lq 0 6 0, lq 1 0 11, lq 2 0 2, lq 3 0 8], [], gi_397, hq_470), [], ([], 8))]
theorem ch_805 : staG tb_X12_electsOf 1 bt_RX12 [] ct_805 [] [] cu_805 21 con_805 = true := by decide +kernel
theorem cc_805 : cu_805.all (cutG tb_X12_electsOf 1 bt_RX12 [] ct_805 [] [] cu_805 21 con_805) = true := by decide +kernel
theorem cto_805 (l : Launch) : CTOK2 l RX12 vwCl gTbl ct_805 := ct2_cons (vl_751 l) ck_RX12_252_751 (ct2_cons (vl_749 l) ck_RX12_252_749 (ct2_cons (vl_748 l) ck_RX12_252_748 (ct2_cons (vl_736 l) ck_RX12_252_736 (ct2_cons (vl_734 l) ck_RX12_252_734 (ct2_cons (vl_728 l) ck_RX12_252_728 (ct2_cons (vl_710 l) ck_RX12_252_710 (ct2_cons (vl_792 l) ck_RX12_263_792 (ct2_cons (vl_795 l) ck_RX12_263_795 (ct2_cons (vl_798 l) ck_RX12_263_798 (ct2_cons (vl_799 l) ck_RX12_263_799 (ct2_cons (vl_697 l) ck_RX12_266_697 (ct2_nil))))))))))))
theorem vl_805 (l : Launch) : Vld2 l vwCl gTbl con_805 := conR_ok3 gT_all (hd_805) rfl pn_RX12 tk_X12_electsOf bo_RX12 xo_RX12 (cto_805 l) ch_805 (cut_all cc_805)
/-- RookHustingModel electsOf -/
noncomputable def con_806 : Con2 := ((yX12_electsOf, cX12_electsOf, 4, (some .int)), (4, 98), ([(6, 0, 0), (0, 10, 0), (1, 2, 0)], gi_394, hc_85, []), [((1, 71, 0), gi_395, hq_470, [], [1])])
theorem hd_806 : con_806.1 = (yX12_electsOf, cX12_electsOf, 4, (some .int)) := rfl
noncomputable def ct_806 : CTB2 := [(8, 252, 1, con_751, []), (8, 252, 1, con_749, []), (8, 252, 1, con_736, []), (19, 263, 0, con_799, [0, 1, 2, 3]), (42, 266, 0, con_697, [0, 1, 2, 3])]
noncomputable def cu_806 : List CUT2 := [((2, [lq 0 6 0, lq 1 0 10, lq 2 1 2, lq 3 0 10], [], gi_396, hq_470), [], ([], 10)), ((2, [lq 0 6 0, lq 1 0 10, lq 2 0 2, lq 3 0 2], [], gi_397, hq_470), [], ([], 2)), ((2, [lq 0 6 0, lq 1 0 10, lq 2 0 2, lq 3 0 8], [], gi_397, hq_470), [], ([], 8))]
theorem ch_806 : staG tb_X12_electsOf 1 bt_RX12 [] ct_806 [] [] cu_806 21 con_806 = true := by decide +kernel
theorem cc_806 : cu_806.all (cutG tb_X12_electsOf 1 bt_RX12 [] ct_806 [] [] cu_806 21 con_806) = true := by decide +kernel
theorem cto_806 (l : Launch) : CTOK2 l RX12 vwCl gTbl ct_806 := ct2_cons (vl_751 l) ck_RX12_252_751 (ct2_cons (vl_749 l) ck_RX12_252_749 (ct2_cons (vl_736 l) ck_RX12_252_736 (ct2_cons (vl_799 l) ck_RX12_263_799 (ct2_cons (vl_697 l) ck_RX12_266_697 (ct2_nil)))))
theorem vl_806 (l : Launch) : Vld2 l vwCl gTbl con_806 := conR_ok3 gT_all (hd_806) rfl pn_RX12 tk_X12_electsOf bo_RX12 xo_RX12 (cto_806 l) ch_806 (cut_all cc_806)
/-- RookHustingModel electsOf -/
noncomputable def con_807 : Con2 := ((yX12_electsOf, cX12_electsOf, 4, (some .int)), (4, 98), ([(6, 0, 0), (0, 9, 0), (1, 2, 0)], gi_394, hc_85, []), [((1, 71, 0), gi_395, hq_470, [], [1])])
theorem hd_807 : con_807.1 = (yX12_electsOf, cX12_electsOf, 4, (some .int)) := rfl
noncomputable def ct_807 : CTB2 := [(8, 252, 1, con_751, []), (8, 252, 1, con_748, []), (8, 252, 1, con_734, []), (19, 263, 0, con_798, [0, 1, 2, 3]), (42, 266, 0, con_697, [0, 1, 2, 3])]
noncomputable def cu_807 : List CUT2 := [((2, [lq 0 6 0, lq 1 0 9, lq 2 1 2, lq 3 0 9], [], gi_396, hq_470), [], ([], 9)), ((2, [lq 0 6 0, lq 1 0 9, lq 2 0 2, lq 3 0 1], [], gi_397, hq_470), [], ([], 1)), ((2, [lq 0 6 0, lq 1 0 9, lq 2 0 2, lq 3 0 8], [], gi_397, hq_470), [], ([], 8))]
theorem ch_807 : staG tb_X12_electsOf 1 bt_RX12 [] ct_807 [] [] cu_807 21 con_807 = true := by decide +kernel
theorem cc_807 : cu_807.all (cutG tb_X12_electsOf 1 bt_RX12 [] ct_807 [] [] cu_807 21 con_807) = true := by decide +kernel
theorem cto_807 (l : Launch) : CTOK2 l RX12 vwCl gTbl ct_807 := ct2_cons (vl_751 l) ck_RX12_252_751 (ct2_cons (vl_748 l) ck_RX12_252_748 (ct2_cons (vl_734 l) ck_RX12_252_734 (ct2_cons (vl_798 l) ck_RX12_263_798 (ct2_cons (vl_697 l) ck_RX12_266_697 (ct2_nil)))))
theorem vl_807 (l : Launch) : Vld2 l vwCl gTbl con_807 := conR_ok3 gT_all (hd_807) rfl pn_RX12 tk_X12_electsOf bo_RX12 xo_RX12 (cto_807 l) ch_807 (cut_all cc_807)
/-- RookHustingModel electsOf -/
noncomputable def con_808 : Con2 := ((yX12_electsOf, cX12_electsOf, 4, (some .int)), (4, 98), ([(6, 0, 0), (0, 8, 0), (1, 2, 0)], gi_394, hc_85, []), [((1, 71, 0), gi_395, hq_470, [], [1])])
theorem hd_808 : con_808.1 = (yX12_electsOf, cX12_electsOf, 4, (some .int)) := rfl
noncomputable def cu_808 : List CUT2 := [((2, [lq 0 6 0, lq 1 0 8, lq 2 1 2, lq 3 0 8], [], gi_396, hq_470), [], ([], 8))]
theorem ch_808 : staG tb_X12_electsOf 1 bt_RX12 [] ct_776 [] [] cu_808 18 con_808 = true := by decide +kernel
theorem cc_808 : cu_808.all (cutG tb_X12_electsOf 1 bt_RX12 [] ct_776 [] [] cu_808 18 con_808) = true := by decide +kernel
theorem vl_808 (l : Launch) : Vld2 l vwCl gTbl con_808 := conR_ok3 gT_all (hd_808) rfl pn_RX12 tk_X12_electsOf bo_RX12 xo_RX12 (cto_776 l) ch_808 (cut_all cc_808)
/-- RookHustingModel electsOf -/
noncomputable def con_809 : Con2 := ((yX12_electsOf, cX12_electsOf, 4, (some .int)), (4, 98), ([(6, 0, 0), (0, 7, 0), (1, 2, 0)], gi_394, hc_85, []), [((1, 71, 0), gi_395, hq_470, [], [1])])
theorem hd_809 : con_809.1 = (yX12_electsOf, cX12_electsOf, 4, (some .int)) := rfl
noncomputable def ct_809 : CTB2 := [(8, 252, 1, con_750, []), (8, 252, 1, con_749, []), (8, 252, 1, con_748, []), (8, 252, 1, con_732, []), (8, 252, 1, con_730, []), (8, 252, 1, con_728, []), (8, 252, 1, con_708, []), (19, 263, 0, con_791, [0, 1, 2, 3]), (19, 263, 0, con_795, [0, 1, 2, 3]), (19, 263, 0, con_796, [0, 1, 2, 3]), (19, 263, 0, con_797, [0, 1, 2, 3]), (42, 266, 0, con_697, [0, 1, 2, 3])]
noncomputable def cu_809 : List CUT2 := [((2, [lq 0 6 0, lq 1 0 7, lq 2 1 2, lq 3 0 7], [], gi_396, hq_470), [], ([], 7)), ((2, [lq 0 6 0, lq 1 0 7, lq 2 0 2, lq 3 0 3], [], gi_397, hq_470), [], ([], 3)), ((2, [lq 0 6 0, lq 1 0 7, lq 2 0 2, lq 3 0 5], [], gi_397, hq_470), [], ([], 5)), ((2, [lq 0 6 0, lq 1 0 7, lq 2 0 2, lq 3 0 6], [], gi_397, hq_470), [], ([], 6)), ((2, [lq 0 6 0, lq 1 0 7, lq 2 0 2, lq 3 0 1], [], gi_397, hq_470), [], ([], 1)), ((2, [lq 0 6 0, lq 1 0 7, lq 2 0 2, lq 3 0 2], [], gi_397, hq_470), [], ([], 2)), ((2, [lq 0 6 0, lq 1 0 7, lq 2 0 2, lq 3 0 4], [], gi_397, hq_470), [], ([], 4))]
theorem ch_809 : staG tb_X12_electsOf 1 bt_RX12 [] ct_809 [] [] cu_809 21 con_809 = true := by decide +kernel
theorem cc_809 : cu_809.all (cutG tb_X12_electsOf 1 bt_RX12 [] ct_809 [] [] cu_809 21 con_809) = true := by decide +kernel
theorem cto_809 (l : Launch) : CTOK2 l RX12 vwCl gTbl ct_809 := ct2_cons (vl_750 l) ck_RX12_252_750 (ct2_cons (vl_749 l) ck_RX12_252_749 (ct2_cons (vl_748 l) ck_RX12_252_748 (ct2_cons (vl_732 l) ck_RX12_252_732 (ct2_cons (vl_730 l) ck_RX12_252_730 (ct2_cons (vl_728 l) ck_RX12_252_728 (ct2_cons (vl_708 l) ck_RX12_252_708 (ct2_cons (vl_791 l) ck_RX12_263_791 (ct2_cons (vl_795 l) ck_RX12_263_795 (ct2_cons (vl_796 l) ck_RX12_263_796 (ct2_cons (vl_797 l) ck_RX12_263_797 (ct2_cons (vl_697 l) ck_RX12_266_697 (ct2_nil))))))))))))
theorem vl_809 (l : Launch) : Vld2 l vwCl gTbl con_809 := conR_ok3 gT_all (hd_809) rfl pn_RX12 tk_X12_electsOf bo_RX12 xo_RX12 (cto_809 l) ch_809 (cut_all cc_809)
/-- RookHustingModel electsOf -/
noncomputable def con_810 : Con2 := ((yX12_electsOf, cX12_electsOf, 4, (some .int)), (4, 98), ([(6, 0, 0), (0, 6, 0), (1, 2, 0)], gi_394, hc_85, []), [((1, 71, 0), gi_395, hq_470, [], [1])])
theorem hd_810 : con_810.1 = (yX12_electsOf, cX12_electsOf, 4, (some .int)) := rfl
noncomputable def ct_810 : CTB2 := [(8, 252, 1, con_750, []), (8, 252, 1, con_749, []), (8, 252, 1, con_732, []), (19, 263, 0, con_797, [0, 1, 2, 3]), (42, 266, 0, con_697, [0, 1, 2, 3])]
noncomputable def cu_810 : List CUT2 := [((2, [lq 0 6 0, lq 1 0 6, lq 2 1 2, lq 3 0 6], [], gi_396, hq_470), [], ([], 6)), ((2, [lq 0 6 0, lq 1 0 6, lq 2 0 2, lq 3 0 2], [], gi_397, hq_470), [], ([], 2)), ((2, [lq 0 6 0, lq 1 0 6, lq 2 0 2, lq 3 0 4], [], gi_397, hq_470), [], ([], 4))]
theorem ch_810 : staG tb_X12_electsOf 1 bt_RX12 [] ct_810 [] [] cu_810 21 con_810 = true := by decide +kernel
theorem cc_810 : cu_810.all (cutG tb_X12_electsOf 1 bt_RX12 [] ct_810 [] [] cu_810 21 con_810) = true := by decide +kernel
theorem cto_810 (l : Launch) : CTOK2 l RX12 vwCl gTbl ct_810 := ct2_cons (vl_750 l) ck_RX12_252_750 (ct2_cons (vl_749 l) ck_RX12_252_749 (ct2_cons (vl_732 l) ck_RX12_252_732 (ct2_cons (vl_797 l) ck_RX12_263_797 (ct2_cons (vl_697 l) ck_RX12_266_697 (ct2_nil)))))
theorem vl_810 (l : Launch) : Vld2 l vwCl gTbl con_810 := conR_ok3 gT_all (hd_810) rfl pn_RX12 tk_X12_electsOf bo_RX12 xo_RX12 (cto_810 l) ch_810 (cut_all cc_810)
/-- RookHustingModel electsOf -/
noncomputable def con_811 : Con2 := ((yX12_electsOf, cX12_electsOf, 4, (some .int)), (4, 98), ([(6, 0, 0), (0, 5, 0), (1, 2, 0)], gi_394, hc_85, []), [((1, 71, 0), gi_395, hq_470, [], [1])])
theorem hd_811 : con_811.1 = (yX12_electsOf, cX12_electsOf, 4, (some .int)) := rfl
noncomputable def ct_811 : CTB2 := [(8, 252, 1, con_750, []), (8, 252, 1, con_748, []), (8, 252, 1, con_730, []), (19, 263, 0, con_796, [0, 1, 2, 3]), (42, 266, 0, con_697, [0, 1, 2, 3])]
noncomputable def cu_811 : List CUT2 := [((2, [lq 0 6 0, lq 1 0 5, lq 2 1 2, lq 3 0 5], [], gi_396, hq_470), [], ([], 5)), ((2, [lq 0 6 0, lq 1 0 5, lq 2 0 2, lq 3 0 1], [], gi_397, hq_470), [], ([], 1)), ((2, [lq 0 6 0, lq 1 0 5, lq 2 0 2, lq 3 0 4], [], gi_397, hq_470), [], ([], 4))]
theorem ch_811 : staG tb_X12_electsOf 1 bt_RX12 [] ct_811 [] [] cu_811 21 con_811 = true := by decide +kernel
theorem cc_811 : cu_811.all (cutG tb_X12_electsOf 1 bt_RX12 [] ct_811 [] [] cu_811 21 con_811) = true := by decide +kernel
theorem cto_811 (l : Launch) : CTOK2 l RX12 vwCl gTbl ct_811 := ct2_cons (vl_750 l) ck_RX12_252_750 (ct2_cons (vl_748 l) ck_RX12_252_748 (ct2_cons (vl_730 l) ck_RX12_252_730 (ct2_cons (vl_796 l) ck_RX12_263_796 (ct2_cons (vl_697 l) ck_RX12_266_697 (ct2_nil)))))
theorem vl_811 (l : Launch) : Vld2 l vwCl gTbl con_811 := conR_ok3 gT_all (hd_811) rfl pn_RX12 tk_X12_electsOf bo_RX12 xo_RX12 (cto_811 l) ch_811 (cut_all cc_811)
/-- RookHustingModel electsOf -/
noncomputable def con_812 : Con2 := ((yX12_electsOf, cX12_electsOf, 4, (some .int)), (4, 98), ([(6, 0, 0), (0, 4, 0), (1, 2, 0)], gi_394, hc_85, []), [((1, 71, 0), gi_395, hq_470, [], [1])])
theorem hd_812 : con_812.1 = (yX12_electsOf, cX12_electsOf, 4, (some .int)) := rfl
noncomputable def cu_812 : List CUT2 := [((2, [lq 0 6 0, lq 1 0 4, lq 2 1 2, lq 3 0 4], [], gi_396, hq_470), [], ([], 4))]
theorem ch_812 : staG tb_X12_electsOf 1 bt_RX12 [] ct_780 [] [] cu_812 18 con_812 = true := by decide +kernel
theorem cc_812 : cu_812.all (cutG tb_X12_electsOf 1 bt_RX12 [] ct_780 [] [] cu_812 18 con_812) = true := by decide +kernel
theorem vl_812 (l : Launch) : Vld2 l vwCl gTbl con_812 := conR_ok3 gT_all (hd_812) rfl pn_RX12 tk_X12_electsOf bo_RX12 xo_RX12 (cto_780 l) ch_812 (cut_all cc_812)
/-- RookHustingModel electsOf -/
noncomputable def con_813 : Con2 := ((yX12_electsOf, cX12_electsOf, 4, (some .int)), (4, 98), ([(6, 0, 0), (0, 3, 0), (1, 2, 0)], gi_394, hc_85, []), [((1, 71, 0), gi_395, hq_470, [], [1])])
theorem hd_813 : con_813.1 = (yX12_electsOf, cX12_electsOf, 4, (some .int)) := rfl
noncomputable def ct_813 : CTB2 := [(8, 252, 1, con_749, []), (8, 252, 1, con_748, []), (8, 252, 1, con_728, []), (19, 263, 0, con_795, [0, 1, 2, 3]), (42, 266, 0, con_697, [0, 1, 2, 3])]
noncomputable def cu_813 : List CUT2 := [((2, [lq 0 6 0, lq 1 0 3, lq 2 1 2, lq 3 0 3], [], gi_396, hq_470), [], ([], 3)), ((2, [lq 0 6 0, lq 1 0 3, lq 2 0 2, lq 3 0 1], [], gi_397, hq_470), [], ([], 1)), ((2, [lq 0 6 0, lq 1 0 3, lq 2 0 2, lq 3 0 2], [], gi_397, hq_470), [], ([], 2))]
theorem ch_813 : staG tb_X12_electsOf 1 bt_RX12 [] ct_813 [] [] cu_813 21 con_813 = true := by decide +kernel
theorem cc_813 : cu_813.all (cutG tb_X12_electsOf 1 bt_RX12 [] ct_813 [] [] cu_813 21 con_813) = true := by decide +kernel
theorem cto_813 (l : Launch) : CTOK2 l RX12 vwCl gTbl ct_813 := ct2_cons (vl_749 l) ck_RX12_252_749 (ct2_cons (vl_748 l) ck_RX12_252_748 (ct2_cons (vl_728 l) ck_RX12_252_728 (ct2_cons (vl_795 l) ck_RX12_263_795 (ct2_cons (vl_697 l) ck_RX12_266_697 (ct2_nil)))))
theorem vl_813 (l : Launch) : Vld2 l vwCl gTbl con_813 := conR_ok3 gT_all (hd_813) rfl pn_RX12 tk_X12_electsOf bo_RX12 xo_RX12 (cto_813 l) ch_813 (cut_all cc_813)
/-- RookHustingModel electsOf -/
noncomputable def con_814 : Con2 := ((yX12_electsOf, cX12_electsOf, 4, (some .int)), (4, 98), ([(6, 0, 0), (0, 2, 0), (1, 2, 0)], gi_394, hc_85, []), [((1, 71, 0), gi_395, hq_470, [], [1])])
theorem hd_814 : con_814.1 = (yX12_electsOf, cX12_electsOf, 4, (some .int)) := rfl
noncomputable def cu_814 : List CUT2 := [((2, [lq 0 6 0, lq 1 0 2, lq 2 1 2, lq 3 0 2], [], gi_396, hq_470), [], ([], 2))]
theorem ch_814 : staG tb_X12_electsOf 1 bt_RX12 [] ct_782 [] [] cu_814 18 con_814 = true := by decide +kernel
theorem cc_814 : cu_814.all (cutG tb_X12_electsOf 1 bt_RX12 [] ct_782 [] [] cu_814 18 con_814) = true := by decide +kernel
theorem vl_814 (l : Launch) : Vld2 l vwCl gTbl con_814 := conR_ok3 gT_all (hd_814) rfl pn_RX12 tk_X12_electsOf bo_RX12 xo_RX12 (cto_782 l) ch_814 (cut_all cc_814)
/-- RookHustingModel electsOf -/
noncomputable def con_815 : Con2 := ((yX12_electsOf, cX12_electsOf, 4, (some .int)), (4, 98), ([(6, 0, 0), (0, 1, 0), (1, 2, 0)], gi_394, hc_85, []), [((1, 71, 0), gi_395, hq_470, [], [1])])
theorem hd_815 : con_815.1 = (yX12_electsOf, cX12_electsOf, 4, (some .int)) := rfl
noncomputable def cu_815 : List CUT2 := [((2, [lq 0 6 0, lq 1 0 1, lq 2 1 2, lq 3 0 1], [], gi_396, hq_470), [], ([], 1))]
theorem ch_815 : staG tb_X12_electsOf 1 bt_RX12 [] ct_783 [] [] cu_815 18 con_815 = true := by decide +kernel
theorem cc_815 : cu_815.all (cutG tb_X12_electsOf 1 bt_RX12 [] ct_783 [] [] cu_815 18 con_815) = true := by decide +kernel
theorem vl_815 (l : Launch) : Vld2 l vwCl gTbl con_815 := conR_ok3 gT_all (hd_815) rfl pn_RX12 tk_X12_electsOf bo_RX12 xo_RX12 (cto_783 l) ch_815 (cut_all cc_815)
/-- RookHustingModel electsOf -/
noncomputable def con_816 : Con2 := ((yX12_electsOf, cX12_electsOf, 4, (some .int)), (4, 98), ([(6, 0, 0), (0, 0, 0), (1, 2, 0)], gi_394, hc_85, []), [((1, 71, 0), gi_395, hq_470, [], [1])])
theorem hd_816 : con_816.1 = (yX12_electsOf, cX12_electsOf, 4, (some .int)) := rfl
noncomputable def cu_816 : List CUT2 := [((2, [lq 0 6 0, lq 1 0 0, lq 2 1 2, lq 3 0 0], [], gi_396, hq_470), [], ([], 0))]
theorem ch_816 : staG tb_X12_electsOf 1 bt_RX12 [] ct_785 [] [] cu_816 18 con_816 = true := by decide +kernel
theorem cc_816 : cu_816.all (cutG tb_X12_electsOf 1 bt_RX12 [] ct_785 [] [] cu_816 18 con_816) = true := by decide +kernel
theorem vl_816 (l : Launch) : Vld2 l vwCl gTbl con_816 := conR_ok3 gT_all (hd_816) rfl pn_RX12 tk_X12_electsOf bo_RX12 xo_RX12 (cto_785 l) ch_816 (cut_all cc_816)
/-- RookHustingModel men -/
noncomputable def ac_474 : AC := .inr (1, jl_n [js_1 51 5, jl_x (1, (0, 3, 0)), sp_127])
noncomputable def con_817 : Con2 := ((yX12_men, cX12_men, 1, (some .int)), (0, 0), ([(6, 0, 0)], gi_383, [ac_435, ac_474], []), [((0, 3, 0), gi_384, [(false, ac_435), (false, ac_474)], [], [1])])
theorem hd_817 : con_817.1 = (yX12_men, cX12_men, 1, (some .int)) := rfl
noncomputable def cu_817 : List CUT2 := []
theorem ch_817 : staG tb_X12_men 1 bt_RX12 [] ct_2 [] [] cu_817 7 con_817 = true := by decide +kernel
theorem vl_817 (l : Launch) : Vld2 l vwCl gTbl con_817 := conR_ok3 gT_all (hd_817) rfl pn_RX12 tk_X12_men bo_RX12 xo_RX12 (cto_2 l) ch_817 cut_nil
/-- RookHustingModel allMen -/
noncomputable def con_818 : Con2 := ((yX12_allMen, cX12_allMen, 1, (some .int)), (1, 20), ([(6, 0, 0)], gi_383, [ac_435, ac_474], []), [((0, 7, 0), gi_384, [(false, ac_435), (false, ac_474)], [], [1])])
theorem hd_818 : con_818.1 = (yX12_allMen, cX12_allMen, 1, (some .int)) := rfl
theorem ck_RX12_95_817 : COK2 RX12 vwCl gTbl 95 0 con_817 := ⟨wd_1672, wd_137, mh_X12_men, .inr (.inr ⟨rfl, wd_1669, wd_1671, wd_69, ⟨_, rfl, pd_X12_men⟩, 12, _, TX12, 45, rfl, rfl⟩)⟩
noncomputable def ct_818 : CTB2 := [(2, 95, 0, con_817, [0, 1])]
noncomputable def cu_818 : List CUT2 := []
theorem ch_818 : staG tb_X12_allMen 1 bt_RX12 [] ct_818 [] [] cu_818 9 con_818 = true := by decide +kernel
theorem cto_818 (l : Launch) : CTOK2 l RX12 vwCl gTbl ct_818 := ct2_cons (vl_817 l) ck_RX12_95_817 (ct2_nil)
theorem vl_818 (l : Launch) : Vld2 l vwCl gTbl con_818 := conR_ok3 gT_all (hd_818) rfl pn_RX12 tk_X12_allMen bo_RX12 xo_RX12 (cto_818 l) ch_818 cut_nil
/-- RookHustingModel in -/
noncomputable def con_819 : Con2 := ((yX12_in, cX12_in, 6, (some .boolean)), (0, 0), ([(4, 0, 0), (3, 0, 0), (3, 7, 0)], gi_146, [], []), [((0, 0, 0), gi_147, [], [], [1]), ((0, 1, 0), [(0, 7), (0, 0), (0, 0), (0, 0)], [], [], [1])])
theorem hd_819 : con_819.1 = (yX12_in, cX12_in, 6, (some .boolean)) := rfl
noncomputable def cu_819 : List CUT2 := []
theorem ch_819 : staG tb_X12_in 1 bt_RX12 [] ct_2 [] [] cu_819 11 con_819 = true := by decide +kernel
theorem vl_819 (l : Launch) : Vld2 l vwCl gTbl con_819 := conR_ok3 gT_all (hd_819) rfl pn_RX12 tk_X12_in bo_RX12 xo_RX12 (cto_2 l) ch_819 cut_nil
/-- RookHustingModel isSet -/
noncomputable def ac_475 : AC := .inr (1, jl_n [js_1 52 5, jl_x (1, (0, 3, 0)), sp_128])
noncomputable def gi_399 : GI := jl_n [gp_229, gp_223]
noncomputable def con_820 : Con2 := ((yX12_isSet, cX12_isSet, 2, (some .boolean)), (2, 40), ([(6, 0, 0), (1, 1, 0)], gi_385, [ac_437, ac_475], []), [((0, 0, 0), gi_386, [(false, ac_437), (false, ac_475)], [], [1]), ((0, 1, 0), gi_399, [(false, ac_437), (false, ac_475)], [], [1])])
theorem hd_820 : con_820.1 = (yX12_isSet, cX12_isSet, 2, (some .boolean)) := rfl
theorem ck_RX12_91_819 : COK2 RX12 vwCl gTbl 91 1 con_819 := ⟨wd_1544, wd_137, mh_X12_in, .inl ⟨rfl, wd_1542, wd_1543, pd_X12_in⟩⟩
theorem ck_RX12_269_818 : COK2 RX12 vwCl gTbl 269 0 con_818 := ⟨wd_1708, wd_137, mh_X12_allMen, .inr (.inr ⟨rfl, wd_1705, wd_1707, wd_75, ⟨_, rfl, pd_X12_allMen⟩, 12, _, TX12, 45, rfl, rfl⟩)⟩
noncomputable def ct_820 : CTB2 := [(1, 99, 0, con_673, [0, 1]), (11, 269, 0, con_818, [0, 1]), (15, 91, 1, con_819, [])]
noncomputable def cu_820 : List CUT2 := []
theorem ch_820 : staG tb_X12_isSet 1 bt_RX12 [] ct_820 [] [] cu_820 16 con_820 = true := by decide +kernel
theorem cto_820 (l : Launch) : CTOK2 l RX12 vwCl gTbl ct_820 := ct2_cons (vl_673 l) ck_RX12_99_673 (ct2_cons (vl_818 l) ck_RX12_269_818 (ct2_cons (vl_819 l) ck_RX12_91_819 (ct2_nil)))
theorem vl_820 (l : Launch) : Vld2 l vwCl gTbl con_820 := conR_ok3 gT_all (hd_820) rfl pn_RX12 tk_X12_isSet bo_RX12 xo_RX12 (cto_820 l) ch_820 cut_nil
/-- RookHustingModel fewestOf -/
noncomputable def hc_86 : List AC := [ac_469, ac_475, am_8, am_6]
noncomputable def hq_471 : HP := [(false, ac_469), (false, ac_475), (false, am_8), (false, am_6)]
noncomputable def con_821 : Con2 := ((yX12_fewestOf, cX12_fewestOf, 4, (some .int)), (3, 74), ([(6, 0, 0), (0, 7, 0)], gi_388, hc_86, []), [((0, 0, 0), gi_389, hq_471, [], [1]), ((0, 1, 0), gi_389, hq_471, [], [1]), ((0, 2, 0), gi_389, hq_471, [], [1])])
theorem hd_821 : con_821.1 = (yX12_fewestOf, cX12_fewestOf, 4, (some .int)) := rfl
noncomputable def ct_821 : CTB2 := [(6, 95, 0, con_817, [0, 1]), (14, 199, 1, con_514, []), (14, 199, 1, con_515, []), (14, 199, 1, con_516, []), (30, 259, 0, con_685, [0, 1, 2, 3]), (37, 259, 0, con_685, [0, 1, 2, 3])]
noncomputable def cu_821 : List CUT2 := [((4, [lq 0 6 0, lq 1 0 7, (2, (0, (-1), 0)), lq 3 0 0], [], gi_390, hq_471), [], ([], 3)), ((4, [lq 0 6 0, lq 1 0 7, lq 2 0 0, lq 3 0 1], [], gi_390, hq_471), [], ([], 2)), ((4, [lq 0 6 0, lq 1 0 7, lq 2 0 1, lq 3 0 2], [], gi_390, hq_471), [], ([], 1)), ((4, [lq 0 6 0, lq 1 0 7, lq 2 0 0, lq 3 0 2], [], gi_390, hq_471), [], ([], 1)), ((4, [lq 0 6 0, lq 1 0 7, lq 2 0 2, lq 3 0 3], [], gi_390, hq_471), [], ([], 0)), ((4, [lq 0 6 0, lq 1 0 7, lq 2 0 1, lq 3 0 3], [], gi_390, hq_471), [], ([], 0)), ((4, [lq 0 6 0, lq 1 0 7, lq 2 0 0, lq 3 0 3], [], gi_390, hq_471), [], ([], 0))]
theorem ch_821 : staG tb_X12_fewestOf 1 bt_RX12 [] ct_821 [] [] cu_821 30 con_821 = true := by decide +kernel
theorem cc_821 : cu_821.all (cutG tb_X12_fewestOf 1 bt_RX12 [] ct_821 [] [] cu_821 30 con_821) = true := by decide +kernel
theorem cto_821 (l : Launch) : CTOK2 l RX12 vwCl gTbl ct_821 := ct2_cons (vl_817 l) ck_RX12_95_817 (ct2_cons (vl_514 l) ck_RX12_199_514 (ct2_cons (vl_515 l) ck_RX12_199_515 (ct2_cons (vl_516 l) ck_RX12_199_516 (ct2_cons (vl_685 l) ck_RX12_259_685 (ct2_cons (vl_685 l) ck_RX12_259_685 (ct2_nil))))))
theorem vl_821 (l : Launch) : Vld2 l vwCl gTbl con_821 := conR_ok3 gT_all (hd_821) rfl pn_RX12 tk_X12_fewestOf bo_RX12 xo_RX12 (cto_821 l) ch_821 (cut_all cc_821)
/-- RookHustingModel fewestOf -/
noncomputable def con_822 : Con2 := ((yX12_fewestOf, cX12_fewestOf, 4, (some .int)), (3, 74), ([(6, 0, 0), (0, 3, 0)], gi_388, hc_86, []), [((0, 0, 0), gi_389, hq_471, [], [1]), ((0, 1, 0), gi_389, hq_471, [], [1])])
theorem hd_822 : con_822.1 = (yX12_fewestOf, cX12_fewestOf, 4, (some .int)) := rfl
noncomputable def ct_822 : CTB2 := [(6, 95, 0, con_817, [0, 1]), (14, 199, 1, con_464, []), (14, 199, 1, con_465, []), (14, 199, 1, con_466, []), (30, 259, 0, con_685, [0, 1, 2, 3]), (37, 259, 0, con_685, [0, 1, 2, 3])]
noncomputable def cu_822 : List CUT2 := [((4, [lq 0 6 0, lq 1 0 3, (2, (0, (-1), 0)), lq 3 0 0], [], gi_390, hq_471), [], ([], 3)), ((4, [lq 0 6 0, lq 1 0 3, lq 2 0 0, lq 3 0 1], [], gi_390, hq_471), [], ([], 2)), ((4, [lq 0 6 0, lq 1 0 3, lq 2 0 1, lq 3 0 2], [], gi_390, hq_471), [], ([], 1)), ((4, [lq 0 6 0, lq 1 0 3, lq 2 0 0, lq 3 0 2], [], gi_390, hq_471), [], ([], 1)), ((4, [lq 0 6 0, lq 1 0 3, lq 2 0 1, lq 3 0 3], [], gi_390, hq_471), [], ([], 0)), ((4, [lq 0 6 0, lq 1 0 3, lq 2 0 0, lq 3 0 3], [], gi_390, hq_471), [], ([], 0))]
theorem ch_822 : staG tb_X12_fewestOf 1 bt_RX12 [] ct_822 [] [] cu_822 30 con_822 = true := by decide +kernel
theorem cc_822 : cu_822.all (cutG tb_X12_fewestOf 1 bt_RX12 [] ct_822 [] [] cu_822 30 con_822) = true := by decide +kernel
theorem cto_822 (l : Launch) : CTOK2 l RX12 vwCl gTbl ct_822 := ct2_cons (vl_817 l) ck_RX12_95_817 (ct2_cons (vl_464 l) ck_RX12_199_464 (ct2_cons (vl_465 l) ck_RX12_199_465 (ct2_cons (vl_466 l) ck_RX12_199_466 (ct2_cons (vl_685 l) ck_RX12_259_685 (ct2_cons (vl_685 l) ck_RX12_259_685 (ct2_nil))))))
theorem vl_822 (l : Launch) : Vld2 l vwCl gTbl con_822 := conR_ok3 gT_all (hd_822) rfl pn_RX12 tk_X12_fewestOf bo_RX12 xo_RX12 (cto_822 l) ch_822 (cut_all cc_822)
/-- RookHustingModel fewestOf -/
noncomputable def con_823 : Con2 := ((yX12_fewestOf, cX12_fewestOf, 4, (some .int)), (3, 74), ([(6, 0, 0), (0, 5, 0)], gi_388, hc_86, []), [((0, 0, 0), gi_389, hq_471, [], [1]), ((0, 2, 0), gi_389, hq_471, [], [1])])
theorem hd_823 : con_823.1 = (yX12_fewestOf, cX12_fewestOf, 4, (some .int)) := rfl
noncomputable def ct_823 : CTB2 := [(6, 95, 0, con_817, [0, 1]), (14, 199, 1, con_459, []), (14, 199, 1, con_460, []), (14, 199, 1, con_461, []), (30, 259, 0, con_685, [0, 1, 2, 3]), (37, 259, 0, con_685, [0, 1, 2, 3])]
noncomputable def cu_823 : List CUT2 := [((4, [lq 0 6 0, lq 1 0 5, (2, (0, (-1), 0)), lq 3 0 0], [], gi_390, hq_471), [], ([], 3)), ((4, [lq 0 6 0, lq 1 0 5, lq 2 0 0, lq 3 0 1], [], gi_390, hq_471), [], ([], 2)), ((4, [lq 0 6 0, lq 1 0 5, lq 2 0 0, lq 3 0 2], [], gi_390, hq_471), [], ([], 1)), ((4, [lq 0 6 0, lq 1 0 5, lq 2 0 2, lq 3 0 3], [], gi_390, hq_471), [], ([], 0)), ((4, [lq 0 6 0, lq 1 0 5, lq 2 0 0, lq 3 0 3], [], gi_390, hq_471), [], ([], 0))]
theorem ch_823 : staG tb_X12_fewestOf 1 bt_RX12 [] ct_823 [] [] cu_823 30 con_823 = true := by decide +kernel
theorem cc_823 : cu_823.all (cutG tb_X12_fewestOf 1 bt_RX12 [] ct_823 [] [] cu_823 30 con_823) = true := by decide +kernel
theorem cto_823 (l : Launch) : CTOK2 l RX12 vwCl gTbl ct_823 := ct2_cons (vl_817 l) ck_RX12_95_817 (ct2_cons (vl_459 l) ck_RX12_199_459 (ct2_cons (vl_460 l) ck_RX12_199_460 (ct2_cons (vl_461 l) ck_RX12_199_461 (ct2_cons (vl_685 l) ck_RX12_259_685 (ct2_cons (vl_685 l) ck_RX12_259_685 (ct2_nil))))))
theorem vl_823 (l : Launch) : Vld2 l vwCl gTbl con_823 := conR_ok3 gT_all (hd_823) rfl pn_RX12 tk_X12_fewestOf bo_RX12 xo_RX12 (cto_823 l) ch_823 (cut_all cc_823)
