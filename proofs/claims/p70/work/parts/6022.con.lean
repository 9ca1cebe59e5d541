/-! ===== contracts, 22 ===== -/
/-- RookHustingModel fewestOf -/
noncomputable def con_834 : Con2 := ((yX12_fewestOf, cX12_fewestOf, 4, (some .int)), (3, 74), ([(6, 0, 0), (0, 6, 0)], gi_387, hc_86, []), [((0, 1, 0), gi_388, hq_471, [], [1]), ((0, 2, 0), gi_388, hq_471, [], [1])])
theorem hd_834 : con_834.1 = (yX12_fewestOf, cX12_fewestOf, 4, (some .int)) := rfl
noncomputable def ct_834 : CTB2 := [(6, 95, 0, con_827, [0, 1]), (14, 199, 1, con_458, []), (14, 199, 1, con_459, []), (14, 199, 1, con_460, []), (30, 259, 0, con_690, [0, 1, 2, 3]), (37, 259, 0, con_690, [0, 1, 2, 3])]
noncomputable def cu_834 : List CUT2 := [((4, [lq 0 6 0, lq 1 0 6, (2, (0, (-1), 0)), lq 3 0 0], [], gi_389, hq_471), [], ([], 3)), ((4, [lq 0 6 0, lq 1 0 6, (2, (0, (-1), 0)), lq 3 0 1], [], gi_389, hq_471), [], ([], 2)), ((4, [lq 0 6 0, lq 1 0 6, lq 2 0 1, lq 3 0 2], [], gi_389, hq_471), [], ([], 1)), ((4, [lq 0 6 0, lq 1 0 6, lq 2 0 2, lq 3 0 3], [], gi_389, hq_471), [], ([], 0)), ((4, [lq 0 6 0, lq 1 0 6, lq 2 0 1, lq 3 0 3], [], gi_389, hq_471), [], ([], 0))]
theorem ch_834 : staG tb_X12_fewestOf 1 bt_RX12 [] ct_834 [] [] cu_834 30 con_834 = true := by decide +kernel
theorem cc_834 : cu_834.all (cutG tb_X12_fewestOf 1 bt_RX12 [] ct_834 [] [] cu_834 30 con_834) = true := by decide +kernel
theorem cto_834 (l : Launch) : CTOK2 l RX12 vwCl gTbl ct_834 := ct2_cons (vl_827 l) ck_RX12_95_827 (ct2_cons (vl_458 l) ck_RX12_199_458 (ct2_cons (vl_459 l) ck_RX12_199_459 (ct2_cons (vl_460 l) ck_RX12_199_460 (ct2_cons (vl_690 l) ck_RX12_259_690 (ct2_cons (vl_690 l) ck_RX12_259_690 (ct2_nil))))))
theorem vl_834 (l : Launch) : Vld2 l vwCl gTbl con_834 := conR_ok3 gT_all (hd_834) rfl pn_RX12 tk_X12_fewestOf bo_RX12 xo_RX12 (cto_834 l) ch_834 (cut_all cc_834)
/-- RookHustingModel electsOf -/
noncomputable def ac_476 : AC := .inr (1, jl_n [js_1 53 5, jl_x (1, (0, 3, 0)), sp_129])
noncomputable def hc_87 : List AC := [ac_451, ac_476, am_8, am_5]
noncomputable def hq_472 : HP := [(false, ac_451), (false, ac_476), (false, am_8), (false, am_5)]
noncomputable def con_835 : Con2 := ((yX12_electsOf, cX12_electsOf, 4, (some .int)), (4, 98), ([(6, 0, 0), (0, 7, 0), (1, 2, 0)], gi_393, hc_87, []), [((1, 71, 0), gi_394, hq_472, [], [1])])
theorem hd_835 : con_835.1 = (yX12_electsOf, cX12_electsOf, 4, (some .int)) := rfl
theorem ck_RX12_263_834 : COK2 RX12 vwCl gTbl 263 0 con_834 := ⟨wd_1732, wd_137, mh_X12_fewestOf, .inr (.inr ⟨rfl, wd_1729, wd_1731, wd_79, ⟨_, rfl, pd_X12_fewestOf⟩, 12, _, TX12, 45, rfl, rfl⟩)⟩
theorem ck_RX12_263_833 : COK2 RX12 vwCl gTbl 263 0 con_833 := ⟨wd_1732, wd_137, mh_X12_fewestOf, .inr (.inr ⟨rfl, wd_1729, wd_1731, wd_79, ⟨_, rfl, pd_X12_fewestOf⟩, 12, _, TX12, 45, rfl, rfl⟩)⟩
theorem ck_RX12_263_832 : COK2 RX12 vwCl gTbl 263 0 con_832 := ⟨wd_1732, wd_137, mh_X12_fewestOf, .inr (.inr ⟨rfl, wd_1729, wd_1731, wd_79, ⟨_, rfl, pd_X12_fewestOf⟩, 12, _, TX12, 45, rfl, rfl⟩)⟩
theorem ck_RX12_263_831 : COK2 RX12 vwCl gTbl 263 0 con_831 := ⟨wd_1732, wd_137, mh_X12_fewestOf, .inr (.inr ⟨rfl, wd_1729, wd_1731, wd_79, ⟨_, rfl, pd_X12_fewestOf⟩, 12, _, TX12, 45, rfl, rfl⟩)⟩
noncomputable def ct_835 : CTB2 := [(8, 252, 1, con_760, []), (8, 252, 1, con_759, []), (8, 252, 1, con_758, []), (8, 252, 1, con_742, []), (8, 252, 1, con_740, []), (8, 252, 1, con_738, []), (8, 252, 1, con_718, []), (19, 263, 0, con_831, [0, 1, 2, 3]), (19, 263, 0, con_832, [0, 1, 2, 3]), (19, 263, 0, con_833, [0, 1, 2, 3]), (19, 263, 0, con_834, [0, 1, 2, 3]), (42, 266, 0, con_707, [0, 1, 2, 3])]
noncomputable def cu_835 : List CUT2 := [((2, [lq 0 6 0, lq 1 0 7, lq 2 1 2, lq 3 0 7], [], gi_395, hq_472), [], ([], 7)), ((2, [lq 0 6 0, lq 1 0 7, lq 2 0 2, lq 3 0 3], [], gi_396, hq_472), [], ([], 3)), ((2, [lq 0 6 0, lq 1 0 7, lq 2 0 2, lq 3 0 5], [], gi_396, hq_472), [], ([], 5)), ((2, [lq 0 6 0, lq 1 0 7, lq 2 0 2, lq 3 0 6], [], gi_396, hq_472), [], ([], 6)), ((2, [lq 0 6 0, lq 1 0 7, lq 2 0 2, lq 3 0 1], [], gi_396, hq_472), [], ([], 1)), ((2, [lq 0 6 0, lq 1 0 7, lq 2 0 2, lq 3 0 2], [], gi_396, hq_472), [], ([], 2)), ((2, [lq 0 6 0, lq 1 0 7, lq 2 0 2, lq 3 0 4], [], gi_396, hq_472), [], ([], 4))]
theorem ch_835 : staG tb_X12_electsOf 1 bt_RX12 [] ct_835 [] [] cu_835 21 con_835 = true := by decide +kernel
theorem cc_835 : cu_835.all (cutG tb_X12_electsOf 1 bt_RX12 [] ct_835 [] [] cu_835 21 con_835) = true := by decide +kernel
theorem cto_835 (l : Launch) : CTOK2 l RX12 vwCl gTbl ct_835 := ct2_cons (vl_760 l) ck_RX12_252_760 (ct2_cons (vl_759 l) ck_RX12_252_759 (ct2_cons (vl_758 l) ck_RX12_252_758 (ct2_cons (vl_742 l) ck_RX12_252_742 (ct2_cons (vl_740 l) ck_RX12_252_740 (ct2_cons (vl_738 l) ck_RX12_252_738 (ct2_cons (vl_718 l) ck_RX12_252_718 (ct2_cons (vl_831 l) ck_RX12_263_831 (ct2_cons (vl_832 l) ck_RX12_263_832 (ct2_cons (vl_833 l) ck_RX12_263_833 (ct2_cons (vl_834 l) ck_RX12_263_834 (ct2_cons (vl_707 l) ck_RX12_266_707 (ct2_nil))))))))))))
theorem vl_835 (l : Launch) : Vld2 l vwCl gTbl con_835 := conR_ok3 gT_all (hd_835) rfl pn_RX12 tk_X12_electsOf bo_RX12 xo_RX12 (cto_835 l) ch_835 (cut_all cc_835)
/-- RookHustingModel electsOf -/
noncomputable def con_836 : Con2 := ((yX12_electsOf, cX12_electsOf, 4, (some .int)), (4, 98), ([(6, 0, 0), (0, 6, 0), (1, 2, 0)], gi_393, hc_87, []), [((1, 71, 0), gi_394, hq_472, [], [1])])
theorem hd_836 : con_836.1 = (yX12_electsOf, cX12_electsOf, 4, (some .int)) := rfl
noncomputable def ct_836 : CTB2 := [(8, 252, 1, con_760, []), (8, 252, 1, con_759, []), (8, 252, 1, con_742, []), (19, 263, 0, con_834, [0, 1, 2, 3]), (42, 266, 0, con_707, [0, 1, 2, 3])]
noncomputable def cu_836 : List CUT2 := [((2, [lq 0 6 0, lq 1 0 6, lq 2 1 2, lq 3 0 6], [], gi_395, hq_472), [], ([], 6)), ((2, [lq 0 6 0, lq 1 0 6, lq 2 0 2, lq 3 0 2], [], gi_396, hq_472), [], ([], 2)), ((2, [lq 0 6 0, lq 1 0 6, lq 2 0 2, lq 3 0 4], [], gi_396, hq_472), [], ([], 4))]
theorem ch_836 : staG tb_X12_electsOf 1 bt_RX12 [] ct_836 [] [] cu_836 21 con_836 = true := by decide +kernel
theorem cc_836 : cu_836.all (cutG tb_X12_electsOf 1 bt_RX12 [] ct_836 [] [] cu_836 21 con_836) = true := by decide +kernel
theorem cto_836 (l : Launch) : CTOK2 l RX12 vwCl gTbl ct_836 := ct2_cons (vl_760 l) ck_RX12_252_760 (ct2_cons (vl_759 l) ck_RX12_252_759 (ct2_cons (vl_742 l) ck_RX12_252_742 (ct2_cons (vl_834 l) ck_RX12_263_834 (ct2_cons (vl_707 l) ck_RX12_266_707 (ct2_nil)))))
theorem vl_836 (l : Launch) : Vld2 l vwCl gTbl con_836 := conR_ok3 gT_all (hd_836) rfl pn_RX12 tk_X12_electsOf bo_RX12 xo_RX12 (cto_836 l) ch_836 (cut_all cc_836)
/-- RookHustingModel electsOf -/
noncomputable def con_837 : Con2 := ((yX12_electsOf, cX12_electsOf, 4, (some .int)), (4, 98), ([(6, 0, 0), (0, 5, 0), (1, 2, 0)], gi_393, hc_87, []), [((1, 71, 0), gi_394, hq_472, [], [1])])
theorem hd_837 : con_837.1 = (yX12_electsOf, cX12_electsOf, 4, (some .int)) := rfl
noncomputable def ct_837 : CTB2 := [(8, 252, 1, con_760, []), (8, 252, 1, con_758, []), (8, 252, 1, con_740, []), (19, 263, 0, con_833, [0, 1, 2, 3]), (42, 266, 0, con_707, [0, 1, 2, 3])]
noncomputable def cu_837 : List CUT2 := [((2, [lq 0 6 0, lq 1 0 5, lq 2 1 2, lq 3 0 5], [], gi_395, hq_472), [], ([], 5)), ((2, [lq 0 6 0, lq 1 0 5, lq 2 0 2, lq 3 0 1], [], gi_396, hq_472), [], ([], 1)), ((2, [lq 0 6 0, lq 1 0 5, lq 2 0 2, lq 3 0 4], [], gi_396, hq_472), [], ([], 4))]
theorem ch_837 : staG tb_X12_electsOf 1 bt_RX12 [] ct_837 [] [] cu_837 21 con_837 = true := by decide +kernel
theorem cc_837 : cu_837.all (cutG tb_X12_electsOf 1 bt_RX12 [] ct_837 [] [] cu_837 21 con_837) = true := by decide +kernel
theorem cto_837 (l : Launch) : CTOK2 l RX12 vwCl gTbl ct_837 := ct2_cons (vl_760 l) ck_RX12_252_760 (ct2_cons (vl_758 l) ck_RX12_252_758 (ct2_cons (vl_740 l) ck_RX12_252_740 (ct2_cons (vl_833 l) ck_RX12_263_833 (ct2_cons (vl_707 l) ck_RX12_266_707 (ct2_nil)))))
theorem vl_837 (l : Launch) : Vld2 l vwCl gTbl con_837 := conR_ok3 gT_all (hd_837) rfl pn_RX12 tk_X12_electsOf bo_RX12 xo_RX12 (cto_837 l) ch_837 (cut_all cc_837)
/-- RookHustingModel electsOf -/
noncomputable def con_838 : Con2 := ((yX12_electsOf, cX12_electsOf, 4, (some .int)), (4, 98), ([(6, 0, 0), (0, 4, 0), (1, 2, 0)], gi_393, hc_87, []), [((1, 71, 0), gi_394, hq_472, [], [1])])
theorem hd_838 : con_838.1 = (yX12_electsOf, cX12_electsOf, 4, (some .int)) := rfl
noncomputable def cu_838 : List CUT2 := [((2, [lq 0 6 0, lq 1 0 4, lq 2 1 2, lq 3 0 4], [], gi_395, hq_472), [], ([], 4))]
theorem ch_838 : staG tb_X12_electsOf 1 bt_RX12 [] ct_790 [] [] cu_838 18 con_838 = true := by decide +kernel
theorem cc_838 : cu_838.all (cutG tb_X12_electsOf 1 bt_RX12 [] ct_790 [] [] cu_838 18 con_838) = true := by decide +kernel
theorem vl_838 (l : Launch) : Vld2 l vwCl gTbl con_838 := conR_ok3 gT_all (hd_838) rfl pn_RX12 tk_X12_electsOf bo_RX12 xo_RX12 (cto_790 l) ch_838 (cut_all cc_838)
/-- RookHustingModel electsOf -/
noncomputable def con_839 : Con2 := ((yX12_electsOf, cX12_electsOf, 4, (some .int)), (4, 98), ([(6, 0, 0), (0, 3, 0), (1, 2, 0)], gi_393, hc_87, []), [((1, 71, 0), gi_394, hq_472, [], [1])])
theorem hd_839 : con_839.1 = (yX12_electsOf, cX12_electsOf, 4, (some .int)) := rfl
noncomputable def ct_839 : CTB2 := [(8, 252, 1, con_759, []), (8, 252, 1, con_758, []), (8, 252, 1, con_738, []), (19, 263, 0, con_832, [0, 1, 2, 3]), (42, 266, 0, con_707, [0, 1, 2, 3])]
noncomputable def cu_839 : List CUT2 := [((2, [lq 0 6 0, lq 1 0 3, lq 2 1 2, lq 3 0 3], [], gi_395, hq_472), [], ([], 3)), ((2, [lq 0 6 0, lq 1 0 3, lq 2 0 2, lq 3 0 1], [], gi_396, hq_472), [], ([], 1)), ((2, [lq 0 6 0, lq 1 0 3, lq 2 0 2, lq 3 0 2], [], gi_396, hq_472), [], ([], 2))]
theorem ch_839 : staG tb_X12_electsOf 1 bt_RX12 [] ct_839 [] [] cu_839 21 con_839 = true := by decide +kernel
theorem cc_839 : cu_839.all (cutG tb_X12_electsOf 1 bt_RX12 [] ct_839 [] [] cu_839 21 con_839) = true := by decide +kernel
theorem cto_839 (l : Launch) : CTOK2 l RX12 vwCl gTbl ct_839 := ct2_cons (vl_759 l) ck_RX12_252_759 (ct2_cons (vl_758 l) ck_RX12_252_758 (ct2_cons (vl_738 l) ck_RX12_252_738 (ct2_cons (vl_832 l) ck_RX12_263_832 (ct2_cons (vl_707 l) ck_RX12_266_707 (ct2_nil)))))
theorem vl_839 (l : Launch) : Vld2 l vwCl gTbl con_839 := conR_ok3 gT_all (hd_839) rfl pn_RX12 tk_X12_electsOf bo_RX12 xo_RX12 (cto_839 l) ch_839 (cut_all cc_839)
/-- RookHustingModel electsOf -/
noncomputable def con_840 : Con2 := ((yX12_electsOf, cX12_electsOf, 4, (some .int)), (4, 98), ([(6, 0, 0), (0, 2, 0), (1, 2, 0)], gi_393, hc_87, []), [((1, 71, 0), gi_394, hq_472, [], [1])])
theorem hd_840 : con_840.1 = (yX12_electsOf, cX12_electsOf, 4, (some .int)) := rfl
noncomputable def cu_840 : List CUT2 := [((2, [lq 0 6 0, lq 1 0 2, lq 2 1 2, lq 3 0 2], [], gi_395, hq_472), [], ([], 2))]
theorem ch_840 : staG tb_X12_electsOf 1 bt_RX12 [] ct_792 [] [] cu_840 18 con_840 = true := by decide +kernel
theorem cc_840 : cu_840.all (cutG tb_X12_electsOf 1 bt_RX12 [] ct_792 [] [] cu_840 18 con_840) = true := by decide +kernel
theorem vl_840 (l : Launch) : Vld2 l vwCl gTbl con_840 := conR_ok3 gT_all (hd_840) rfl pn_RX12 tk_X12_electsOf bo_RX12 xo_RX12 (cto_792 l) ch_840 (cut_all cc_840)
/-- RookHustingModel electsOf -/
noncomputable def con_841 : Con2 := ((yX12_electsOf, cX12_electsOf, 4, (some .int)), (4, 98), ([(6, 0, 0), (0, 1, 0), (1, 2, 0)], gi_393, hc_87, []), [((1, 71, 0), gi_394, hq_472, [], [1])])
theorem hd_841 : con_841.1 = (yX12_electsOf, cX12_electsOf, 4, (some .int)) := rfl
noncomputable def cu_841 : List CUT2 := [((2, [lq 0 6 0, lq 1 0 1, lq 2 1 2, lq 3 0 1], [], gi_395, hq_472), [], ([], 1))]
theorem ch_841 : staG tb_X12_electsOf 1 bt_RX12 [] ct_793 [] [] cu_841 18 con_841 = true := by decide +kernel
theorem cc_841 : cu_841.all (cutG tb_X12_electsOf 1 bt_RX12 [] ct_793 [] [] cu_841 18 con_841) = true := by decide +kernel
theorem vl_841 (l : Launch) : Vld2 l vwCl gTbl con_841 := conR_ok3 gT_all (hd_841) rfl pn_RX12 tk_X12_electsOf bo_RX12 xo_RX12 (cto_793 l) ch_841 (cut_all cc_841)
/-- RookHustingModel electsOf -/
noncomputable def con_842 : Con2 := ((yX12_electsOf, cX12_electsOf, 4, (some .int)), (4, 98), ([(6, 0, 0), (0, 0, 0), (1, 2, 0)], gi_393, hc_87, []), [((1, 71, 0), gi_394, hq_472, [], [1])])
theorem hd_842 : con_842.1 = (yX12_electsOf, cX12_electsOf, 4, (some .int)) := rfl
noncomputable def cu_842 : List CUT2 := [((2, [lq 0 6 0, lq 1 0 0, lq 2 1 2, lq 3 0 0], [], gi_395, hq_472), [], ([], 0))]
theorem ch_842 : staG tb_X12_electsOf 1 bt_RX12 [] ct_795 [] [] cu_842 18 con_842 = true := by decide +kernel
theorem cc_842 : cu_842.all (cutG tb_X12_electsOf 1 bt_RX12 [] ct_795 [] [] cu_842 18 con_842) = true := by decide +kernel
theorem vl_842 (l : Launch) : Vld2 l vwCl gTbl con_842 := conR_ok3 gT_all (hd_842) rfl pn_RX12 tk_X12_electsOf bo_RX12 xo_RX12 (cto_795 l) ch_842 (cut_all cc_842)
/-- RookHustingModel men -/
noncomputable def ac_477 : AC := .inr (1, jl_n [js_1 51 5, jl_x (1, (0, 2, 0)), sp_127])
noncomputable def con_843 : Con2 := ((yX12_men, cX12_men, 1, (some .int)), (0, 0), ([(6, 0, 0)], gi_382, [ac_435, ac_477], []), [((0, 2, 0), gi_383, [(false, ac_435), (false, ac_477)], [], [1])])
theorem hd_843 : con_843.1 = (yX12_men, cX12_men, 1, (some .int)) := rfl
noncomputable def cu_843 : List CUT2 := []
theorem ch_843 : staG tb_X12_men 1 bt_RX12 [] ct_2 [] [] cu_843 7 con_843 = true := by decide +kernel
theorem vl_843 (l : Launch) : Vld2 l vwCl gTbl con_843 := conR_ok3 gT_all (hd_843) rfl pn_RX12 tk_X12_men bo_RX12 xo_RX12 (cto_2 l) ch_843 cut_nil
/-- RookHustingModel allMen -/
noncomputable def con_844 : Con2 := ((yX12_allMen, cX12_allMen, 1, (some .int)), (1, 20), ([(6, 0, 0)], gi_382, [ac_435, ac_477], []), [((0, 3, 0), gi_383, [(false, ac_435), (false, ac_477)], [], [1])])
theorem hd_844 : con_844.1 = (yX12_allMen, cX12_allMen, 1, (some .int)) := rfl
theorem ck_RX12_95_843 : COK2 RX12 vwCl gTbl 95 0 con_843 := ⟨wd_1672, wd_137, mh_X12_men, .inr (.inr ⟨rfl, wd_1669, wd_1671, wd_69, ⟨_, rfl, pd_X12_men⟩, 12, _, TX12, 45, rfl, rfl⟩)⟩
noncomputable def ct_844 : CTB2 := [(2, 95, 0, con_843, [0, 1])]
noncomputable def cu_844 : List CUT2 := []
theorem ch_844 : staG tb_X12_allMen 1 bt_RX12 [] ct_844 [] [] cu_844 9 con_844 = true := by decide +kernel
theorem cto_844 (l : Launch) : CTOK2 l RX12 vwCl gTbl ct_844 := ct2_cons (vl_843 l) ck_RX12_95_843 (ct2_nil)
theorem vl_844 (l : Launch) : Vld2 l vwCl gTbl con_844 := conR_ok3 gT_all (hd_844) rfl pn_RX12 tk_X12_allMen bo_RX12 xo_RX12 (cto_844 l) ch_844 cut_nil
/-- RookHustingModel isSet -/
noncomputable def ac_478 : AC := .inr (1, jl_n [js_1 52 5, jl_x (1, (0, 2, 0)), sp_128])
noncomputable def gi_399 : GI := jl_n [gp_210, gp_219]
noncomputable def con_845 : Con2 := ((yX12_isSet, cX12_isSet, 2, (some .boolean)), (2, 40), ([(6, 0, 0), (1, 1, 0)], gi_384, [ac_437, ac_478], []), [((0, 0, 0), gi_385, [(false, ac_437), (false, ac_478)], [], [1]), ((0, 1, 0), gi_399, [(false, ac_437), (false, ac_478)], [], [1])])
theorem hd_845 : con_845.1 = (yX12_isSet, cX12_isSet, 2, (some .boolean)) := rfl
theorem ck_RX12_269_844 : COK2 RX12 vwCl gTbl 269 0 con_844 := ⟨wd_1708, wd_137, mh_X12_allMen, .inr (.inr ⟨rfl, wd_1705, wd_1707, wd_75, ⟨_, rfl, pd_X12_allMen⟩, 12, _, TX12, 45, rfl, rfl⟩)⟩
noncomputable def ct_845 : CTB2 := [(1, 99, 0, con_678, [0, 1]), (11, 269, 0, con_844, [0, 1]), (15, 91, 1, con_336, [])]
noncomputable def cu_845 : List CUT2 := []
theorem ch_845 : staG tb_X12_isSet 1 bt_RX12 [] ct_845 [] [] cu_845 16 con_845 = true := by decide +kernel
theorem cto_845 (l : Launch) : CTOK2 l RX12 vwCl gTbl ct_845 := ct2_cons (vl_678 l) ck_RX12_99_678 (ct2_cons (vl_844 l) ck_RX12_269_844 (ct2_cons (vl_336 l) ck_RX12_91_336 (ct2_nil)))
theorem vl_845 (l : Launch) : Vld2 l vwCl gTbl con_845 := conR_ok3 gT_all (hd_845) rfl pn_RX12 tk_X12_isSet bo_RX12 xo_RX12 (cto_845 l) ch_845 cut_nil
/-- RookHustingModel fewestOf -/
noncomputable def hc_88 : List AC := [ac_469, ac_478, am_8, am_5]
noncomputable def hq_473 : HP := [(false, ac_469), (false, ac_478), (false, am_8), (false, am_5)]
noncomputable def con_846 : Con2 := ((yX12_fewestOf, cX12_fewestOf, 4, (some .int)), (3, 74), ([(6, 0, 0), (0, 3, 0)], gi_387, hc_88, []), [((0, 0, 0), gi_388, hq_473, [], [1]), ((0, 1, 0), gi_388, hq_473, [], [1])])
theorem hd_846 : con_846.1 = (yX12_fewestOf, cX12_fewestOf, 4, (some .int)) := rfl
noncomputable def ct_846 : CTB2 := [(6, 95, 0, con_843, [0, 1]), (14, 199, 1, con_469, []), (14, 199, 1, con_470, []), (30, 259, 0, con_690, [0, 1, 2, 3]), (37, 259, 0, con_690, [0, 1, 2, 3])]
noncomputable def cu_846 : List CUT2 := [((4, [lq 0 6 0, lq 1 0 3, (2, (0, (-1), 0)), lq 3 0 0], [], gi_389, hq_473), [], ([], 2)), ((4, [lq 0 6 0, lq 1 0 3, lq 2 0 0, lq 3 0 1], [], gi_389, hq_473), [], ([], 1)), ((4, [lq 0 6 0, lq 1 0 3, lq 2 0 1, lq 3 0 2], [], gi_389, hq_473), [], ([], 0)), ((4, [lq 0 6 0, lq 1 0 3, lq 2 0 0, lq 3 0 2], [], gi_389, hq_473), [], ([], 0))]
theorem ch_846 : staG tb_X12_fewestOf 1 bt_RX12 [] ct_846 [] [] cu_846 30 con_846 = true := by decide +kernel
theorem cc_846 : cu_846.all (cutG tb_X12_fewestOf 1 bt_RX12 [] ct_846 [] [] cu_846 30 con_846) = true := by decide +kernel
theorem cto_846 (l : Launch) : CTOK2 l RX12 vwCl gTbl ct_846 := ct2_cons (vl_843 l) ck_RX12_95_843 (ct2_cons (vl_469 l) ck_RX12_199_469 (ct2_cons (vl_470 l) ck_RX12_199_470 (ct2_cons (vl_690 l) ck_RX12_259_690 (ct2_cons (vl_690 l) ck_RX12_259_690 (ct2_nil)))))
theorem vl_846 (l : Launch) : Vld2 l vwCl gTbl con_846 := conR_ok3 gT_all (hd_846) rfl pn_RX12 tk_X12_fewestOf bo_RX12 xo_RX12 (cto_846 l) ch_846 (cut_all cc_846)
/-- RookHustingModel electsOf -/
noncomputable def ac_479 : AC := .inr (1, jl_n [js_1 53 5, jl_x (1, (0, 2, 0)), sp_129])
noncomputable def hc_89 : List AC := [ac_451, ac_479, am_8, am_5]
noncomputable def hq_474 : HP := [(false, ac_451), (false, ac_479), (false, am_8), (false, am_5)]
noncomputable def con_847 : Con2 := ((yX12_electsOf, cX12_electsOf, 4, (some .int)), (4, 98), ([(6, 0, 0), (0, 3, 0), (1, 2, 0)], gi_393, hc_89, []), [((1, 71, 0), gi_394, hq_474, [], [1])])
theorem hd_847 : con_847.1 = (yX12_electsOf, cX12_electsOf, 4, (some .int)) := rfl
theorem ck_RX12_263_846 : COK2 RX12 vwCl gTbl 263 0 con_846 := ⟨wd_1732, wd_137, mh_X12_fewestOf, .inr (.inr ⟨rfl, wd_1729, wd_1731, wd_79, ⟨_, rfl, pd_X12_fewestOf⟩, 12, _, TX12, 45, rfl, rfl⟩)⟩
noncomputable def ct_847 : CTB2 := [(8, 252, 1, con_759, []), (8, 252, 1, con_758, []), (8, 252, 1, con_738, []), (19, 263, 0, con_846, [0, 1, 2, 3]), (42, 266, 0, con_707, [0, 1, 2, 3])]
noncomputable def cu_847 : List CUT2 := [((2, [lq 0 6 0, lq 1 0 3, lq 2 1 2, lq 3 0 3], [], gi_395, hq_474), [], ([], 3)), ((2, [lq 0 6 0, lq 1 0 3, lq 2 0 2, lq 3 0 1], [], gi_396, hq_474), [], ([], 1)), ((2, [lq 0 6 0, lq 1 0 3, lq 2 0 2, lq 3 0 2], [], gi_396, hq_474), [], ([], 2))]
theorem ch_847 : staG tb_X12_electsOf 1 bt_RX12 [] ct_847 [] [] cu_847 21 con_847 = true := by decide +kernel
theorem cc_847 : cu_847.all (cutG tb_X12_electsOf 1 bt_RX12 [] ct_847 [] [] cu_847 21 con_847) = true := by decide +kernel
theorem cto_847 (l : Launch) : CTOK2 l RX12 vwCl gTbl ct_847 := ct2_cons (vl_759 l) ck_RX12_252_759 (ct2_cons (vl_758 l) ck_RX12_252_758 (ct2_cons (vl_738 l) ck_RX12_252_738 (ct2_cons (vl_846 l) ck_RX12_263_846 (ct2_cons (vl_707 l) ck_RX12_266_707 (ct2_nil)))))
theorem vl_847 (l : Launch) : Vld2 l vwCl gTbl con_847 := conR_ok3 gT_all (hd_847) rfl pn_RX12 tk_X12_electsOf bo_RX12 xo_RX12 (cto_847 l) ch_847 (cut_all cc_847)
/-- RookHustingModel electsOf -/
noncomputable def con_848 : Con2 := ((yX12_electsOf, cX12_electsOf, 4, (some .int)), (4, 98), ([(6, 0, 0), (0, 2, 0), (1, 2, 0)], gi_393, hc_89, []), [((1, 71, 0), gi_394, hq_474, [], [1])])
theorem hd_848 : con_848.1 = (yX12_electsOf, cX12_electsOf, 4, (some .int)) := rfl
noncomputable def cu_848 : List CUT2 := [((2, [lq 0 6 0, lq 1 0 2, lq 2 1 2, lq 3 0 2], [], gi_395, hq_474), [], ([], 2))]
theorem ch_848 : staG tb_X12_electsOf 1 bt_RX12 [] ct_792 [] [] cu_848 18 con_848 = true := by decide +kernel
theorem cc_848 : cu_848.all (cutG tb_X12_electsOf 1 bt_RX12 [] ct_792 [] [] cu_848 18 con_848) = true := by decide +kernel
theorem vl_848 (l : Launch) : Vld2 l vwCl gTbl con_848 := conR_ok3 gT_all (hd_848) rfl pn_RX12 tk_X12_electsOf bo_RX12 xo_RX12 (cto_792 l) ch_848 (cut_all cc_848)
/-- RookHustingModel electsOf -/
noncomputable def con_849 : Con2 := ((yX12_electsOf, cX12_electsOf, 4, (some .int)), (4, 98), ([(6, 0, 0), (0, 1, 0), (1, 2, 0)], gi_393, hc_89, []), [((1, 71, 0), gi_394, hq_474, [], [1])])
theorem hd_849 : con_849.1 = (yX12_electsOf, cX12_electsOf, 4, (some .int)) := rfl
noncomputable def cu_849 : List CUT2 := [((2, [lq 0 6 0, lq 1 0 1, lq 2 1 2, lq 3 0 1], [], gi_395, hq_474), [], ([], 1))]
theorem ch_849 : staG tb_X12_electsOf 1 bt_RX12 [] ct_793 [] [] cu_849 18 con_849 = true := by decide +kernel
theorem cc_849 : cu_849.all (cutG tb_X12_electsOf 1 bt_RX12 [] ct_793 [] [] cu_849 18 con_849) = true := by decide +kernel
theorem vl_849 (l : Launch) : Vld2 l vwCl gTbl con_849 := conR_ok3 gT_all (hd_849) rfl pn_RX12 tk_X12_electsOf bo_RX12 xo_RX12 (cto_793 l) ch_849 (cut_all cc_849)
/-- RookHustingModel electsOf -/
noncomputable def con_850 : Con2 := ((yX12_electsOf, cX12_electsOf, 4, (some .int)), (4, 98), ([(6, 0, 0), (0, 0, 0), (1, 2, 0)], gi_393, hc_89, []), [((1, 71, 0), gi_394, hq_474, [], [1])])
theorem hd_850 : con_850.1 = (yX12_electsOf, cX12_electsOf, 4, (some .int)) := rfl
noncomputable def cu_850 : List CUT2 := [((2, [lq 0 6 0, lq 1 0 0, lq 2 1 2, lq 3 0 0], [], gi_395, hq_474), [], ([], 0))]
theorem ch_850 : staG tb_X12_electsOf 1 bt_RX12 [] ct_795 [] [] cu_850 18 con_850 = true := by decide +kernel
theorem cc_850 : cu_850.all (cutG tb_X12_electsOf 1 bt_RX12 [] ct_795 [] [] cu_850 18 con_850) = true := by decide +kernel
theorem vl_850 (l : Launch) : Vld2 l vwCl gTbl con_850 := conR_ok3 gT_all (hd_850) rfl pn_RX12 tk_X12_electsOf bo_RX12 xo_RX12 (cto_795 l) ch_850 (cut_all cc_850)
/-- RookHustingModel men -/
noncomputable def ac_480 : AC := .inr (1, jl_n [js_1 51 5, jl_x (1, (0, 1, 0)), sp_127])
noncomputable def con_851 : Con2 := ((yX12_men, cX12_men, 1, (some .int)), (0, 0), ([(6, 0, 0)], gi_382, [ac_435, ac_480], []), [((0, 1, 0), gi_383, [(false, ac_435), (false, ac_480)], [], [1])])
theorem hd_851 : con_851.1 = (yX12_men, cX12_men, 1, (some .int)) := rfl
noncomputable def cu_851 : List CUT2 := []
theorem ch_851 : staG tb_X12_men 1 bt_RX12 [] ct_2 [] [] cu_851 7 con_851 = true := by decide +kernel
theorem vl_851 (l : Launch) : Vld2 l vwCl gTbl con_851 := conR_ok3 gT_all (hd_851) rfl pn_RX12 tk_X12_men bo_RX12 xo_RX12 (cto_2 l) ch_851 cut_nil
/-- RookHustingModel allMen -/
noncomputable def con_852 : Con2 := ((yX12_allMen, cX12_allMen, 1, (some .int)), (1, 20), ([(6, 0, 0)], gi_382, [ac_435, ac_480], []), [((0, 1, 0), gi_383, [(false, ac_435), (false, ac_480)], [], [1])])
theorem hd_852 : con_852.1 = (yX12_allMen, cX12_allMen, 1, (some .int)) := rfl
theorem ck_RX12_95_851 : COK2 RX12 vwCl gTbl 95 0 con_851 := ⟨wd_1672, wd_137, mh_X12_men, .inr (.inr ⟨rfl, wd_1669, wd_1671, wd_69, ⟨_, rfl, pd_X12_men⟩, 12, _, TX12, 45, rfl, rfl⟩)⟩
noncomputable def ct_852 : CTB2 := [(2, 95, 0, con_851, [0, 1])]
noncomputable def cu_852 : List CUT2 := []
theorem ch_852 : staG tb_X12_allMen 1 bt_RX12 [] ct_852 [] [] cu_852 9 con_852 = true := by decide +kernel
theorem cto_852 (l : Launch) : CTOK2 l RX12 vwCl gTbl ct_852 := ct2_cons (vl_851 l) ck_RX12_95_851 (ct2_nil)
theorem vl_852 (l : Launch) : Vld2 l vwCl gTbl con_852 := conR_ok3 gT_all (hd_852) rfl pn_RX12 tk_X12_allMen bo_RX12 xo_RX12 (cto_852 l) ch_852 cut_nil
/-- RookHustingModel isSet -/
noncomputable def ac_481 : AC := .inr (1, jl_n [js_1 52 5, jl_x (1, (0, 1, 0)), sp_128])
noncomputable def gi_400 : GI := jl_n [gp_208, gp_219]
noncomputable def con_853 : Con2 := ((yX12_isSet, cX12_isSet, 2, (some .boolean)), (2, 40), ([(6, 0, 0), (1, 1, 0)], gi_384, [ac_437, ac_481], []), [((0, 0, 0), gi_385, [(false, ac_437), (false, ac_481)], [], [1]), ((0, 1, 0), gi_400, [(false, ac_437), (false, ac_481)], [], [1])])
theorem hd_853 : con_853.1 = (yX12_isSet, cX12_isSet, 2, (some .boolean)) := rfl
theorem ck_RX12_269_852 : COK2 RX12 vwCl gTbl 269 0 con_852 := ⟨wd_1708, wd_137, mh_X12_allMen, .inr (.inr ⟨rfl, wd_1705, wd_1707, wd_75, ⟨_, rfl, pd_X12_allMen⟩, 12, _, TX12, 45, rfl, rfl⟩)⟩
noncomputable def ct_853 : CTB2 := [(1, 99, 0, con_678, [0, 1]), (11, 269, 0, con_852, [0, 1]), (15, 91, 1, con_652, [])]
noncomputable def cu_853 : List CUT2 := []
theorem ch_853 : staG tb_X12_isSet 1 bt_RX12 [] ct_853 [] [] cu_853 16 con_853 = true := by decide +kernel
theorem cto_853 (l : Launch) : CTOK2 l RX12 vwCl gTbl ct_853 := ct2_cons (vl_678 l) ck_RX12_99_678 (ct2_cons (vl_852 l) ck_RX12_269_852 (ct2_cons (vl_652 l) ck_RX12_91_652 (ct2_nil)))
theorem vl_853 (l : Launch) : Vld2 l vwCl gTbl con_853 := conR_ok3 gT_all (hd_853) rfl pn_RX12 tk_X12_isSet bo_RX12 xo_RX12 (cto_853 l) ch_853 cut_nil
/-- RookHustingModel electsOf -/
noncomputable def ac_482 : AC := .inr (1, jl_n [js_1 53 5, jl_x (1, (0, 1, 0)), sp_129])
noncomputable def hc_90 : List AC := [ac_451, ac_482, am_8, am_5]
noncomputable def hq_475 : HP := [(false, ac_451), (false, ac_482), (false, am_8), (false, am_5)]
noncomputable def con_854 : Con2 := ((yX12_electsOf, cX12_electsOf, 4, (some .int)), (4, 98), ([(6, 0, 0), (0, 1, 0), (1, 2, 0)], gi_393, hc_90, []), [((1, 71, 0), gi_394, hq_475, [], [1])])
theorem hd_854 : con_854.1 = (yX12_electsOf, cX12_electsOf, 4, (some .int)) := rfl
noncomputable def cu_854 : List CUT2 := [((2, [lq 0 6 0, lq 1 0 1, lq 2 1 2, lq 3 0 1], [], gi_395, hq_475), [], ([], 1))]
theorem ch_854 : staG tb_X12_electsOf 1 bt_RX12 [] ct_793 [] [] cu_854 18 con_854 = true := by decide +kernel
theorem cc_854 : cu_854.all (cutG tb_X12_electsOf 1 bt_RX12 [] ct_793 [] [] cu_854 18 con_854) = true := by decide +kernel
theorem vl_854 (l : Launch) : Vld2 l vwCl gTbl con_854 := conR_ok3 gT_all (hd_854) rfl pn_RX12 tk_X12_electsOf bo_RX12 xo_RX12 (cto_793 l) ch_854 (cut_all cc_854)
/-- RookHustingModel electsOf -/
noncomputable def con_855 : Con2 := ((yX12_electsOf, cX12_electsOf, 4, (some .int)), (4, 98), ([(6, 0, 0), (0, 0, 0), (1, 2, 0)], gi_393, hc_90, []), [((1, 71, 0), gi_394, hq_475, [], [1])])
theorem hd_855 : con_855.1 = (yX12_electsOf, cX12_electsOf, 4, (some .int)) := rfl
noncomputable def cu_855 : List CUT2 := [((2, [lq 0 6 0, lq 1 0 0, lq 2 1 2, lq 3 0 0], [], gi_395, hq_475), [], ([], 0))]
theorem ch_855 : staG tb_X12_electsOf 1 bt_RX12 [] ct_795 [] [] cu_855 18 con_855 = true := by decide +kernel
theorem cc_855 : cu_855.all (cutG tb_X12_electsOf 1 bt_RX12 [] ct_795 [] [] cu_855 18 con_855) = true := by decide +kernel
theorem vl_855 (l : Launch) : Vld2 l vwCl gTbl con_855 := conR_ok3 gT_all (hd_855) rfl pn_RX12 tk_X12_electsOf bo_RX12 xo_RX12 (cto_795 l) ch_855 (cut_all cc_855)
/-- RookHustingModel men -/
noncomputable def ac_483 : AC := .inr (1, jl_n [js_1 51 5, jl_x (1, (0, 0, 0)), sp_127])
noncomputable def con_856 : Con2 := ((yX12_men, cX12_men, 1, (some .int)), (0, 0), ([(6, 0, 0)], gi_382, [ac_435, ac_483], []), [((0, 0, 0), gi_383, [(false, ac_435), (false, ac_483)], [], [1])])
theorem hd_856 : con_856.1 = (yX12_men, cX12_men, 1, (some .int)) := rfl
noncomputable def cu_856 : List CUT2 := []
theorem ch_856 : staG tb_X12_men 1 bt_RX12 [] ct_2 [] [] cu_856 7 con_856 = true := by decide +kernel
theorem vl_856 (l : Launch) : Vld2 l vwCl gTbl con_856 := conR_ok3 gT_all (hd_856) rfl pn_RX12 tk_X12_men bo_RX12 xo_RX12 (cto_2 l) ch_856 cut_nil
/-- RookHustingModel allMen -/
noncomputable def con_857 : Con2 := ((yX12_allMen, cX12_allMen, 1, (some .int)), (1, 20), ([(6, 0, 0)], gi_382, [ac_435, ac_483], []), [((0, 0, 0), gi_383, [(false, ac_435), (false, ac_483)], [], [1])])
theorem hd_857 : con_857.1 = (yX12_allMen, cX12_allMen, 1, (some .int)) := rfl
theorem ck_RX12_95_856 : COK2 RX12 vwCl gTbl 95 0 con_856 := ⟨wd_1672, wd_137, mh_X12_men, .inr (.inr ⟨rfl, wd_1669, wd_1671, wd_69, ⟨_, rfl, pd_X12_men⟩, 12, _, TX12, 45, rfl, rfl⟩)⟩
noncomputable def ct_857 : CTB2 := [(2, 95, 0, con_856, [0, 1])]
noncomputable def cu_857 : List CUT2 := []
theorem ch_857 : staG tb_X12_allMen 1 bt_RX12 [] ct_857 [] [] cu_857 9 con_857 = true := by decide +kernel
theorem cto_857 (l : Launch) : CTOK2 l RX12 vwCl gTbl ct_857 := ct2_cons (vl_856 l) ck_RX12_95_856 (ct2_nil)
theorem vl_857 (l : Launch) : Vld2 l vwCl gTbl con_857 := conR_ok3 gT_all (hd_857) rfl pn_RX12 tk_X12_allMen bo_RX12 xo_RX12 (cto_857 l) ch_857 cut_nil
/-- RookHustingModel in -/
noncomputable def con_858 : Con2 := ((yX12_in, cX12_in, 6, (some .boolean)), (0, 0), ([(4, 0, 0), (3, 0, 0), (3, 0, 0)], gi_145, [], []), [((0, 0, 0), gi_146, [], [], [1]), ((0, 1, 0), [(0, 0), (0, 0), (0, 0), (0, 0)], [], [], [1])])
theorem hd_858 : con_858.1 = (yX12_in, cX12_in, 6, (some .boolean)) := rfl
noncomputable def cu_858 : List CUT2 := []
theorem ch_858 : staG tb_X12_in 1 bt_RX12 [] ct_2 [] [] cu_858 11 con_858 = true := by decide +kernel
theorem vl_858 (l : Launch) : Vld2 l vwCl gTbl con_858 := conR_ok3 gT_all (hd_858) rfl pn_RX12 tk_X12_in bo_RX12 xo_RX12 (cto_2 l) ch_858 cut_nil
/-- RookHustingModel isSet -/
noncomputable def ac_484 : AC := .inr (1, jl_n [js_1 52 5, jl_x (1, (0, 0, 0)), sp_128])
noncomputable def gi_401 : GI := jl_n [jl_z 47, gp_215, gp_218]
noncomputable def con_859 : Con2 := ((yX12_isSet, cX12_isSet, 2, (some .boolean)), (2, 40), ([(6, 0, 0), (1, 1, 0)], gi_384, [ac_437, ac_484], []), [((0, 0, 0), gi_385, [(false, ac_437), (false, ac_484)], [], [1]), ((0, 1, 0), gi_401, [(false, ac_437), (false, ac_484)], [], [1])])
theorem hd_859 : con_859.1 = (yX12_isSet, cX12_isSet, 2, (some .boolean)) := rfl
theorem ck_RX12_91_858 : COK2 RX12 vwCl gTbl 91 1 con_858 := ⟨wd_1544, wd_137, mh_X12_in, .inl ⟨rfl, wd_1542, wd_1543, pd_X12_in⟩⟩
theorem ck_RX12_269_857 : COK2 RX12 vwCl gTbl 269 0 con_857 := ⟨wd_1708, wd_137, mh_X12_allMen, .inr (.inr ⟨rfl, wd_1705, wd_1707, wd_75, ⟨_, rfl, pd_X12_allMen⟩, 12, _, TX12, 45, rfl, rfl⟩)⟩
noncomputable def ct_859 : CTB2 := [(1, 99, 0, con_678, [0, 1]), (11, 269, 0, con_857, [0, 1]), (15, 91, 1, con_858, [])]
noncomputable def cu_859 : List CUT2 := []
theorem ch_859 : staG tb_X12_isSet 1 bt_RX12 [] ct_859 [] [] cu_859 16 con_859 = true := by decide +kernel
theorem cto_859 (l : Launch) : CTOK2 l RX12 vwCl gTbl ct_859 := ct2_cons (vl_678 l) ck_RX12_99_678 (ct2_cons (vl_857 l) ck_RX12_269_857 (ct2_cons (vl_858 l) ck_RX12_91_858 (ct2_nil)))
theorem vl_859 (l : Launch) : Vld2 l vwCl gTbl con_859 := conR_ok3 gT_all (hd_859) rfl pn_RX12 tk_X12_isSet bo_RX12 xo_RX12 (cto_859 l) ch_859 cut_nil
/-- RookHustingModel electsOf -/
noncomputable def ac_485 : AC := .inr (1, jl_n [js_1 53 5, jl_x (1, (0, 0, 0)), sp_129])
noncomputable def hc_91 : List AC := [ac_451, ac_485, am_8, am_5]
noncomputable def hq_476 : HP := [(false, ac_451), (false, ac_485), (false, am_8), (false, am_5)]
noncomputable def con_860 : Con2 := ((yX12_electsOf, cX12_electsOf, 4, (some .int)), (4, 98), ([(6, 0, 0), (0, 0, 0), (1, 2, 0)], gi_393, hc_91, []), [((1, 71, 0), gi_394, hq_476, [], [1])])
theorem hd_860 : con_860.1 = (yX12_electsOf, cX12_electsOf, 4, (some .int)) := rfl
noncomputable def cu_860 : List CUT2 := [((2, [lq 0 6 0, lq 1 0 0, lq 2 1 2, lq 3 0 0], [], gi_395, hq_476), [], ([], 0))]
theorem ch_860 : staG tb_X12_electsOf 1 bt_RX12 [] ct_795 [] [] cu_860 18 con_860 = true := by decide +kernel
theorem cc_860 : cu_860.all (cutG tb_X12_electsOf 1 bt_RX12 [] ct_795 [] [] cu_860 18 con_860) = true := by decide +kernel
theorem vl_860 (l : Launch) : Vld2 l vwCl gTbl con_860 := conR_ok3 gT_all (hd_860) rfl pn_RX12 tk_X12_electsOf bo_RX12 xo_RX12 (cto_795 l) ch_860 (cut_all cc_860)
/-- RookHustingModel elects -/
noncomputable def gi_402 : GI := jl_n [gp_163, gp_189, jl_m 1 4, jl_z 45]
noncomputable def ac_486 : AC := .inl (12, jl_n [vp_47, vp_46, jl_8 48 27])
noncomputable def hq_477 : HP := [(true, ac_486), (false, ac_440), (true, am_8), (true, am_5)]
noncomputable def con_861 : Con2 := ((yX12_elects, cX12_elects, 3, (some .int)), (5, 121), ([(6, 0, 0), (1, 1, 0), (1, 2, 0)], gi_334, hc_74, []), [((1, 71, 0), gi_402, hq_477, [], tg_1)])
theorem hd_861 : con_861.1 = (yX12_elects, cX12_elects, 3, (some .int)) := rfl
theorem ck_RX12_277_860 : COK2 RX12 vwCl gTbl 277 0 con_860 := ⟨wd_1728, wd_137, mh_X12_electsOf, .inr (.inr ⟨rfl, wd_1725, wd_1727, wd_78, ⟨_, rfl, pd_X12_electsOf⟩, 12, _, TX12, 45, rfl, rfl⟩)⟩
theorem ck_RX12_277_855 : COK2 RX12 vwCl gTbl 277 0 con_855 := ⟨wd_1728, wd_137, mh_X12_electsOf, .inr (.inr ⟨rfl, wd_1725, wd_1727, wd_78, ⟨_, rfl, pd_X12_electsOf⟩, 12, _, TX12, 45, rfl, rfl⟩)⟩
theorem ck_RX12_277_854 : COK2 RX12 vwCl gTbl 277 0 con_854 := ⟨wd_1728, wd_137, mh_X12_electsOf, .inr (.inr ⟨rfl, wd_1725, wd_1727, wd_78, ⟨_, rfl, pd_X12_electsOf⟩, 12, _, TX12, 45, rfl, rfl⟩)⟩
theorem ck_RX12_277_850 : COK2 RX12 vwCl gTbl 277 0 con_850 := ⟨wd_1728, wd_137, mh_X12_electsOf, .inr (.inr ⟨rfl, wd_1725, wd_1727, wd_78, ⟨_, rfl, pd_X12_electsOf⟩, 12, _, TX12, 45, rfl, rfl⟩)⟩
theorem ck_RX12_277_849 : COK2 RX12 vwCl gTbl 277 0 con_849 := ⟨wd_1728, wd_137, mh_X12_electsOf, .inr (.inr ⟨rfl, wd_1725, wd_1727, wd_78, ⟨_, rfl, pd_X12_electsOf⟩, 12, _, TX12, 45, rfl, rfl⟩)⟩
theorem ck_RX12_277_848 : COK2 RX12 vwCl gTbl 277 0 con_848 := ⟨wd_1728, wd_137, mh_X12_electsOf, .inr (.inr ⟨rfl, wd_1725, wd_1727, wd_78, ⟨_, rfl, pd_X12_electsOf⟩, 12, _, TX12, 45, rfl, rfl⟩)⟩
theorem ck_RX12_277_847 : COK2 RX12 vwCl gTbl 277 0 con_847 := ⟨wd_1728, wd_137, mh_X12_electsOf, .inr (.inr ⟨rfl, wd_1725, wd_1727, wd_78, ⟨_, rfl, pd_X12_electsOf⟩, 12, _, TX12, 45, rfl, rfl⟩)⟩
theorem ck_RX12_277_842 : COK2 RX12 vwCl gTbl 277 0 con_842 := ⟨wd_1728, wd_137, mh_X12_electsOf, .inr (.inr ⟨rfl, wd_1725, wd_1727, wd_78, ⟨_, rfl, pd_X12_electsOf⟩, 12, _, TX12, 45, rfl, rfl⟩)⟩
theorem ck_RX12_277_841 : COK2 RX12 vwCl gTbl 277 0 con_841 := ⟨wd_1728, wd_137, mh_X12_electsOf, .inr (.inr ⟨rfl, wd_1725, wd_1727, wd_78, ⟨_, rfl, pd_X12_electsOf⟩, 12, _, TX12, 45, rfl, rfl⟩)⟩
theorem ck_RX12_277_840 : COK2 RX12 vwCl gTbl 277 0 con_840 := ⟨wd_1728, wd_137, mh_X12_electsOf, .inr (.inr ⟨rfl, wd_1725, wd_1727, wd_78, ⟨_, rfl, pd_X12_electsOf⟩, 12, _, TX12, 45, rfl, rfl⟩)⟩
theorem ck_RX12_277_839 : COK2 RX12 vwCl gTbl 277 0 con_839 := ⟨wd_1728, wd_137, mh_X12_electsOf, .inr (.inr ⟨rfl, wd_1725, wd_1727, wd_78, ⟨_, rfl, pd_X12_electsOf⟩, 12, _, TX12, 45, rfl, rfl⟩)⟩
theorem ck_RX12_277_838 : COK2 RX12 vwCl gTbl 277 0 con_838 := ⟨wd_1728, wd_137, mh_X12_electsOf, .inr (.inr ⟨rfl, wd_1725, wd_1727, wd_78, ⟨_, rfl, pd_X12_electsOf⟩, 12, _, TX12, 45, rfl, rfl⟩)⟩
theorem ck_RX12_277_837 : COK2 RX12 vwCl gTbl 277 0 con_837 := ⟨wd_1728, wd_137, mh_X12_electsOf, .inr (.inr ⟨rfl, wd_1725, wd_1727, wd_78, ⟨_, rfl, pd_X12_electsOf⟩, 12, _, TX12, 45, rfl, rfl⟩)⟩
theorem ck_RX12_277_836 : COK2 RX12 vwCl gTbl 277 0 con_836 := ⟨wd_1728, wd_137, mh_X12_electsOf, .inr (.inr ⟨rfl, wd_1725, wd_1727, wd_78, ⟨_, rfl, pd_X12_electsOf⟩, 12, _, TX12, 45, rfl, rfl⟩)⟩
theorem ck_RX12_277_835 : COK2 RX12 vwCl gTbl 277 0 con_835 := ⟨wd_1728, wd_137, mh_X12_electsOf, .inr (.inr ⟨rfl, wd_1725, wd_1727, wd_78, ⟨_, rfl, pd_X12_electsOf⟩, 12, _, TX12, 45, rfl, rfl⟩)⟩
theorem ck_RX12_277_826 : COK2 RX12 vwCl gTbl 277 0 con_826 := ⟨wd_1728, wd_137, mh_X12_electsOf, .inr (.inr ⟨rfl, wd_1725, wd_1727, wd_78, ⟨_, rfl, pd_X12_electsOf⟩, 12, _, TX12, 45, rfl, rfl⟩)⟩
theorem ck_RX12_277_825 : COK2 RX12 vwCl gTbl 277 0 con_825 := ⟨wd_1728, wd_137, mh_X12_electsOf, .inr (.inr ⟨rfl, wd_1725, wd_1727, wd_78, ⟨_, rfl, pd_X12_electsOf⟩, 12, _, TX12, 45, rfl, rfl⟩)⟩
theorem ck_RX12_277_824 : COK2 RX12 vwCl gTbl 277 0 con_824 := ⟨wd_1728, wd_137, mh_X12_electsOf, .inr (.inr ⟨rfl, wd_1725, wd_1727, wd_78, ⟨_, rfl, pd_X12_electsOf⟩, 12, _, TX12, 45, rfl, rfl⟩)⟩
theorem ck_RX12_277_823 : COK2 RX12 vwCl gTbl 277 0 con_823 := ⟨wd_1728, wd_137, mh_X12_electsOf, .inr (.inr ⟨rfl, wd_1725, wd_1727, wd_78, ⟨_, rfl, pd_X12_electsOf⟩, 12, _, TX12, 45, rfl, rfl⟩)⟩
theorem ck_RX12_277_822 : COK2 RX12 vwCl gTbl 277 0 con_822 := ⟨wd_1728, wd_137, mh_X12_electsOf, .inr (.inr ⟨rfl, wd_1725, wd_1727, wd_78, ⟨_, rfl, pd_X12_electsOf⟩, 12, _, TX12, 45, rfl, rfl⟩)⟩
theorem ck_RX12_277_821 : COK2 RX12 vwCl gTbl 277 0 con_821 := ⟨wd_1728, wd_137, mh_X12_electsOf, .inr (.inr ⟨rfl, wd_1725, wd_1727, wd_78, ⟨_, rfl, pd_X12_electsOf⟩, 12, _, TX12, 45, rfl, rfl⟩)⟩
theorem ck_RX12_277_820 : COK2 RX12 vwCl gTbl 277 0 con_820 := ⟨wd_1728, wd_137, mh_X12_electsOf, .inr (.inr ⟨rfl, wd_1725, wd_1727, wd_78, ⟨_, rfl, pd_X12_electsOf⟩, 12, _, TX12, 45, rfl, rfl⟩)⟩
theorem ck_RX12_277_819 : COK2 RX12 vwCl gTbl 277 0 con_819 := ⟨wd_1728, wd_137, mh_X12_electsOf, .inr (.inr ⟨rfl, wd_1725, wd_1727, wd_78, ⟨_, rfl, pd_X12_electsOf⟩, 12, _, TX12, 45, rfl, rfl⟩)⟩
theorem ck_RX12_277_818 : COK2 RX12 vwCl gTbl 277 0 con_818 := ⟨wd_1728, wd_137, mh_X12_electsOf, .inr (.inr ⟨rfl, wd_1725, wd_1727, wd_78, ⟨_, rfl, pd_X12_electsOf⟩, 12, _, TX12, 45, rfl, rfl⟩)⟩
theorem ck_RX12_277_817 : COK2 RX12 vwCl gTbl 277 0 con_817 := ⟨wd_1728, wd_137, mh_X12_electsOf, .inr (.inr ⟨rfl, wd_1725, wd_1727, wd_78, ⟨_, rfl, pd_X12_electsOf⟩, 12, _, TX12, 45, rfl, rfl⟩)⟩
theorem ck_RX12_277_816 : COK2 RX12 vwCl gTbl 277 0 con_816 := ⟨wd_1728, wd_137, mh_X12_electsOf, .inr (.inr ⟨rfl, wd_1725, wd_1727, wd_78, ⟨_, rfl, pd_X12_electsOf⟩, 12, _, TX12, 45, rfl, rfl⟩)⟩
theorem ck_RX12_277_815 : COK2 RX12 vwCl gTbl 277 0 con_815 := ⟨wd_1728, wd_137, mh_X12_electsOf, .inr (.inr ⟨rfl, wd_1725, wd_1727, wd_78, ⟨_, rfl, pd_X12_electsOf⟩, 12, _, TX12, 45, rfl, rfl⟩)⟩
theorem ck_RX12_277_814 : COK2 RX12 vwCl gTbl 277 0 con_814 := ⟨wd_1728, wd_137, mh_X12_electsOf, .inr (.inr ⟨rfl, wd_1725, wd_1727, wd_78, ⟨_, rfl, pd_X12_electsOf⟩, 12, _, TX12, 45, rfl, rfl⟩)⟩
theorem ck_RX12_277_813 : COK2 RX12 vwCl gTbl 277 0 con_813 := ⟨wd_1728, wd_137, mh_X12_electsOf, .inr (.inr ⟨rfl, wd_1725, wd_1727, wd_78, ⟨_, rfl, pd_X12_electsOf⟩, 12, _, TX12, 45, rfl, rfl⟩)⟩
theorem ck_RX12_277_812 : COK2 RX12 vwCl gTbl 277 0 con_812 := ⟨wd_1728, wd_137, mh_X12_electsOf, .inr (.inr ⟨rfl, wd_1725, wd_1727, wd_78, ⟨_, rfl, pd_X12_electsOf⟩, 12, _, TX12, 45, rfl, rfl⟩)⟩
theorem ck_RX12_277_811 : COK2 RX12 vwCl gTbl 277 0 con_811 := ⟨wd_1728, wd_137, mh_X12_electsOf, .inr (.inr ⟨rfl, wd_1725, wd_1727, wd_78, ⟨_, rfl, pd_X12_electsOf⟩, 12, _, TX12, 45, rfl, rfl⟩)⟩
theorem ck_RX12_277_795 : COK2 RX12 vwCl gTbl 277 0 con_795 := ⟨wd_1728, wd_137, mh_X12_electsOf, .inr (.inr ⟨rfl, wd_1725, wd_1727, wd_78, ⟨_, rfl, pd_X12_electsOf⟩, 12, _, TX12, 45, rfl, rfl⟩)⟩
theorem ck_RX12_277_793 : COK2 RX12 vwCl gTbl 277 0 con_793 := ⟨wd_1728, wd_137, mh_X12_electsOf, .inr (.inr ⟨rfl, wd_1725, wd_1727, wd_78, ⟨_, rfl, pd_X12_electsOf⟩, 12, _, TX12, 45, rfl, rfl⟩)⟩
theorem ck_RX12_277_792 : COK2 RX12 vwCl gTbl 277 0 con_792 := ⟨wd_1728, wd_137, mh_X12_electsOf, .inr (.inr ⟨rfl, wd_1725, wd_1727, wd_78, ⟨_, rfl, pd_X12_electsOf⟩, 12, _, TX12, 45, rfl, rfl⟩)⟩
theorem ck_RX12_277_791 : COK2 RX12 vwCl gTbl 277 0 con_791 := ⟨wd_1728, wd_137, mh_X12_electsOf, .inr (.inr ⟨rfl, wd_1725, wd_1727, wd_78, ⟨_, rfl, pd_X12_electsOf⟩, 12, _, TX12, 45, rfl, rfl⟩)⟩
theorem ck_RX12_277_790 : COK2 RX12 vwCl gTbl 277 0 con_790 := ⟨wd_1728, wd_137, mh_X12_electsOf, .inr (.inr ⟨rfl, wd_1725, wd_1727, wd_78, ⟨_, rfl, pd_X12_electsOf⟩, 12, _, TX12, 45, rfl, rfl⟩)⟩
theorem ck_RX12_277_789 : COK2 RX12 vwCl gTbl 277 0 con_789 := ⟨wd_1728, wd_137, mh_X12_electsOf, .inr (.inr ⟨rfl, wd_1725, wd_1727, wd_78, ⟨_, rfl, pd_X12_electsOf⟩, 12, _, TX12, 45, rfl, rfl⟩)⟩
theorem ck_RX12_277_788 : COK2 RX12 vwCl gTbl 277 0 con_788 := ⟨wd_1728, wd_137, mh_X12_electsOf, .inr (.inr ⟨rfl, wd_1725, wd_1727, wd_78, ⟨_, rfl, pd_X12_electsOf⟩, 12, _, TX12, 45, rfl, rfl⟩)⟩
theorem ck_RX12_277_787 : COK2 RX12 vwCl gTbl 277 0 con_787 := ⟨wd_1728, wd_137, mh_X12_electsOf, .inr (.inr ⟨rfl, wd_1725, wd_1727, wd_78, ⟨_, rfl, pd_X12_electsOf⟩, 12, _, TX12, 45, rfl, rfl⟩)⟩
theorem ck_RX12_277_786 : COK2 RX12 vwCl gTbl 277 0 con_786 := ⟨wd_1728, wd_137, mh_X12_electsOf, .inr (.inr ⟨rfl, wd_1725, wd_1727, wd_78, ⟨_, rfl, pd_X12_electsOf⟩, 12, _, TX12, 45, rfl, rfl⟩)⟩
theorem ck_RX12_277_785 : COK2 RX12 vwCl gTbl 277 0 con_785 := ⟨wd_1728, wd_137, mh_X12_electsOf, .inr (.inr ⟨rfl, wd_1725, wd_1727, wd_78, ⟨_, rfl, pd_X12_electsOf⟩, 12, _, TX12, 45, rfl, rfl⟩)⟩
theorem ck_RX12_277_784 : COK2 RX12 vwCl gTbl 277 0 con_784 := ⟨wd_1728, wd_137, mh_X12_electsOf, .inr (.inr ⟨rfl, wd_1725, wd_1727, wd_78, ⟨_, rfl, pd_X12_electsOf⟩, 12, _, TX12, 45, rfl, rfl⟩)⟩
theorem ck_RX12_277_783 : COK2 RX12 vwCl gTbl 277 0 con_783 := ⟨wd_1728, wd_137, mh_X12_electsOf, .inr (.inr ⟨rfl, wd_1725, wd_1727, wd_78, ⟨_, rfl, pd_X12_electsOf⟩, 12, _, TX12, 45, rfl, rfl⟩)⟩
theorem ck_RX12_277_782 : COK2 RX12 vwCl gTbl 277 0 con_782 := ⟨wd_1728, wd_137, mh_X12_electsOf, .inr (.inr ⟨rfl, wd_1725, wd_1727, wd_78, ⟨_, rfl, pd_X12_electsOf⟩, 12, _, TX12, 45, rfl, rfl⟩)⟩
theorem ck_RX12_277_781 : COK2 RX12 vwCl gTbl 277 0 con_781 := ⟨wd_1728, wd_137, mh_X12_electsOf, .inr (.inr ⟨rfl, wd_1725, wd_1727, wd_78, ⟨_, rfl, pd_X12_electsOf⟩, 12, _, TX12, 45, rfl, rfl⟩)⟩
theorem ck_RX12_277_780 : COK2 RX12 vwCl gTbl 277 0 con_780 := ⟨wd_1728, wd_137, mh_X12_electsOf, .inr (.inr ⟨rfl, wd_1725, wd_1727, wd_78, ⟨_, rfl, pd_X12_electsOf⟩, 12, _, TX12, 45, rfl, rfl⟩)⟩
theorem ck_RX12_277_779 : COK2 RX12 vwCl gTbl 277 0 con_779 := ⟨wd_1728, wd_137, mh_X12_electsOf, .inr (.inr ⟨rfl, wd_1725, wd_1727, wd_78, ⟨_, rfl, pd_X12_electsOf⟩, 12, _, TX12, 45, rfl, rfl⟩)⟩
theorem ck_RX12_277_778 : COK2 RX12 vwCl gTbl 277 0 con_778 := ⟨wd_1728, wd_137, mh_X12_electsOf, .inr (.inr ⟨rfl, wd_1725, wd_1727, wd_78, ⟨_, rfl, pd_X12_electsOf⟩, 12, _, TX12, 45, rfl, rfl⟩)⟩
theorem ck_RX12_277_777 : COK2 RX12 vwCl gTbl 277 0 con_777 := ⟨wd_1728, wd_137, mh_X12_electsOf, .inr (.inr ⟨rfl, wd_1725, wd_1727, wd_78, ⟨_, rfl, pd_X12_electsOf⟩, 12, _, TX12, 45, rfl, rfl⟩)⟩
theorem ck_RX12_277_776 : COK2 RX12 vwCl gTbl 277 0 con_776 := ⟨wd_1728, wd_137, mh_X12_electsOf, .inr (.inr ⟨rfl, wd_1725, wd_1727, wd_78, ⟨_, rfl, pd_X12_electsOf⟩, 12, _, TX12, 45, rfl, rfl⟩)⟩
theorem ck_RX12_277_775 : COK2 RX12 vwCl gTbl 277 0 con_775 := ⟨wd_1728, wd_137, mh_X12_electsOf, .inr (.inr ⟨rfl, wd_1725, wd_1727, wd_78, ⟨_, rfl, pd_X12_electsOf⟩, 12, _, TX12, 45, rfl, rfl⟩)⟩
theorem ck_RX12_277_774 : COK2 RX12 vwCl gTbl 277 0 con_774 := ⟨wd_1728, wd_137, mh_X12_electsOf, .inr (.inr ⟨rfl, wd_1725, wd_1727, wd_78, ⟨_, rfl, pd_X12_electsOf⟩, 12, _, TX12, 45, rfl, rfl⟩)⟩
theorem ck_RX12_277_773 : COK2 RX12 vwCl gTbl 277 0 con_773 := ⟨wd_1728, wd_137, mh_X12_electsOf, .inr (.inr ⟨rfl, wd_1725, wd_1727, wd_78, ⟨_, rfl, pd_X12_electsOf⟩, 12, _, TX12, 45, rfl, rfl⟩)⟩
theorem ck_RX12_277_772 : COK2 RX12 vwCl gTbl 277 0 con_772 := ⟨wd_1728, wd_137, mh_X12_electsOf, .inr (.inr ⟨rfl, wd_1725, wd_1727, wd_78, ⟨_, rfl, pd_X12_electsOf⟩, 12, _, TX12, 45, rfl, rfl⟩)⟩
theorem ck_RX12_277_771 : COK2 RX12 vwCl gTbl 277 0 con_771 := ⟨wd_1728, wd_137, mh_X12_electsOf, .inr (.inr ⟨rfl, wd_1725, wd_1727, wd_78, ⟨_, rfl, pd_X12_electsOf⟩, 12, _, TX12, 45, rfl, rfl⟩)⟩
theorem ck_RX12_277_770 : COK2 RX12 vwCl gTbl 277 0 con_770 := ⟨wd_1728, wd_137, mh_X12_electsOf, .inr (.inr ⟨rfl, wd_1725, wd_1727, wd_78, ⟨_, rfl, pd_X12_electsOf⟩, 12, _, TX12, 45, rfl, rfl⟩)⟩
theorem ck_RX12_277_769 : COK2 RX12 vwCl gTbl 277 0 con_769 := ⟨wd_1728, wd_137, mh_X12_electsOf, .inr (.inr ⟨rfl, wd_1725, wd_1727, wd_78, ⟨_, rfl, pd_X12_electsOf⟩, 12, _, TX12, 45, rfl, rfl⟩)⟩
theorem ck_RX12_277_768 : COK2 RX12 vwCl gTbl 277 0 con_768 := ⟨wd_1728, wd_137, mh_X12_electsOf, .inr (.inr ⟨rfl, wd_1725, wd_1727, wd_78, ⟨_, rfl, pd_X12_electsOf⟩, 12, _, TX12, 45, rfl, rfl⟩)⟩
theorem ck_RX12_277_767 : COK2 RX12 vwCl gTbl 277 0 con_767 := ⟨wd_1728, wd_137, mh_X12_electsOf, .inr (.inr ⟨rfl, wd_1725, wd_1727, wd_78, ⟨_, rfl, pd_X12_electsOf⟩, 12, _, TX12, 45, rfl, rfl⟩)⟩
theorem ck_RX12_277_766 : COK2 RX12 vwCl gTbl 277 0 con_766 := ⟨wd_1728, wd_137, mh_X12_electsOf, .inr (.inr ⟨rfl, wd_1725, wd_1727, wd_78, ⟨_, rfl, pd_X12_electsOf⟩, 12, _, TX12, 45, rfl, rfl⟩)⟩
theorem ck_RX12_277_765 : COK2 RX12 vwCl gTbl 277 0 con_765 := ⟨wd_1728, wd_137, mh_X12_electsOf, .inr (.inr ⟨rfl, wd_1725, wd_1727, wd_78, ⟨_, rfl, pd_X12_electsOf⟩, 12, _, TX12, 45, rfl, rfl⟩)⟩
theorem ck_RX12_277_764 : COK2 RX12 vwCl gTbl 277 0 con_764 := ⟨wd_1728, wd_137, mh_X12_electsOf, .inr (.inr ⟨rfl, wd_1725, wd_1727, wd_78, ⟨_, rfl, pd_X12_electsOf⟩, 12, _, TX12, 45, rfl, rfl⟩)⟩
theorem ck_RX12_277_763 : COK2 RX12 vwCl gTbl 277 0 con_763 := ⟨wd_1728, wd_137, mh_X12_electsOf, .inr (.inr ⟨rfl, wd_1725, wd_1727, wd_78, ⟨_, rfl, pd_X12_electsOf⟩, 12, _, TX12, 45, rfl, rfl⟩)⟩
theorem ck_RX12_272_859 : COK2 RX12 vwCl gTbl 272 0 con_859 := ⟨wd_1700, wd_137, mh_X12_isSet, .inr (.inr ⟨rfl, wd_1697, wd_1699, wd_73, ⟨_, rfl, pd_X12_isSet⟩, 12, _, TX12, 45, rfl, rfl⟩)⟩
theorem ck_RX12_272_853 : COK2 RX12 vwCl gTbl 272 0 con_853 := ⟨wd_1700, wd_137, mh_X12_isSet, .inr (.inr ⟨rfl, wd_1697, wd_1699, wd_73, ⟨_, rfl, pd_X12_isSet⟩, 12, _, TX12, 45, rfl, rfl⟩)⟩
theorem ck_RX12_272_845 : COK2 RX12 vwCl gTbl 272 0 con_845 := ⟨wd_1700, wd_137, mh_X12_isSet, .inr (.inr ⟨rfl, wd_1697, wd_1699, wd_73, ⟨_, rfl, pd_X12_isSet⟩, 12, _, TX12, 45, rfl, rfl⟩)⟩
theorem ck_RX12_272_830 : COK2 RX12 vwCl gTbl 272 0 con_830 := ⟨wd_1700, wd_137, mh_X12_isSet, .inr (.inr ⟨rfl, wd_1697, wd_1699, wd_73, ⟨_, rfl, pd_X12_isSet⟩, 12, _, TX12, 45, rfl, rfl⟩)⟩
theorem ck_RX12_272_799 : COK2 RX12 vwCl gTbl 272 0 con_799 := ⟨wd_1700, wd_137, mh_X12_isSet, .inr (.inr ⟨rfl, wd_1697, wd_1699, wd_73, ⟨_, rfl, pd_X12_isSet⟩, 12, _, TX12, 45, rfl, rfl⟩)⟩
theorem ck_RX12_272_704 : COK2 RX12 vwCl gTbl 272 0 con_704 := ⟨wd_1700, wd_137, mh_X12_isSet, .inr (.inr ⟨rfl, wd_1697, wd_1699, wd_73, ⟨_, rfl, pd_X12_isSet⟩, 12, _, TX12, 45, rfl, rfl⟩)⟩
noncomputable def ct_861 : CTB2 := [(1, 249, 0, con_669, [0, 1, 2, 3]), (6, 272, 0, con_704, [0, 1]), (6, 272, 0, con_799, [0, 1]), (6, 272, 0, con_830, [0, 1]), (6, 272, 0, con_845, [0, 1]), (6, 272, 0, con_853, [0, 1]), (6, 272, 0, con_859, [0, 1]), (18, 91, 1, con_336, []), (27, 277, 0, con_763, [0, 1, 2, 3]), (27, 277, 0, con_764, [0, 1, 2, 3]), (27, 277, 0, con_765, [0, 1, 2, 3]), (27, 277, 0, con_766, [0, 1, 2, 3]), (27, 277, 0, con_767, [0, 1, 2, 3]), (27, 277, 0, con_768, [0, 1, 2, 3]), (27, 277, 0, con_769, [0, 1, 2, 3]), (27, 277, 0, con_770, [0, 1, 2, 3]), (27, 277, 0, con_771, [0, 1, 2, 3]), (27, 277, 0, con_772, [0, 1, 2, 3]), (27, 277, 0, con_773, [0, 1, 2, 3]), (27, 277, 0, con_774, [0, 1, 2, 3]), (27, 277, 0, con_775, [0, 1, 2, 3]), (27, 277, 0, con_776, [0, 1, 2, 3]), (27, 277, 0, con_777, [0, 1, 2, 3]), (27, 277, 0, con_778, [0, 1, 2, 3]), (27, 277, 0, con_779, [0, 1, 2, 3]), (27, 277, 0, con_780, [0, 1, 2, 3]), (27, 277, 0, con_781, [0, 1, 2, 3]), (27, 277, 0, con_782, [0, 1, 2, 3]), (27, 277, 0, con_783, [0, 1, 2, 3]), (27, 277, 0, con_784, [0, 1, 2, 3]), (27, 277, 0, con_785, [0, 1, 2, 3]), (27, 277, 0, con_786, [0, 1, 2, 3]), (27, 277, 0, con_787, [0, 1, 2, 3]), (27, 277, 0, con_788, [0, 1, 2, 3]), (27, 277, 0, con_789, [0, 1, 2, 3]), (27, 277, 0, con_790, [0, 1, 2, 3]), (27, 277, 0, con_791, [0, 1, 2, 3]), (27, 277, 0, con_792, [0, 1, 2, 3]), (27, 277, 0, con_793, [0, 1, 2, 3]), (27, 277, 0, con_795, [0, 1, 2, 3]), (27, 277, 0, con_811, [0, 1, 2, 3]), (27, 277, 0, con_812, [0, 1, 2, 3]), (27, 277, 0, con_813, [0, 1, 2, 3]), (27, 277, 0, con_814, [0, 1, 2, 3]), (27, 277, 0, con_815, [0, 1, 2, 3]), (27, 277, 0, con_816, [0, 1, 2, 3]), (27, 277, 0, con_817, [0, 1, 2, 3]), (27, 277, 0, con_818, [0, 1, 2, 3]), (27, 277, 0, con_819, [0, 1, 2, 3]), (27, 277, 0, con_820, [0, 1, 2, 3]), (27, 277, 0, con_821, [0, 1, 2, 3]), (27, 277, 0, con_822, [0, 1, 2, 3]), (27, 277, 0, con_823, [0, 1, 2, 3]), (27, 277, 0, con_824, [0, 1, 2, 3]), (27, 277, 0, con_825, [0, 1, 2, 3]), (27, 277, 0, con_826, [0, 1, 2, 3]), (27, 277, 0, con_835, [0, 1, 2, 3]), (27, 277, 0, con_836, [0, 1, 2, 3]), (27, 277, 0, con_837, [0, 1, 2, 3]), (27, 277, 0, con_838, [0, 1, 2, 3]), (27, 277, 0, con_839, [0, 1, 2, 3]), (27, 277, 0, con_840, [0, 1, 2, 3]), (27, 277, 0, con_841, [0, 1, 2, 3]), (27, 277, 0, con_842, [0, 1, 2, 3]), (27, 277, 0, con_847, [0, 1, 2, 3]), (27, 277, 0, con_848, [0, 1, 2, 3]), (27, 277, 0, con_849, [0, 1, 2, 3]), (27, 277, 0, con_850, [0, 1, 2, 3]), (27, 277, 0, con_854, [0, 1, 2, 3]), (27, 277, 0, con_855, [0, 1, 2, 3]), (27, 277, 0, con_860, [0, 1, 2, 3])]
noncomputable def rf_861 : List (Nat × List POP) := [(4, [(1, (2, 1, 5), 0, 0)]), (24, [(1, (1, 1, 0), 0, 0)])]
noncomputable def cu_861 : List CUT2 := []
theorem ch_861 : staG tb_X12_elects 1 bt_RX12 [] ct_861 rf_861 [] cu_861 20 con_861 = true := by decide +kernel
theorem cto_861 (l : Launch) : CTOK2 l RX12 vwCl gTbl ct_861 := ct2_cons (vl_669 l) ck_RX12_249_669 (ct2_cons (vl_704 l) ck_RX12_272_704 (ct2_cons (vl_799 l) ck_RX12_272_799 (ct2_cons (vl_830 l) ck_RX12_272_830 (ct2_cons (vl_845 l) ck_RX12_272_845 (ct2_cons (vl_853 l) ck_RX12_272_853 (ct2_cons (vl_859 l) ck_RX12_272_859 (ct2_cons (vl_336 l) ck_RX12_91_336 (ct2_cons (vl_763 l) ck_RX12_277_763 (ct2_cons (vl_764 l) ck_RX12_277_764 (ct2_cons (vl_765 l) ck_RX12_277_765 (ct2_cons (vl_766 l) ck_RX12_277_766 (ct2_cons (vl_767 l) ck_RX12_277_767 (ct2_cons (vl_768 l) ck_RX12_277_768 (ct2_cons (vl_769 l) ck_RX12_277_769 (ct2_cons (vl_770 l) ck_RX12_277_770 (ct2_cons (vl_771 l) ck_RX12_277_771 (ct2_cons (vl_772 l) ck_RX12_277_772 (ct2_cons (vl_773 l) ck_RX12_277_773 (ct2_cons (vl_774 l) ck_RX12_277_774 (ct2_cons (vl_775 l) ck_RX12_277_775 (ct2_cons (vl_776 l) ck_RX12_277_776 (ct2_cons (vl_777 l) ck_RX12_277_777 (ct2_cons (vl_778 l) ck_RX12_277_778 (ct2_cons (vl_779 l) ck_RX12_277_779 (ct2_cons (vl_780 l) ck_RX12_277_780 (ct2_cons (vl_781 l) ck_RX12_277_781 (ct2_cons (vl_782 l) ck_RX12_277_782 (ct2_cons (vl_783 l) ck_RX12_277_783 (ct2_cons (vl_784 l) ck_RX12_277_784 (ct2_cons (vl_785 l) ck_RX12_277_785 (ct2_cons (vl_786 l) ck_RX12_277_786 (ct2_cons (vl_787 l) ck_RX12_277_787 (ct2_cons (vl_788 l) ck_RX12_277_788 (ct2_cons (vl_789 l) ck_RX12_277_789 (ct2_cons (vl_790 l) ck_RX12_277_790 (ct2_cons (vl_791 l) ck_RX12_277_791 (ct2_cons (vl_792 l) ck_RX12_277_792 (ct2_cons (vl_793 l) ck_RX12_277_793 (ct2_cons (vl_795 l) ck_RX12_277_795 (ct2_cons (vl_811 l) ck_RX12_277_811 (ct2_cons (vl_812 l) ck_RX12_277_812 (ct2_cons (vl_813 l) ck_RX12_277_813 (ct2_cons (vl_814 l) ck_RX12_277_814 (ct2_cons (vl_815 l) ck_RX12_277_815 (ct2_cons (vl_816 l) ck_RX12_277_816 (ct2_cons (vl_817 l) ck_RX12_277_817 (ct2_cons (vl_818 l) ck_RX12_277_818 (ct2_cons (vl_819 l) ck_RX12_277_819 (ct2_cons (vl_820 l) ck_RX12_277_820 (ct2_cons (vl_821 l) ck_RX12_277_821 (ct2_cons (vl_822 l) ck_RX12_277_822 (ct2_cons (vl_823 l) ck_RX12_277_823 (ct2_cons (vl_824 l) ck_RX12_277_824 (ct2_cons (vl_825 l) ck_RX12_277_825 (ct2_cons (vl_826 l) ck_RX12_277_826 (ct2_cons (vl_835 l) ck_RX12_277_835 (ct2_cons (vl_836 l) ck_RX12_277_836 (ct2_cons (vl_837 l) ck_RX12_277_837 (ct2_cons (vl_838 l) ck_RX12_277_838 (ct2_cons (vl_839 l) ck_RX12_277_839 (ct2_cons (vl_840 l) ck_RX12_277_840 (ct2_cons (vl_841 l) ck_RX12_277_841 (ct2_cons (vl_842 l) ck_RX12_277_842 (ct2_cons (vl_847 l) ck_RX12_277_847 (ct2_cons (vl_848 l) ck_RX12_277_848 (ct2_cons (vl_849 l) ck_RX12_277_849 (ct2_cons (vl_850 l) ck_RX12_277_850 (ct2_cons (vl_854 l) ck_RX12_277_854 (ct2_cons (vl_855 l) ck_RX12_277_855 (ct2_cons (vl_860 l) ck_RX12_277_860 (ct2_nil)))))))))))))))))))))))))))))))))))))))))))))))))))))))))))))))))))))))
theorem vl_861 (l : Launch) : Vld2 l vwCl gTbl con_861 := conR_ok3 gT_all (hd_861) rfl pn_RX12 tk_X12_elects bo_RX12 xo_RX12 (cto_861 l) ch_861 cut_nil
/-- RookHusting$Election allMen -/
noncomputable def gi_403 : GI := jl_n [gp_226]
noncomputable def ac_487 : AC := .inl (4, jl_n [jl_8 9 6, jl_1 10 1, jl_8 20 10])
noncomputable def gi_404 : GI := jl_n [gp_226, jl_i 0 31]
noncomputable def hq_478 : HP := [(false, .inl (1, [(6, 1, 0), (8, 2, 0)])), (false, ac_487)]
noncomputable def con_862 : Con2 := ((yX1_allMen, cX1_allMen, 1, (some .int)), (0, 0), ([(6, 0, 0)], gi_403, [.inl (1, [(6, 1, 0), (8, 2, 0)]), ac_487], []), [((1, 20, 0), gi_404, hq_478, [], [1])])
theorem hd_862 : con_862.1 = (yX1_allMen, cX1_allMen, 1, (some .int)) := rfl
noncomputable def ct_862 : CTB2 := []
noncomputable def cu_862 : List CUT2 := []
theorem ch_862 : staG tb_X1_allMen 1 bt_RX1 [] ct_862 [] [] cu_862 10 con_862 = true := by decide +kernel
theorem cto_862 (l : Launch) : CTOK2 l RX1 vwCl gTbl ct_862 := ct2_nil
theorem vl_862 (l : Launch) : Vld2 l vwCl gTbl con_862 := conR_ok3 gT_all (hd_862) rfl pn_RX1 tk_X1_allMen bo_RX1 xo_RX1 (cto_862 l) ch_862 cut_nil
/-- RookHusting$Election fillFields -/
noncomputable def gi_405 : GI := jl_n [gp_28, jl_z 6, jl_i 0 5, gp_227, jl_z 9]
noncomputable def ac_488 : AC := .inl (4, jl_n [jl_8 9 4, jl_1 10 1, jl_8 11 1, jl_1 13 2, jl_8 18 5, jl_6 5 1, jl_8 21 2, jl_6 4 1])
noncomputable def hc_92 : List AC := [.inl (1, [(6, 2, 0), (8, 4, 0)]), am_7, ac_488, am_4, am_6]
noncomputable def hq_479 : HP := [(false, .inl (1, [(6, 2, 0), (8, 4, 0)])), (true, am_7), (false, ac_488), (false, am_4), (false, am_6)]
noncomputable def con_863 : Con2 := ((yX1_fillFields, cX1_fillFields, 6, none), (4, 106), ([(6, 0, 0), (6, 1, 0), (1, 2, 0)], gi_405, hc_92, []), [((9, 0, 0), gi_405, hq_479, [], [])])
theorem hd_863 : con_863.1 = (yX1_fillFields, cX1_fillFields, 6, none) := rfl
theorem ck_RX1_64_699 : COK2 RX1 vwCl gTbl 64 0 con_699 := ⟨wd_817, wd_132, mh_X1_winner, .inr (.inr ⟨rfl, wd_841, wd_815, wd_816, ⟨_, rfl, pd_X1_winner⟩, 1, _, TX1, 2, rfl, rfl⟩)⟩
theorem ck_RX1_57_862 : COK2 RX1 vwCl gTbl 57 0 con_862 := ⟨wd_840, wd_132, mh_X1_allMen, .inr (.inr ⟨rfl, wd_837, wd_839, wd_18, ⟨_, rfl, pd_X1_allMen⟩, 1, _, TX1, 2, rfl, rfl⟩)⟩
noncomputable def ct_863 : CTB2 := [(1, 57, 0, con_862, [0, 2]), (31, 64, 0, con_699, [0, 3, 2, 4])]
noncomputable def gi_406 : GI := jl_n [gp_28, jl_z 6, jl_i 0 5, gp_228, jl_i 0 31, jl_i 0 5]
noncomputable def cu_863 : List CUT2 := [((8, [lq 0 6 0, lq 1 6 1, lq 2 1 2, lq 3 1 25, lq 4 1 26], [], gi_406, hq_479), [], ([(26, (-1))], 5))]
theorem ch_863 : staG tb_X1_fillFields 1 bt_RX1 [] ct_863 [] [] cu_863 34 con_863 = true := by decide +kernel
theorem cc_863 : cu_863.all (cutG tb_X1_fillFields 1 bt_RX1 [] ct_863 [] [] cu_863 34 con_863) = true := by decide +kernel
theorem cto_863 (l : Launch) : CTOK2 l RX1 vwCl gTbl ct_863 := ct2_cons (vl_862 l) ck_RX1_57_862 (ct2_cons (vl_699 l) ck_RX1_64_699 (ct2_nil))
theorem vl_863 (l : Launch) : Vld2 l vwCl gTbl con_863 := conR_ok3 gT_all (hd_863) rfl pn_RX1 tk_X1_fillFields bo_RX1 xo_RX1 (cto_863 l) ch_863 (cut_all cc_863)
/-- RookHusting elected -/
noncomputable def gi_407 : GI := jl_n [gp_229, jl_i 0 3, gp_211, gp_227, jl_z 15]
noncomputable def ac_489 : AC := .inl (11, jl_n [vp_60, jl_6 5 1, jl_8 9 1, jl_6 4 1, jl_8 18 8])
noncomputable def ac_490 : AC := .inl (4, jl_n [vp_61, vp_64, jl_8 33 5, jl_6 8 1, jl_8 36 2, jl_6 7 1])
noncomputable def hc_93 : List AC := [ac_489, .inl (9, [(6, 2, 0), (8, 19, 0)]), ac_490, .inl (7, [(6, 5, 0), (8, 38, 0), (8, 39, 0), (8, 40, 0)]), .inl (1, [(6, 2, 0), (8, 42, 0)]), am_7, am_4, am_6]
noncomputable def gi_408 : GI := jl_n [gp_229, jl_i 0 3, gp_211, gp_227, jl_z 15, jl_m 1 4]
noncomputable def hq_480 : HP := [(false, ac_489), (false, .inl (9, [(6, 2, 0), (8, 19, 0)])), (false, ac_490), (false, .inl (7, [(6, 5, 0), (8, 38, 0), (8, 39, 0), (8, 40, 0)])), (false, .inl (1, [(6, 2, 0), (8, 42, 0)])), (true, am_7), (false, am_4), (false, am_6)]
noncomputable def con_864 : Con2 := ((yX11_elected, cX11_elected, 2, (some .int)), (5, 131), ([(6, 0, 0), (1, 1, 0)], gi_407, hc_93, []), [((1, 43, 0), gi_408, hq_480, [], [1])])
theorem hd_864 : con_864.1 = (yX11_elected, cX11_elected, 2, (some .int)) := rfl
theorem ck_RX11_204_863 : COK2 RX11 vwCl gTbl 204 0 con_863 := ⟨wd_836, wd_132, mh_X1_fillFields, .inr (.inr ⟨rfl, wd_833, wd_834, wd_835, ⟨_, rfl, pd_X1_fillFields⟩, 1, _, TX1, 2, rfl, rfl⟩)⟩
noncomputable def ct_864 : CTB2 := [(2, 139, 0, con_647, [0, 1, 2]), (32, 204, 0, con_863, [4, 5, 2, 6, 7])]
noncomputable def cu_864 : List CUT2 := []
theorem ch_864 : staG tb_X11_elected 1 bt_RX11 [] ct_864 [] [] cu_864 22 con_864 = true := by decide +kernel
theorem cto_864 (l : Launch) : CTOK2 l RX11 vwCl gTbl ct_864 := ct2_cons (vl_647 l) ck_RX11_139_647 (ct2_cons (vl_863 l) ck_RX11_204_863 (ct2_nil))
theorem vl_864 (l : Launch) : Vld2 l vwCl gTbl con_864 := conR_ok3 gT_all (hd_864) rfl pn_RX11 tk_X11_elected bo_RX11 xo_RX11 (cto_864 l) ch_864 cut_nil
/-- RookHustingModel electAll -/
noncomputable def gi_409 : GI := jl_n [gp_230, gp_124]
noncomputable def ac_491 : AC := .inl (12, jl_n [vp_59, jl_6 5 1, jl_8 47 26])
noncomputable def hc_94 : List AC := [ac_491, ac_438, am_8, am_5, am_7]
noncomputable def hq_481 : HP := [(false, ac_491), (false, ac_438), (false, am_8), (false, am_5), (true, am_7)]
noncomputable def con_865 : Con2 := ((yX12_electAll, cX12_electAll, 4, none), (5, 121), ([(6, 0, 0), (1, 1, 0)], gi_409, hc_94, []), [((9, 0, 0), gi_409, hq_481, [], [])])
theorem hd_865 : con_865.1 = (yX12_electAll, cX12_electAll, 4, none) := rfl
noncomputable def ct_865 : CTB2 := [(1, 269, 0, con_702, [0, 1]), (1, 269, 0, con_797, [0, 1]), (1, 269, 0, con_828, [0, 1]), (1, 269, 0, con_844, [0, 1]), (1, 269, 0, con_852, [0, 1]), (1, 269, 0, con_857, [0, 1]), (9, 106, 0, con_650, [0, 1]), (23, 277, 0, con_763, [0, 1, 2, 3]), (23, 277, 0, con_811, [0, 1, 2, 3]), (23, 277, 0, con_835, [0, 1, 2, 3]), (23, 277, 0, con_847, [0, 1, 2, 3]), (23, 277, 0, con_854, [0, 1, 2, 3]), (23, 277, 0, con_860, [0, 1, 2, 3]), (23, 277, 0, con_779, [0, 1, 2, 3]), (23, 277, 0, con_771, [0, 1, 2, 3]), (23, 277, 0, con_767, [0, 1, 2, 3]), (23, 277, 0, con_765, [0, 1, 2, 3]), (23, 277, 0, con_764, [0, 1, 2, 3]), (23, 277, 0, con_819, [0, 1, 2, 3]), (23, 277, 0, con_815, [0, 1, 2, 3]), (23, 277, 0, con_813, [0, 1, 2, 3]), (23, 277, 0, con_812, [0, 1, 2, 3]), (23, 277, 0, con_839, [0, 1, 2, 3]), (23, 277, 0, con_837, [0, 1, 2, 3]), (23, 277, 0, con_836, [0, 1, 2, 3]), (23, 277, 0, con_849, [0, 1, 2, 3]), (23, 277, 0, con_848, [0, 1, 2, 3]), (23, 277, 0, con_855, [0, 1, 2, 3]), (23, 277, 0, con_787, [0, 1, 2, 3]), (23, 277, 0, con_783, [0, 1, 2, 3]), (23, 277, 0, con_781, [0, 1, 2, 3]), (23, 277, 0, con_780, [0, 1, 2, 3]), (23, 277, 0, con_775, [0, 1, 2, 3]), (23, 277, 0, con_773, [0, 1, 2, 3]), (23, 277, 0, con_772, [0, 1, 2, 3]), (23, 277, 0, con_769, [0, 1, 2, 3]), (23, 277, 0, con_768, [0, 1, 2, 3]), (23, 277, 0, con_766, [0, 1, 2, 3]), (23, 277, 0, con_823, [0, 1, 2, 3]), (23, 277, 0, con_821, [0, 1, 2, 3]), (23, 277, 0, con_820, [0, 1, 2, 3]), (23, 277, 0, con_817, [0, 1, 2, 3]), (23, 277, 0, con_816, [0, 1, 2, 3]), (23, 277, 0, con_814, [0, 1, 2, 3]), (23, 277, 0, con_841, [0, 1, 2, 3]), (23, 277, 0, con_840, [0, 1, 2, 3]), (23, 277, 0, con_838, [0, 1, 2, 3]), (23, 277, 0, con_850, [0, 1, 2, 3]), (23, 277, 0, con_791, [0, 1, 2, 3]), (23, 277, 0, con_789, [0, 1, 2, 3]), (23, 277, 0, con_788, [0, 1, 2, 3]), (23, 277, 0, con_785, [0, 1, 2, 3]), (23, 277, 0, con_784, [0, 1, 2, 3]), (23, 277, 0, con_782, [0, 1, 2, 3]), (23, 277, 0, con_777, [0, 1, 2, 3]), (23, 277, 0, con_776, [0, 1, 2, 3]), (23, 277, 0, con_774, [0, 1, 2, 3]), (23, 277, 0, con_770, [0, 1, 2, 3]), (23, 277, 0, con_825, [0, 1, 2, 3]), (23, 277, 0, con_824, [0, 1, 2, 3]), (23, 277, 0, con_822, [0, 1, 2, 3]), (23, 277, 0, con_818, [0, 1, 2, 3]), (23, 277, 0, con_842, [0, 1, 2, 3]), (23, 277, 0, con_793, [0, 1, 2, 3]), (23, 277, 0, con_792, [0, 1, 2, 3]), (23, 277, 0, con_790, [0, 1, 2, 3]), (23, 277, 0, con_786, [0, 1, 2, 3]), (23, 277, 0, con_778, [0, 1, 2, 3]), (23, 277, 0, con_826, [0, 1, 2, 3])]
noncomputable def rf_865 : List (Nat × List POP) := [(0, [(1, (2, 1, 5), 0, 0)]), (45, [(1, (0, 0, 0), 0, 0)])]
noncomputable def gi_410 : GI := jl_n [gp_231, jl_i 5 5, gp_233]
noncomputable def gi_411 : GI := jl_n [gp_231, jl_i 4 4, gp_233]
noncomputable def gi_412 : GI := jl_n [gp_231, jl_i 3 3, gp_233]
noncomputable def gi_413 : GI := jl_n [gp_231, jl_i 2 2, gp_233]
noncomputable def gi_414 : GI := jl_n [gp_231, jl_i 1 1, gp_233]
noncomputable def gi_415 : GI := jl_n [gp_231, jl_z 1, gp_233]
noncomputable def gi_416 : GI := jl_n [gp_234, jl_i 5 5, gp_235]
noncomputable def gi_417 : GI := jl_n [gp_234, jl_i 4 4, gp_235]
noncomputable def gi_418 : GI := jl_n [gp_234, jl_i 3 3, gp_235]
noncomputable def gi_419 : GI := jl_n [gp_234, jl_i 2 2, gp_235]
noncomputable def gi_420 : GI := jl_n [gp_234, jl_i 1 1, gp_235]
noncomputable def gi_421 : GI := jl_n [gp_237, gp_238, gp_239]
noncomputable def gi_422 : GI := jl_n [gp_237, jl_i 0 8, jl_i 4 4, gp_239]
noncomputable def gi_423 : GI := jl_n [gp_237, jl_i 0 8, jl_i 3 3, gp_239]
noncomputable def gi_424 : GI := jl_n [gp_237, jl_i 0 8, jl_i 2 2, gp_239]
noncomputable def gi_425 : GI := jl_n [gp_236, jl_i 3 5, gp_238, gp_232, jl_i 3 5]
noncomputable def gi_426 : GI := jl_n [gp_236, jl_i 3 5, jl_i 0 8, jl_i 4 4, gp_232, jl_i 3 5]
noncomputable def gi_427 : GI := jl_n [gp_236, jl_i 3 5, jl_i 0 8, jl_i 3 3, gp_232, jl_i 3 5]
noncomputable def gi_428 : GI := jl_n [gp_236, jl_i 4 5, gp_238, gp_232, jl_i 4 5]
noncomputable def gi_429 : GI := jl_n [gp_236, jl_i 4 5, jl_i 0 8, jl_i 4 4, gp_232, jl_i 4 5]
noncomputable def gi_430 : GI := jl_n [gp_236, jl_i 5 5, gp_238, gp_145, jl_z 19]
noncomputable def hq_482 : HP := [(false, ac_491), (false, ac_438), (false, am_8), (false, am_5), (true, .inr (1, [(4, (2, (-1), 4)), (1, (2, 0, 4))]))]
noncomputable def cu_865_0 : List CUT2 := [((7, [lq 0 6 0, lq 1 1 1, lq 2 0 31, lq 3 1 73], [], gi_410, hq_481), [], ([(73, (-1))], 5)), ((7, [lq 0 6 0, lq 1 1 1, lq 2 0 15, lq 3 1 73], [], gi_411, hq_481), [], ([(73, (-1))], 5)), ((7, [lq 0 6 0, lq 1 1 1, lq 2 0 7, lq 3 1 73], [], gi_412, hq_481), [], ([(73, (-1))], 5)), ((7, [lq 0 6 0, lq 1 1 1, lq 2 0 3, lq 3 1 73], [], gi_413, hq_481), [], ([(73, (-1))], 5)), ((7, [lq 0 6 0, lq 1 1 1, lq 2 0 1, lq 3 1 73], [], gi_414, hq_481), [], ([(73, (-1))], 5)), ((7, [lq 0 6 0, lq 1 1 1, lq 2 0 0, lq 3 1 73], [], gi_415, hq_481), [], ([(73, (-1))], 5)), ((7, [lq 0 6 0, lq 1 1 1, lq 2 0 15, lq 3 1 73], [], gi_416, hq_481), [], ([(73, (-1))], 5)), ((7, [lq 0 6 0, lq 1 1 1, lq 2 0 23, lq 3 1 73], [], gi_416, hq_481), [], ([(73, (-1))], 5)), ((7, [lq 0 6 0, lq 1 1 1, lq 2 0 27, lq 3 1 73], [], gi_416, hq_481), [], ([(73, (-1))], 5)), ((7, [lq 0 6 0, lq 1 1 1, lq 2 0 29, lq 3 1 73], [], gi_416, hq_481), [], ([(73, (-1))], 5)), ((7, [lq 0 6 0, lq 1 1 1, lq 2 0 30, lq 3 1 73], [], gi_416, hq_481), [], ([(73, (-1))], 5)), ((7, [lq 0 6 0, lq 1 1 1, lq 2 0 7, lq 3 1 73], [], gi_417, hq_481), [], ([(73, (-1))], 5)), ((7, [lq 0 6 0, lq 1 1 1, lq 2 0 11, lq 3 1 73], [], gi_417, hq_481), [], ([(73, (-1))], 5))]
noncomputable def cu_865_1 : List CUT2 := [((7, [lq 0 6 0, lq 1 1 1, lq 2 0 13, lq 3 1 73], [], gi_417, hq_481), [], ([(73, (-1))], 5)), ((7, [lq 0 6 0, lq 1 1 1, lq 2 0 14, lq 3 1 73], [], gi_417, hq_481), [], ([(73, (-1))], 5)), ((7, [lq 0 6 0, lq 1 1 1, lq 2 0 3, lq 3 1 73], [], gi_418, hq_481), [], ([(73, (-1))], 5)), ((7, [lq 0 6 0, lq 1 1 1, lq 2 0 5, lq 3 1 73], [], gi_418, hq_481), [], ([(73, (-1))], 5)), ((7, [lq 0 6 0, lq 1 1 1, lq 2 0 6, lq 3 1 73], [], gi_418, hq_481), [], ([(73, (-1))], 5)), ((7, [lq 0 6 0, lq 1 1 1, lq 2 0 1, lq 3 1 73], [], gi_419, hq_481), [], ([(73, (-1))], 5)), ((7, [lq 0 6 0, lq 1 1 1, lq 2 0 2, lq 3 1 73], [], gi_419, hq_481), [], ([(73, (-1))], 5)), ((7, [lq 0 6 0, lq 1 1 1, lq 2 0 0, lq 3 1 73], [], gi_420, hq_481), [], ([(73, (-1))], 5)), ((7, [lq 0 6 0, lq 1 1 1, lq 2 0 7, lq 3 1 73], [], gi_421, hq_481), [], ([(73, (-1))], 5)), ((7, [lq 0 6 0, lq 1 1 1, lq 2 0 11, lq 3 1 73], [], gi_421, hq_481), [], ([(73, (-1))], 5)), ((7, [lq 0 6 0, lq 1 1 1, lq 2 0 13, lq 3 1 73], [], gi_421, hq_481), [], ([(73, (-1))], 5)), ((7, [lq 0 6 0, lq 1 1 1, lq 2 0 14, lq 3 1 73], [], gi_421, hq_481), [], ([(73, (-1))], 5)), ((7, [lq 0 6 0, lq 1 1 1, lq 2 0 19, lq 3 1 73], [], gi_421, hq_481), [], ([(73, (-1))], 5))]
noncomputable def cu_865_2 : List CUT2 := [((7, [lq 0 6 0, lq 1 1 1, lq 2 0 21, lq 3 1 73], [], gi_421, hq_481), [], ([(73, (-1))], 5)), ((7, [lq 0 6 0, lq 1 1 1, lq 2 0 22, lq 3 1 73], [], gi_421, hq_481), [], ([(73, (-1))], 5)), ((7, [lq 0 6 0, lq 1 1 1, lq 2 0 25, lq 3 1 73], [], gi_421, hq_481), [], ([(73, (-1))], 5)), ((7, [lq 0 6 0, lq 1 1 1, lq 2 0 26, lq 3 1 73], [], gi_421, hq_481), [], ([(73, (-1))], 5)), ((7, [lq 0 6 0, lq 1 1 1, lq 2 0 28, lq 3 1 73], [], gi_421, hq_481), [], ([(73, (-1))], 5)), ((7, [lq 0 6 0, lq 1 1 1, lq 2 0 3, lq 3 1 73], [], gi_422, hq_481), [], ([(73, (-1))], 5)), ((7, [lq 0 6 0, lq 1 1 1, lq 2 0 5, lq 3 1 73], [], gi_422, hq_481), [], ([(73, (-1))], 5)), ((7, [lq 0 6 0, lq 1 1 1, lq 2 0 6, lq 3 1 73], [], gi_422, hq_481), [], ([(73, (-1))], 5)), ((7, [lq 0 6 0, lq 1 1 1, lq 2 0 9, lq 3 1 73], [], gi_422, hq_481), [], ([(73, (-1))], 5)), ((7, [lq 0 6 0, lq 1 1 1, lq 2 0 10, lq 3 1 73], [], gi_422, hq_481), [], ([(73, (-1))], 5)), ((7, [lq 0 6 0, lq 1 1 1, lq 2 0 12, lq 3 1 73], [], gi_422, hq_481), [], ([(73, (-1))], 5)), ((7, [lq 0 6 0, lq 1 1 1, lq 2 0 1, lq 3 1 73], [], gi_423, hq_481), [], ([(73, (-1))], 5)), ((7, [lq 0 6 0, lq 1 1 1, lq 2 0 2, lq 3 1 73], [], gi_423, hq_481), [], ([(73, (-1))], 5))]
noncomputable def cu_865_3 : List CUT2 := [((7, [lq 0 6 0, lq 1 1 1, lq 2 0 4, lq 3 1 73], [], gi_423, hq_481), [], ([(73, (-1))], 5)), ((7, [lq 0 6 0, lq 1 1 1, lq 2 0 0, lq 3 1 73], [], gi_424, hq_481), [], ([(73, (-1))], 5)), ((7, [lq 0 6 0, lq 1 1 1, lq 2 0 3, lq 3 1 73], [], gi_425, hq_481), [], ([(73, (-1))], 5)), ((7, [lq 0 6 0, lq 1 1 1, lq 2 0 5, lq 3 1 73], [], gi_425, hq_481), [], ([(73, (-1))], 5)), ((7, [lq 0 6 0, lq 1 1 1, lq 2 0 6, lq 3 1 73], [], gi_425, hq_481), [], ([(73, (-1))], 5)), ((7, [lq 0 6 0, lq 1 1 1, lq 2 0 9, lq 3 1 73], [], gi_425, hq_481), [], ([(73, (-1))], 5)), ((7, [lq 0 6 0, lq 1 1 1, lq 2 0 10, lq 3 1 73], [], gi_425, hq_481), [], ([(73, (-1))], 5)), ((7, [lq 0 6 0, lq 1 1 1, lq 2 0 12, lq 3 1 73], [], gi_425, hq_481), [], ([(73, (-1))], 5)), ((7, [lq 0 6 0, lq 1 1 1, lq 2 0 17, lq 3 1 73], [], gi_425, hq_481), [], ([(73, (-1))], 5)), ((7, [lq 0 6 0, lq 1 1 1, lq 2 0 18, lq 3 1 73], [], gi_425, hq_481), [], ([(73, (-1))], 5)), ((7, [lq 0 6 0, lq 1 1 1, lq 2 0 20, lq 3 1 73], [], gi_425, hq_481), [], ([(73, (-1))], 5)), ((7, [lq 0 6 0, lq 1 1 1, lq 2 0 24, lq 3 1 73], [], gi_425, hq_481), [], ([(73, (-1))], 5)), ((7, [lq 0 6 0, lq 1 1 1, lq 2 0 1, lq 3 1 73], [], gi_426, hq_481), [], ([(73, (-1))], 5))]
noncomputable def cu_865_4 : List CUT2 := [((7, [lq 0 6 0, lq 1 1 1, lq 2 0 2, lq 3 1 73], [], gi_426, hq_481), [], ([(73, (-1))], 5)), ((7, [lq 0 6 0, lq 1 1 1, lq 2 0 4, lq 3 1 73], [], gi_426, hq_481), [], ([(73, (-1))], 5)), ((7, [lq 0 6 0, lq 1 1 1, lq 2 0 8, lq 3 1 73], [], gi_426, hq_481), [], ([(73, (-1))], 5)), ((7, [lq 0 6 0, lq 1 1 1, lq 2 0 0, lq 3 1 73], [], gi_427, hq_481), [], ([(73, (-1))], 5)), ((7, [lq 0 6 0, lq 1 1 1, lq 2 0 1, lq 3 1 73], [], gi_428, hq_481), [], ([(73, (-1))], 5)), ((7, [lq 0 6 0, lq 1 1 1, lq 2 0 2, lq 3 1 73], [], gi_428, hq_481), [], ([(73, (-1))], 5)), ((7, [lq 0 6 0, lq 1 1 1, lq 2 0 4, lq 3 1 73], [], gi_428, hq_481), [], ([(73, (-1))], 5)), ((7, [lq 0 6 0, lq 1 1 1, lq 2 0 8, lq 3 1 73], [], gi_428, hq_481), [], ([(73, (-1))], 5)), ((7, [lq 0 6 0, lq 1 1 1, lq 2 0 16, lq 3 1 73], [], gi_428, hq_481), [], ([(73, (-1))], 5)), ((7, [lq 0 6 0, lq 1 1 1, lq 2 0 0, lq 3 1 73], [], gi_429, hq_481), [], ([(73, (-1))], 5)), ((7, [lq 0 6 0, lq 1 1 1, lq 2 0 0, lq 3 0 5], [], gi_430, hq_482), [], ([], 0))]
noncomputable def cu_865 : List CUT2 := cu_865_0 ++ (cu_865_1 ++ (cu_865_2 ++ (cu_865_3 ++ (cu_865_4))))
theorem ch_865 : staG tb_X12_electAll 1 bt_RX12 [] ct_865 rf_865 [] cu_865 34 con_865 = true := by decide +kernel
theorem cc_865_0 : cu_865_0.all (cutG tb_X12_electAll 1 bt_RX12 [] ct_865 rf_865 [] cu_865 34 con_865) = true := by decide +kernel
theorem cc_865_1 : cu_865_1.all (cutG tb_X12_electAll 1 bt_RX12 [] ct_865 rf_865 [] cu_865 34 con_865) = true := by decide +kernel
theorem cc_865_2 : cu_865_2.all (cutG tb_X12_electAll 1 bt_RX12 [] ct_865 rf_865 [] cu_865 34 con_865) = true := by decide +kernel
theorem cc_865_3 : cu_865_3.all (cutG tb_X12_electAll 1 bt_RX12 [] ct_865 rf_865 [] cu_865 34 con_865) = true := by decide +kernel
theorem cc_865_4 : cu_865_4.all (cutG tb_X12_electAll 1 bt_RX12 [] ct_865 rf_865 [] cu_865 34 con_865) = true := by decide +kernel
theorem cto_865 (l : Launch) : CTOK2 l RX12 vwCl gTbl ct_865 := ct2_cons (vl_702 l) ck_RX12_269_702 (ct2_cons (vl_797 l) ck_RX12_269_797 (ct2_cons (vl_828 l) ck_RX12_269_828 (ct2_cons (vl_844 l) ck_RX12_269_844 (ct2_cons (vl_852 l) ck_RX12_269_852 (ct2_cons (vl_857 l) ck_RX12_269_857 (ct2_cons (vl_650 l) ck_RX12_106_650 (ct2_cons (vl_763 l) ck_RX12_277_763 (ct2_cons (vl_811 l) ck_RX12_277_811 (ct2_cons (vl_835 l) ck_RX12_277_835 (ct2_cons (vl_847 l) ck_RX12_277_847 (ct2_cons (vl_854 l) ck_RX12_277_854 (ct2_cons (vl_860 l) ck_RX12_277_860 (ct2_cons (vl_779 l) ck_RX12_277_779 (ct2_cons (vl_771 l) ck_RX12_277_771 (ct2_cons (vl_767 l) ck_RX12_277_767 (ct2_cons (vl_765 l) ck_RX12_277_765 (ct2_cons (vl_764 l) ck_RX12_277_764 (ct2_cons (vl_819 l) ck_RX12_277_819 (ct2_cons (vl_815 l) ck_RX12_277_815 (ct2_cons (vl_813 l) ck_RX12_277_813 (ct2_cons (vl_812 l) ck_RX12_277_812 (ct2_cons (vl_839 l) ck_RX12_277_839 (ct2_cons (vl_837 l) ck_RX12_277_837 (ct2_cons (vl_836 l) ck_RX12_277_836 (ct2_cons (vl_849 l) ck_RX12_277_849 (ct2_cons (vl_848 l) ck_RX12_277_848 (ct2_cons (vl_855 l) ck_RX12_277_855 (ct2_cons (vl_787 l) ck_RX12_277_787 (ct2_cons (vl_783 l) ck_RX12_277_783 (ct2_cons (vl_781 l) ck_RX12_277_781 (ct2_cons (vl_780 l) ck_RX12_277_780 (ct2_cons (vl_775 l) ck_RX12_277_775 (ct2_cons (vl_773 l) ck_RX12_277_773 (ct2_cons (vl_772 l) ck_RX12_277_772 (ct2_cons (vl_769 l) ck_RX12_277_769 (ct2_cons (vl_768 l) ck_RX12_277_768 (ct2_cons (vl_766 l) ck_RX12_277_766 (ct2_cons (vl_823 l) ck_RX12_277_823 (ct2_cons (vl_821 l) ck_RX12_277_821 (ct2_cons (vl_820 l) ck_RX12_277_820 (ct2_cons (vl_817 l) ck_RX12_277_817 (ct2_cons (vl_816 l) ck_RX12_277_816 (ct2_cons (vl_814 l) ck_RX12_277_814 (ct2_cons (vl_841 l) ck_RX12_277_841 (ct2_cons (vl_840 l) ck_RX12_277_840 (ct2_cons (vl_838 l) ck_RX12_277_838 (ct2_cons (vl_850 l) ck_RX12_277_850 (ct2_cons (vl_791 l) ck_RX12_277_791 (ct2_cons (vl_789 l) ck_RX12_277_789 (ct2_cons (vl_788 l) ck_RX12_277_788 (ct2_cons (vl_785 l) ck_RX12_277_785 (ct2_cons (vl_784 l) ck_RX12_277_784 (ct2_cons (vl_782 l) ck_RX12_277_782 (ct2_cons (vl_777 l) ck_RX12_277_777 (ct2_cons (vl_776 l) ck_RX12_277_776 (ct2_cons (vl_774 l) ck_RX12_277_774 (ct2_cons (vl_770 l) ck_RX12_277_770 (ct2_cons (vl_825 l) ck_RX12_277_825 (ct2_cons (vl_824 l) ck_RX12_277_824 (ct2_cons (vl_822 l) ck_RX12_277_822 (ct2_cons (vl_818 l) ck_RX12_277_818 (ct2_cons (vl_842 l) ck_RX12_277_842 (ct2_cons (vl_793 l) ck_RX12_277_793 (ct2_cons (vl_792 l) ck_RX12_277_792 (ct2_cons (vl_790 l) ck_RX12_277_790 (ct2_cons (vl_786 l) ck_RX12_277_786 (ct2_cons (vl_778 l) ck_RX12_277_778 (ct2_cons (vl_826 l) ck_RX12_277_826 (ct2_nil)))))))))))))))))))))))))))))))))))))))))))))))))))))))))))))))))))))
theorem vl_865 (l : Launch) : Vld2 l vwCl gTbl con_865 := conR_ok3 gT_all (hd_865) rfl pn_RX12 tk_X12_electAll bo_RX12 xo_RX12 (cto_865 l) ch_865 (cut_app (cut_all cc_865_0) (cut_app (cut_all cc_865_1) (cut_app (cut_all cc_865_2) (cut_app (cut_all cc_865_3) (cut_all cc_865_4)))))
