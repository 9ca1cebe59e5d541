/-! ===== contracts, 19 ===== -/
/-- RookHustingModel hedgesOf -/
noncomputable def gi_307 : GI := jl_n [gp_52, gp_174]
noncomputable def ac_442 : AC := .inl (12, jl_n [vp_37, jl_8 25 21, jl_1 27 2, jl_8 47 20])
noncomputable def gi_308 : GI := jl_n [gp_52, gp_174, jl_t]
noncomputable def con_651 : Con2 := ((yX12_hedgesOf, cX12_hedgesOf, 6, (some .int)), (0, 0), ([(6, 0, 0), (1, 1, 0)], gi_307, [ac_442, ac_438], []), [((1, 70, 0), gi_308, [(false, ac_442), (false, ac_438)], [], [1])])
theorem hd_651 : con_651.1 = (yX12_hedgesOf, cX12_hedgesOf, 6, (some .int)) := rfl
noncomputable def gi_309 : GI := jl_n [gp_52, gp_173, gp_123, gp_175, jl_i 0 8]
noncomputable def cu_651 : List CUT2 := [((4, [lq 0 6 0, lq 1 1 1, lq 2 1 72, lq 3 1 73], [], gi_309, [(false, ac_442), (false, ac_438)]), [], ([(73, (-1))], 8))]
theorem ch_651 : staG tb_X12_hedgesOf 1 bt_RX12 [] ct_2 [] [] cu_651 44 con_651 = true := by decide +kernel
theorem cc_651 : cu_651.all (cutG tb_X12_hedgesOf 1 bt_RX12 [] ct_2 [] [] cu_651 44 con_651) = true := by decide +kernel
theorem vl_651 (l : Launch) : Vld2 l vwCl gTbl con_651 := conR_ok3 gT_all (hd_651) rfl pn_RX12 tk_X12_hedgesOf bo_RX12 xo_RX12 (cto_2 l) ch_651 (cut_all cc_651)
/-- RookHustingModel hedges -/
noncomputable def gi_310 : GI := jl_n [gp_7, gp_174]
noncomputable def gi_311 : GI := jl_n [gp_7, gp_174, gp_176]
noncomputable def ac_443 : AC := .inl (12, jl_n [vp_37, jl_8 25 21, vp_42, jl_8 47 20])
noncomputable def con_652 : Con2 := ((yX12_hedges, cX12_hedges, 2, (some .int)), (2, 47), ([(6, 0, 0), (1, 1, 0)], gi_310, [ac_442, ac_438], []), [((1, 70, 0), gi_311, [(true, ac_443), (false, ac_438)], [], tg_1)])
theorem hd_652 : con_652.1 = (yX12_hedges, cX12_hedges, 2, (some .int)) := rfl
theorem ck_RX12_348_651 : COK2 RX12 vwCl gTbl 348 0 con_651 := ⟨wd_1865, wd_137, mh_X12_hedgesOf, .inr (.inr ⟨rfl, wd_1862, wd_1864, wd_93, ⟨_, rfl, pd_X12_hedgesOf⟩, 12, _, TX12, 45, rfl, rfl⟩)⟩
noncomputable def ct_652 : CTB2 := [(13, 109, 0, con_647, [0, 1]), (21, 348, 0, con_651, [0, 1])]
noncomputable def cu_652 : List CUT2 := []
theorem ch_652 : staG tb_X12_hedges 1 bt_RX12 [] ct_652 [] [] cu_652 18 con_652 = true := by decide +kernel
theorem cto_652 (l : Launch) : CTOK2 l RX12 vwCl gTbl ct_652 := ct2_cons (vl_647 l) ck_RX12_109_647 (ct2_cons (vl_651 l) ck_RX12_348_651 (ct2_nil))
theorem vl_652 (l : Launch) : Vld2 l vwCl gTbl con_652 := conR_ok3 gT_all (hd_652) rfl pn_RX12 tk_X12_hedges bo_RX12 xo_RX12 (cto_652 l) ch_652 cut_nil
/-- RookHusting isMan -/
noncomputable def gi_312 : GI := jl_n [gp_7, gp_178]
noncomputable def ac_444 : AC := .inl (4, jl_n [jl_8 26 6, jl_1 27 1, jl_8 37 10])
noncomputable def gi_313 : GI := jl_n [gp_7, jl_z 24, gp_179]
noncomputable def hq_449 : HP := [(false, ac_431), (false, .inl (9, [(6, 2, 0), (8, 19, 0)])), (false, ac_444)]
noncomputable def gi_314 : GI := jl_n [gp_52, jl_z 24, jl_i 1 5, jl_z 11]
noncomputable def con_653 : Con2 := ((yX11_isMan, cX11_isMan, 2, (some .boolean)), (0, 0), ([(6, 0, 0), (1, 1, 0)], gi_312, [ac_431, .inl (9, [(6, 2, 0), (8, 19, 0)]), ac_444], []), [((0, 0, 0), gi_313, hq_449, [], [1]), ((0, 1, 0), gi_314, hq_449, [], [1])])
theorem hd_653 : con_653.1 = (yX11_isMan, cX11_isMan, 2, (some .boolean)) := rfl
noncomputable def cu_653 : List CUT2 := []
theorem ch_653 : staG tb_X11_isMan 1 bt_RX11 [] ct_3 [] [] cu_653 13 con_653 = true := by decide +kernel
theorem vl_653 (l : Launch) : Vld2 l vwCl gTbl con_653 := conR_ok3 gT_all (hd_653) rfl pn_RX11 tk_X11_isMan bo_RX11 xo_RX11 (cto_3 l) ch_653 cut_nil
/-- RookHusting man -/
noncomputable def gi_315 : GI := jl_n [gp_162, gp_178]
noncomputable def ac_445 : AC := .inl (4, jl_n [jl_8 27 6, jl_1 28 1, jl_8 32 4, jl_6 5 2, jl_8 38 4])
noncomputable def hc_70 : List AC := [ac_433, .inl (9, [(6, 2, 0), (8, 20, 0)]), ac_445, am_4, am_10]
noncomputable def gi_316 : GI := jl_n [gp_162, gp_178, jl_m 1 40]
noncomputable def hq_450 : HP := [(false, ac_433), (false, .inl (9, [(6, 2, 0), (8, 20, 0)])), (false, ac_445), (false, am_4), (false, am_10)]
noncomputable def con_654 : Con2 := ((yX11_man, cX11_man, 3, (some .int)), (1, 21), ([(6, 0, 0), (1, 1, 0), (1, 2, 0)], gi_315, hc_70, []), [((1, 38, 0), gi_316, hq_450, [], [1])])
theorem hd_654 : con_654.1 = (yX11_man, cX11_man, 3, (some .int)) := rfl
theorem ck_RX11_156_653 : COK2 RX11 vwCl gTbl 156 0 con_653 := ⟨wd_771, wd_125, mh_X11_isMan, .inr (.inr ⟨rfl, wd_768, wd_770, wd_12, ⟨_, rfl, pd_X11_isMan⟩, 11, _, TX11, 16, rfl, rfl⟩)⟩
noncomputable def ct_654 : CTB2 := [(2, 156, 0, con_653, [0, 1, 2]), (9, 143, 1, con_644, [])]
noncomputable def cu_654 : List CUT2 := []
theorem ch_654 : staG tb_X11_man 1 bt_RX11 [] ct_654 [] [] cu_654 19 con_654 = true := by decide +kernel
theorem cto_654 (l : Launch) : CTOK2 l RX11 vwCl gTbl ct_654 := ct2_cons (vl_653 l) ck_RX11_156_653 (ct2_cons (vl_644 l) ck_RX11_143_644 (ct2_nil))
theorem vl_654 (l : Launch) : Vld2 l vwCl gTbl con_654 := conR_ok3 gT_all (hd_654) rfl pn_RX11 tk_X11_man bo_RX11 xo_RX11 (cto_654 l) ch_654 cut_nil
/-- RookHustingModel men -/
noncomputable def con_655 : Con2 := ((yX12_men, cX12_men, 1, (some .int)), (0, 0), ([(6, 0, 0)], gi_299, [ac_435, ac_436], []), [((1, 51, 0), gi_300, [(false, ac_435), (false, ac_436)], [], [1])])
theorem hd_655 : con_655.1 = (yX12_men, cX12_men, 1, (some .int)) := rfl
noncomputable def cu_655 : List CUT2 := []
theorem ch_655 : staG tb_X12_men 1 bt_RX12 [] ct_2 [] [] cu_655 7 con_655 = true := by decide +kernel
theorem vl_655 (l : Launch) : Vld2 l vwCl gTbl con_655 := conR_ok3 gT_all (hd_655) rfl pn_RX12 tk_X12_men bo_RX12 xo_RX12 (cto_2 l) ch_655 cut_nil
/-- RookHustingModel isMan -/
noncomputable def gi_317 : GI := jl_n [gp_180]
noncomputable def gi_318 : GI := jl_n [gp_7, gp_166]
noncomputable def gi_319 : GI := jl_n [gp_52, jl_z 45, gp_140, gp_146]
noncomputable def con_656 : Con2 := ((yX12_isMan, cX12_isMan, 2, (some .boolean)), (1, 25), ([(6, 0, 0), (1, 1, 0)], gi_317, [ac_437, ac_438], []), [((0, 0, 0), gi_318, [(false, ac_437), (false, ac_438)], [], [1]), ((0, 1, 0), gi_319, [(false, ac_437), (false, ac_438)], [], [1])])
theorem hd_656 : con_656.1 = (yX12_isMan, cX12_isMan, 2, (some .boolean)) := rfl
theorem ck_RX12_95_655 : COK2 RX12 vwCl gTbl 95 0 con_655 := ⟨wd_1672, wd_137, mh_X12_men, .inr (.inr ⟨rfl, wd_1669, wd_1671, wd_69, ⟨_, rfl, pd_X12_men⟩, 12, _, TX12, 45, rfl, rfl⟩)⟩
noncomputable def ct_656 : CTB2 := [(4, 95, 0, con_655, [0, 1]), (10, 91, 1, con_384, [])]
noncomputable def cu_656 : List CUT2 := []
theorem ch_656 : staG tb_X12_isMan 1 bt_RX12 [] ct_656 [] [] cu_656 12 con_656 = true := by decide +kernel
theorem cto_656 (l : Launch) : CTOK2 l RX12 vwCl gTbl ct_656 := ct2_cons (vl_655 l) ck_RX12_95_655 (ct2_cons (vl_384 l) ck_RX12_91_384 (ct2_nil))
theorem vl_656 (l : Launch) : Vld2 l vwCl gTbl con_656 := conR_ok3 gT_all (hd_656) rfl pn_RX12 tk_X12_isMan bo_RX12 xo_RX12 (cto_656 l) ch_656 cut_nil
/-- RookHustingModel man -/
noncomputable def gi_320 : GI := jl_n [gp_170, jl_m 1 40]
noncomputable def con_657 : Con2 := ((yX12_man, cX12_man, 3, (some .int)), (2, 46), ([(6, 0, 0), (1, 1, 0), (1, 2, 0)], gi_304, [ac_439, ac_440], []), [((1, 71, 0), gi_320, [(false, ac_439), (false, ac_440)], [], [1])])
theorem hd_657 : con_657.1 = (yX12_man, cX12_man, 3, (some .int)) := rfl
theorem ck_RX12_236_656 : COK2 RX12 vwCl gTbl 236 0 con_656 := ⟨wd_1668, wd_137, mh_X12_isMan, .inr (.inr ⟨rfl, wd_1665, wd_1667, wd_68, ⟨_, rfl, pd_X12_isMan⟩, 12, _, TX12, 45, rfl, rfl⟩)⟩
noncomputable def ct_657 : CTB2 := [(2, 236, 0, con_656, [0, 1]), (12, 91, 1, con_648, [])]
noncomputable def cu_657 : List CUT2 := []
theorem ch_657 : staG tb_X12_man 1 bt_RX12 [] ct_657 [] [] cu_657 24 con_657 = true := by decide +kernel
theorem cto_657 (l : Launch) : CTOK2 l RX12 vwCl gTbl ct_657 := ct2_cons (vl_656 l) ck_RX12_236_656 (ct2_cons (vl_648 l) ck_RX12_91_648 (ct2_nil))
theorem vl_657 (l : Launch) : Vld2 l vwCl gTbl con_657 := conR_ok3 gT_all (hd_657) rfl pn_RX12 tk_X12_man bo_RX12 xo_RX12 (cto_657 l) ch_657 cut_nil
/-- RookHusting isVoter -/
noncomputable def gi_321 : GI := jl_n [gp_7, gp_182]
noncomputable def ac_446 : AC := .inl (4, jl_n [jl_8 27 7, jl_1 28 1, jl_8 37 9])
noncomputable def gi_322 : GI := jl_n [gp_7, gp_181, jl_z 10]
noncomputable def hq_451 : HP := [(false, ac_431), (false, .inl (9, [(6, 2, 0), (8, 19, 0)])), (false, ac_446)]
noncomputable def gi_323 : GI := jl_n [gp_183, jl_z 25, jl_i 1 7, jl_z 10]
noncomputable def con_658 : Con2 := ((yX11_isVoter, cX11_isVoter, 2, (some .boolean)), (0, 0), ([(6, 0, 0), (1, 1, 0)], gi_321, [ac_431, .inl (9, [(6, 2, 0), (8, 19, 0)]), ac_446], []), [((0, 0, 0), gi_322, hq_451, [], [1]), ((0, 1, 0), gi_323, hq_451, [], [1])])
theorem hd_658 : con_658.1 = (yX11_isVoter, cX11_isVoter, 2, (some .boolean)) := rfl
noncomputable def cu_658 : List CUT2 := []
theorem ch_658 : staG tb_X11_isVoter 1 bt_RX11 [] ct_3 [] [] cu_658 13 con_658 = true := by decide +kernel
theorem vl_658 (l : Launch) : Vld2 l vwCl gTbl con_658 := conR_ok3 gT_all (hd_658) rfl pn_RX11 tk_X11_isVoter bo_RX11 xo_RX11 (cto_3 l) ch_658 cut_nil
/-- RookHusting hats -/
noncomputable def ac_447 : AC := .inl (4, jl_n [jl_8 27 7, jl_1 28 1, jl_8 33 5, jl_6 4 1, jl_8 37 3])
noncomputable def hc_71 : List AC := [ac_431, .inl (9, [(6, 2, 0), (8, 19, 0)]), ac_447, am_7]
noncomputable def gi_324 : GI := jl_n [gp_7, gp_182, jl_m 1 9]
noncomputable def hq_452 : HP := [(false, ac_431), (false, .inl (9, [(6, 2, 0), (8, 19, 0)])), (false, ac_447), (false, am_7)]
noncomputable def con_659 : Con2 := ((yX11_hats, cX11_hats, 2, (some .int)), (1, 21), ([(6, 0, 0), (1, 1, 0)], gi_321, hc_71, []), [((1, 37, 0), gi_324, hq_452, [], [1])])
theorem hd_659 : con_659.1 = (yX11_hats, cX11_hats, 2, (some .int)) := rfl
theorem ck_RX11_165_658 : COK2 RX11 vwCl gTbl 165 0 con_658 := ⟨wd_779, wd_125, mh_X11_isVoter, .inr (.inr ⟨rfl, wd_776, wd_778, wd_13, ⟨_, rfl, pd_X11_isVoter⟩, 11, _, TX11, 16, rfl, rfl⟩)⟩
noncomputable def ct_659 : CTB2 := [(2, 165, 0, con_658, [0, 1, 2])]
noncomputable def cu_659 : List CUT2 := []
theorem ch_659 : staG tb_X11_hats 1 bt_RX11 [] ct_659 [] [] cu_659 14 con_659 = true := by decide +kernel
theorem cto_659 (l : Launch) : CTOK2 l RX11 vwCl gTbl ct_659 := ct2_cons (vl_658 l) ck_RX11_165_658 (ct2_nil)
theorem vl_659 (l : Launch) : Vld2 l vwCl gTbl con_659 := conR_ok3 gT_all (hd_659) rfl pn_RX11 tk_X11_hats bo_RX11 xo_RX11 (cto_659 l) ch_659 cut_nil
/-- RookHustingModel in -/
noncomputable def gi_325 : GI := jl_n [gp_129, jl_m 0 6]
noncomputable def gi_326 : GI := jl_n [gp_129, jl_m 0 6, jl_z 1]
noncomputable def con_660 : Con2 := ((yX12_in, cX12_in, 6, (some .boolean)), (0, 0), ([(4, 0, 0), (3, 0, 0), (4, 2, 0)], gi_325, [], []), [((0, 0, 0), gi_326, [], [], [1]), ((0, 1, 0), [(0, 6), (0, 0), (0, 6), (0, 0)], [], [], [1])])
theorem hd_660 : con_660.1 = (yX12_in, cX12_in, 6, (some .boolean)) := rfl
noncomputable def cu_660 : List CUT2 := []
theorem ch_660 : staG tb_X12_in 1 bt_RX12 [] ct_2 [] [] cu_660 11 con_660 = true := by decide +kernel
theorem vl_660 (l : Launch) : Vld2 l vwCl gTbl con_660 := conR_ok3 gT_all (hd_660) rfl pn_RX12 tk_X12_in bo_RX12 xo_RX12 (cto_2 l) ch_660 cut_nil
/-- RookHustingModel isVoter -/
noncomputable def gi_327 : GI := jl_n [gp_183, jl_z 45, gp_126, jl_i 1 7, gp_127]
noncomputable def con_661 : Con2 := ((yX12_isVoter, cX12_isVoter, 2, (some .boolean)), (1, 25), ([(6, 0, 0), (1, 1, 0)], gi_317, [ac_437, ac_438], []), [((0, 0, 0), gi_318, [(false, ac_437), (false, ac_438)], [], [1]), ((0, 1, 0), gi_327, [(false, ac_437), (false, ac_438)], [], [1])])
theorem hd_661 : con_661.1 = (yX12_isVoter, cX12_isVoter, 2, (some .boolean)) := rfl
theorem ck_RX12_91_660 : COK2 RX12 vwCl gTbl 91 1 con_660 := ⟨wd_1544, wd_137, mh_X12_in, .inl ⟨rfl, wd_1542, wd_1543, pd_X12_in⟩⟩
noncomputable def ct_661 : CTB2 := [(13, 91, 1, con_660, [])]
noncomputable def cu_661 : List CUT2 := []
theorem ch_661 : staG tb_X12_isVoter 1 bt_RX12 [] ct_661 [] [] cu_661 14 con_661 = true := by decide +kernel
theorem cto_661 (l : Launch) : CTOK2 l RX12 vwCl gTbl ct_661 := ct2_cons (vl_660 l) ck_RX12_91_660 (ct2_nil)
theorem vl_661 (l : Launch) : Vld2 l vwCl gTbl con_661 := conR_ok3 gT_all (hd_661) rfl pn_RX12 tk_X12_isVoter bo_RX12 xo_RX12 (cto_661 l) ch_661 cut_nil
/-- RookHustingModel hatsOf -/
noncomputable def gi_328 : GI := jl_n [gp_183, gp_164]
noncomputable def gi_329 : GI := jl_n [gp_183, gp_184]
noncomputable def con_662 : Con2 := ((yX12_hatsOf, cX12_hatsOf, 2, (some .int)), (0, 0), ([(6, 0, 0), (1, 1, 0)], gi_328, [ac_437, ac_438], []), [((1, 70, 0), gi_329, [(false, ac_437), (false, ac_438)], [], [1])])
theorem hd_662 : con_662.1 = (yX12_hatsOf, cX12_hatsOf, 2, (some .int)) := rfl
noncomputable def cu_662 : List CUT2 := []
theorem ch_662 : staG tb_X12_hatsOf 1 bt_RX12 [] ct_2 [] [] cu_662 11 con_662 = true := by decide +kernel
theorem vl_662 (l : Launch) : Vld2 l vwCl gTbl con_662 := conR_ok3 gT_all (hd_662) rfl pn_RX12 tk_X12_hatsOf bo_RX12 xo_RX12 (cto_2 l) ch_662 cut_nil
/-- RookHustingModel hats -/
noncomputable def gi_330 : GI := jl_n [gp_180, jl_m 1 9]
noncomputable def con_663 : Con2 := ((yX12_hats, cX12_hats, 2, (some .int)), (2, 46), ([(6, 0, 0), (1, 1, 0)], gi_317, [ac_437, ac_438], []), [((1, 70, 0), gi_330, [(false, ac_437), (false, ac_438)], [], [1])])
theorem hd_663 : con_663.1 = (yX12_hats, cX12_hats, 2, (some .int)) := rfl
theorem ck_RX12_243_662 : COK2 RX12 vwCl gTbl 243 0 con_662 := ⟨wd_1684, wd_137, mh_X12_hatsOf, .inr (.inr ⟨rfl, wd_1681, wd_1683, wd_71, ⟨_, rfl, pd_X12_hatsOf⟩, 12, _, TX12, 45, rfl, rfl⟩)⟩
theorem ck_RX12_240_661 : COK2 RX12 vwCl gTbl 240 0 con_661 := ⟨wd_1680, wd_137, mh_X12_isVoter, .inr (.inr ⟨rfl, wd_1677, wd_1679, wd_70, ⟨_, rfl, pd_X12_isVoter⟩, 12, _, TX12, 45, rfl, rfl⟩)⟩
noncomputable def ct_663 : CTB2 := [(2, 240, 0, con_661, [0, 1]), (10, 243, 0, con_662, [0, 1])]
noncomputable def cu_663 : List CUT2 := []
theorem ch_663 : staG tb_X12_hats 1 bt_RX12 [] ct_663 [] [] cu_663 11 con_663 = true := by decide +kernel
theorem cto_663 (l : Launch) : CTOK2 l RX12 vwCl gTbl ct_663 := ct2_cons (vl_661 l) ck_RX12_240_661 (ct2_cons (vl_662 l) ck_RX12_243_662 (ct2_nil))
theorem vl_663 (l : Launch) : Vld2 l vwCl gTbl con_663 := conR_ok3 gT_all (hd_663) rfl pn_RX12 tk_X12_hats bo_RX12 xo_RX12 (cto_663 l) ch_663 cut_nil
/-- RookHusting wants -/
noncomputable def gi_331 : GI := jl_n [gp_162, gp_182]
noncomputable def ac_448 : AC := .inl (4, jl_n [jl_8 28 7, jl_1 29 1, jl_8 35 6, jl_6 5 2, jl_8 38 1])
noncomputable def hc_72 : List AC := [ac_433, .inl (9, [(6, 2, 0), (8, 20, 0)]), ac_448, am_8, am_6]
noncomputable def gi_332 : GI := jl_n [gp_162, gp_182, jl_m 1 4]
noncomputable def hq_453 : HP := [(false, ac_433), (false, .inl (9, [(6, 2, 0), (8, 20, 0)])), (false, ac_448), (false, am_8), (false, am_6)]
noncomputable def con_664 : Con2 := ((yX11_wants, cX11_wants, 3, (some .int)), (1, 21), ([(6, 0, 0), (1, 1, 0), (1, 2, 0)], gi_331, hc_72, []), [((1, 38, 0), gi_332, hq_453, [], [1])])
theorem hd_664 : con_664.1 = (yX11_wants, cX11_wants, 3, (some .int)) := rfl
noncomputable def cu_664 : List CUT2 := []
theorem ch_664 : staG tb_X11_wants 1 bt_RX11 [] ct_659 [] [] cu_664 27 con_664 = true := by decide +kernel
theorem vl_664 (l : Launch) : Vld2 l vwCl gTbl con_664 := conR_ok3 gT_all (hd_664) rfl pn_RX11 tk_X11_wants bo_RX11 xo_RX11 (cto_659 l) ch_664 cut_nil
/-- RookHustingModel rowsAsTold -/
noncomputable def gi_333 : GI := jl_n [gp_186, gp_124]
noncomputable def ac_449 : AC := .inl (12, jl_n [vp_46, jl_8 46 27])
noncomputable def hc_73 : List AC := [ac_449, ac_436, am_8, am_6]
noncomputable def gi_334 : GI := jl_n [gp_186, gp_187]
noncomputable def ac_450 : AC := .inl (12, jl_n [vp_43, vp_47, jl_8 46 27])
noncomputable def hq_454 : HP := [(true, ac_450), (false, ac_436), (true, am_8), (true, am_6)]
noncomputable def con_665 : Con2 := ((yX12_rowsAsTold, cX12_rowsAsTold, 3, none), (0, 0), ([(6, 0, 0)], gi_333, hc_73, []), [((9, 0, 0), gi_334, hq_454, [], tg_10)])
theorem hd_665 : con_665.1 = (yX12_rowsAsTold, cX12_rowsAsTold, 3, none) := rfl
noncomputable def cu_665 : List CUT2 := []
theorem ch_665 : staG tb_X12_rowsAsTold 1 bt_RX12 [] ct_2 [] [] cu_665 1054 con_665 = true := by decide +kernel
theorem vl_665 (l : Launch) : Vld2 l vwCl gTbl con_665 := conR_ok3 gT_all (hd_665) rfl pn_RX12 tk_X12_rowsAsTold bo_RX12 xo_RX12 (cto_2 l) ch_665 cut_nil
/-- RookHustingModel wants -/
noncomputable def gi_335 : GI := jl_n [gp_162, gp_190]
noncomputable def ac_451 : AC := .inl (12, jl_n [vp_50, jl_8 48 27])
noncomputable def hc_74 : List AC := [ac_451, ac_440, am_8, am_6]
noncomputable def gi_336 : GI := jl_n [gp_162, gp_190, jl_m 1 4, gp_189]
noncomputable def ac_452 : AC := .inl (12, jl_n [vp_51, jl_8 48 27])
noncomputable def hq_455 : HP := [(true, ac_452), (false, ac_440), (true, am_8), (true, am_6)]
noncomputable def con_666 : Con2 := ((yX12_wants, cX12_wants, 3, (some .int)), (2, 46), ([(6, 0, 0), (1, 1, 0), (1, 2, 0)], gi_335, hc_74, []), [((1, 71, 0), gi_336, hq_455, [], tg_1)])
theorem hd_666 : con_666.1 = (yX12_wants, cX12_wants, 3, (some .int)) := rfl
theorem ck_RX12_249_665 : COK2 RX12 vwCl gTbl 249 0 con_665 := ⟨wd_1692, wd_137, mh_X12_rowsAsTold, .inr (.inr ⟨rfl, wd_1689, wd_1691, wd_72, ⟨_, rfl, pd_X12_rowsAsTold⟩, 12, _, TX12, 45, rfl, rfl⟩)⟩
noncomputable def ct_666 : CTB2 := [(2, 240, 0, con_661, [0, 1]), (12, 249, 0, con_665, [0, 1, 2, 3]), (27, 91, 1, con_384, [])]
noncomputable def cu_666 : List CUT2 := []
theorem ch_666 : staG tb_X12_wants 1 bt_RX12 [] ct_666 [] [] cu_666 30 con_666 = true := by decide +kernel
theorem cto_666 (l : Launch) : CTOK2 l RX12 vwCl gTbl ct_666 := ct2_cons (vl_661 l) ck_RX12_240_661 (ct2_cons (vl_665 l) ck_RX12_249_665 (ct2_cons (vl_384 l) ck_RX12_91_384 (ct2_nil)))
theorem vl_666 (l : Launch) : Vld2 l vwCl gTbl con_666 := conR_ok3 gT_all (hd_666) rfl pn_RX12 tk_X12_wants bo_RX12 xo_RX12 (cto_666 l) ch_666 cut_nil
/-- RookHusting isTold -/
noncomputable def gi_337 : GI := jl_n [gp_191, jl_z 16]
noncomputable def ac_453 : AC := .inl (11, jl_n [vp_52, jl_8 17 13])
noncomputable def ac_454 : AC := .inl (4, jl_n [jl_1 20 1, jl_8 36 16])
noncomputable def gi_338 : GI := jl_n [jl_z 19, jl_m 2147483647 0, jl_z 17]
noncomputable def hq_456 : HP := [(false, ac_453), (false, .inl (9, [(6, 2, 0), (8, 18, 0)])), (false, ac_454)]
noncomputable def gi_339 : GI := jl_n [jl_z 19, jl_i 1 2147483647, jl_z 17]
noncomputable def con_667 : Con2 := ((yX11_isTold, cX11_isTold, 1, (some .boolean)), (0, 0), ([(6, 0, 0)], gi_337, [ac_453, .inl (9, [(6, 2, 0), (8, 18, 0)]), ac_454], []), [((0, 0, 0), gi_338, hq_456, [], [1]), ((0, 1, 0), gi_339, hq_456, [], [1])])
theorem hd_667 : con_667.1 = (yX11_isTold, cX11_isTold, 1, (some .boolean)) := rfl
noncomputable def cu_667 : List CUT2 := []
theorem ch_667 : staG tb_X11_isTold 1 bt_RX11 [] ct_3 [] [] cu_667 10 con_667 = true := by decide +kernel
theorem vl_667 (l : Launch) : Vld2 l vwCl gTbl con_667 := conR_ok3 gT_all (hd_667) rfl pn_RX11 tk_X11_isTold bo_RX11 xo_RX11 (cto_3 l) ch_667 cut_nil
/-- RookHusting isSet -/
noncomputable def gi_340 : GI := jl_n [gp_192, gp_193, gp_177]
noncomputable def ac_455 : AC := .inl (4, jl_n [jl_1 21 1, jl_8 26 5, jl_1 27 1, jl_8 37 10])
noncomputable def gi_341 : GI := jl_n [gp_192, gp_193, gp_179]
noncomputable def hq_457 : HP := [(false, ac_431), (false, .inl (9, [(6, 2, 0), (8, 19, 0)])), (false, ac_455)]
noncomputable def gi_342 : GI := jl_n [jl_z 1, jl_i 0 31, jl_z 18, jl_i 1 2147483647, jl_z 5, gp_179]
noncomputable def con_668 : Con2 := ((yX11_isSet, cX11_isSet, 2, (some .boolean)), (1, 20), ([(6, 0, 0), (1, 1, 0)], gi_340, [ac_431, .inl (9, [(6, 2, 0), (8, 19, 0)]), ac_455], []), [((0, 0, 0), gi_341, hq_457, [], [1]), ((0, 1, 0), gi_342, hq_457, [], [1])])
theorem hd_668 : con_668.1 = (yX11_isSet, cX11_isSet, 2, (some .boolean)) := rfl
theorem ck_RX11_219_667 : COK2 RX11 vwCl gTbl 219 0 con_667 := ⟨wd_795, wd_125, mh_X11_isTold, .inr (.inr ⟨rfl, wd_792, wd_794, wd_15, ⟨_, rfl, pd_X11_isTold⟩, 11, _, TX11, 16, rfl, rfl⟩)⟩
noncomputable def ct_668 : CTB2 := [(1, 219, 0, con_667, [0, 1, 2])]
noncomputable def cu_668 : List CUT2 := []
theorem ch_668 : staG tb_X11_isSet 1 bt_RX11 [] ct_668 [] [] cu_668 18 con_668 = true := by decide +kernel
theorem cto_668 (l : Launch) : CTOK2 l RX11 vwCl gTbl ct_668 := ct2_cons (vl_667 l) ck_RX11_219_667 (ct2_nil)
theorem vl_668 (l : Launch) : Vld2 l vwCl gTbl con_668 := conR_ok3 gT_all (hd_668) rfl pn_RX11 tk_X11_isSet bo_RX11 xo_RX11 (cto_668 l) ch_668 cut_nil
/-- RookHusting isLaw -/
noncomputable def con_669 : Con2 := ((yX11_isLaw, cX11_isLaw, 1, (some .boolean)), (0, 0), ([(1, 0, 0)], [((-2147483648), 2147483647)], [], []), [((0, 0, 0), [((-2147483648), 2147483647), (0, 0)], [], [], [1]), ((0, 1, 0), [(0, 3), (0, 0)], [], [], [1])])
theorem hd_669 : con_669.1 = (yX11_isLaw, cX11_isLaw, 1, (some .boolean)) := rfl
noncomputable def cu_669 : List CUT2 := []
theorem ch_669 : staG tb_X11_isLaw 1 bt_RX11 [] ct_3 [] [] cu_669 10 con_669 = true := by decide +kernel
theorem vl_669 (l : Launch) : Vld2 l vwCl gTbl con_669 := conR_ok3 gT_all (hd_669) rfl pn_RX11 tk_X11_isLaw bo_RX11 xo_RX11 (cto_3 l) ch_669 cut_nil
/-- java/lang/Integer bitCount -/
noncomputable def con_670 : Con2 := ((yJ6_bitCount_0f7a4, cJ6_bitCount_0f7a4, 1, (some .int)), (0, 0), ([(1, 0, 0)], [((-2147483648), 2147483647)], [], []), [((1, 1, 0), [((-2147483648), 2147483647), (0, 63)], [], [], [1])])
theorem hd_670 : con_670.1 = (yJ6_bitCount_0f7a4, cJ6_bitCount_0f7a4, 1, (some .int)) := rfl
noncomputable def ct_670 : CTB2 := []
noncomputable def cu_670 : List CUT2 := []
theorem ch_670 : staG tb_J_bitCount 1 bt_RJ6 [] ct_670 [] [] cu_670 44 con_670 = true := by decide +kernel
theorem cto_670 (l : Launch) : CTOK2 l RJ6 vwCl gTbl ct_670 := ct2_nil
theorem vl_670 (l : Launch) : Vld2 l vwCl gTbl con_670 := conR_ok3 gT_all (hd_670) rfl pn_RJ6 tk_J_bitCount bo_RJ6 xo_RJ6 (cto_670 l) ch_670 cut_nil
/-- RookHusting$Election hatsFor -/
noncomputable def gi_343 : GI := jl_n [gp_195, gp_82, gp_197]
noncomputable def ac_456 : AC := .inl (4, jl_n [jl_8 15 7, jl_1 16 1, jl_8 21 5, jl_6 4 1, jl_8 24 2, jl_6 2 1])
noncomputable def hc_75 : List AC := [.inl (1, [(6, 2, 0), (8, 7, 0)]), am_5, ac_456, am_7]
noncomputable def gi_344 : GI := jl_n [gp_195, gp_82, gp_198]
noncomputable def hq_458 : HP := [(false, .inl (1, [(6, 2, 0), (8, 7, 0)])), (false, am_5), (false, ac_456), (false, am_7)]
noncomputable def con_671 : Con2 := ((yX1_hatsFor, cX1_hatsFor, 13, (some .int)), (1, 20), ([(6, 0, 0), (6, 1, 0), (1, 2, 0), (1, 3, 0), (1, 4, 0), (1, 5, 0)], gi_343, hc_75, []), [((1, 25, 0), gi_344, hq_458, [], [1])])
theorem hd_671 : con_671.1 = (yX1_hatsFor, cX1_hatsFor, 13, (some .int)) := rfl
theorem ck_RX1_19_670 : COK2 RX1 vwCl gTbl 19 1 con_670 := ⟨wd_806, wd_144, mh_J_bitCount, .inl ⟨rfl, wd_804, wd_805, pd_J_bitCount⟩⟩
noncomputable def ct_671 : CTB2 := [(4, 19, 1, con_670, []), (69, 19, 1, con_670, [])]
noncomputable def gi_345 : GI := jl_n [gp_195, gp_82, gp_196, jl_z 12, jl_i 0 3, gp_194, jl_m 0 62, jl_i 1 2, jl_i 0 7]
noncomputable def cu_671 : List CUT2 := [((26, [lq 0 6 0, lq 1 6 1, lq 2 1 2, lq 3 1 28, lq 4 1 4, lq 5 1 5, lq 6 1 31, lq 7 1 32, lq 8 1 33, lq 9 1 34], [], gi_345, hq_458), [], ([(34, (-1))], 7))]
theorem ch_671 : staG tb_X1_hatsFor 1 bt_RX1 [] ct_671 [] [] cu_671 54 con_671 = true := by decide +kernel
theorem cc_671 : cu_671.all (cutG tb_X1_hatsFor 1 bt_RX1 [] ct_671 [] [] cu_671 54 con_671) = true := by decide +kernel
theorem cto_671 (l : Launch) : CTOK2 l RX1 vwCl gTbl ct_671 := ct2_cons (vl_670 l) ck_RX1_19_670 (ct2_cons (vl_670 l) ck_RX1_19_670 (ct2_nil))
theorem vl_671 (l : Launch) : Vld2 l vwCl gTbl con_671 := conR_ok3 gT_all (hd_671) rfl pn_RX1 tk_X1_hatsFor bo_RX1 xo_RX1 (cto_671 l) ch_671 (cut_all cc_671)
/-- RookHusting votes -/
noncomputable def gi_346 : GI := jl_n [gp_199, gp_201]
noncomputable def ac_457 : AC := .inl (11, jl_n [vp_53, jl_6 4 1, jl_8 20 10])
noncomputable def ac_458 : AC := .inl (4, jl_n [jl_1 23 1, jl_8 28 5, jl_1 30 2, jl_8 35 5, jl_6 6 1, jl_8 38 2, jl_6 5 1])
noncomputable def hc_76 : List AC := [ac_457, .inl (9, [(6, 2, 0), (8, 21, 0)]), ac_458, .inl (1, [(6, 2, 0), (8, 40, 0)]), am_5, am_7]
noncomputable def gi_347 : GI := jl_n [gp_199, gp_201, jl_t]
noncomputable def hq_459 : HP := [(false, ac_457), (false, .inl (9, [(6, 2, 0), (8, 21, 0)])), (false, ac_458), (false, .inl (1, [(6, 2, 0), (8, 40, 0)])), (false, am_5), (false, am_7)]
noncomputable def con_672 : Con2 := ((yX11_votes, cX11_votes, 4, (some .int)), (2, 52), ([(6, 0, 0), (1, 1, 0), (1, 2, 0), (1, 3, 0)], gi_346, hc_76, []), [((1, 41, 0), gi_347, hq_459, [], [1])])
theorem hd_672 : con_672.1 = (yX11_votes, cX11_votes, 4, (some .int)) := rfl
theorem ck_RX11_190_671 : COK2 RX11 vwCl gTbl 190 0 con_671 := ⟨wd_803, wd_132, mh_X1_hatsFor, .inr (.inr ⟨rfl, wd_800, wd_801, wd_802, ⟨_, rfl, pd_X1_hatsFor⟩, 1, _, TX1, 2, rfl, rfl⟩)⟩
theorem ck_RX11_183_46 : COK2 RX11 vwCl gTbl 183 1 con_46 := ⟨wd_682, wd_125, mh_X11_hasBit, .inl ⟨rfl, wd_799, wd_681, pd_X11_hasBit⟩⟩
theorem ck_RX11_180_669 : COK2 RX11 vwCl gTbl 180 1 con_669 := ⟨wd_798, wd_125, mh_X11_isLaw, .inl ⟨rfl, wd_796, wd_797, pd_X11_isLaw⟩⟩
theorem ck_RX11_177_668 : COK2 RX11 vwCl gTbl 177 0 con_668 := ⟨wd_791, wd_125, mh_X11_isSet, .inr (.inr ⟨rfl, wd_788, wd_790, wd_14, ⟨_, rfl, pd_X11_isSet⟩, 11, _, TX11, 16, rfl, rfl⟩)⟩
noncomputable def ct_672 : CTB2 := [(2, 177, 0, con_668, [0, 1, 2]), (9, 180, 1, con_669, []), (17, 156, 0, con_653, [0, 1, 2]), (25, 183, 1, con_46, []), (52, 190, 0, con_671, [3, 4, 2, 5])]
noncomputable def cu_672 : List CUT2 := []
theorem ch_672 : staG tb_X11_votes 1 bt_RX11 [] ct_672 [] [] cu_672 29 con_672 = true := by decide +kernel
theorem cto_672 (l : Launch) : CTOK2 l RX11 vwCl gTbl ct_672 := ct2_cons (vl_668 l) ck_RX11_177_668 (ct2_cons (vl_669 l) ck_RX11_180_669 (ct2_cons (vl_653 l) ck_RX11_156_653 (ct2_cons (vl_46 l) ck_RX11_183_46 (ct2_cons (vl_671 l) ck_RX11_190_671 (ct2_nil)))))
theorem vl_672 (l : Launch) : Vld2 l vwCl gTbl con_672 := conR_ok3 gT_all (hd_672) rfl pn_RX11 tk_X11_votes bo_RX11 xo_RX11 (cto_672 l) ch_672 cut_nil
/-- RookHustingModel isHundred -/
noncomputable def gi_348 : GI := jl_n [jl_z 46, gp_15, gp_202]
noncomputable def gi_349 : GI := jl_n [jl_z 46, gp_205]
noncomputable def con_673 : Con2 := ((yX12_isHundred, cX12_isHundred, 1, (some .boolean)), (0, 0), ([(6, 0, 0)], gi_299, [ac_435, ac_436], []), [((0, 0, 0), gi_348, [(false, ac_435), (false, ac_436)], [], [1]), ((0, 1, 0), gi_349, [(false, ac_435), (false, ac_436)], [], [1])])
theorem hd_673 : con_673.1 = (yX12_isHundred, cX12_isHundred, 1, (some .boolean)) := rfl
noncomputable def cu_673 : List CUT2 := []
theorem ch_673 : staG tb_X12_isHundred 1 bt_RX12 [] ct_2 [] [] cu_673 10 con_673 = true := by decide +kernel
theorem vl_673 (l : Launch) : Vld2 l vwCl gTbl con_673 := conR_ok3 gT_all (hd_673) rfl pn_RX12 tk_X12_isHundred bo_RX12 xo_RX12 (cto_2 l) ch_673 cut_nil
/-- RookHustingModel allMen -/
noncomputable def gi_350 : GI := jl_n [gp_163, jl_i 0 31]
noncomputable def con_674 : Con2 := ((yX12_allMen, cX12_allMen, 1, (some .int)), (1, 20), ([(6, 0, 0)], gi_299, [ac_435, ac_436], []), [((1, 69, 0), gi_350, [(false, ac_435), (false, ac_436)], [], [1])])
theorem hd_674 : con_674.1 = (yX12_allMen, cX12_allMen, 1, (some .int)) := rfl
noncomputable def ct_674 : CTB2 := [(2, 95, 0, con_655, [0, 1])]
noncomputable def cu_674 : List CUT2 := []
theorem ch_674 : staG tb_X12_allMen 1 bt_RX12 [] ct_674 [] [] cu_674 9 con_674 = true := by decide +kernel
theorem cto_674 (l : Launch) : CTOK2 l RX12 vwCl gTbl ct_674 := ct2_cons (vl_655 l) ck_RX12_95_655 (ct2_nil)
theorem vl_674 (l : Launch) : Vld2 l vwCl gTbl con_674 := conR_ok3 gT_all (hd_674) rfl pn_RX12 tk_X12_allMen bo_RX12 xo_RX12 (cto_674 l) ch_674 cut_nil
/-- RookHustingModel in -/
noncomputable def gi_351 : GI := jl_n [gp_129, jl_i 0 31]
noncomputable def gi_352 : GI := jl_n [gp_129, jl_i 0 31, jl_z 1]
noncomputable def con_675 : Con2 := ((yX12_in, cX12_in, 6, (some .boolean)), (0, 0), ([(4, 0, 0), (3, 0, 0), (4, 2, 0)], gi_351, [], []), [((0, 0, 0), gi_352, [], [], [1]), ((0, 1, 0), [(0, 31), (0, 0), (0, 31), (0, 0)], [], [], [1])])
theorem hd_675 : con_675.1 = (yX12_in, cX12_in, 6, (some .boolean)) := rfl
noncomputable def cu_675 : List CUT2 := []
theorem ch_675 : staG tb_X12_in 1 bt_RX12 [] ct_2 [] [] cu_675 11 con_675 = true := by decide +kernel
theorem vl_675 (l : Launch) : Vld2 l vwCl gTbl con_675 := conR_ok3 gT_all (hd_675) rfl pn_RX12 tk_X12_in bo_RX12 xo_RX12 (cto_2 l) ch_675 cut_nil
/-- RookHustingModel isSet -/
noncomputable def gi_353 : GI := jl_n [jl_z 1, jl_i 0 31, gp_206, gp_204]
noncomputable def con_676 : Con2 := ((yX12_isSet, cX12_isSet, 2, (some .boolean)), (2, 40), ([(6, 0, 0), (1, 1, 0)], gi_317, [ac_437, ac_438], []), [((0, 0, 0), gi_318, [(false, ac_437), (false, ac_438)], [], [1]), ((0, 1, 0), gi_353, [(false, ac_437), (false, ac_438)], [], [1])])
theorem hd_676 : con_676.1 = (yX12_isSet, cX12_isSet, 2, (some .boolean)) := rfl
theorem ck_RX12_91_675 : COK2 RX12 vwCl gTbl 91 1 con_675 := ⟨wd_1544, wd_137, mh_X12_in, .inl ⟨rfl, wd_1542, wd_1543, pd_X12_in⟩⟩
theorem ck_RX12_269_674 : COK2 RX12 vwCl gTbl 269 0 con_674 := ⟨wd_1708, wd_137, mh_X12_allMen, .inr (.inr ⟨rfl, wd_1705, wd_1707, wd_75, ⟨_, rfl, pd_X12_allMen⟩, 12, _, TX12, 45, rfl, rfl⟩)⟩
theorem ck_RX12_99_673 : COK2 RX12 vwCl gTbl 99 0 con_673 := ⟨wd_1704, wd_137, mh_X12_isHundred, .inr (.inr ⟨rfl, wd_1701, wd_1703, wd_74, ⟨_, rfl, pd_X12_isHundred⟩, 12, _, TX12, 45, rfl, rfl⟩)⟩
noncomputable def ct_676 : CTB2 := [(1, 99, 0, con_673, [0, 1]), (11, 269, 0, con_674, [0, 1]), (15, 91, 1, con_675, [])]
noncomputable def cu_676 : List CUT2 := []
theorem ch_676 : staG tb_X12_isSet 1 bt_RX12 [] ct_676 [] [] cu_676 16 con_676 = true := by decide +kernel
theorem cto_676 (l : Launch) : CTOK2 l RX12 vwCl gTbl ct_676 := ct2_cons (vl_673 l) ck_RX12_99_673 (ct2_cons (vl_674 l) ck_RX12_269_674 (ct2_cons (vl_675 l) ck_RX12_91_675 (ct2_nil)))
theorem vl_676 (l : Launch) : Vld2 l vwCl gTbl con_676 := conR_ok3 gT_all (hd_676) rfl pn_RX12 tk_X12_isSet bo_RX12 xo_RX12 (cto_676 l) ch_676 cut_nil
/-- RookHustingModel hatsOf -/
noncomputable def gi_354 : GI := jl_n [jl_z 47, gp_124]
noncomputable def gi_355 : GI := jl_n [jl_z 47, gp_124, jl_i 0 9]
noncomputable def con_677 : Con2 := ((yX12_hatsOf, cX12_hatsOf, 2, (some .int)), (0, 0), ([(6, 0, 0), (0, 0, 0)], gi_354, [ac_437, ac_438], []), [((1, 70, 0), gi_355, [(false, ac_437), (false, ac_438)], [], [1])])
theorem hd_677 : con_677.1 = (yX12_hatsOf, cX12_hatsOf, 2, (some .int)) := rfl
noncomputable def cu_677 : List CUT2 := []
theorem ch_677 : staG tb_X12_hatsOf 1 bt_RX12 [] ct_2 [] [] cu_677 11 con_677 = true := by decide +kernel
theorem vl_677 (l : Launch) : Vld2 l vwCl gTbl con_677 := conR_ok3 gT_all (hd_677) rfl pn_RX12 tk_X12_hatsOf bo_RX12 xo_RX12 (cto_2 l) ch_677 cut_nil
/-- RookHustingModel bits -/
noncomputable def con_678 : Con2 := ((yX12_bits, cX12_bits, 3, (some .int)), (0, 0), ([(1, 0, 0)], [((-2147483648), 2147483647)], [], []), [((1, 1, 0), [((-2147483648), 2147483647), (0, 16)], [], [], [1])])
theorem hd_678 : con_678.1 = (yX12_bits, cX12_bits, 3, (some .int)) := rfl
noncomputable def cu_678 : List CUT2 := []
theorem ch_678 : staG tb_X12_bits 1 bt_RX12 [] ct_2 [] [] cu_678 219 con_678 = true := by decide +kernel
theorem vl_678 (l : Launch) : Vld2 l vwCl gTbl con_678 := conR_ok3 gT_all (hd_678) rfl pn_RX12 tk_X12_bits bo_RX12 xo_RX12 (cto_2 l) ch_678 cut_nil
/-- RookHustingModel timesOf -/
noncomputable def gi_356 : GI := jl_n [gp_183, jl_t, gp_207, jl_z 45]
noncomputable def ac_459 : AC := .inl (12, jl_n [jl_8 20 15, jl_6 3 1, jl_6 2 1, jl_8 50 28])
noncomputable def hc_77 : List AC := [ac_459, am_8, am_6]
noncomputable def gi_357 : GI := jl_n [gp_183, jl_t, gp_207, jl_z 45, jl_t]
noncomputable def hq_460 : HP := [(false, ac_459), (false, am_8), (false, am_6)]
noncomputable def con_679 : Con2 := ((yX12_timesOf, cX12_timesOf, 8, (some .int)), (1, 22), ([(6, 0, 0), (1, 1, 0), (1, 2, 0), (1, 3, 0), (1, 4, 0)], gi_356, hc_77, []), [((1, 50, 0), gi_357, hq_460, [], [1])])
theorem hd_679 : con_679.1 = (yX12_timesOf, cX12_timesOf, 8, (some .int)) := rfl
theorem ck_RX12_252_678 : COK2 RX12 vwCl gTbl 252 1 con_678 := ⟨wd_1720, wd_137, mh_X12_bits, .inl ⟨rfl, wd_1718, wd_1719, pd_X12_bits⟩⟩
noncomputable def ct_679 : CTB2 := [(33, 199, 1, con_390, []), (55, 252, 1, con_678, [])]
noncomputable def gi_358 : GI := jl_n [gp_183, jl_t, gp_207, jl_z 50, gp_208]
noncomputable def cu_679 : List CUT2 := [((6, [lq 0 6 0, lq 1 1 1, lq 2 1 2, lq 3 1 3, lq 4 1 4, lq 5 1 55, lq 6 1 56], [], gi_358, hq_460), [], ([(56, (-1))], 5))]
theorem ch_679 : staG tb_X12_timesOf 1 bt_RX12 [] ct_679 [] [] cu_679 37 con_679 = true := by decide +kernel
theorem cc_679 : cu_679.all (cutG tb_X12_timesOf 1 bt_RX12 [] ct_679 [] [] cu_679 37 con_679) = true := by decide +kernel
theorem cto_679 (l : Launch) : CTOK2 l RX12 vwCl gTbl ct_679 := ct2_cons (vl_390 l) ck_RX12_199_390 (ct2_cons (vl_678 l) ck_RX12_252_678 (ct2_nil))
theorem vl_679 (l : Launch) : Vld2 l vwCl gTbl con_679 := conR_ok3 gT_all (hd_679) rfl pn_RX12 tk_X12_timesOf bo_RX12 xo_RX12 (cto_679 l) ch_679 (cut_all cc_679)
/-- RookHustingModel hatsOf -/
noncomputable def gi_359 : GI := jl_n [gp_209, gp_164]
noncomputable def gi_360 : GI := jl_n [gp_209, gp_184]
noncomputable def con_680 : Con2 := ((yX12_hatsOf, cX12_hatsOf, 2, (some .int)), (0, 0), ([(6, 0, 0), (1, 1, 0)], gi_359, [ac_437, ac_438], []), [((1, 70, 0), gi_360, [(false, ac_437), (false, ac_438)], [], [1])])
theorem hd_680 : con_680.1 = (yX12_hatsOf, cX12_hatsOf, 2, (some .int)) := rfl
noncomputable def cu_680 : List CUT2 := []
theorem ch_680 : staG tb_X12_hatsOf 1 bt_RX12 [] ct_2 [] [] cu_680 11 con_680 = true := by decide +kernel
theorem vl_680 (l : Launch) : Vld2 l vwCl gTbl con_680 := conR_ok3 gT_all (hd_680) rfl pn_RX12 tk_X12_hatsOf bo_RX12 xo_RX12 (cto_2 l) ch_680 cut_nil
/-- RookHustingModel hatsOf -/
noncomputable def gi_361 : GI := jl_n [gp_210, gp_164]
noncomputable def gi_362 : GI := jl_n [gp_210, gp_184]
noncomputable def con_681 : Con2 := ((yX12_hatsOf, cX12_hatsOf, 2, (some .int)), (0, 0), ([(6, 0, 0), (1, 1, 0)], gi_361, [ac_437, ac_438], []), [((1, 70, 0), gi_362, [(false, ac_437), (false, ac_438)], [], [1])])
theorem hd_681 : con_681.1 = (yX12_hatsOf, cX12_hatsOf, 2, (some .int)) := rfl
noncomputable def cu_681 : List CUT2 := []
theorem ch_681 : staG tb_X12_hatsOf 1 bt_RX12 [] ct_2 [] [] cu_681 11 con_681 = true := by decide +kernel
theorem vl_681 (l : Launch) : Vld2 l vwCl gTbl con_681 := conR_ok3 gT_all (hd_681) rfl pn_RX12 tk_X12_hatsOf bo_RX12 xo_RX12 (cto_2 l) ch_681 cut_nil
/-- RookHustingModel hatsOf -/
noncomputable def gi_363 : GI := jl_n [gp_211, gp_164]
noncomputable def gi_364 : GI := jl_n [gp_211, gp_184]
noncomputable def con_682 : Con2 := ((yX12_hatsOf, cX12_hatsOf, 2, (some .int)), (0, 0), ([(6, 0, 0), (1, 1, 0)], gi_363, [ac_437, ac_438], []), [((1, 70, 0), gi_364, [(false, ac_437), (false, ac_438)], [], [1])])
theorem hd_682 : con_682.1 = (yX12_hatsOf, cX12_hatsOf, 2, (some .int)) := rfl
noncomputable def cu_682 : List CUT2 := []
theorem ch_682 : staG tb_X12_hatsOf 1 bt_RX12 [] ct_2 [] [] cu_682 11 con_682 = true := by decide +kernel
theorem vl_682 (l : Launch) : Vld2 l vwCl gTbl con_682 := conR_ok3 gT_all (hd_682) rfl pn_RX12 tk_X12_hatsOf bo_RX12 xo_RX12 (cto_2 l) ch_682 cut_nil
/-- RookHustingModel hatsOf -/
noncomputable def gi_365 : GI := jl_n [gp_52, gp_164]
noncomputable def gi_366 : GI := jl_n [gp_52, gp_184]
noncomputable def con_683 : Con2 := ((yX12_hatsOf, cX12_hatsOf, 2, (some .int)), (0, 0), ([(6, 0, 0), (1, 1, 0)], gi_365, [ac_437, ac_438], []), [((1, 70, 0), gi_366, [(false, ac_437), (false, ac_438)], [], [1])])
theorem hd_683 : con_683.1 = (yX12_hatsOf, cX12_hatsOf, 2, (some .int)) := rfl
noncomputable def cu_683 : List CUT2 := []
theorem ch_683 : staG tb_X12_hatsOf 1 bt_RX12 [] ct_2 [] [] cu_683 11 con_683 = true := by decide +kernel
theorem vl_683 (l : Launch) : Vld2 l vwCl gTbl con_683 := conR_ok3 gT_all (hd_683) rfl pn_RX12 tk_X12_hatsOf bo_RX12 xo_RX12 (cto_2 l) ch_683 cut_nil
/-- RookHustingModel hatsOf -/
noncomputable def gi_367 : GI := jl_n [gp_212, gp_164]
noncomputable def gi_368 : GI := jl_n [gp_212, gp_184]
noncomputable def con_684 : Con2 := ((yX12_hatsOf, cX12_hatsOf, 2, (some .int)), (0, 0), ([(6, 0, 0), (1, 1, 0)], gi_367, [ac_437, ac_438], []), [((1, 70, 0), gi_368, [(false, ac_437), (false, ac_438)], [], [1])])
theorem hd_684 : con_684.1 = (yX12_hatsOf, cX12_hatsOf, 2, (some .int)) := rfl
noncomputable def cu_684 : List CUT2 := []
theorem ch_684 : staG tb_X12_hatsOf 1 bt_RX12 [] ct_2 [] [] cu_684 11 con_684 = true := by decide +kernel
theorem vl_684 (l : Launch) : Vld2 l vwCl gTbl con_684 := conR_ok3 gT_all (hd_684) rfl pn_RX12 tk_X12_hatsOf bo_RX12 xo_RX12 (cto_2 l) ch_684 cut_nil
/-- RookHustingModel votesOf -/
noncomputable def gi_369 : GI := jl_n [gp_7, gp_207, gp_190]
noncomputable def ac_460 : AC := .inl (12, jl_n [vp_56, jl_1 22 1, jl_8 49 27])
noncomputable def ac_461 : AC := .inr (1, jl_n [js_1 58 9, sp_124])
noncomputable def hc_78 : List AC := [ac_460, ac_461, am_8, am_6]
noncomputable def gi_370 : GI := jl_n [gp_7, gp_207, gp_190, jl_t]
noncomputable def hq_461 : HP := [(false, ac_460), (false, ac_461), (false, am_8), (false, am_6)]
noncomputable def con_685 : Con2 := ((yX12_votesOf, cX12_votesOf, 6, (some .int)), (2, 49), ([(6, 0, 0), (1, 1, 0), (1, 2, 0), (1, 3, 0)], gi_369, hc_78, []), [((1, 72, 0), gi_370, hq_461, [], [1])])
theorem hd_685 : con_685.1 = (yX12_votesOf, cX12_votesOf, 6, (some .int)) := rfl
theorem ck_RX12_255_679 : COK2 RX12 vwCl gTbl 255 0 con_679 := ⟨wd_1717, wd_137, mh_X12_timesOf, .inr (.inr ⟨rfl, wd_1714, wd_1716, wd_77, ⟨_, rfl, pd_X12_timesOf⟩, 12, _, TX12, 45, rfl, rfl⟩)⟩
noncomputable def ct_685 : CTB2 := [(24, 199, 1, con_390, []), (35, 243, 0, con_662, [0, 1]), (44, 255, 0, con_679, [0, 2, 3])]
noncomputable def gi_371 : GI := jl_n [gp_7, gp_207, gp_189, gp_123, jl_z 18, gp_213]
noncomputable def cu_685 : List CUT2 := [((6, [lq 0 6 0, lq 1 1 1, lq 2 1 2, lq 3 1 3, lq 4 1 76, lq 5 1 77], [], gi_371, hq_461), [], ([(77, (-1))], 7))]
theorem ch_685 : staG tb_X12_votesOf 1 bt_RX12 [] ct_685 [] [] cu_685 29 con_685 = true := by decide +kernel
theorem cc_685 : cu_685.all (cutG tb_X12_votesOf 1 bt_RX12 [] ct_685 [] [] cu_685 29 con_685) = true := by decide +kernel
theorem cto_685 (l : Launch) : CTOK2 l RX12 vwCl gTbl ct_685 := ct2_cons (vl_390 l) ck_RX12_199_390 (ct2_cons (vl_662 l) ck_RX12_243_662 (ct2_cons (vl_679 l) ck_RX12_255_679 (ct2_nil)))
theorem vl_685 (l : Launch) : Vld2 l vwCl gTbl con_685 := conR_ok3 gT_all (hd_685) rfl pn_RX12 tk_X12_votesOf bo_RX12 xo_RX12 (cto_685 l) ch_685 (cut_all cc_685)
/-- RookHustingModel votes -/
noncomputable def gi_372 : GI := jl_n [gp_199, gp_190]
noncomputable def gi_373 : GI := jl_n [gp_199, gp_190, gp_176]
noncomputable def ac_462 : AC := .inl (12, jl_n [vp_55, vp_47, jl_8 49 27])
noncomputable def hq_462 : HP := [(true, ac_462), (false, ac_461), (true, am_8), (true, am_6)]
noncomputable def con_686 : Con2 := ((yX12_votes, cX12_votes, 4, (some .int)), (3, 74), ([(6, 0, 0), (1, 1, 0), (1, 2, 0), (1, 3, 0)], gi_372, hc_78, []), [((1, 72, 0), gi_373, hq_462, [], tg_1)])
theorem hd_686 : con_686.1 = (yX12_votes, cX12_votes, 4, (some .int)) := rfl
theorem ck_RX12_259_685 : COK2 RX12 vwCl gTbl 259 0 con_685 := ⟨wd_1713, wd_137, mh_X12_votesOf, .inr (.inr ⟨rfl, wd_1710, wd_1712, wd_76, ⟨_, rfl, pd_X12_votesOf⟩, 12, _, TX12, 45, rfl, rfl⟩)⟩
theorem ck_RX12_272_676 : COK2 RX12 vwCl gTbl 272 0 con_676 := ⟨wd_1700, wd_137, mh_X12_isSet, .inr (.inr ⟨rfl, wd_1697, wd_1699, wd_73, ⟨_, rfl, pd_X12_isSet⟩, 12, _, TX12, 45, rfl, rfl⟩)⟩
noncomputable def ct_686 : CTB2 := [(1, 249, 0, con_665, [0, 1, 2, 3]), (6, 272, 0, con_676, [0, 1]), (18, 91, 1, con_332, []), (26, 236, 0, con_656, [0, 1]), (34, 199, 1, con_390, []), (45, 259, 0, con_685, [0, 1, 2, 3])]
noncomputable def cu_686 : List CUT2 := []
theorem ch_686 : staG tb_X12_votes 1 bt_RX12 [] ct_686 [] [] cu_686 30 con_686 = true := by decide +kernel
theorem cto_686 (l : Launch) : CTOK2 l RX12 vwCl gTbl ct_686 := ct2_cons (vl_665 l) ck_RX12_249_665 (ct2_cons (vl_676 l) ck_RX12_272_676 (ct2_cons (vl_332 l) ck_RX12_91_332 (ct2_cons (vl_656 l) ck_RX12_236_656 (ct2_cons (vl_390 l) ck_RX12_199_390 (ct2_cons (vl_685 l) ck_RX12_259_685 (ct2_nil))))))
theorem vl_686 (l : Launch) : Vld2 l vwCl gTbl con_686 := conR_ok3 gT_all (hd_686) rfl pn_RX12 tk_X12_votes bo_RX12 xo_RX12 (cto_686 l) ch_686 cut_nil
/-- RookHusting$Election firstOfMost -/
noncomputable def gi_374 : GI := jl_n [gp_195, gp_214, gp_215]
noncomputable def ac_463 : AC := .inl (4, jl_n [jl_8 13 6, jl_1 15 2, jl_8 20 5, jl_6 4 1, jl_8 23 2, jl_6 2 1])
noncomputable def hc_79 : List AC := [.inl (1, [(6, 2, 0), (8, 6, 0)]), am_5, ac_463, am_7]
noncomputable def gi_375 : GI := jl_n [gp_195, gp_214, gp_215, jl_m 0 4]
noncomputable def hq_463 : HP := [(false, .inl (1, [(6, 2, 0), (8, 6, 0)])), (false, am_5), (false, ac_463), (false, am_7)]
noncomputable def con_687 : Con2 := ((yX1_firstOfMost, cX1_firstOfMost, 9, (some .int)), (2, 52), ([(6, 0, 0), (6, 1, 0), (1, 2, 0), (1, 3, 0), (1, 4, 0)], gi_374, hc_79, []), [((1, 24, 0), gi_375, hq_463, [], [1])])
theorem hd_687 : con_687.1 = (yX1_firstOfMost, cX1_firstOfMost, 9, (some .int)) := rfl
theorem ck_RX1_49_671 : COK2 RX1 vwCl gTbl 49 0 con_671 := ⟨wd_803, wd_132, mh_X1_hatsFor, .inr (.inr ⟨rfl, wd_824, wd_801, wd_802, ⟨_, rfl, pd_X1_hatsFor⟩, 1, _, TX1, 2, rfl, rfl⟩)⟩
theorem ck_RX1_45_46 : COK2 RX1 vwCl gTbl 45 2 con_46 := ⟨wd_682, wd_125, mh_X11_hasBit, .inr (.inl ⟨rfl, by decide +kernel, wd_681, pd_X11_hasBit⟩)⟩
noncomputable def ct_687 : CTB2 := [(24, 45, 2, con_46, []), (38, 49, 0, con_671, [0, 1, 2, 3])]
noncomputable def gi_376 : GI := jl_n [gp_195, gp_214, gp_12, jl_z 14, jl_m 0 4, jl_m 0 2147483647, jl_i 0 5]
noncomputable def cu_687 : List CUT2 := [((9, [lq 0 6 0, lq 1 6 1, lq 2 1 2, lq 3 1 3, lq 4 1 4, lq 5 1 29, lq 6 1 30, lq 7 1 31], [], gi_376, hq_463), [], ([(31, (-1))], 5))]
theorem ch_687 : staG tb_X1_firstOfMost 1 bt_RX1 [] ct_687 [] [] cu_687 29 con_687 = true := by decide +kernel
theorem cc_687 : cu_687.all (cutG tb_X1_firstOfMost 1 bt_RX1 [] ct_687 [] [] cu_687 29 con_687) = true := by decide +kernel
theorem cto_687 (l : Launch) : CTOK2 l RX1 vwCl gTbl ct_687 := ct2_cons (vl_46 l) ck_RX1_45_46 (ct2_cons (vl_671 l) ck_RX1_49_671 (ct2_nil))
theorem vl_687 (l : Launch) : Vld2 l vwCl gTbl con_687 := conR_ok3 gT_all (hd_687) rfl pn_RX1 tk_X1_firstOfMost bo_RX1 xo_RX1 (cto_687 l) ch_687 (cut_all cc_687)
/-- RookHusting$Election lastOfFewest -/
noncomputable def gi_377 : GI := jl_n [gp_216, jl_z 8, gp_215]
noncomputable def ac_464 : AC := .inl (4, jl_n [jl_8 12 6, jl_1 14 2, jl_8 19 5, jl_6 4 1, jl_8 22 2, jl_6 2 1])
noncomputable def hc_80 : List AC := [.inl (1, [(6, 2, 0), (8, 5, 0)]), am_5, ac_464, am_7]
noncomputable def gi_378 : GI := jl_n [gp_216, jl_z 8, gp_215, jl_i 0 4]
noncomputable def hq_464 : HP := [(false, .inl (1, [(6, 2, 0), (8, 5, 0)])), (false, am_5), (false, ac_464), (false, am_7)]
noncomputable def con_688 : Con2 := ((yX1_lastOfFewest, cX1_lastOfFewest, 8, (some .int)), (2, 52), ([(6, 0, 0), (6, 1, 0), (1, 2, 0), (1, 3, 0)], gi_377, hc_80, []), [((1, 23, 0), gi_378, hq_464, [], [1])])
theorem hd_688 : con_688.1 = (yX1_lastOfFewest, cX1_lastOfFewest, 8, (some .int)) := rfl
noncomputable def ct_688 : CTB2 := [(25, 45, 2, con_46, []), (38, 49, 0, con_671, [0, 1, 2, 3])]
noncomputable def gi_379 : GI := jl_n [gp_216, jl_z 8, gp_12, jl_z 13, jl_i 0 4, jl_m 2147483647 1000000, jl_i 0 5]
noncomputable def cu_688 : List CUT2 := [((10, [lq 0 6 0, lq 1 6 1, lq 2 1 2, lq 3 1 3, lq 4 1 27, lq 5 1 28, lq 6 1 29], [], gi_379, hq_464), [], ([(29, (-1))], 5))]
theorem ch_688 : staG tb_X1_lastOfFewest 1 bt_RX1 [] ct_688 [] [] cu_688 29 con_688 = true := by decide +kernel
theorem cc_688 : cu_688.all (cutG tb_X1_lastOfFewest 1 bt_RX1 [] ct_688 [] [] cu_688 29 con_688) = true := by decide +kernel
theorem cto_688 (l : Launch) : CTOK2 l RX1 vwCl gTbl ct_688 := ct2_cons (vl_46 l) ck_RX1_45_46 (ct2_cons (vl_671 l) ck_RX1_49_671 (ct2_nil))
theorem vl_688 (l : Launch) : Vld2 l vwCl gTbl con_688 := conR_ok3 gT_all (hd_688) rfl pn_RX1 tk_X1_lastOfFewest bo_RX1 xo_RX1 (cto_688 l) ch_688 (cut_all cc_688)
/-- RookHusting$Election winner -/
noncomputable def con_689 : Con2 := ((yX1_winner, cX1_winner, 7, (some .int)), (3, 80), ([(6, 0, 0), (6, 1, 0), (1, 2, 0), (1, 3, 0), (1, 4, 0)], gi_374, hc_79, []), [((1, 24, 0), gi_375, hq_463, [], [1])])
theorem hd_689 : con_689.1 = (yX1_winner, cX1_winner, 7, (some .int)) := rfl
theorem ck_RX1_38_687 : COK2 RX1 vwCl gTbl 38 0 con_687 := ⟨wd_828, wd_132, mh_X1_firstOfMost, .inr (.inr ⟨rfl, wd_825, wd_827, wd_17, ⟨_, rfl, pd_X1_firstOfMost⟩, 1, _, TX1, 2, rfl, rfl⟩)⟩
theorem ck_RX1_34_688 : COK2 RX1 vwCl gTbl 34 0 con_688 := ⟨wd_821, wd_132, mh_X1_lastOfFewest, .inr (.inr ⟨rfl, wd_818, wd_820, wd_16, ⟨_, rfl, pd_X1_lastOfFewest⟩, 1, _, TX1, 2, rfl, rfl⟩)⟩
noncomputable def ct_689 : CTB2 := [(19, 19, 1, con_670, []), (35, 34, 0, con_688, [0, 1, 2, 3]), (57, 38, 0, con_687, [0, 1, 2, 3])]
noncomputable def gi_380 : GI := jl_n [gp_194, jl_i 2 2, gp_214, gp_12, jl_z 14, gp_208]
noncomputable def cu_689 : List CUT2 := [((11, [lq 0 6 0, lq 1 6 1, lq 2 1 2, lq 3 0 2, lq 4 1 4, lq 5 1 29, lq 6 1 30], [], gi_380, hq_463), [], ([(30, (-1))], 5))]
theorem ch_689 : staG tb_X1_winner 1 bt_RX1 [] ct_689 [] [] cu_689 24 con_689 = true := by decide +kernel
theorem cc_689 : cu_689.all (cutG tb_X1_winner 1 bt_RX1 [] ct_689 [] [] cu_689 24 con_689) = true := by decide +kernel
theorem cto_689 (l : Launch) : CTOK2 l RX1 vwCl gTbl ct_689 := ct2_cons (vl_670 l) ck_RX1_19_670 (ct2_cons (vl_688 l) ck_RX1_34_688 (ct2_cons (vl_687 l) ck_RX1_38_687 (ct2_nil)))
theorem vl_689 (l : Launch) : Vld2 l vwCl gTbl con_689 := conR_ok3 gT_all (hd_689) rfl pn_RX1 tk_X1_winner bo_RX1 xo_RX1 (cto_689 l) ch_689 (cut_all cc_689)
/-- RookHusting elects -/
noncomputable def gi_381 : GI := jl_n [gp_162, gp_201]
noncomputable def ac_465 : AC := .inl (11, jl_n [vp_57, jl_6 4 1, jl_8 19 10])
noncomputable def ac_466 : AC := .inl (4, jl_n [jl_1 22 1, jl_8 27 5, jl_1 29 2, jl_8 34 5, jl_6 6 1, jl_8 37 2, jl_6 5 1])
noncomputable def hc_81 : List AC := [ac_465, .inl (9, [(6, 2, 0), (8, 20, 0)]), ac_466, .inl (1, [(6, 2, 0), (8, 39, 0)]), am_5, am_7]
noncomputable def gi_382 : GI := jl_n [gp_162, gp_201, jl_m 1 4]
noncomputable def hq_465 : HP := [(false, ac_465), (false, .inl (9, [(6, 2, 0), (8, 20, 0)])), (false, ac_466), (false, .inl (1, [(6, 2, 0), (8, 39, 0)])), (false, am_5), (false, am_7)]
noncomputable def con_690 : Con2 := ((yX11_elects, cX11_elects, 3, (some .int)), (4, 106), ([(6, 0, 0), (1, 1, 0), (1, 2, 0)], gi_381, hc_81, []), [((1, 40, 0), gi_382, hq_465, [], [1])])
theorem hd_690 : con_690.1 = (yX11_elects, cX11_elects, 3, (some .int)) := rfl
theorem ck_RX11_194_689 : COK2 RX11 vwCl gTbl 194 0 con_689 := ⟨wd_817, wd_132, mh_X1_winner, .inr (.inr ⟨rfl, wd_814, wd_815, wd_816, ⟨_, rfl, pd_X1_winner⟩, 1, _, TX1, 2, rfl, rfl⟩)⟩
noncomputable def ct_690 : CTB2 := [(2, 177, 0, con_668, [0, 1, 2]), (9, 180, 1, con_669, []), (35, 194, 0, con_689, [3, 4, 2, 5])]
noncomputable def cu_690 : List CUT2 := []
theorem ch_690 : staG tb_X11_elects 1 bt_RX11 [] ct_690 [] [] cu_690 20 con_690 = true := by decide +kernel
theorem cto_690 (l : Launch) : CTOK2 l RX11 vwCl gTbl ct_690 := ct2_cons (vl_668 l) ck_RX11_177_668 (ct2_cons (vl_669 l) ck_RX11_180_669 (ct2_cons (vl_689 l) ck_RX11_194_689 (ct2_nil)))
theorem vl_690 (l : Launch) : Vld2 l vwCl gTbl con_690 := conR_ok3 gT_all (hd_690) rfl pn_RX11 tk_X11_elects bo_RX11 xo_RX11 (cto_690 l) ch_690 cut_nil
/-- RookHustingModel men -/
noncomputable def gi_383 : GI := jl_n [jl_z 46, gp_219]
noncomputable def ac_467 : AC := .inr (1, jl_n [js_1 51 5, jl_x (1, (0, 5, 0)), sp_127])
noncomputable def gi_384 : GI := jl_n [jl_z 46, gp_220]
noncomputable def con_691 : Con2 := ((yX12_men, cX12_men, 1, (some .int)), (0, 0), ([(6, 0, 0)], gi_383, [ac_435, ac_467], []), [((0, 5, 0), gi_384, [(false, ac_435), (false, ac_467)], [], [1])])
theorem hd_691 : con_691.1 = (yX12_men, cX12_men, 1, (some .int)) := rfl
noncomputable def cu_691 : List CUT2 := []
theorem ch_691 : staG tb_X12_men 1 bt_RX12 [] ct_2 [] [] cu_691 7 con_691 = true := by decide +kernel
theorem vl_691 (l : Launch) : Vld2 l vwCl gTbl con_691 := conR_ok3 gT_all (hd_691) rfl pn_RX12 tk_X12_men bo_RX12 xo_RX12 (cto_2 l) ch_691 cut_nil
/-- RookHustingModel allMen -/
noncomputable def con_692 : Con2 := ((yX12_allMen, cX12_allMen, 1, (some .int)), (1, 20), ([(6, 0, 0)], gi_383, [ac_435, ac_467], []), [((0, 31, 0), gi_384, [(false, ac_435), (false, ac_467)], [], [1])])
theorem hd_692 : con_692.1 = (yX12_allMen, cX12_allMen, 1, (some .int)) := rfl
theorem ck_RX12_95_691 : COK2 RX12 vwCl gTbl 95 0 con_691 := ⟨wd_1672, wd_137, mh_X12_men, .inr (.inr ⟨rfl, wd_1669, wd_1671, wd_69, ⟨_, rfl, pd_X12_men⟩, 12, _, TX12, 45, rfl, rfl⟩)⟩
noncomputable def ct_692 : CTB2 := [(2, 95, 0, con_691, [0, 1])]
noncomputable def cu_692 : List CUT2 := []
theorem ch_692 : staG tb_X12_allMen 1 bt_RX12 [] ct_692 [] [] cu_692 9 con_692 = true := by decide +kernel
theorem cto_692 (l : Launch) : CTOK2 l RX12 vwCl gTbl ct_692 := ct2_cons (vl_691 l) ck_RX12_95_691 (ct2_nil)
theorem vl_692 (l : Launch) : Vld2 l vwCl gTbl con_692 := conR_ok3 gT_all (hd_692) rfl pn_RX12 tk_X12_allMen bo_RX12 xo_RX12 (cto_692 l) ch_692 cut_nil
/-- RookHustingModel in -/
noncomputable def con_693 : Con2 := ((yX12_in, cX12_in, 6, (some .boolean)), (0, 0), ([(4, 0, 0), (3, 0, 0), (3, 31, 0)], gi_146, [], []), [((0, 0, 0), gi_147, [], [], [1]), ((0, 1, 0), [(0, 31), (0, 0), (0, 0), (0, 0)], [], [], [1])])
theorem hd_693 : con_693.1 = (yX12_in, cX12_in, 6, (some .boolean)) := rfl
noncomputable def cu_693 : List CUT2 := []
theorem ch_693 : staG tb_X12_in 1 bt_RX12 [] ct_2 [] [] cu_693 11 con_693 = true := by decide +kernel
theorem vl_693 (l : Launch) : Vld2 l vwCl gTbl con_693 := conR_ok3 gT_all (hd_693) rfl pn_RX12 tk_X12_in bo_RX12 xo_RX12 (cto_2 l) ch_693 cut_nil
/-- RookHustingModel isSet -/
noncomputable def gi_385 : GI := jl_n [gp_7, jl_z 45, gp_219]
noncomputable def ac_468 : AC := .inr (1, jl_n [js_1 52 5, jl_x (1, (0, 5, 0)), sp_128])
noncomputable def gi_386 : GI := jl_n [gp_7, jl_z 45, gp_220]
noncomputable def gi_387 : GI := jl_n [jl_z 1, jl_i 0 31, gp_223]
noncomputable def con_694 : Con2 := ((yX12_isSet, cX12_isSet, 2, (some .boolean)), (2, 40), ([(6, 0, 0), (1, 1, 0)], gi_385, [ac_437, ac_468], []), [((0, 0, 0), gi_386, [(false, ac_437), (false, ac_468)], [], [1]), ((0, 1, 0), gi_387, [(false, ac_437), (false, ac_468)], [], [1])])
theorem hd_694 : con_694.1 = (yX12_isSet, cX12_isSet, 2, (some .boolean)) := rfl
theorem ck_RX12_91_693 : COK2 RX12 vwCl gTbl 91 1 con_693 := ⟨wd_1544, wd_137, mh_X12_in, .inl ⟨rfl, wd_1542, wd_1543, pd_X12_in⟩⟩
theorem ck_RX12_269_692 : COK2 RX12 vwCl gTbl 269 0 con_692 := ⟨wd_1708, wd_137, mh_X12_allMen, .inr (.inr ⟨rfl, wd_1705, wd_1707, wd_75, ⟨_, rfl, pd_X12_allMen⟩, 12, _, TX12, 45, rfl, rfl⟩)⟩
noncomputable def ct_694 : CTB2 := [(1, 99, 0, con_673, [0, 1]), (11, 269, 0, con_692, [0, 1]), (15, 91, 1, con_693, [])]
noncomputable def cu_694 : List CUT2 := []
theorem ch_694 : staG tb_X12_isSet 1 bt_RX12 [] ct_694 [] [] cu_694 16 con_694 = true := by decide +kernel
theorem cto_694 (l : Launch) : CTOK2 l RX12 vwCl gTbl ct_694 := ct2_cons (vl_673 l) ck_RX12_99_673 (ct2_cons (vl_692 l) ck_RX12_269_692 (ct2_cons (vl_693 l) ck_RX12_91_693 (ct2_nil)))
theorem vl_694 (l : Launch) : Vld2 l vwCl gTbl con_694 := conR_ok3 gT_all (hd_694) rfl pn_RX12 tk_X12_isSet bo_RX12 xo_RX12 (cto_694 l) ch_694 cut_nil
/-- RookHustingModel bits -/
noncomputable def con_695 : Con2 := ((yX12_bits, cX12_bits, 3, (some .int)), (0, 0), ([(0, 31, 0)], [(0, 0)], [], []), [((0, 5, 0), [(0, 0), (0, 0)], [], [], [1])])
theorem hd_695 : con_695.1 = (yX12_bits, cX12_bits, 3, (some .int)) := rfl
noncomputable def cu_695 : List CUT2 := []
theorem ch_695 : staG tb_X12_bits 1 bt_RX12 [] ct_2 [] [] cu_695 219 con_695 = true := by decide +kernel
theorem vl_695 (l : Launch) : Vld2 l vwCl gTbl con_695 := conR_ok3 gT_all (hd_695) rfl pn_RX12 tk_X12_bits bo_RX12 xo_RX12 (cto_2 l) ch_695 cut_nil
/-- RookHustingModel fewestOf -/
noncomputable def gi_388 : GI := jl_n [jl_z 19, jl_i 0 128, jl_z 27, gp_219]
noncomputable def ac_469 : AC := .inl (12, jl_n [vp_60, jl_8 47 27])
noncomputable def hc_82 : List AC := [ac_469, ac_468, am_8, am_6]
noncomputable def gi_389 : GI := jl_n [jl_z 19, jl_i 0 128, jl_z 27, gp_220]
noncomputable def hq_466 : HP := [(false, ac_469), (false, ac_468), (false, am_8), (false, am_6)]
noncomputable def con_696 : Con2 := ((yX12_fewestOf, cX12_fewestOf, 4, (some .int)), (3, 74), ([(6, 0, 0), (0, 31, 0)], gi_388, hc_82, []), [((0, 0, 0), gi_389, hq_466, [], [1]), ((0, 1, 0), gi_389, hq_466, [], [1]), ((0, 2, 0), gi_389, hq_466, [], [1]), ((0, 3, 0), gi_389, hq_466, [], [1]), ((0, 4, 0), gi_389, hq_466, [], [1])])
theorem hd_696 : con_696.1 = (yX12_fewestOf, cX12_fewestOf, 4, (some .int)) := rfl
noncomputable def ct_696 : CTB2 := [(6, 95, 0, con_691, [0, 1]), (14, 199, 1, con_542, []), (14, 199, 1, con_543, []), (14, 199, 1, con_544, []), (14, 199, 1, con_545, []), (14, 199, 1, con_546, []), (30, 259, 0, con_685, [0, 1, 2, 3]), (37, 259, 0, con_685, [0, 1, 2, 3])]
noncomputable def gi_390 : GI := jl_n [jl_z 19, jl_i 0 128, jl_z 27, gp_217, gp_145, jl_z 18]
noncomputable def cu_696 : List CUT2 := [((4, [lq 0 6 0, lq 1 0 31, (2, (0, (-1), 0)), lq 3 0 0], [], gi_390, hq_466), [], ([], 5)), ((4, [lq 0 6 0, lq 1 0 31, lq 2 0 0, lq 3 0 1], [], gi_390, hq_466), [], ([], 4)), ((4, [lq 0 6 0, lq 1 0 31, lq 2 0 1, lq 3 0 2], [], gi_390, hq_466), [], ([], 3)), ((4, [lq 0 6 0, lq 1 0 31, lq 2 0 0, lq 3 0 2], [], gi_390, hq_466), [], ([], 3)), ((4, [lq 0 6 0, lq 1 0 31, lq 2 0 2, lq 3 0 3], [], gi_390, hq_466), [], ([], 2)), ((4, [lq 0 6 0, lq 1 0 31, lq 2 0 1, lq 3 0 3], [], gi_390, hq_466), [], ([], 2)), ((4, [lq 0 6 0, lq 1 0 31, lq 2 0 0, lq 3 0 3], [], gi_390, hq_466), [], ([], 2)), ((4, [lq 0 6 0, lq 1 0 31, lq 2 0 3, lq 3 0 4], [], gi_390, hq_466), [], ([], 1)), ((4, [lq 0 6 0, lq 1 0 31, lq 2 0 2, lq 3 0 4], [], gi_390, hq_466), [], ([], 1)), ((4, [lq 0 6 0, lq 1 0 31, lq 2 0 1, lq 3 0 4], [], gi_390, hq_466), [], ([], 1)), ((4, [lq 0 6 0, lq 1 0 31, lq 2 0 0, lq 3 0 4], [], gi_390, hq_466), [], ([], 1)), ((4, [lq 0 6 0, lq 1 0 31, lq 2 0 4, lq 3 0 5], [], gi_390, hq_466), [], ([], 0)), ((4, [lq 0 6 0, lq 1 0 31, lq 2 0 3, lq 3 0 5], [], gi_390, hq_466), [], ([], 0)), ((4, [lq 0 6 0, lq 1 0 31, lq 2 0 2, lq 3 0 5], [], gi_390, hq_466), [], ([], 0)), ((4, [lq 0 6 0, lq 1 0 31, lq 2 0 1, lq 3 0 5], [], gi_390, hq_466), [], ([], 0)), ((4, [lq 0 6 0, lq 1 0 31, lq 2 0 0, lq 3 0 5], [], gi_390, hq_466), [], ([], 0))]
theorem ch_696 : staG tb_X12_fewestOf 1 bt_RX12 [] ct_696 [] [] cu_696 30 con_696 = true := by decide +kernel
theorem cc_696 : cu_696.all (cutG tb_X12_fewestOf 1 bt_RX12 [] ct_696 [] [] cu_696 30 con_696) = true := by decide +kernel
theorem cto_696 (l : Launch) : CTOK2 l RX12 vwCl gTbl ct_696 := ct2_cons (vl_691 l) ck_RX12_95_691 (ct2_cons (vl_542 l) ck_RX12_199_542 (ct2_cons (vl_543 l) ck_RX12_199_543 (ct2_cons (vl_544 l) ck_RX12_199_544 (ct2_cons (vl_545 l) ck_RX12_199_545 (ct2_cons (vl_546 l) ck_RX12_199_546 (ct2_cons (vl_685 l) ck_RX12_259_685 (ct2_cons (vl_685 l) ck_RX12_259_685 (ct2_nil))))))))
theorem vl_696 (l : Launch) : Vld2 l vwCl gTbl con_696 := conR_ok3 gT_all (hd_696) rfl pn_RX12 tk_X12_fewestOf bo_RX12 xo_RX12 (cto_696 l) ch_696 (cut_all cc_696)
/-- RookHustingModel mostOf -/
noncomputable def gi_391 : GI := jl_n [gp_7, jl_i 0 3, gp_190]
noncomputable def gi_392 : GI := jl_n [gp_7, jl_i 0 3, gp_190, jl_m 0 4]
noncomputable def hq_467 : HP := [(false, ac_451), (false, ac_440), (false, am_8), (false, am_6)]
noncomputable def con_697 : Con2 := ((yX12_mostOf, cX12_mostOf, 5, (some .int)), (3, 74), ([(6, 0, 0), (1, 1, 0), (1, 2, 0)], gi_391, hc_74, []), [((1, 71, 0), gi_392, hq_467, [], [1])])
theorem hd_697 : con_697.1 = (yX12_mostOf, cX12_mostOf, 5, (some .int)) := rfl
noncomputable def ct_697 : CTB2 := [(8, 95, 0, con_655, [0, 1]), (17, 199, 1, con_390, []), (34, 259, 0, con_685, [0, 1, 2, 3]), (41, 259, 0, con_685, [0, 1, 2, 3])]
noncomputable def gi_393 : GI := jl_n [gp_7, jl_i 0 3, gp_189, gp_224, gp_225]
noncomputable def cu_697 : List CUT2 := [((5, [lq 0 6 0, lq 1 1 1, lq 2 1 2, lq 3 1 74, lq 4 1 75], [], gi_393, hq_467), [], ([(75, (-1))], 5))]
theorem ch_697 : staG tb_X12_mostOf 1 bt_RX12 [] ct_697 [] [] cu_697 30 con_697 = true := by decide +kernel
theorem cc_697 : cu_697.all (cutG tb_X12_mostOf 1 bt_RX12 [] ct_697 [] [] cu_697 30 con_697) = true := by decide +kernel
theorem cto_697 (l : Launch) : CTOK2 l RX12 vwCl gTbl ct_697 := ct2_cons (vl_655 l) ck_RX12_95_655 (ct2_cons (vl_390 l) ck_RX12_199_390 (ct2_cons (vl_685 l) ck_RX12_259_685 (ct2_cons (vl_685 l) ck_RX12_259_685 (ct2_nil))))
theorem vl_697 (l : Launch) : Vld2 l vwCl gTbl con_697 := conR_ok3 gT_all (hd_697) rfl pn_RX12 tk_X12_mostOf bo_RX12 xo_RX12 (cto_697 l) ch_697 (cut_all cc_697)
/-- RookHustingModel bits -/
noncomputable def con_698 : Con2 := ((yX12_bits, cX12_bits, 3, (some .int)), (0, 0), ([(0, 15, 0)], [(0, 0)], [], []), [((0, 4, 0), [(0, 0), (0, 0)], [], [], [1])])
theorem hd_698 : con_698.1 = (yX12_bits, cX12_bits, 3, (some .int)) := rfl
noncomputable def cu_698 : List CUT2 := []
theorem ch_698 : staG tb_X12_bits 1 bt_RX12 [] ct_2 [] [] cu_698 219 con_698 = true := by decide +kernel
theorem vl_698 (l : Launch) : Vld2 l vwCl gTbl con_698 := conR_ok3 gT_all (hd_698) rfl pn_RX12 tk_X12_bits bo_RX12 xo_RX12 (cto_2 l) ch_698 cut_nil
/-- RookHustingModel fewestOf -/
noncomputable def con_699 : Con2 := ((yX12_fewestOf, cX12_fewestOf, 4, (some .int)), (3, 74), ([(6, 0, 0), (0, 15, 0)], gi_388, hc_82, []), [((0, 0, 0), gi_389, hq_466, [], [1]), ((0, 1, 0), gi_389, hq_466, [], [1]), ((0, 2, 0), gi_389, hq_466, [], [1]), ((0, 3, 0), gi_389, hq_466, [], [1])])
theorem hd_699 : con_699.1 = (yX12_fewestOf, cX12_fewestOf, 4, (some .int)) := rfl
noncomputable def ct_699 : CTB2 := [(6, 95, 0, con_691, [0, 1]), (14, 199, 1, con_537, []), (14, 199, 1, con_538, []), (14, 199, 1, con_539, []), (14, 199, 1, con_540, []), (14, 199, 1, con_541, []), (30, 259, 0, con_685, [0, 1, 2, 3]), (37, 259, 0, con_685, [0, 1, 2, 3])]
noncomputable def cu_699 : List CUT2 := [((4, [lq 0 6 0, lq 1 0 15, (2, (0, (-1), 0)), lq 3 0 0], [], gi_390, hq_466), [], ([], 5)), ((4, [lq 0 6 0, lq 1 0 15, lq 2 0 0, lq 3 0 1], [], gi_390, hq_466), [], ([], 4)), ((4, [lq 0 6 0, lq 1 0 15, lq 2 0 1, lq 3 0 2], [], gi_390, hq_466), [], ([], 3)), ((4, [lq 0 6 0, lq 1 0 15, lq 2 0 0, lq 3 0 2], [], gi_390, hq_466), [], ([], 3)), ((4, [lq 0 6 0, lq 1 0 15, lq 2 0 2, lq 3 0 3], [], gi_390, hq_466), [], ([], 2)), ((4, [lq 0 6 0, lq 1 0 15, lq 2 0 1, lq 3 0 3], [], gi_390, hq_466), [], ([], 2)), ((4, [lq 0 6 0, lq 1 0 15, lq 2 0 0, lq 3 0 3], [], gi_390, hq_466), [], ([], 2)), ((4, [lq 0 6 0, lq 1 0 15, lq 2 0 3, lq 3 0 4], [], gi_390, hq_466), [], ([], 1)), ((4, [lq 0 6 0, lq 1 0 15, lq 2 0 2, lq 3 0 4], [], gi_390, hq_466), [], ([], 1)), ((4, [lq 0 6 0, lq 1 0 15, lq 2 0 1, lq 3 0 4], [], gi_390, hq_466), [], ([], 1)), ((4, [lq 0 6 0, lq 1 0 15, lq 2 0 0, lq 3 0 4], [], gi_390, hq_466), [], ([], 1)), ((4, [lq 0 6 0, lq 1 0 15, lq 2 0 3, lq 3 0 5], [], gi_390, hq_466), [], ([], 0)), ((4, [lq 0 6 0, lq 1 0 15, lq 2 0 2, lq 3 0 5], [], gi_390, hq_466), [], ([], 0)), ((4, [lq 0 6 0, lq 1 0 15, lq 2 0 1, lq 3 0 5], [], gi_390, hq_466), [], ([], 0)), ((4, [lq 0 6 0, lq 1 0 15, lq 2 0 0, lq 3 0 5], [], gi_390, hq_466), [], ([], 0))]
theorem ch_699 : staG tb_X12_fewestOf 1 bt_RX12 [] ct_699 [] [] cu_699 30 con_699 = true := by decide +kernel
theorem cc_699 : cu_699.all (cutG tb_X12_fewestOf 1 bt_RX12 [] ct_699 [] [] cu_699 30 con_699) = true := by decide +kernel
theorem cto_699 (l : Launch) : CTOK2 l RX12 vwCl gTbl ct_699 := ct2_cons (vl_691 l) ck_RX12_95_691 (ct2_cons (vl_537 l) ck_RX12_199_537 (ct2_cons (vl_538 l) ck_RX12_199_538 (ct2_cons (vl_539 l) ck_RX12_199_539 (ct2_cons (vl_540 l) ck_RX12_199_540 (ct2_cons (vl_541 l) ck_RX12_199_541 (ct2_cons (vl_685 l) ck_RX12_259_685 (ct2_cons (vl_685 l) ck_RX12_259_685 (ct2_nil))))))))
theorem vl_699 (l : Launch) : Vld2 l vwCl gTbl con_699 := conR_ok3 gT_all (hd_699) rfl pn_RX12 tk_X12_fewestOf bo_RX12 xo_RX12 (cto_699 l) ch_699 (cut_all cc_699)
/-- RookHustingModel bits -/
noncomputable def con_700 : Con2 := ((yX12_bits, cX12_bits, 3, (some .int)), (0, 0), ([(0, 23, 0)], [(0, 0)], [], []), [((0, 4, 0), [(0, 0), (0, 0)], [], [], [1])])
theorem hd_700 : con_700.1 = (yX12_bits, cX12_bits, 3, (some .int)) := rfl
noncomputable def cu_700 : List CUT2 := []
theorem ch_700 : staG tb_X12_bits 1 bt_RX12 [] ct_2 [] [] cu_700 219 con_700 = true := by decide +kernel
theorem vl_700 (l : Launch) : Vld2 l vwCl gTbl con_700 := conR_ok3 gT_all (hd_700) rfl pn_RX12 tk_X12_bits bo_RX12 xo_RX12 (cto_2 l) ch_700 cut_nil
/-- RookHustingModel fewestOf -/
noncomputable def con_701 : Con2 := ((yX12_fewestOf, cX12_fewestOf, 4, (some .int)), (3, 74), ([(6, 0, 0), (0, 23, 0)], gi_388, hc_82, []), [((0, 0, 0), gi_389, hq_466, [], [1]), ((0, 1, 0), gi_389, hq_466, [], [1]), ((0, 2, 0), gi_389, hq_466, [], [1]), ((0, 4, 0), gi_389, hq_466, [], [1])])
theorem hd_701 : con_701.1 = (yX12_fewestOf, cX12_fewestOf, 4, (some .int)) := rfl
noncomputable def ct_701 : CTB2 := [(6, 95, 0, con_691, [0, 1]), (14, 199, 1, con_532, []), (14, 199, 1, con_533, []), (14, 199, 1, con_534, []), (14, 199, 1, con_535, []), (14, 199, 1, con_536, []), (30, 259, 0, con_685, [0, 1, 2, 3]), (37, 259, 0, con_685, [0, 1, 2, 3])]
noncomputable def cu_701 : List CUT2 := [((4, [lq 0 6 0, lq 1 0 23, (2, (0, (-1), 0)), lq 3 0 0], [], gi_390, hq_466), [], ([], 5)), ((4, [lq 0 6 0, lq 1 0 23, lq 2 0 0, lq 3 0 1], [], gi_390, hq_466), [], ([], 4)), ((4, [lq 0 6 0, lq 1 0 23, lq 2 0 1, lq 3 0 2], [], gi_390, hq_466), [], ([], 3)), ((4, [lq 0 6 0, lq 1 0 23, lq 2 0 0, lq 3 0 2], [], gi_390, hq_466), [], ([], 3)), ((4, [lq 0 6 0, lq 1 0 23, lq 2 0 2, lq 3 0 3], [], gi_390, hq_466), [], ([], 2)), ((4, [lq 0 6 0, lq 1 0 23, lq 2 0 1, lq 3 0 3], [], gi_390, hq_466), [], ([], 2)), ((4, [lq 0 6 0, lq 1 0 23, lq 2 0 0, lq 3 0 3], [], gi_390, hq_466), [], ([], 2)), ((4, [lq 0 6 0, lq 1 0 23, lq 2 0 2, lq 3 0 4], [], gi_390, hq_466), [], ([], 1)), ((4, [lq 0 6 0, lq 1 0 23, lq 2 0 1, lq 3 0 4], [], gi_390, hq_466), [], ([], 1)), ((4, [lq 0 6 0, lq 1 0 23, lq 2 0 0, lq 3 0 4], [], gi_390, hq_466), [], ([], 1)), ((4, [lq 0 6 0, lq 1 0 23, lq 2 0 4, lq 3 0 5], [], gi_390, hq_466), [], ([], 0)), ((4, [lq 0 6 0, lq 1 0 23, lq 2 0 2, lq 3 0 5], [], gi_390, hq_466), [], ([], 0)), ((4, [lq 0 6 0, lq 1 0 23, lq 2 0 1, lq 3 0 5], [], gi_390, hq_466), [], ([], 0)), ((4, [lq 0 6 0, lq 1 0 23, lq 2 0 0, lq 3 0 5], [], gi_390, hq_466), [], ([], 0))]
theorem ch_701 : staG tb_X12_fewestOf 1 bt_RX12 [] ct_701 [] [] cu_701 30 con_701 = true := by decide +kernel
theorem cc_701 : cu_701.all (cutG tb_X12_fewestOf 1 bt_RX12 [] ct_701 [] [] cu_701 30 con_701) = true := by decide +kernel
theorem cto_701 (l : Launch) : CTOK2 l RX12 vwCl gTbl ct_701 := ct2_cons (vl_691 l) ck_RX12_95_691 (ct2_cons (vl_532 l) ck_RX12_199_532 (ct2_cons (vl_533 l) ck_RX12_199_533 (ct2_cons (vl_534 l) ck_RX12_199_534 (ct2_cons (vl_535 l) ck_RX12_199_535 (ct2_cons (vl_536 l) ck_RX12_199_536 (ct2_cons (vl_685 l) ck_RX12_259_685 (ct2_cons (vl_685 l) ck_RX12_259_685 (ct2_nil))))))))
theorem vl_701 (l : Launch) : Vld2 l vwCl gTbl con_701 := conR_ok3 gT_all (hd_701) rfl pn_RX12 tk_X12_fewestOf bo_RX12 xo_RX12 (cto_701 l) ch_701 (cut_all cc_701)
/-- RookHustingModel bits -/
noncomputable def con_702 : Con2 := ((yX12_bits, cX12_bits, 3, (some .int)), (0, 0), ([(0, 27, 0)], [(0, 0)], [], []), [((0, 4, 0), [(0, 0), (0, 0)], [], [], [1])])
theorem hd_702 : con_702.1 = (yX12_bits, cX12_bits, 3, (some .int)) := rfl
noncomputable def cu_702 : List CUT2 := []
theorem ch_702 : staG tb_X12_bits 1 bt_RX12 [] ct_2 [] [] cu_702 219 con_702 = true := by decide +kernel
theorem vl_702 (l : Launch) : Vld2 l vwCl gTbl con_702 := conR_ok3 gT_all (hd_702) rfl pn_RX12 tk_X12_bits bo_RX12 xo_RX12 (cto_2 l) ch_702 cut_nil
/-- RookHustingModel fewestOf -/
noncomputable def con_703 : Con2 := ((yX12_fewestOf, cX12_fewestOf, 4, (some .int)), (3, 74), ([(6, 0, 0), (0, 27, 0)], gi_388, hc_82, []), [((0, 0, 0), gi_389, hq_466, [], [1]), ((0, 1, 0), gi_389, hq_466, [], [1]), ((0, 3, 0), gi_389, hq_466, [], [1]), ((0, 4, 0), gi_389, hq_466, [], [1])])
theorem hd_703 : con_703.1 = (yX12_fewestOf, cX12_fewestOf, 4, (some .int)) := rfl
noncomputable def ct_703 : CTB2 := [(6, 95, 0, con_691, [0, 1]), (14, 199, 1, con_527, []), (14, 199, 1, con_528, []), (14, 199, 1, con_529, []), (14, 199, 1, con_530, []), (14, 199, 1, con_531, []), (30, 259, 0, con_685, [0, 1, 2, 3]), (37, 259, 0, con_685, [0, 1, 2, 3])]
noncomputable def cu_703 : List CUT2 := [((4, [lq 0 6 0, lq 1 0 27, (2, (0, (-1), 0)), lq 3 0 0], [], gi_390, hq_466), [], ([], 5)), ((4, [lq 0 6 0, lq 1 0 27, lq 2 0 0, lq 3 0 1], [], gi_390, hq_466), [], ([], 4)), ((4, [lq 0 6 0, lq 1 0 27, lq 2 0 1, lq 3 0 2], [], gi_390, hq_466), [], ([], 3)), ((4, [lq 0 6 0, lq 1 0 27, lq 2 0 0, lq 3 0 2], [], gi_390, hq_466), [], ([], 3)), ((4, [lq 0 6 0, lq 1 0 27, lq 2 0 1, lq 3 0 3], [], gi_390, hq_466), [], ([], 2)), ((4, [lq 0 6 0, lq 1 0 27, lq 2 0 0, lq 3 0 3], [], gi_390, hq_466), [], ([], 2)), ((4, [lq 0 6 0, lq 1 0 27, lq 2 0 3, lq 3 0 4], [], gi_390, hq_466), [], ([], 1)), ((4, [lq 0 6 0, lq 1 0 27, lq 2 0 1, lq 3 0 4], [], gi_390, hq_466), [], ([], 1)), ((4, [lq 0 6 0, lq 1 0 27, lq 2 0 0, lq 3 0 4], [], gi_390, hq_466), [], ([], 1)), ((4, [lq 0 6 0, lq 1 0 27, lq 2 0 4, lq 3 0 5], [], gi_390, hq_466), [], ([], 0)), ((4, [lq 0 6 0, lq 1 0 27, lq 2 0 3, lq 3 0 5], [], gi_390, hq_466), [], ([], 0)), ((4, [lq 0 6 0, lq 1 0 27, lq 2 0 1, lq 3 0 5], [], gi_390, hq_466), [], ([], 0)), ((4, [lq 0 6 0, lq 1 0 27, lq 2 0 0, lq 3 0 5], [], gi_390, hq_466), [], ([], 0))]
theorem ch_703 : staG tb_X12_fewestOf 1 bt_RX12 [] ct_703 [] [] cu_703 30 con_703 = true := by decide +kernel
theorem cc_703 : cu_703.all (cutG tb_X12_fewestOf 1 bt_RX12 [] ct_703 [] [] cu_703 30 con_703) = true := by decide +kernel
theorem cto_703 (l : Launch) : CTOK2 l RX12 vwCl gTbl ct_703 := ct2_cons (vl_691 l) ck_RX12_95_691 (ct2_cons (vl_527 l) ck_RX12_199_527 (ct2_cons (vl_528 l) ck_RX12_199_528 (ct2_cons (vl_529 l) ck_RX12_199_529 (ct2_cons (vl_530 l) ck_RX12_199_530 (ct2_cons (vl_531 l) ck_RX12_199_531 (ct2_cons (vl_685 l) ck_RX12_259_685 (ct2_cons (vl_685 l) ck_RX12_259_685 (ct2_nil))))))))
theorem vl_703 (l : Launch) : Vld2 l vwCl gTbl con_703 := conR_ok3 gT_all (hd_703) rfl pn_RX12 tk_X12_fewestOf bo_RX12 xo_RX12 (cto_703 l) ch_703 (cut_all cc_703)
/-- RookHustingModel bits -/
noncomputable def con_704 : Con2 := ((yX12_bits, cX12_bits, 3, (some .int)), (0, 0), ([(0, 29, 0)], [(0, 0)], [], []), [((0, 4, 0), [(0, 0), (0, 0)], [], [], [1])])
theorem hd_704 : con_704.1 = (yX12_bits, cX12_bits, 3, (some .int)) := rfl
noncomputable def cu_704 : List CUT2 := []
theorem ch_704 : staG tb_X12_bits 1 bt_RX12 [] ct_2 [] [] cu_704 219 con_704 = true := by decide +kernel
theorem vl_704 (l : Launch) : Vld2 l vwCl gTbl con_704 := conR_ok3 gT_all (hd_704) rfl pn_RX12 tk_X12_bits bo_RX12 xo_RX12 (cto_2 l) ch_704 cut_nil
/-- RookHustingModel fewestOf -/
noncomputable def con_705 : Con2 := ((yX12_fewestOf, cX12_fewestOf, 4, (some .int)), (3, 74), ([(6, 0, 0), (0, 29, 0)], gi_388, hc_82, []), [((0, 0, 0), gi_389, hq_466, [], [1]), ((0, 2, 0), gi_389, hq_466, [], [1]), ((0, 3, 0), gi_389, hq_466, [], [1]), ((0, 4, 0), gi_389, hq_466, [], [1])])
theorem hd_705 : con_705.1 = (yX12_fewestOf, cX12_fewestOf, 4, (some .int)) := rfl
noncomputable def ct_705 : CTB2 := [(6, 95, 0, con_691, [0, 1]), (14, 199, 1, con_522, []), (14, 199, 1, con_523, []), (14, 199, 1, con_524, []), (14, 199, 1, con_525, []), (14, 199, 1, con_526, []), (30, 259, 0, con_685, [0, 1, 2, 3]), (37, 259, 0, con_685, [0, 1, 2, 3])]
noncomputable def cu_705 : List CUT2 := [((4, [lq 0 6 0, lq 1 0 29, (2, (0, (-1), 0)), lq 3 0 0], [], gi_390, hq_466), [], ([], 5)), ((4, [lq 0 6 0, lq 1 0 29, lq 2 0 0, lq 3 0 1], [], gi_390, hq_466), [], ([], 4)), ((4, [lq 0 6 0, lq 1 0 29, lq 2 0 0, lq 3 0 2], [], gi_390, hq_466), [], ([], 3)), ((4, [lq 0 6 0, lq 1 0 29, lq 2 0 2, lq 3 0 3], [], gi_390, hq_466), [], ([], 2)), ((4, [lq 0 6 0, lq 1 0 29, lq 2 0 0, lq 3 0 3], [], gi_390, hq_466), [], ([], 2)), ((4, [lq 0 6 0, lq 1 0 29, lq 2 0 3, lq 3 0 4], [], gi_390, hq_466), [], ([], 1)), ((4, [lq 0 6 0, lq 1 0 29, lq 2 0 2, lq 3 0 4], [], gi_390, hq_466), [], ([], 1)), ((4, [lq 0 6 0, lq 1 0 29, lq 2 0 0, lq 3 0 4], [], gi_390, hq_466), [], ([], 1)), ((4, [lq 0 6 0, lq 1 0 29, lq 2 0 4, lq 3 0 5], [], gi_390, hq_466), [], ([], 0)), ((4, [lq 0 6 0, lq 1 0 29, lq 2 0 3, lq 3 0 5], [], gi_390, hq_466), [], ([], 0)), ((4, [lq 0 6 0, lq 1 0 29, lq 2 0 2, lq 3 0 5], [], gi_390, hq_466), [], ([], 0)), ((4, [lq 0 6 0, lq 1 0 29, lq 2 0 0, lq 3 0 5], [], gi_390, hq_466), [], ([], 0))]
theorem ch_705 : staG tb_X12_fewestOf 1 bt_RX12 [] ct_705 [] [] cu_705 30 con_705 = true := by decide +kernel
theorem cc_705 : cu_705.all (cutG tb_X12_fewestOf 1 bt_RX12 [] ct_705 [] [] cu_705 30 con_705) = true := by decide +kernel
theorem cto_705 (l : Launch) : CTOK2 l RX12 vwCl gTbl ct_705 := ct2_cons (vl_691 l) ck_RX12_95_691 (ct2_cons (vl_522 l) ck_RX12_199_522 (ct2_cons (vl_523 l) ck_RX12_199_523 (ct2_cons (vl_524 l) ck_RX12_199_524 (ct2_cons (vl_525 l) ck_RX12_199_525 (ct2_cons (vl_526 l) ck_RX12_199_526 (ct2_cons (vl_685 l) ck_RX12_259_685 (ct2_cons (vl_685 l) ck_RX12_259_685 (ct2_nil))))))))
theorem vl_705 (l : Launch) : Vld2 l vwCl gTbl con_705 := conR_ok3 gT_all (hd_705) rfl pn_RX12 tk_X12_fewestOf bo_RX12 xo_RX12 (cto_705 l) ch_705 (cut_all cc_705)
/-- RookHustingModel bits -/
noncomputable def con_706 : Con2 := ((yX12_bits, cX12_bits, 3, (some .int)), (0, 0), ([(0, 30, 0)], [(0, 0)], [], []), [((0, 4, 0), [(0, 0), (0, 0)], [], [], [1])])
theorem hd_706 : con_706.1 = (yX12_bits, cX12_bits, 3, (some .int)) := rfl
noncomputable def cu_706 : List CUT2 := []
theorem ch_706 : staG tb_X12_bits 1 bt_RX12 [] ct_2 [] [] cu_706 219 con_706 = true := by decide +kernel
theorem vl_706 (l : Launch) : Vld2 l vwCl gTbl con_706 := conR_ok3 gT_all (hd_706) rfl pn_RX12 tk_X12_bits bo_RX12 xo_RX12 (cto_2 l) ch_706 cut_nil
/-- RookHustingModel fewestOf -/
noncomputable def con_707 : Con2 := ((yX12_fewestOf, cX12_fewestOf, 4, (some .int)), (3, 74), ([(6, 0, 0), (0, 30, 0)], gi_388, hc_82, []), [((0, 1, 0), gi_389, hq_466, [], [1]), ((0, 2, 0), gi_389, hq_466, [], [1]), ((0, 3, 0), gi_389, hq_466, [], [1]), ((0, 4, 0), gi_389, hq_466, [], [1])])
theorem hd_707 : con_707.1 = (yX12_fewestOf, cX12_fewestOf, 4, (some .int)) := rfl
noncomputable def ct_707 : CTB2 := [(6, 95, 0, con_691, [0, 1]), (14, 199, 1, con_517, []), (14, 199, 1, con_518, []), (14, 199, 1, con_519, []), (14, 199, 1, con_520, []), (14, 199, 1, con_521, []), (30, 259, 0, con_685, [0, 1, 2, 3]), (37, 259, 0, con_685, [0, 1, 2, 3])]
noncomputable def cu_707 : List CUT2 := [((4, [lq 0 6 0, lq 1 0 30, (2, (0, (-1), 0)), lq 3 0 0], [], gi_390, hq_466), [], ([], 5)), ((4, [lq 0 6 0, lq 1 0 30, (2, (0, (-1), 0)), lq 3 0 1], [], gi_390, hq_466), [], ([], 4)), ((4, [lq 0 6 0, lq 1 0 30, lq 2 0 1, lq 3 0 2], [], gi_390, hq_466), [], ([], 3)), ((4, [lq 0 6 0, lq 1 0 30, lq 2 0 2, lq 3 0 3], [], gi_390, hq_466), [], ([], 2)), ((4, [lq 0 6 0, lq 1 0 30, lq 2 0 1, lq 3 0 3], [], gi_390, hq_466), [], ([], 2)), ((4, [lq 0 6 0, lq 1 0 30, lq 2 0 3, lq 3 0 4], [], gi_390, hq_466), [], ([], 1)), ((4, [lq 0 6 0, lq 1 0 30, lq 2 0 2, lq 3 0 4], [], gi_390, hq_466), [], ([], 1)), ((4, [lq 0 6 0, lq 1 0 30, lq 2 0 1, lq 3 0 4], [], gi_390, hq_466), [], ([], 1)), ((4, [lq 0 6 0, lq 1 0 30, lq 2 0 4, lq 3 0 5], [], gi_390, hq_466), [], ([], 0)), ((4, [lq 0 6 0, lq 1 0 30, lq 2 0 3, lq 3 0 5], [], gi_390, hq_466), [], ([], 0)), ((4, [lq 0 6 0, lq 1 0 30, lq 2 0 2, lq 3 0 5], [], gi_390, hq_466), [], ([], 0)), ((4, [lq 0 6 0, lq 1 0 30, lq 2 0 1, lq 3 0 5], [], gi_390, hq_466), [], ([], 0))]
theorem ch_707 : staG tb_X12_fewestOf 1 bt_RX12 [] ct_707 [] [] cu_707 30 con_707 = true := by decide +kernel
theorem cc_707 : cu_707.all (cutG tb_X12_fewestOf 1 bt_RX12 [] ct_707 [] [] cu_707 30 con_707) = true := by decide +kernel
theorem cto_707 (l : Launch) : CTOK2 l RX12 vwCl gTbl ct_707 := ct2_cons (vl_691 l) ck_RX12_95_691 (ct2_cons (vl_517 l) ck_RX12_199_517 (ct2_cons (vl_518 l) ck_RX12_199_518 (ct2_cons (vl_519 l) ck_RX12_199_519 (ct2_cons (vl_520 l) ck_RX12_199_520 (ct2_cons (vl_521 l) ck_RX12_199_521 (ct2_cons (vl_685 l) ck_RX12_259_685 (ct2_cons (vl_685 l) ck_RX12_259_685 (ct2_nil))))))))
theorem vl_707 (l : Launch) : Vld2 l vwCl gTbl con_707 := conR_ok3 gT_all (hd_707) rfl pn_RX12 tk_X12_fewestOf bo_RX12 xo_RX12 (cto_707 l) ch_707 (cut_all cc_707)
/-- RookHustingModel bits -/
noncomputable def con_708 : Con2 := ((yX12_bits, cX12_bits, 3, (some .int)), (0, 0), ([(0, 7, 0)], [(0, 0)], [], []), [((0, 3, 0), [(0, 0), (0, 0)], [], [], [1])])
theorem hd_708 : con_708.1 = (yX12_bits, cX12_bits, 3, (some .int)) := rfl
noncomputable def cu_708 : List CUT2 := []
theorem ch_708 : staG tb_X12_bits 1 bt_RX12 [] ct_2 [] [] cu_708 219 con_708 = true := by decide +kernel
theorem vl_708 (l : Launch) : Vld2 l vwCl gTbl con_708 := conR_ok3 gT_all (hd_708) rfl pn_RX12 tk_X12_bits bo_RX12 xo_RX12 (cto_2 l) ch_708 cut_nil
/-- RookHustingModel fewestOf -/
noncomputable def con_709 : Con2 := ((yX12_fewestOf, cX12_fewestOf, 4, (some .int)), (3, 74), ([(6, 0, 0), (0, 7, 0)], gi_388, hc_82, []), [((0, 0, 0), gi_389, hq_466, [], [1]), ((0, 1, 0), gi_389, hq_466, [], [1]), ((0, 2, 0), gi_389, hq_466, [], [1])])
theorem hd_709 : con_709.1 = (yX12_fewestOf, cX12_fewestOf, 4, (some .int)) := rfl
noncomputable def ct_709 : CTB2 := [(6, 95, 0, con_691, [0, 1]), (14, 199, 1, con_512, []), (14, 199, 1, con_513, []), (14, 199, 1, con_514, []), (14, 199, 1, con_515, []), (14, 199, 1, con_516, []), (30, 259, 0, con_685, [0, 1, 2, 3]), (37, 259, 0, con_685, [0, 1, 2, 3])]
noncomputable def cu_709 : List CUT2 := [((4, [lq 0 6 0, lq 1 0 7, (2, (0, (-1), 0)), lq 3 0 0], [], gi_390, hq_466), [], ([], 5)), ((4, [lq 0 6 0, lq 1 0 7, lq 2 0 0, lq 3 0 1], [], gi_390, hq_466), [], ([], 4)), ((4, [lq 0 6 0, lq 1 0 7, lq 2 0 1, lq 3 0 2], [], gi_390, hq_466), [], ([], 3)), ((4, [lq 0 6 0, lq 1 0 7, lq 2 0 0, lq 3 0 2], [], gi_390, hq_466), [], ([], 3)), ((4, [lq 0 6 0, lq 1 0 7, lq 2 0 2, lq 3 0 3], [], gi_390, hq_466), [], ([], 2)), ((4, [lq 0 6 0, lq 1 0 7, lq 2 0 1, lq 3 0 3], [], gi_390, hq_466), [], ([], 2)), ((4, [lq 0 6 0, lq 1 0 7, lq 2 0 0, lq 3 0 3], [], gi_390, hq_466), [], ([], 2)), ((4, [lq 0 6 0, lq 1 0 7, lq 2 0 2, lq 3 0 4], [], gi_390, hq_466), [], ([], 1)), ((4, [lq 0 6 0, lq 1 0 7, lq 2 0 1, lq 3 0 4], [], gi_390, hq_466), [], ([], 1)), ((4, [lq 0 6 0, lq 1 0 7, lq 2 0 0, lq 3 0 4], [], gi_390, hq_466), [], ([], 1)), ((4, [lq 0 6 0, lq 1 0 7, lq 2 0 2, lq 3 0 5], [], gi_390, hq_466), [], ([], 0)), ((4, [lq 0 6 0, lq 1 0 7, lq 2 0 1, lq 3 0 5], [], gi_390, hq_466), [], ([], 0)), ((4, [lq 0 6 0, lq 1 0 7, lq 2 0 0, lq 3 0 5], [], gi_390, hq_466), [], ([], 0))]
theorem ch_709 : staG tb_X12_fewestOf 1 bt_RX12 [] ct_709 [] [] cu_709 30 con_709 = true := by decide +kernel
theorem cc_709 : cu_709.all (cutG tb_X12_fewestOf 1 bt_RX12 [] ct_709 [] [] cu_709 30 con_709) = true := by decide +kernel
theorem cto_709 (l : Launch) : CTOK2 l RX12 vwCl gTbl ct_709 := ct2_cons (vl_691 l) ck_RX12_95_691 (ct2_cons (vl_512 l) ck_RX12_199_512 (ct2_cons (vl_513 l) ck_RX12_199_513 (ct2_cons (vl_514 l) ck_RX12_199_514 (ct2_cons (vl_515 l) ck_RX12_199_515 (ct2_cons (vl_516 l) ck_RX12_199_516 (ct2_cons (vl_685 l) ck_RX12_259_685 (ct2_cons (vl_685 l) ck_RX12_259_685 (ct2_nil))))))))
theorem vl_709 (l : Launch) : Vld2 l vwCl gTbl con_709 := conR_ok3 gT_all (hd_709) rfl pn_RX12 tk_X12_fewestOf bo_RX12 xo_RX12 (cto_709 l) ch_709 (cut_all cc_709)
/-- RookHustingModel bits -/
noncomputable def con_710 : Con2 := ((yX12_bits, cX12_bits, 3, (some .int)), (0, 0), ([(0, 11, 0)], [(0, 0)], [], []), [((0, 3, 0), [(0, 0), (0, 0)], [], [], [1])])
theorem hd_710 : con_710.1 = (yX12_bits, cX12_bits, 3, (some .int)) := rfl
noncomputable def cu_710 : List CUT2 := []
theorem ch_710 : staG tb_X12_bits 1 bt_RX12 [] ct_2 [] [] cu_710 219 con_710 = true := by decide +kernel
theorem vl_710 (l : Launch) : Vld2 l vwCl gTbl con_710 := conR_ok3 gT_all (hd_710) rfl pn_RX12 tk_X12_bits bo_RX12 xo_RX12 (cto_2 l) ch_710 cut_nil
/-- RookHustingModel fewestOf -/
noncomputable def con_711 : Con2 := ((yX12_fewestOf, cX12_fewestOf, 4, (some .int)), (3, 74), ([(6, 0, 0), (0, 11, 0)], gi_388, hc_82, []), [((0, 0, 0), gi_389, hq_466, [], [1]), ((0, 1, 0), gi_389, hq_466, [], [1]), ((0, 3, 0), gi_389, hq_466, [], [1])])
theorem hd_711 : con_711.1 = (yX12_fewestOf, cX12_fewestOf, 4, (some .int)) := rfl
noncomputable def ct_711 : CTB2 := [(6, 95, 0, con_691, [0, 1]), (14, 199, 1, con_507, []), (14, 199, 1, con_508, []), (14, 199, 1, con_509, []), (14, 199, 1, con_510, []), (14, 199, 1, con_511, []), (30, 259, 0, con_685, [0, 1, 2, 3]), (37, 259, 0, con_685, [0, 1, 2, 3])]
noncomputable def cu_711 : List CUT2 := [((4, [lq 0 6 0, lq 1 0 11, (2, (0, (-1), 0)), lq 3 0 0], [], gi_390, hq_466), [], ([], 5)), ((4, [lq 0 6 0, lq 1 0 11, lq 2 0 0, lq 3 0 1], [], gi_390, hq_466), [], ([], 4)), ((4, [lq 0 6 0, lq 1 0 11, lq 2 0 1, lq 3 0 2], [], gi_390, hq_466), [], ([], 3)), ((4, [lq 0 6 0, lq 1 0 11, lq 2 0 0, lq 3 0 2], [], gi_390, hq_466), [], ([], 3)), ((4, [lq 0 6 0, lq 1 0 11, lq 2 0 1, lq 3 0 3], [], gi_390, hq_466), [], ([], 2)), ((4, [lq 0 6 0, lq 1 0 11, lq 2 0 0, lq 3 0 3], [], gi_390, hq_466), [], ([], 2)), ((4, [lq 0 6 0, lq 1 0 11, lq 2 0 3, lq 3 0 4], [], gi_390, hq_466), [], ([], 1)), ((4, [lq 0 6 0, lq 1 0 11, lq 2 0 1, lq 3 0 4], [], gi_390, hq_466), [], ([], 1)), ((4, [lq 0 6 0, lq 1 0 11, lq 2 0 0, lq 3 0 4], [], gi_390, hq_466), [], ([], 1)), ((4, [lq 0 6 0, lq 1 0 11, lq 2 0 3, lq 3 0 5], [], gi_390, hq_466), [], ([], 0)), ((4, [lq 0 6 0, lq 1 0 11, lq 2 0 1, lq 3 0 5], [], gi_390, hq_466), [], ([], 0)), ((4, [lq 0 6 0, lq 1 0 11, lq 2 0 0, lq 3 0 5], [], gi_390, hq_466), [], ([], 0))]
theorem ch_711 : staG tb_X12_fewestOf 1 bt_RX12 [] ct_711 [] [] cu_711 30 con_711 = true := by decide +kernel
theorem cc_711 : cu_711.all (cutG tb_X12_fewestOf 1 bt_RX12 [] ct_711 [] [] cu_711 30 con_711) = true := by decide +kernel
theorem cto_711 (l : Launch) : CTOK2 l RX12 vwCl gTbl ct_711 := ct2_cons (vl_691 l) ck_RX12_95_691 (ct2_cons (vl_507 l) ck_RX12_199_507 (ct2_cons (vl_508 l) ck_RX12_199_508 (ct2_cons (vl_509 l) ck_RX12_199_509 (ct2_cons (vl_510 l) ck_RX12_199_510 (ct2_cons (vl_511 l) ck_RX12_199_511 (ct2_cons (vl_685 l) ck_RX12_259_685 (ct2_cons (vl_685 l) ck_RX12_259_685 (ct2_nil))))))))
theorem vl_711 (l : Launch) : Vld2 l vwCl gTbl con_711 := conR_ok3 gT_all (hd_711) rfl pn_RX12 tk_X12_fewestOf bo_RX12 xo_RX12 (cto_711 l) ch_711 (cut_all cc_711)
/-- RookHustingModel bits -/
noncomputable def con_712 : Con2 := ((yX12_bits, cX12_bits, 3, (some .int)), (0, 0), ([(0, 13, 0)], [(0, 0)], [], []), [((0, 3, 0), [(0, 0), (0, 0)], [], [], [1])])
theorem hd_712 : con_712.1 = (yX12_bits, cX12_bits, 3, (some .int)) := rfl
noncomputable def cu_712 : List CUT2 := []
theorem ch_712 : staG tb_X12_bits 1 bt_RX12 [] ct_2 [] [] cu_712 219 con_712 = true := by decide +kernel
theorem vl_712 (l : Launch) : Vld2 l vwCl gTbl con_712 := conR_ok3 gT_all (hd_712) rfl pn_RX12 tk_X12_bits bo_RX12 xo_RX12 (cto_2 l) ch_712 cut_nil
/-- RookHustingModel fewestOf -/
noncomputable def con_713 : Con2 := ((yX12_fewestOf, cX12_fewestOf, 4, (some .int)), (3, 74), ([(6, 0, 0), (0, 13, 0)], gi_388, hc_82, []), [((0, 0, 0), gi_389, hq_466, [], [1]), ((0, 2, 0), gi_389, hq_466, [], [1]), ((0, 3, 0), gi_389, hq_466, [], [1])])
theorem hd_713 : con_713.1 = (yX12_fewestOf, cX12_fewestOf, 4, (some .int)) := rfl
noncomputable def ct_713 : CTB2 := [(6, 95, 0, con_691, [0, 1]), (14, 199, 1, con_502, []), (14, 199, 1, con_503, []), (14, 199, 1, con_504, []), (14, 199, 1, con_505, []), (14, 199, 1, con_506, []), (30, 259, 0, con_685, [0, 1, 2, 3]), (37, 259, 0, con_685, [0, 1, 2, 3])]
noncomputable def cu_713 : List CUT2 := [((4, [lq 0 6 0, lq 1 0 13, (2, (0, (-1), 0)), lq 3 0 0], [], gi_390, hq_466), [], ([], 5)), ((4, [lq 0 6 0, lq 1 0 13, lq 2 0 0, lq 3 0 1], [], gi_390, hq_466), [], ([], 4)), ((4, [lq 0 6 0, lq 1 0 13, lq 2 0 0, lq 3 0 2], [], gi_390, hq_466), [], ([], 3)), ((4, [lq 0 6 0, lq 1 0 13, lq 2 0 2, lq 3 0 3], [], gi_390, hq_466), [], ([], 2)), ((4, [lq 0 6 0, lq 1 0 13, lq 2 0 0, lq 3 0 3], [], gi_390, hq_466), [], ([], 2)), ((4, [lq 0 6 0, lq 1 0 13, lq 2 0 3, lq 3 0 4], [], gi_390, hq_466), [], ([], 1)), ((4, [lq 0 6 0, lq 1 0 13, lq 2 0 2, lq 3 0 4], [], gi_390, hq_466), [], ([], 1)), ((4, [lq 0 6 0, lq 1 0 13, lq 2 0 0, lq 3 0 4], [], gi_390, hq_466), [], ([], 1)), ((4, [lq 0 6 0, lq 1 0 13, lq 2 0 3, lq 3 0 5], [], gi_390, hq_466), [], ([], 0)), ((4, [lq 0 6 0, lq 1 0 13, lq 2 0 2, lq 3 0 5], [], gi_390, hq_466), [], ([], 0)), ((4, [lq 0 6 0, lq 1 0 13, lq 2 0 0, lq 3 0 5], [], gi_390, hq_466), [], ([], 0))]
theorem ch_713 : staG tb_X12_fewestOf 1 bt_RX12 [] ct_713 [] [] cu_713 30 con_713 = true := by decide +kernel
theorem cc_713 : cu_713.all (cutG tb_X12_fewestOf 1 bt_RX12 [] ct_713 [] [] cu_713 30 con_713) = true := by decide +kernel
theorem cto_713 (l : Launch) : CTOK2 l RX12 vwCl gTbl ct_713 := ct2_cons (vl_691 l) ck_RX12_95_691 (ct2_cons (vl_502 l) ck_RX12_199_502 (ct2_cons (vl_503 l) ck_RX12_199_503 (ct2_cons (vl_504 l) ck_RX12_199_504 (ct2_cons (vl_505 l) ck_RX12_199_505 (ct2_cons (vl_506 l) ck_RX12_199_506 (ct2_cons (vl_685 l) ck_RX12_259_685 (ct2_cons (vl_685 l) ck_RX12_259_685 (ct2_nil))))))))
theorem vl_713 (l : Launch) : Vld2 l vwCl gTbl con_713 := conR_ok3 gT_all (hd_713) rfl pn_RX12 tk_X12_fewestOf bo_RX12 xo_RX12 (cto_713 l) ch_713 (cut_all cc_713)
/-- RookHustingModel bits -/
noncomputable def con_714 : Con2 := ((yX12_bits, cX12_bits, 3, (some .int)), (0, 0), ([(0, 14, 0)], [(0, 0)], [], []), [((0, 3, 0), [(0, 0), (0, 0)], [], [], [1])])
theorem hd_714 : con_714.1 = (yX12_bits, cX12_bits, 3, (some .int)) := rfl
noncomputable def cu_714 : List CUT2 := []
theorem ch_714 : staG tb_X12_bits 1 bt_RX12 [] ct_2 [] [] cu_714 219 con_714 = true := by decide +kernel
theorem vl_714 (l : Launch) : Vld2 l vwCl gTbl con_714 := conR_ok3 gT_all (hd_714) rfl pn_RX12 tk_X12_bits bo_RX12 xo_RX12 (cto_2 l) ch_714 cut_nil
/-- RookHustingModel fewestOf -/
noncomputable def con_715 : Con2 := ((yX12_fewestOf, cX12_fewestOf, 4, (some .int)), (3, 74), ([(6, 0, 0), (0, 14, 0)], gi_388, hc_82, []), [((0, 1, 0), gi_389, hq_466, [], [1]), ((0, 2, 0), gi_389, hq_466, [], [1]), ((0, 3, 0), gi_389, hq_466, [], [1])])
theorem hd_715 : con_715.1 = (yX12_fewestOf, cX12_fewestOf, 4, (some .int)) := rfl
noncomputable def ct_715 : CTB2 := [(6, 95, 0, con_691, [0, 1]), (14, 199, 1, con_497, []), (14, 199, 1, con_498, []), (14, 199, 1, con_499, []), (14, 199, 1, con_500, []), (14, 199, 1, con_501, []), (30, 259, 0, con_685, [0, 1, 2, 3]), (37, 259, 0, con_685, [0, 1, 2, 3])]
noncomputable def cu_715 : List CUT2 := [((4, [lq 0 6 0, lq 1 0 14, (2, (0, (-1), 0)), lq 3 0 0], [], gi_390, hq_466), [], ([], 5)), ((4, [lq 0 6 0, lq 1 0 14, (2, (0, (-1), 0)), lq 3 0 1], [], gi_390, hq_466), [], ([], 4)), ((4, [lq 0 6 0, lq 1 0 14, lq 2 0 1, lq 3 0 2], [], gi_390, hq_466), [], ([], 3)), ((4, [lq 0 6 0, lq 1 0 14, lq 2 0 2, lq 3 0 3], [], gi_390, hq_466), [], ([], 2)), ((4, [lq 0 6 0, lq 1 0 14, lq 2 0 1, lq 3 0 3], [], gi_390, hq_466), [], ([], 2)), ((4, [lq 0 6 0, lq 1 0 14, lq 2 0 3, lq 3 0 4], [], gi_390, hq_466), [], ([], 1)), ((4, [lq 0 6 0, lq 1 0 14, lq 2 0 2, lq 3 0 4], [], gi_390, hq_466), [], ([], 1)), ((4, [lq 0 6 0, lq 1 0 14, lq 2 0 1, lq 3 0 4], [], gi_390, hq_466), [], ([], 1)), ((4, [lq 0 6 0, lq 1 0 14, lq 2 0 3, lq 3 0 5], [], gi_390, hq_466), [], ([], 0)), ((4, [lq 0 6 0, lq 1 0 14, lq 2 0 2, lq 3 0 5], [], gi_390, hq_466), [], ([], 0)), ((4, [lq 0 6 0, lq 1 0 14, lq 2 0 1, lq 3 0 5], [], gi_390, hq_466), [], ([], 0))]
theorem ch_715 : staG tb_X12_fewestOf 1 bt_RX12 [] ct_715 [] [] cu_715 30 con_715 = true := by decide +kernel
theorem cc_715 : cu_715.all (cutG tb_X12_fewestOf 1 bt_RX12 [] ct_715 [] [] cu_715 30 con_715) = true := by decide +kernel
theorem cto_715 (l : Launch) : CTOK2 l RX12 vwCl gTbl ct_715 := ct2_cons (vl_691 l) ck_RX12_95_691 (ct2_cons (vl_497 l) ck_RX12_199_497 (ct2_cons (vl_498 l) ck_RX12_199_498 (ct2_cons (vl_499 l) ck_RX12_199_499 (ct2_cons (vl_500 l) ck_RX12_199_500 (ct2_cons (vl_501 l) ck_RX12_199_501 (ct2_cons (vl_685 l) ck_RX12_259_685 (ct2_cons (vl_685 l) ck_RX12_259_685 (ct2_nil))))))))
theorem vl_715 (l : Launch) : Vld2 l vwCl gTbl con_715 := conR_ok3 gT_all (hd_715) rfl pn_RX12 tk_X12_fewestOf bo_RX12 xo_RX12 (cto_715 l) ch_715 (cut_all cc_715)
/-- RookHustingModel bits -/
noncomputable def con_716 : Con2 := ((yX12_bits, cX12_bits, 3, (some .int)), (0, 0), ([(0, 19, 0)], [(0, 0)], [], []), [((0, 3, 0), [(0, 0), (0, 0)], [], [], [1])])
theorem hd_716 : con_716.1 = (yX12_bits, cX12_bits, 3, (some .int)) := rfl
noncomputable def cu_716 : List CUT2 := []
theorem ch_716 : staG tb_X12_bits 1 bt_RX12 [] ct_2 [] [] cu_716 219 con_716 = true := by decide +kernel
theorem vl_716 (l : Launch) : Vld2 l vwCl gTbl con_716 := conR_ok3 gT_all (hd_716) rfl pn_RX12 tk_X12_bits bo_RX12 xo_RX12 (cto_2 l) ch_716 cut_nil
/-- RookHustingModel fewestOf -/
noncomputable def con_717 : Con2 := ((yX12_fewestOf, cX12_fewestOf, 4, (some .int)), (3, 74), ([(6, 0, 0), (0, 19, 0)], gi_388, hc_82, []), [((0, 0, 0), gi_389, hq_466, [], [1]), ((0, 1, 0), gi_389, hq_466, [], [1]), ((0, 4, 0), gi_389, hq_466, [], [1])])
theorem hd_717 : con_717.1 = (yX12_fewestOf, cX12_fewestOf, 4, (some .int)) := rfl
noncomputable def ct_717 : CTB2 := [(6, 95, 0, con_691, [0, 1]), (14, 199, 1, con_492, []), (14, 199, 1, con_493, []), (14, 199, 1, con_494, []), (14, 199, 1, con_495, []), (14, 199, 1, con_496, []), (30, 259, 0, con_685, [0, 1, 2, 3]), (37, 259, 0, con_685, [0, 1, 2, 3])]
noncomputable def cu_717 : List CUT2 := [((4, [lq 0 6 0, lq 1 0 19, (2, (0, (-1), 0)), lq 3 0 0], [], gi_390, hq_466), [], ([], 5)), ((4, [lq 0 6 0, lq 1 0 19, lq 2 0 0, lq 3 0 1], [], gi_390, hq_466), [], ([], 4)), ((4, [lq 0 6 0, lq 1 0 19, lq 2 0 1, lq 3 0 2], [], gi_390, hq_466), [], ([], 3)), ((4, [lq 0 6 0, lq 1 0 19, lq 2 0 0, lq 3 0 2], [], gi_390, hq_466), [], ([], 3)), ((4, [lq 0 6 0, lq 1 0 19, lq 2 0 1, lq 3 0 3], [], gi_390, hq_466), [], ([], 2)), ((4, [lq 0 6 0, lq 1 0 19, lq 2 0 0, lq 3 0 3], [], gi_390, hq_466), [], ([], 2)), ((4, [lq 0 6 0, lq 1 0 19, lq 2 0 1, lq 3 0 4], [], gi_390, hq_466), [], ([], 1)), ((4, [lq 0 6 0, lq 1 0 19, lq 2 0 0, lq 3 0 4], [], gi_390, hq_466), [], ([], 1)), ((4, [lq 0 6 0, lq 1 0 19, lq 2 0 4, lq 3 0 5], [], gi_390, hq_466), [], ([], 0)), ((4, [lq 0 6 0, lq 1 0 19, lq 2 0 1, lq 3 0 5], [], gi_390, hq_466), [], ([], 0)), ((4, [lq 0 6 0, lq 1 0 19, lq 2 0 0, lq 3 0 5], [], gi_390, hq_466), [], ([], 0))]
theorem ch_717 : staG tb_X12_fewestOf 1 bt_RX12 [] ct_717 [] [] cu_717 30 con_717 = true := by decide +kernel
theorem cc_717 : cu_717.all (cutG tb_X12_fewestOf 1 bt_RX12 [] ct_717 [] [] cu_717 30 con_717) = true := by decide +kernel
theorem cto_717 (l : Launch) : CTOK2 l RX12 vwCl gTbl ct_717 := ct2_cons (vl_691 l) ck_RX12_95_691 (ct2_cons (vl_492 l) ck_RX12_199_492 (ct2_cons (vl_493 l) ck_RX12_199_493 (ct2_cons (vl_494 l) ck_RX12_199_494 (ct2_cons (vl_495 l) ck_RX12_199_495 (ct2_cons (vl_496 l) ck_RX12_199_496 (ct2_cons (vl_685 l) ck_RX12_259_685 (ct2_cons (vl_685 l) ck_RX12_259_685 (ct2_nil))))))))
theorem vl_717 (l : Launch) : Vld2 l vwCl gTbl con_717 := conR_ok3 gT_all (hd_717) rfl pn_RX12 tk_X12_fewestOf bo_RX12 xo_RX12 (cto_717 l) ch_717 (cut_all cc_717)
/-- RookHustingModel bits -/
noncomputable def con_718 : Con2 := ((yX12_bits, cX12_bits, 3, (some .int)), (0, 0), ([(0, 21, 0)], [(0, 0)], [], []), [((0, 3, 0), [(0, 0), (0, 0)], [], [], [1])])
theorem hd_718 : con_718.1 = (yX12_bits, cX12_bits, 3, (some .int)) := rfl
noncomputable def cu_718 : List CUT2 := []
theorem ch_718 : staG tb_X12_bits 1 bt_RX12 [] ct_2 [] [] cu_718 219 con_718 = true := by decide +kernel
theorem vl_718 (l : Launch) : Vld2 l vwCl gTbl con_718 := conR_ok3 gT_all (hd_718) rfl pn_RX12 tk_X12_bits bo_RX12 xo_RX12 (cto_2 l) ch_718 cut_nil
/-- RookHustingModel fewestOf -/
noncomputable def con_719 : Con2 := ((yX12_fewestOf, cX12_fewestOf, 4, (some .int)), (3, 74), ([(6, 0, 0), (0, 21, 0)], gi_388, hc_82, []), [((0, 0, 0), gi_389, hq_466, [], [1]), ((0, 2, 0), gi_389, hq_466, [], [1]), ((0, 4, 0), gi_389, hq_466, [], [1])])
theorem hd_719 : con_719.1 = (yX12_fewestOf, cX12_fewestOf, 4, (some .int)) := rfl
noncomputable def ct_719 : CTB2 := [(6, 95, 0, con_691, [0, 1]), (14, 199, 1, con_487, []), (14, 199, 1, con_488, []), (14, 199, 1, con_489, []), (14, 199, 1, con_490, []), (14, 199, 1, con_491, []), (30, 259, 0, con_685, [0, 1, 2, 3]), (37, 259, 0, con_685, [0, 1, 2, 3])]
noncomputable def cu_719 : List CUT2 := [((4, [lq 0 6 0, lq 1 0 21, (2, (0, (-1), 0)), lq 3 0 0], [], gi_390, hq_466), [], ([], 5)), ((4, [lq 0 6 0, lq 1 0 21, lq 2 0 0, lq 3 0 1], [], gi_390, hq_466), [], ([], 4)), ((4, [lq 0 6 0, lq 1 0 21, lq 2 0 0, lq 3 0 2], [], gi_390, hq_466), [], ([], 3)), ((4, [lq 0 6 0, lq 1 0 21, lq 2 0 2, lq 3 0 3], [], gi_390, hq_466), [], ([], 2)), ((4, [lq 0 6 0, lq 1 0 21, lq 2 0 0, lq 3 0 3], [], gi_390, hq_466), [], ([], 2)), ((4, [lq 0 6 0, lq 1 0 21, lq 2 0 2, lq 3 0 4], [], gi_390, hq_466), [], ([], 1)), ((4, [lq 0 6 0, lq 1 0 21, lq 2 0 0, lq 3 0 4], [], gi_390, hq_466), [], ([], 1)), ((4, [lq 0 6 0, lq 1 0 21, lq 2 0 4, lq 3 0 5], [], gi_390, hq_466), [], ([], 0)), ((4, [lq 0 6 0, lq 1 0 21, lq 2 0 2, lq 3 0 5], [], gi_390, hq_466), [], ([], 0)), ((4, [lq 0 6 0, lq 1 0 21, lq 2 0 0, lq 3 0 5], [], gi_390, hq_466), [], ([], 0))]
theorem ch_719 : staG tb_X12_fewestOf 1 bt_RX12 [] ct_719 [] [] cu_719 30 con_719 = true := by decide +kernel
theorem cc_719 : cu_719.all (cutG tb_X12_fewestOf 1 bt_RX12 [] ct_719 [] [] cu_719 30 con_719) = true := by decide +kernel
theorem cto_719 (l : Launch) : CTOK2 l RX12 vwCl gTbl ct_719 := ct2_cons (vl_691 l) ck_RX12_95_691 (ct2_cons (vl_487 l) ck_RX12_199_487 (ct2_cons (vl_488 l) ck_RX12_199_488 (ct2_cons (vl_489 l) ck_RX12_199_489 (ct2_cons (vl_490 l) ck_RX12_199_490 (ct2_cons (vl_491 l) ck_RX12_199_491 (ct2_cons (vl_685 l) ck_RX12_259_685 (ct2_cons (vl_685 l) ck_RX12_259_685 (ct2_nil))))))))
theorem vl_719 (l : Launch) : Vld2 l vwCl gTbl con_719 := conR_ok3 gT_all (hd_719) rfl pn_RX12 tk_X12_fewestOf bo_RX12 xo_RX12 (cto_719 l) ch_719 (cut_all cc_719)
/-- RookHustingModel bits -/
noncomputable def con_720 : Con2 := ((yX12_bits, cX12_bits, 3, (some .int)), (0, 0), ([(0, 22, 0)], [(0, 0)], [], []), [((0, 3, 0), [(0, 0), (0, 0)], [], [], [1])])
theorem hd_720 : con_720.1 = (yX12_bits, cX12_bits, 3, (some .int)) := rfl
noncomputable def cu_720 : List CUT2 := []
theorem ch_720 : staG tb_X12_bits 1 bt_RX12 [] ct_2 [] [] cu_720 219 con_720 = true := by decide +kernel
theorem vl_720 (l : Launch) : Vld2 l vwCl gTbl con_720 := conR_ok3 gT_all (hd_720) rfl pn_RX12 tk_X12_bits bo_RX12 xo_RX12 (cto_2 l) ch_720 cut_nil
/-- RookHustingModel fewestOf -/
noncomputable def con_721 : Con2 := ((yX12_fewestOf, cX12_fewestOf, 4, (some .int)), (3, 74), ([(6, 0, 0), (0, 22, 0)], gi_388, hc_82, []), [((0, 1, 0), gi_389, hq_466, [], [1]), ((0, 2, 0), gi_389, hq_466, [], [1]), ((0, 4, 0), gi_389, hq_466, [], [1])])
theorem hd_721 : con_721.1 = (yX12_fewestOf, cX12_fewestOf, 4, (some .int)) := rfl
noncomputable def ct_721 : CTB2 := [(6, 95, 0, con_691, [0, 1]), (14, 199, 1, con_482, []), (14, 199, 1, con_483, []), (14, 199, 1, con_484, []), (14, 199, 1, con_485, []), (14, 199, 1, con_486, []), (30, 259, 0, con_685, [0, 1, 2, 3]), (37, 259, 0, con_685, [0, 1, 2, 3])]
noncomputable def cu_721 : List CUT2 := [((4, [lq 0 6 0, lq 1 0 22, (2, (0, (-1), 0)), lq 3 0 0], [], gi_390, hq_466), [], ([], 5)), ((4, [lq 0 6 0, lq 1 0 22, (2, (0, (-1), 0)), lq 3 0 1], [], gi_390, hq_466), [], ([], 4)), ((4, [lq 0 6 0, lq 1 0 22, lq 2 0 1, lq 3 0 2], [], gi_390, hq_466), [], ([], 3)), ((4, [lq 0 6 0, lq 1 0 22, lq 2 0 2, lq 3 0 3], [], gi_390, hq_466), [], ([], 2)), ((4, [lq 0 6 0, lq 1 0 22, lq 2 0 1, lq 3 0 3], [], gi_390, hq_466), [], ([], 2)), ((4, [lq 0 6 0, lq 1 0 22, lq 2 0 2, lq 3 0 4], [], gi_390, hq_466), [], ([], 1)), ((4, [lq 0 6 0, lq 1 0 22, lq 2 0 1, lq 3 0 4], [], gi_390, hq_466), [], ([], 1)), ((4, [lq 0 6 0, lq 1 0 22, lq 2 0 4, lq 3 0 5], [], gi_390, hq_466), [], ([], 0)), ((4, [lq 0 6 0, lq 1 0 22, lq 2 0 2, lq 3 0 5], [], gi_390, hq_466), [], ([], 0)), ((4, [lq 0 6 0, lq 1 0 22, lq 2 0 1, lq 3 0 5], [], gi_390, hq_466), [], ([], 0))]
theorem ch_721 : staG tb_X12_fewestOf 1 bt_RX12 [] ct_721 [] [] cu_721 30 con_721 = true := by decide +kernel
theorem cc_721 : cu_721.all (cutG tb_X12_fewestOf 1 bt_RX12 [] ct_721 [] [] cu_721 30 con_721) = true := by decide +kernel
theorem cto_721 (l : Launch) : CTOK2 l RX12 vwCl gTbl ct_721 := ct2_cons (vl_691 l) ck_RX12_95_691 (ct2_cons (vl_482 l) ck_RX12_199_482 (ct2_cons (vl_483 l) ck_RX12_199_483 (ct2_cons (vl_484 l) ck_RX12_199_484 (ct2_cons (vl_485 l) ck_RX12_199_485 (ct2_cons (vl_486 l) ck_RX12_199_486 (ct2_cons (vl_685 l) ck_RX12_259_685 (ct2_cons (vl_685 l) ck_RX12_259_685 (ct2_nil))))))))
theorem vl_721 (l : Launch) : Vld2 l vwCl gTbl con_721 := conR_ok3 gT_all (hd_721) rfl pn_RX12 tk_X12_fewestOf bo_RX12 xo_RX12 (cto_721 l) ch_721 (cut_all cc_721)
/-- RookHustingModel bits -/
noncomputable def con_722 : Con2 := ((yX12_bits, cX12_bits, 3, (some .int)), (0, 0), ([(0, 25, 0)], [(0, 0)], [], []), [((0, 3, 0), [(0, 0), (0, 0)], [], [], [1])])
theorem hd_722 : con_722.1 = (yX12_bits, cX12_bits, 3, (some .int)) := rfl
noncomputable def cu_722 : List CUT2 := []
theorem ch_722 : staG tb_X12_bits 1 bt_RX12 [] ct_2 [] [] cu_722 219 con_722 = true := by decide +kernel
theorem vl_722 (l : Launch) : Vld2 l vwCl gTbl con_722 := conR_ok3 gT_all (hd_722) rfl pn_RX12 tk_X12_bits bo_RX12 xo_RX12 (cto_2 l) ch_722 cut_nil
/-- RookHustingModel fewestOf -/
noncomputable def con_723 : Con2 := ((yX12_fewestOf, cX12_fewestOf, 4, (some .int)), (3, 74), ([(6, 0, 0), (0, 25, 0)], gi_388, hc_82, []), [((0, 0, 0), gi_389, hq_466, [], [1]), ((0, 3, 0), gi_389, hq_466, [], [1]), ((0, 4, 0), gi_389, hq_466, [], [1])])
theorem hd_723 : con_723.1 = (yX12_fewestOf, cX12_fewestOf, 4, (some .int)) := rfl
noncomputable def ct_723 : CTB2 := [(6, 95, 0, con_691, [0, 1]), (14, 199, 1, con_477, []), (14, 199, 1, con_478, []), (14, 199, 1, con_479, []), (14, 199, 1, con_480, []), (14, 199, 1, con_481, []), (30, 259, 0, con_685, [0, 1, 2, 3]), (37, 259, 0, con_685, [0, 1, 2, 3])]
noncomputable def cu_723 : List CUT2 := [((4, [lq 0 6 0, lq 1 0 25, (2, (0, (-1), 0)), lq 3 0 0], [], gi_390, hq_466), [], ([], 5)), ((4, [lq 0 6 0, lq 1 0 25, lq 2 0 0, lq 3 0 1], [], gi_390, hq_466), [], ([], 4)), ((4, [lq 0 6 0, lq 1 0 25, lq 2 0 0, lq 3 0 2], [], gi_390, hq_466), [], ([], 3)), ((4, [lq 0 6 0, lq 1 0 25, lq 2 0 0, lq 3 0 3], [], gi_390, hq_466), [], ([], 2)), ((4, [lq 0 6 0, lq 1 0 25, lq 2 0 3, lq 3 0 4], [], gi_390, hq_466), [], ([], 1)), ((4, [lq 0 6 0, lq 1 0 25, lq 2 0 0, lq 3 0 4], [], gi_390, hq_466), [], ([], 1)), ((4, [lq 0 6 0, lq 1 0 25, lq 2 0 4, lq 3 0 5], [], gi_390, hq_466), [], ([], 0)), ((4, [lq 0 6 0, lq 1 0 25, lq 2 0 3, lq 3 0 5], [], gi_390, hq_466), [], ([], 0)), ((4, [lq 0 6 0, lq 1 0 25, lq 2 0 0, lq 3 0 5], [], gi_390, hq_466), [], ([], 0))]
theorem ch_723 : staG tb_X12_fewestOf 1 bt_RX12 [] ct_723 [] [] cu_723 30 con_723 = true := by decide +kernel
theorem cc_723 : cu_723.all (cutG tb_X12_fewestOf 1 bt_RX12 [] ct_723 [] [] cu_723 30 con_723) = true := by decide +kernel
theorem cto_723 (l : Launch) : CTOK2 l RX12 vwCl gTbl ct_723 := ct2_cons (vl_691 l) ck_RX12_95_691 (ct2_cons (vl_477 l) ck_RX12_199_477 (ct2_cons (vl_478 l) ck_RX12_199_478 (ct2_cons (vl_479 l) ck_RX12_199_479 (ct2_cons (vl_480 l) ck_RX12_199_480 (ct2_cons (vl_481 l) ck_RX12_199_481 (ct2_cons (vl_685 l) ck_RX12_259_685 (ct2_cons (vl_685 l) ck_RX12_259_685 (ct2_nil))))))))
theorem vl_723 (l : Launch) : Vld2 l vwCl gTbl con_723 := conR_ok3 gT_all (hd_723) rfl pn_RX12 tk_X12_fewestOf bo_RX12 xo_RX12 (cto_723 l) ch_723 (cut_all cc_723)
/-- RookHustingModel bits -/
noncomputable def con_724 : Con2 := ((yX12_bits, cX12_bits, 3, (some .int)), (0, 0), ([(0, 26, 0)], [(0, 0)], [], []), [((0, 3, 0), [(0, 0), (0, 0)], [], [], [1])])
theorem hd_724 : con_724.1 = (yX12_bits, cX12_bits, 3, (some .int)) := rfl
noncomputable def cu_724 : List CUT2 := []
theorem ch_724 : staG tb_X12_bits 1 bt_RX12 [] ct_2 [] [] cu_724 219 con_724 = true := by decide +kernel
theorem vl_724 (l : Launch) : Vld2 l vwCl gTbl con_724 := conR_ok3 gT_all (hd_724) rfl pn_RX12 tk_X12_bits bo_RX12 xo_RX12 (cto_2 l) ch_724 cut_nil
