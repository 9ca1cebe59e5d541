/-! ===== contracts, 25 ===== -/
/-- java/lang/Integer bitCount -/
noncomputable def con_1015 : Con2 := ((yJ6_bitCount_0f7a4, cJ6_bitCount_0f7a4, 1, (some .int)), (0, 0), ([(1, 0, 0)], [(0, 126)], [], []), [((0, 0, 0), [(0, 0), (0, 0)], [], [], [1]), ((0, 1, 0), [(1, 64), (0, 0)], [], [], [1]), ((0, 2, 0), [(3, 96), (0, 0)], [], [], [1]), ((0, 3, 0), [(7, 112), (0, 0)], [], [], [1]), ((0, 4, 0), [(15, 120), (0, 0)], [], [], [1]), ((0, 5, 0), [(31, 124), (0, 0)], [], [], [1]), ((0, 6, 0), [(63, 126), (0, 0)], [], [], [1])])
theorem hd_1015 : con_1015.1 = (yJ6_bitCount_0f7a4, cJ6_bitCount_0f7a4, 1, (some .int)) := rfl
noncomputable def cu_1015 : List CUT2 := []
theorem ch_1015 : staG tb_J_bitCount 1 bt_RJ6 [] ct_670 [(0, [(1, (1, 0, 0), 0, 0)])] [] cu_1015 44 con_1015 = true := by decide +kernel
theorem vl_1015 (l : Launch) : Vld2 l vwCl gTbl con_1015 := conR_ok3 gT_all (hd_1015) rfl pn_RJ6 tk_J_bitCount bo_RJ6 xo_RJ6 (cto_670 l) ch_1015 cut_nil
/-- RookHusting hasBit -/
noncomputable def con_1021 : Con2 := ((yX11_hasBit, cX11_hasBit, 2, (some .boolean)), (0, 0), ([(0, 0, 0), (0, 0, 0)], [(0, 0), (0, 0)], [], []), [((0, 0, 0), [(0, 0), (0, 0), (0, 0)], [], [], [1])])
theorem hd_1021 : con_1021.1 = (yX11_hasBit, cX11_hasBit, 2, (some .boolean)) := rfl
noncomputable def cu_1021 : List CUT2 := []
theorem ch_1021 : staG tb_X11_hasBit 1 bt_RX11 [] ct_3 [] [] cu_1021 11 con_1021 = true := by decide +kernel
theorem vl_1021 (l : Launch) : Vld2 l vwCl gTbl con_1021 := conR_ok3 gT_all (hd_1021) rfl pn_RX11 tk_X11_hasBit bo_RX11 xo_RX11 (cto_3 l) ch_1021 cut_nil
/-- RookHusting hasBit -/
noncomputable def con_1022 : Con2 := ((yX11_hasBit, cX11_hasBit, 2, (some .boolean)), (0, 0), ([(0, 127, 0), (0, 6, 0)], [(0, 0), (0, 0)], [], []), [((0, 1, 0), [(0, 0), (0, 0), (0, 0)], [], [], [1])])
theorem hd_1022 : con_1022.1 = (yX11_hasBit, cX11_hasBit, 2, (some .boolean)) := rfl
noncomputable def cu_1022 : List CUT2 := []
theorem ch_1022 : staG tb_X11_hasBit 1 bt_RX11 [] ct_3 [] [] cu_1022 12 con_1022 = true := by decide +kernel
theorem vl_1022 (l : Launch) : Vld2 l vwCl gTbl con_1022 := conR_ok3 gT_all (hd_1022) rfl pn_RX11 tk_X11_hasBit bo_RX11 xo_RX11 (cto_3 l) ch_1022 cut_nil
/-- RookHusting hasBit -/
noncomputable def con_1023 : Con2 := ((yX11_hasBit, cX11_hasBit, 2, (some .boolean)), (0, 0), ([(0, 127, 0), (0, 5, 0)], [(0, 0), (0, 0)], [], []), [((0, 1, 0), [(0, 0), (0, 0), (0, 0)], [], [], [1])])
theorem hd_1023 : con_1023.1 = (yX11_hasBit, cX11_hasBit, 2, (some .boolean)) := rfl
noncomputable def cu_1023 : List CUT2 := []
theorem ch_1023 : staG tb_X11_hasBit 1 bt_RX11 [] ct_3 [] [] cu_1023 12 con_1023 = true := by decide +kernel
theorem vl_1023 (l : Launch) : Vld2 l vwCl gTbl con_1023 := conR_ok3 gT_all (hd_1023) rfl pn_RX11 tk_X11_hasBit bo_RX11 xo_RX11 (cto_3 l) ch_1023 cut_nil
/-- RookHusting hasBit -/
noncomputable def con_1024 : Con2 := ((yX11_hasBit, cX11_hasBit, 2, (some .boolean)), (0, 0), ([(0, 127, 0), (0, 4, 0)], [(0, 0), (0, 0)], [], []), [((0, 1, 0), [(0, 0), (0, 0), (0, 0)], [], [], [1])])
theorem hd_1024 : con_1024.1 = (yX11_hasBit, cX11_hasBit, 2, (some .boolean)) := rfl
noncomputable def cu_1024 : List CUT2 := []
theorem ch_1024 : staG tb_X11_hasBit 1 bt_RX11 [] ct_3 [] [] cu_1024 12 con_1024 = true := by decide +kernel
theorem vl_1024 (l : Launch) : Vld2 l vwCl gTbl con_1024 := conR_ok3 gT_all (hd_1024) rfl pn_RX11 tk_X11_hasBit bo_RX11 xo_RX11 (cto_3 l) ch_1024 cut_nil
/-- RookHusting hasBit -/
noncomputable def con_1025 : Con2 := ((yX11_hasBit, cX11_hasBit, 2, (some .boolean)), (0, 0), ([(0, 127, 0), (0, 3, 0)], [(0, 0), (0, 0)], [], []), [((0, 1, 0), [(0, 0), (0, 0), (0, 0)], [], [], [1])])
theorem hd_1025 : con_1025.1 = (yX11_hasBit, cX11_hasBit, 2, (some .boolean)) := rfl
noncomputable def cu_1025 : List CUT2 := []
theorem ch_1025 : staG tb_X11_hasBit 1 bt_RX11 [] ct_3 [] [] cu_1025 12 con_1025 = true := by decide +kernel
theorem vl_1025 (l : Launch) : Vld2 l vwCl gTbl con_1025 := conR_ok3 gT_all (hd_1025) rfl pn_RX11 tk_X11_hasBit bo_RX11 xo_RX11 (cto_3 l) ch_1025 cut_nil
/-- RookHusting hasBit -/
noncomputable def con_1026 : Con2 := ((yX11_hasBit, cX11_hasBit, 2, (some .boolean)), (0, 0), ([(0, 127, 0), (0, 2, 0)], [(0, 0), (0, 0)], [], []), [((0, 1, 0), [(0, 0), (0, 0), (0, 0)], [], [], [1])])
theorem hd_1026 : con_1026.1 = (yX11_hasBit, cX11_hasBit, 2, (some .boolean)) := rfl
noncomputable def cu_1026 : List CUT2 := []
theorem ch_1026 : staG tb_X11_hasBit 1 bt_RX11 [] ct_3 [] [] cu_1026 12 con_1026 = true := by decide +kernel
theorem vl_1026 (l : Launch) : Vld2 l vwCl gTbl con_1026 := conR_ok3 gT_all (hd_1026) rfl pn_RX11 tk_X11_hasBit bo_RX11 xo_RX11 (cto_3 l) ch_1026 cut_nil
/-- RookHusting hasBit -/
noncomputable def con_1027 : Con2 := ((yX11_hasBit, cX11_hasBit, 2, (some .boolean)), (0, 0), ([(0, 127, 0), (0, 1, 0)], [(0, 0), (0, 0)], [], []), [((0, 1, 0), [(0, 0), (0, 0), (0, 0)], [], [], [1])])
theorem hd_1027 : con_1027.1 = (yX11_hasBit, cX11_hasBit, 2, (some .boolean)) := rfl
noncomputable def cu_1027 : List CUT2 := []
theorem ch_1027 : staG tb_X11_hasBit 1 bt_RX11 [] ct_3 [] [] cu_1027 12 con_1027 = true := by decide +kernel
theorem vl_1027 (l : Launch) : Vld2 l vwCl gTbl con_1027 := conR_ok3 gT_all (hd_1027) rfl pn_RX11 tk_X11_hasBit bo_RX11 xo_RX11 (cto_3 l) ch_1027 cut_nil
/-- RookHusting hasBit -/
noncomputable def con_1028 : Con2 := ((yX11_hasBit, cX11_hasBit, 2, (some .boolean)), (0, 0), ([(0, 127, 0), (0, 0, 0)], [(0, 0), (0, 0)], [], []), [((0, 1, 0), [(0, 0), (0, 0), (0, 0)], [], [], [1])])
theorem hd_1028 : con_1028.1 = (yX11_hasBit, cX11_hasBit, 2, (some .boolean)) := rfl
noncomputable def cu_1028 : List CUT2 := []
theorem ch_1028 : staG tb_X11_hasBit 1 bt_RX11 [] ct_3 [] [] cu_1028 12 con_1028 = true := by decide +kernel
theorem vl_1028 (l : Launch) : Vld2 l vwCl gTbl con_1028 := conR_ok3 gT_all (hd_1028) rfl pn_RX11 tk_X11_hasBit bo_RX11 xo_RX11 (cto_3 l) ch_1028 cut_nil
/-- RookHusting$Election ordersDecided -/
noncomputable def gi_636 : GI := jl_n [gp_183, jl_z 19]
noncomputable def ac_568 : AC := .inl (4, jl_n [jl_8 11 7, jl_c 7, vp_91])
noncomputable def hc_133 : List AC := [.inl (1, [(6, 1, 0), (8, 3, 0)]), ac_568, am_7]
noncomputable def gi_637 : GI := jl_n [gp_183, gp_191]
noncomputable def hq_542 : HP := [(false, .inl (1, [(6, 1, 0), (8, 3, 0)])), (false, ac_568), (false, am_7)]
noncomputable def con_1029 : Con2 := ((yX1_ordersDecided, cX1_ordersDecided, 8, (some .int)), (2, 44), ([(6, 0, 0), (1, 1, 0)], gi_636, hc_133, []), [((1, 21, 0), gi_637, hq_542, [], [1])])
theorem hd_1029 : con_1029.1 = (yX1_ordersDecided, cX1_ordersDecided, 8, (some .int)) := rfl
theorem ck_RX1_19_1015 : COK2 RX1 vwCl gTbl 19 1 con_1015 := ⟨wd_806, wd_144, mh_J_bitCount, .inl ⟨rfl, wd_804, wd_805, pd_J_bitCount⟩⟩
theorem ck_RX1_45_1022 : COK2 RX1 vwCl gTbl 45 2 con_1022 := ⟨wd_682, wd_125, mh_X11_hasBit, .inr (.inl ⟨rfl, by decide +kernel, wd_681, pd_X11_hasBit⟩)⟩
theorem ck_RX1_45_1023 : COK2 RX1 vwCl gTbl 45 2 con_1023 := ⟨wd_682, wd_125, mh_X11_hasBit, .inr (.inl ⟨rfl, by decide +kernel, wd_681, pd_X11_hasBit⟩)⟩
theorem ck_RX1_45_1024 : COK2 RX1 vwCl gTbl 45 2 con_1024 := ⟨wd_682, wd_125, mh_X11_hasBit, .inr (.inl ⟨rfl, by decide +kernel, wd_681, pd_X11_hasBit⟩)⟩
theorem ck_RX1_45_1025 : COK2 RX1 vwCl gTbl 45 2 con_1025 := ⟨wd_682, wd_125, mh_X11_hasBit, .inr (.inl ⟨rfl, by decide +kernel, wd_681, pd_X11_hasBit⟩)⟩
theorem ck_RX1_45_1026 : COK2 RX1 vwCl gTbl 45 2 con_1026 := ⟨wd_682, wd_125, mh_X11_hasBit, .inr (.inl ⟨rfl, by decide +kernel, wd_681, pd_X11_hasBit⟩)⟩
theorem ck_RX1_45_1027 : COK2 RX1 vwCl gTbl 45 2 con_1027 := ⟨wd_682, wd_125, mh_X11_hasBit, .inr (.inl ⟨rfl, by decide +kernel, wd_681, pd_X11_hasBit⟩)⟩
theorem ck_RX1_45_1028 : COK2 RX1 vwCl gTbl 45 2 con_1028 := ⟨wd_682, wd_125, mh_X11_hasBit, .inr (.inl ⟨rfl, by decide +kernel, wd_681, pd_X11_hasBit⟩)⟩
noncomputable def ct_1029 : CTB2 := [(14, 84, 0, con_927, [0, 1, 2]), (34, 84, 0, con_927, [0, 1, 2]), (43, 45, 2, con_1028, []), (43, 45, 2, con_1027, []), (43, 45, 2, con_1026, []), (43, 45, 2, con_1025, []), (43, 45, 2, con_1024, []), (43, 45, 2, con_1023, []), (43, 45, 2, con_1022, []), (43, 45, 2, con_46, []), (75, 19, 1, con_1015, [])]
noncomputable def rf_1029 : List (Nat × List POP) := [(40, [(2, (1, 5, 0), 127, 0), (1, (1, 1, 0), 0, 0)])]
noncomputable def gi_638 : GI := jl_n [gp_183, jl_z 20, jl_i 0 6, gp_162, jl_i 0 128]
noncomputable def cu_1029 : List CUT2 := [((24, [lq 0 6 0, lq 1 1 22, lq 2 0 127, lq 3 1 24, lq 4 1 25, lq 5 1 26], [], gi_638, hq_542), [], ([(26, (-1))], 128))]
theorem ch_1029 : staG tb_X1_ordersDecided 1 bt_RX1 [] ct_1029 rf_1029 [] cu_1029 51 con_1029 = true := by decide +kernel
theorem cc_1029 : cu_1029.all (cutG tb_X1_ordersDecided 1 bt_RX1 [] ct_1029 rf_1029 [] cu_1029 51 con_1029) = true := by decide +kernel
theorem cto_1029 (l : Launch) : CTOK2 l RX1 vwCl gTbl ct_1029 := ct2_cons (vl_927 l) ck_RX1_84_927 (ct2_cons (vl_927 l) ck_RX1_84_927 (ct2_cons (vl_1028 l) ck_RX1_45_1028 (ct2_cons (vl_1027 l) ck_RX1_45_1027 (ct2_cons (vl_1026 l) ck_RX1_45_1026 (ct2_cons (vl_1025 l) ck_RX1_45_1025 (ct2_cons (vl_1024 l) ck_RX1_45_1024 (ct2_cons (vl_1023 l) ck_RX1_45_1023 (ct2_cons (vl_1022 l) ck_RX1_45_1022 (ct2_cons (vl_46 l) ck_RX1_45_46 (ct2_cons (vl_1015 l) ck_RX1_19_1015 (ct2_nil)))))))))))
theorem vl_1029 (l : Launch) : Vld2 l vwCl gTbl con_1029 := conR_ok3 gT_all (hd_1029) rfl pn_RX1 tk_X1_ordersDecided bo_RX1 xo_RX1 (cto_1029 l) ch_1029 (cut_all cc_1029)
/-- RookHusting commonDivisor -/
noncomputable def gi_639 : GI := jl_n [jl_m 9223372036854775807 25600000000, jl_i 1 10000, jl_u]
noncomputable def con_1030 : Con2 := ((yX11_commonDivisor, cX11_commonDivisor, 7, (some .long)), (0, 0), ([(4, 0, 0), (4, 1, 0)], [((-9223372036854775808), 25600000000), (1, 10000)], [], []), [((4, 2, 0), gi_639, [], [], [4])])
theorem hd_1030 : con_1030.1 = (yX11_commonDivisor, cX11_commonDivisor, 7, (some .long)) := rfl
noncomputable def gi_640 : GI := jl_n [jl_m 9223372036854775807 25600000000, jl_i 1 10000, jl_r 2 (jl_u), jl_i 0 100]
noncomputable def cu_1030 : List CUT2 := [((3, [lq 0 4 2, lq 2 4 3, lq 4 1 4], [], gi_640, []), [], ([(4, (-1))], 100))]
theorem ch_1030 : staG tb_X11_commonDivisor 1 bt_RX11 [] ct_3 [] [] cu_1030 19 con_1030 = true := by decide +kernel
theorem cc_1030 : cu_1030.all (cutG tb_X11_commonDivisor 1 bt_RX11 [] ct_3 [] [] cu_1030 19 con_1030) = true := by decide +kernel
theorem vl_1030 (l : Launch) : Vld2 l vwCl gTbl con_1030 := conR_ok3 gT_all (hd_1030) rfl pn_RX11 tk_X11_commonDivisor bo_RX11 xo_RX11 (cto_3 l) ch_1030 (cut_all cc_1030)
/-- RookHusting partOf -/
noncomputable def gi_641 : GI := jl_n [jl_m 9223372036854775807 25600000000, jl_i 1 10000, jl_i 0 1, jl_u]
noncomputable def con_1031 : Con2 := ((yX11_partOf, cX11_partOf, 7, (some .long)), (1, 26), ([(4, 0, 0), (4, 1, 0), (1, 2, 0)], [((-9223372036854775808), 25600000000), (1, 10000), (0, 1)], [], []), [((4, 3, 0), gi_641, [], [], [4])])
theorem hd_1031 : con_1031.1 = (yX11_partOf, cX11_partOf, 7, (some .long)) := rfl
theorem ck_RX11_492_1030 : COK2 RX11 vwCl gTbl 492 1 con_1030 := ⟨wd_987, wd_125, mh_X11_commonDivisor, .inl ⟨rfl, wd_985, wd_986, pd_X11_commonDivisor⟩⟩
noncomputable def ct_1031 : CTB2 := [(2, 492, 1, con_1030, [])]
noncomputable def cu_1031 : List CUT2 := []
theorem ch_1031 : staG tb_X11_partOf 1 bt_RX11 [] ct_1031 [] [] cu_1031 16 con_1031 = true := by decide +kernel
theorem cto_1031 (l : Launch) : CTOK2 l RX11 vwCl gTbl ct_1031 := ct2_cons (vl_1030 l) ck_RX11_492_1030 (ct2_nil)
theorem vl_1031 (l : Launch) : Vld2 l vwCl gTbl con_1031 := conR_ok3 gT_all (hd_1031) rfl pn_RX11 tk_X11_partOf bo_RX11 xo_RX11 (cto_1031 l) ch_1031 cut_nil
/-- RookHusting isVoter -/
noncomputable def ac_569 : AC := .inl (4, jl_n [jl_8 27 7, jl_c 6, jl_8 37 9])
noncomputable def hq_543 : HP := [(false, ac_431), (false, .inl (9, [(6, 2, 0), (8, 19, 0)])), (false, ac_569)]
noncomputable def gi_642 : GI := jl_n [gp_212, jl_z 36]
noncomputable def con_1032 : Con2 := ((yX11_isVoter, cX11_isVoter, 2, (some .boolean)), (0, 0), ([(6, 0, 0), (1, 1, 0)], gi_633, [ac_431, .inl (9, [(6, 2, 0), (8, 19, 0)]), ac_569], []), [((0, 0, 0), gi_634, hq_543, [], [1]), ((0, 1, 0), gi_642, hq_543, [], [1])])
theorem hd_1032 : con_1032.1 = (yX11_isVoter, cX11_isVoter, 2, (some .boolean)) := rfl
noncomputable def cu_1032 : List CUT2 := []
theorem ch_1032 : staG tb_X11_isVoter 1 bt_RX11 [] ct_3 [] [] cu_1032 13 con_1032 = true := by decide +kernel
theorem vl_1032 (l : Launch) : Vld2 l vwCl gTbl con_1032 := conR_ok3 gT_all (hd_1032) rfl pn_RX11 tk_X11_isVoter bo_RX11 xo_RX11 (cto_3 l) ch_1032 cut_nil
/-- RookHusting hasBit -/
noncomputable def con_1033 : Con2 := ((yX11_hasBit, cX11_hasBit, 2, (some .boolean)), (0, 0), ([(0, 63, 0), (0, 5, 0)], [(0, 0), (0, 0)], [], []), [((0, 1, 0), [(0, 0), (0, 0), (0, 0)], [], [], [1])])
theorem hd_1033 : con_1033.1 = (yX11_hasBit, cX11_hasBit, 2, (some .boolean)) := rfl
noncomputable def cu_1033 : List CUT2 := []
theorem ch_1033 : staG tb_X11_hasBit 1 bt_RX11 [] ct_3 [] [] cu_1033 12 con_1033 = true := by decide +kernel
theorem vl_1033 (l : Launch) : Vld2 l vwCl gTbl con_1033 := conR_ok3 gT_all (hd_1033) rfl pn_RX11 tk_X11_hasBit bo_RX11 xo_RX11 (cto_3 l) ch_1033 cut_nil
/-- RookHusting hasBit -/
noncomputable def con_1034 : Con2 := ((yX11_hasBit, cX11_hasBit, 2, (some .boolean)), (0, 0), ([(0, 63, 0), (0, 4, 0)], [(0, 0), (0, 0)], [], []), [((0, 1, 0), [(0, 0), (0, 0), (0, 0)], [], [], [1])])
theorem hd_1034 : con_1034.1 = (yX11_hasBit, cX11_hasBit, 2, (some .boolean)) := rfl
noncomputable def cu_1034 : List CUT2 := []
theorem ch_1034 : staG tb_X11_hasBit 1 bt_RX11 [] ct_3 [] [] cu_1034 12 con_1034 = true := by decide +kernel
theorem vl_1034 (l : Launch) : Vld2 l vwCl gTbl con_1034 := conR_ok3 gT_all (hd_1034) rfl pn_RX11 tk_X11_hasBit bo_RX11 xo_RX11 (cto_3 l) ch_1034 cut_nil
/-- RookHusting hasBit -/
noncomputable def con_1035 : Con2 := ((yX11_hasBit, cX11_hasBit, 2, (some .boolean)), (0, 0), ([(0, 63, 0), (0, 3, 0)], [(0, 0), (0, 0)], [], []), [((0, 1, 0), [(0, 0), (0, 0), (0, 0)], [], [], [1])])
theorem hd_1035 : con_1035.1 = (yX11_hasBit, cX11_hasBit, 2, (some .boolean)) := rfl
noncomputable def cu_1035 : List CUT2 := []
theorem ch_1035 : staG tb_X11_hasBit 1 bt_RX11 [] ct_3 [] [] cu_1035 12 con_1035 = true := by decide +kernel
theorem vl_1035 (l : Launch) : Vld2 l vwCl gTbl con_1035 := conR_ok3 gT_all (hd_1035) rfl pn_RX11 tk_X11_hasBit bo_RX11 xo_RX11 (cto_3 l) ch_1035 cut_nil
/-- RookHusting hasBit -/
noncomputable def con_1036 : Con2 := ((yX11_hasBit, cX11_hasBit, 2, (some .boolean)), (0, 0), ([(0, 63, 0), (0, 2, 0)], [(0, 0), (0, 0)], [], []), [((0, 1, 0), [(0, 0), (0, 0), (0, 0)], [], [], [1])])
theorem hd_1036 : con_1036.1 = (yX11_hasBit, cX11_hasBit, 2, (some .boolean)) := rfl
noncomputable def cu_1036 : List CUT2 := []
theorem ch_1036 : staG tb_X11_hasBit 1 bt_RX11 [] ct_3 [] [] cu_1036 12 con_1036 = true := by decide +kernel
theorem vl_1036 (l : Launch) : Vld2 l vwCl gTbl con_1036 := conR_ok3 gT_all (hd_1036) rfl pn_RX11 tk_X11_hasBit bo_RX11 xo_RX11 (cto_3 l) ch_1036 cut_nil
/-- RookHusting hasBit -/
noncomputable def con_1037 : Con2 := ((yX11_hasBit, cX11_hasBit, 2, (some .boolean)), (0, 0), ([(0, 63, 0), (0, 1, 0)], [(0, 0), (0, 0)], [], []), [((0, 1, 0), [(0, 0), (0, 0), (0, 0)], [], [], [1])])
theorem hd_1037 : con_1037.1 = (yX11_hasBit, cX11_hasBit, 2, (some .boolean)) := rfl
noncomputable def cu_1037 : List CUT2 := []
theorem ch_1037 : staG tb_X11_hasBit 1 bt_RX11 [] ct_3 [] [] cu_1037 12 con_1037 = true := by decide +kernel
theorem vl_1037 (l : Launch) : Vld2 l vwCl gTbl con_1037 := conR_ok3 gT_all (hd_1037) rfl pn_RX11 tk_X11_hasBit bo_RX11 xo_RX11 (cto_3 l) ch_1037 cut_nil
/-- RookHusting hasBit -/
noncomputable def con_1038 : Con2 := ((yX11_hasBit, cX11_hasBit, 2, (some .boolean)), (0, 0), ([(0, 63, 0), (0, 0, 0)], [(0, 0), (0, 0)], [], []), [((0, 1, 0), [(0, 0), (0, 0), (0, 0)], [], [], [1])])
theorem hd_1038 : con_1038.1 = (yX11_hasBit, cX11_hasBit, 2, (some .boolean)) := rfl
noncomputable def cu_1038 : List CUT2 := []
theorem ch_1038 : staG tb_X11_hasBit 1 bt_RX11 [] ct_3 [] [] cu_1038 12 con_1038 = true := by decide +kernel
theorem vl_1038 (l : Launch) : Vld2 l vwCl gTbl con_1038 := conR_ok3 gT_all (hd_1038) rfl pn_RX11 tk_X11_hasBit bo_RX11 xo_RX11 (cto_3 l) ch_1038 cut_nil
/-- RookHusting$Election ordersDecided -/
noncomputable def gi_643 : GI := jl_n [gp_212, jl_z 19]
noncomputable def ac_570 : AC := .inl (4, jl_n [jl_8 11 7, jl_c 6, vp_91])
noncomputable def hc_134 : List AC := [.inl (1, [(6, 1, 0), (8, 3, 0)]), ac_570, am_7]
noncomputable def gi_644 : GI := jl_n [gp_212, gp_191]
noncomputable def hq_544 : HP := [(false, .inl (1, [(6, 1, 0), (8, 3, 0)])), (false, ac_570), (false, am_7)]
noncomputable def con_1039 : Con2 := ((yX1_ordersDecided, cX1_ordersDecided, 8, (some .int)), (2, 44), ([(6, 0, 0), (1, 1, 0)], gi_643, hc_134, []), [((1, 21, 0), gi_644, hq_544, [], [1])])
theorem hd_1039 : con_1039.1 = (yX1_ordersDecided, cX1_ordersDecided, 8, (some .int)) := rfl
theorem ck_RX1_45_1033 : COK2 RX1 vwCl gTbl 45 2 con_1033 := ⟨wd_682, wd_125, mh_X11_hasBit, .inr (.inl ⟨rfl, by decide +kernel, wd_681, pd_X11_hasBit⟩)⟩
theorem ck_RX1_45_1034 : COK2 RX1 vwCl gTbl 45 2 con_1034 := ⟨wd_682, wd_125, mh_X11_hasBit, .inr (.inl ⟨rfl, by decide +kernel, wd_681, pd_X11_hasBit⟩)⟩
theorem ck_RX1_45_1035 : COK2 RX1 vwCl gTbl 45 2 con_1035 := ⟨wd_682, wd_125, mh_X11_hasBit, .inr (.inl ⟨rfl, by decide +kernel, wd_681, pd_X11_hasBit⟩)⟩
theorem ck_RX1_45_1036 : COK2 RX1 vwCl gTbl 45 2 con_1036 := ⟨wd_682, wd_125, mh_X11_hasBit, .inr (.inl ⟨rfl, by decide +kernel, wd_681, pd_X11_hasBit⟩)⟩
theorem ck_RX1_45_1037 : COK2 RX1 vwCl gTbl 45 2 con_1037 := ⟨wd_682, wd_125, mh_X11_hasBit, .inr (.inl ⟨rfl, by decide +kernel, wd_681, pd_X11_hasBit⟩)⟩
theorem ck_RX1_45_1038 : COK2 RX1 vwCl gTbl 45 2 con_1038 := ⟨wd_682, wd_125, mh_X11_hasBit, .inr (.inl ⟨rfl, by decide +kernel, wd_681, pd_X11_hasBit⟩)⟩
noncomputable def ct_1039 : CTB2 := [(14, 84, 0, con_927, [0, 1, 2]), (34, 84, 0, con_927, [0, 1, 2]), (43, 45, 2, con_1038, []), (43, 45, 2, con_1037, []), (43, 45, 2, con_1036, []), (43, 45, 2, con_1035, []), (43, 45, 2, con_1034, []), (43, 45, 2, con_1033, []), (43, 45, 2, con_46, []), (75, 19, 1, con_1015, [])]
noncomputable def rf_1039 : List (Nat × List POP) := [(40, [(2, (1, 5, 0), 63, 0), (1, (1, 1, 0), 0, 0)])]
noncomputable def gi_645 : GI := jl_n [gp_212, jl_z 20, jl_i 0 5, gp_162, jl_i 0 64]
noncomputable def cu_1039 : List CUT2 := [((24, [lq 0 6 0, lq 1 1 22, lq 2 0 63, lq 3 1 24, lq 4 1 25, lq 5 1 26], [], gi_645, hq_544), [], ([(26, (-1))], 64))]
theorem ch_1039 : staG tb_X1_ordersDecided 1 bt_RX1 [] ct_1039 rf_1039 [] cu_1039 51 con_1039 = true := by decide +kernel
theorem cc_1039 : cu_1039.all (cutG tb_X1_ordersDecided 1 bt_RX1 [] ct_1039 rf_1039 [] cu_1039 51 con_1039) = true := by decide +kernel
theorem cto_1039 (l : Launch) : CTOK2 l RX1 vwCl gTbl ct_1039 := ct2_cons (vl_927 l) ck_RX1_84_927 (ct2_cons (vl_927 l) ck_RX1_84_927 (ct2_cons (vl_1038 l) ck_RX1_45_1038 (ct2_cons (vl_1037 l) ck_RX1_45_1037 (ct2_cons (vl_1036 l) ck_RX1_45_1036 (ct2_cons (vl_1035 l) ck_RX1_45_1035 (ct2_cons (vl_1034 l) ck_RX1_45_1034 (ct2_cons (vl_1033 l) ck_RX1_45_1033 (ct2_cons (vl_46 l) ck_RX1_45_46 (ct2_cons (vl_1015 l) ck_RX1_19_1015 (ct2_nil))))))))))
theorem vl_1039 (l : Launch) : Vld2 l vwCl gTbl con_1039 := conR_ok3 gT_all (hd_1039) rfl pn_RX1 tk_X1_ordersDecided bo_RX1 xo_RX1 (cto_1039 l) ch_1039 (cut_all cc_1039)
/-- RookHusting isVoter -/
noncomputable def ac_571 : AC := .inl (4, jl_n [jl_8 27 7, jl_c 5, jl_8 37 9])
noncomputable def hq_545 : HP := [(false, ac_431), (false, .inl (9, [(6, 2, 0), (8, 19, 0)])), (false, ac_571)]
noncomputable def gi_646 : GI := jl_n [gp_52, jl_z 36]
noncomputable def con_1040 : Con2 := ((yX11_isVoter, cX11_isVoter, 2, (some .boolean)), (0, 0), ([(6, 0, 0), (1, 1, 0)], gi_633, [ac_431, .inl (9, [(6, 2, 0), (8, 19, 0)]), ac_571], []), [((0, 0, 0), gi_634, hq_545, [], [1]), ((0, 1, 0), gi_646, hq_545, [], [1])])
theorem hd_1040 : con_1040.1 = (yX11_isVoter, cX11_isVoter, 2, (some .boolean)) := rfl
noncomputable def cu_1040 : List CUT2 := []
theorem ch_1040 : staG tb_X11_isVoter 1 bt_RX11 [] ct_3 [] [] cu_1040 13 con_1040 = true := by decide +kernel
theorem vl_1040 (l : Launch) : Vld2 l vwCl gTbl con_1040 := conR_ok3 gT_all (hd_1040) rfl pn_RX11 tk_X11_isVoter bo_RX11 xo_RX11 (cto_3 l) ch_1040 cut_nil
/-- RookHusting$Election ordersDecided -/
noncomputable def ac_572 : AC := .inl (4, jl_n [jl_8 11 7, jl_c 5, vp_91])
noncomputable def hc_135 : List AC := [.inl (1, [(6, 1, 0), (8, 3, 0)]), ac_572, am_7]
noncomputable def gi_647 : GI := jl_n [gp_52, gp_191]
noncomputable def hq_546 : HP := [(false, .inl (1, [(6, 1, 0), (8, 3, 0)])), (false, ac_572), (false, am_7)]
noncomputable def con_1041 : Con2 := ((yX1_ordersDecided, cX1_ordersDecided, 8, (some .int)), (2, 44), ([(6, 0, 0), (1, 1, 0)], gi_91, hc_135, []), [((1, 21, 0), gi_647, hq_546, [], [1])])
theorem hd_1041 : con_1041.1 = (yX1_ordersDecided, cX1_ordersDecided, 8, (some .int)) := rfl
theorem ck_RX1_45_257 : COK2 RX1 vwCl gTbl 45 2 con_257 := ⟨wd_682, wd_125, mh_X11_hasBit, .inr (.inl ⟨rfl, by decide +kernel, wd_681, pd_X11_hasBit⟩)⟩
theorem ck_RX1_45_258 : COK2 RX1 vwCl gTbl 45 2 con_258 := ⟨wd_682, wd_125, mh_X11_hasBit, .inr (.inl ⟨rfl, by decide +kernel, wd_681, pd_X11_hasBit⟩)⟩
theorem ck_RX1_45_259 : COK2 RX1 vwCl gTbl 45 2 con_259 := ⟨wd_682, wd_125, mh_X11_hasBit, .inr (.inl ⟨rfl, by decide +kernel, wd_681, pd_X11_hasBit⟩)⟩
theorem ck_RX1_45_260 : COK2 RX1 vwCl gTbl 45 2 con_260 := ⟨wd_682, wd_125, mh_X11_hasBit, .inr (.inl ⟨rfl, by decide +kernel, wd_681, pd_X11_hasBit⟩)⟩
theorem ck_RX1_45_261 : COK2 RX1 vwCl gTbl 45 2 con_261 := ⟨wd_682, wd_125, mh_X11_hasBit, .inr (.inl ⟨rfl, by decide +kernel, wd_681, pd_X11_hasBit⟩)⟩
noncomputable def ct_1041 : CTB2 := [(14, 84, 0, con_927, [0, 1, 2]), (34, 84, 0, con_927, [0, 1, 2]), (43, 45, 2, con_261, []), (43, 45, 2, con_260, []), (43, 45, 2, con_259, []), (43, 45, 2, con_258, []), (43, 45, 2, con_257, []), (43, 45, 2, con_46, []), (75, 19, 1, con_1015, [])]
noncomputable def rf_1041 : List (Nat × List POP) := [(40, [(2, (1, 5, 0), 31, 0), (1, (1, 1, 0), 0, 0)])]
noncomputable def gi_648 : GI := jl_n [gp_52, jl_z 20, jl_i 0 4, gp_162, jl_i 0 32]
noncomputable def cu_1041 : List CUT2 := [((24, [lq 0 6 0, lq 1 1 22, lq 2 0 31, lq 3 1 24, lq 4 1 25, lq 5 1 26], [], gi_648, hq_546), [], ([(26, (-1))], 32))]
theorem ch_1041 : staG tb_X1_ordersDecided 1 bt_RX1 [] ct_1041 rf_1041 [] cu_1041 51 con_1041 = true := by decide +kernel
theorem cc_1041 : cu_1041.all (cutG tb_X1_ordersDecided 1 bt_RX1 [] ct_1041 rf_1041 [] cu_1041 51 con_1041) = true := by decide +kernel
theorem cto_1041 (l : Launch) : CTOK2 l RX1 vwCl gTbl ct_1041 := ct2_cons (vl_927 l) ck_RX1_84_927 (ct2_cons (vl_927 l) ck_RX1_84_927 (ct2_cons (vl_261 l) ck_RX1_45_261 (ct2_cons (vl_260 l) ck_RX1_45_260 (ct2_cons (vl_259 l) ck_RX1_45_259 (ct2_cons (vl_258 l) ck_RX1_45_258 (ct2_cons (vl_257 l) ck_RX1_45_257 (ct2_cons (vl_46 l) ck_RX1_45_46 (ct2_cons (vl_1015 l) ck_RX1_19_1015 (ct2_nil)))))))))
theorem vl_1041 (l : Launch) : Vld2 l vwCl gTbl con_1041 := conR_ok3 gT_all (hd_1041) rfl pn_RX1 tk_X1_ordersDecided bo_RX1 xo_RX1 (cto_1041 l) ch_1041 (cut_all cc_1041)
/-- RookHusting isVoter -/
noncomputable def ac_573 : AC := .inl (4, jl_n [jl_8 27 7, jl_c 4, jl_8 37 9])
noncomputable def hq_547 : HP := [(false, ac_431), (false, .inl (9, [(6, 2, 0), (8, 19, 0)])), (false, ac_573)]
noncomputable def gi_649 : GI := jl_n [gp_211, jl_z 36]
noncomputable def con_1042 : Con2 := ((yX11_isVoter, cX11_isVoter, 2, (some .boolean)), (0, 0), ([(6, 0, 0), (1, 1, 0)], gi_633, [ac_431, .inl (9, [(6, 2, 0), (8, 19, 0)]), ac_573], []), [((0, 0, 0), gi_634, hq_547, [], [1]), ((0, 1, 0), gi_649, hq_547, [], [1])])
theorem hd_1042 : con_1042.1 = (yX11_isVoter, cX11_isVoter, 2, (some .boolean)) := rfl
noncomputable def cu_1042 : List CUT2 := []
theorem ch_1042 : staG tb_X11_isVoter 1 bt_RX11 [] ct_3 [] [] cu_1042 13 con_1042 = true := by decide +kernel
theorem vl_1042 (l : Launch) : Vld2 l vwCl gTbl con_1042 := conR_ok3 gT_all (hd_1042) rfl pn_RX11 tk_X11_isVoter bo_RX11 xo_RX11 (cto_3 l) ch_1042 cut_nil
/-- RookHusting$Election ordersDecided -/
noncomputable def gi_650 : GI := jl_n [gp_211, jl_z 19]
noncomputable def ac_574 : AC := .inl (4, jl_n [jl_8 11 7, jl_c 4, vp_91])
noncomputable def hc_136 : List AC := [.inl (1, [(6, 1, 0), (8, 3, 0)]), ac_574, am_7]
noncomputable def gi_651 : GI := jl_n [gp_211, gp_191]
noncomputable def hq_548 : HP := [(false, .inl (1, [(6, 1, 0), (8, 3, 0)])), (false, ac_574), (false, am_7)]
noncomputable def con_1043 : Con2 := ((yX1_ordersDecided, cX1_ordersDecided, 8, (some .int)), (2, 44), ([(6, 0, 0), (1, 1, 0)], gi_650, hc_136, []), [((1, 21, 0), gi_651, hq_548, [], [1])])
theorem hd_1043 : con_1043.1 = (yX1_ordersDecided, cX1_ordersDecided, 8, (some .int)) := rfl
theorem ck_RX1_45_252 : COK2 RX1 vwCl gTbl 45 2 con_252 := ⟨wd_682, wd_125, mh_X11_hasBit, .inr (.inl ⟨rfl, by decide +kernel, wd_681, pd_X11_hasBit⟩)⟩
theorem ck_RX1_45_253 : COK2 RX1 vwCl gTbl 45 2 con_253 := ⟨wd_682, wd_125, mh_X11_hasBit, .inr (.inl ⟨rfl, by decide +kernel, wd_681, pd_X11_hasBit⟩)⟩
theorem ck_RX1_45_254 : COK2 RX1 vwCl gTbl 45 2 con_254 := ⟨wd_682, wd_125, mh_X11_hasBit, .inr (.inl ⟨rfl, by decide +kernel, wd_681, pd_X11_hasBit⟩)⟩
theorem ck_RX1_45_255 : COK2 RX1 vwCl gTbl 45 2 con_255 := ⟨wd_682, wd_125, mh_X11_hasBit, .inr (.inl ⟨rfl, by decide +kernel, wd_681, pd_X11_hasBit⟩)⟩
noncomputable def ct_1043 : CTB2 := [(14, 84, 0, con_927, [0, 1, 2]), (34, 84, 0, con_927, [0, 1, 2]), (43, 45, 2, con_255, []), (43, 45, 2, con_254, []), (43, 45, 2, con_253, []), (43, 45, 2, con_252, []), (43, 45, 2, con_46, []), (75, 19, 1, con_1015, [])]
noncomputable def rf_1043 : List (Nat × List POP) := [(40, [(2, (1, 5, 0), 15, 0), (1, (1, 1, 0), 0, 0)])]
noncomputable def gi_652 : GI := jl_n [gp_211, jl_z 20, jl_i 0 3, gp_162, jl_i 0 16]
noncomputable def cu_1043 : List CUT2 := [((24, [lq 0 6 0, lq 1 1 22, lq 2 0 15, lq 3 1 24, lq 4 1 25, lq 5 1 26], [], gi_652, hq_548), [], ([(26, (-1))], 16))]
theorem ch_1043 : staG tb_X1_ordersDecided 1 bt_RX1 [] ct_1043 rf_1043 [] cu_1043 51 con_1043 = true := by decide +kernel
theorem cc_1043 : cu_1043.all (cutG tb_X1_ordersDecided 1 bt_RX1 [] ct_1043 rf_1043 [] cu_1043 51 con_1043) = true := by decide +kernel
theorem cto_1043 (l : Launch) : CTOK2 l RX1 vwCl gTbl ct_1043 := ct2_cons (vl_927 l) ck_RX1_84_927 (ct2_cons (vl_927 l) ck_RX1_84_927 (ct2_cons (vl_255 l) ck_RX1_45_255 (ct2_cons (vl_254 l) ck_RX1_45_254 (ct2_cons (vl_253 l) ck_RX1_45_253 (ct2_cons (vl_252 l) ck_RX1_45_252 (ct2_cons (vl_46 l) ck_RX1_45_46 (ct2_cons (vl_1015 l) ck_RX1_19_1015 (ct2_nil))))))))
theorem vl_1043 (l : Launch) : Vld2 l vwCl gTbl con_1043 := conR_ok3 gT_all (hd_1043) rfl pn_RX1 tk_X1_ordersDecided bo_RX1 xo_RX1 (cto_1043 l) ch_1043 (cut_all cc_1043)
/-- RookHusting isVoter -/
noncomputable def ac_575 : AC := .inl (4, jl_n [jl_8 27 7, jl_c 3, jl_8 37 9])
noncomputable def hq_549 : HP := [(false, ac_431), (false, .inl (9, [(6, 2, 0), (8, 19, 0)])), (false, ac_575)]
noncomputable def gi_653 : GI := jl_n [gp_210, jl_z 36]
noncomputable def con_1044 : Con2 := ((yX11_isVoter, cX11_isVoter, 2, (some .boolean)), (0, 0), ([(6, 0, 0), (1, 1, 0)], gi_633, [ac_431, .inl (9, [(6, 2, 0), (8, 19, 0)]), ac_575], []), [((0, 0, 0), gi_634, hq_549, [], [1]), ((0, 1, 0), gi_653, hq_549, [], [1])])
theorem hd_1044 : con_1044.1 = (yX11_isVoter, cX11_isVoter, 2, (some .boolean)) := rfl
noncomputable def cu_1044 : List CUT2 := []
theorem ch_1044 : staG tb_X11_isVoter 1 bt_RX11 [] ct_3 [] [] cu_1044 13 con_1044 = true := by decide +kernel
theorem vl_1044 (l : Launch) : Vld2 l vwCl gTbl con_1044 := conR_ok3 gT_all (hd_1044) rfl pn_RX11 tk_X11_isVoter bo_RX11 xo_RX11 (cto_3 l) ch_1044 cut_nil
/-- RookHusting$Election ordersDecided -/
noncomputable def gi_654 : GI := jl_n [gp_210, jl_z 19]
noncomputable def ac_576 : AC := .inl (4, jl_n [jl_8 11 7, jl_c 3, vp_91])
noncomputable def hc_137 : List AC := [.inl (1, [(6, 1, 0), (8, 3, 0)]), ac_576, am_7]
noncomputable def gi_655 : GI := jl_n [gp_210, gp_191]
noncomputable def hq_550 : HP := [(false, .inl (1, [(6, 1, 0), (8, 3, 0)])), (false, ac_576), (false, am_7)]
noncomputable def con_1045 : Con2 := ((yX1_ordersDecided, cX1_ordersDecided, 8, (some .int)), (2, 44), ([(6, 0, 0), (1, 1, 0)], gi_654, hc_137, []), [((1, 21, 0), gi_655, hq_550, [], [1])])
theorem hd_1045 : con_1045.1 = (yX1_ordersDecided, cX1_ordersDecided, 8, (some .int)) := rfl
theorem ck_RX1_45_222 : COK2 RX1 vwCl gTbl 45 2 con_222 := ⟨wd_682, wd_125, mh_X11_hasBit, .inr (.inl ⟨rfl, by decide +kernel, wd_681, pd_X11_hasBit⟩)⟩
theorem ck_RX1_45_223 : COK2 RX1 vwCl gTbl 45 2 con_223 := ⟨wd_682, wd_125, mh_X11_hasBit, .inr (.inl ⟨rfl, by decide +kernel, wd_681, pd_X11_hasBit⟩)⟩
theorem ck_RX1_45_224 : COK2 RX1 vwCl gTbl 45 2 con_224 := ⟨wd_682, wd_125, mh_X11_hasBit, .inr (.inl ⟨rfl, by decide +kernel, wd_681, pd_X11_hasBit⟩)⟩
noncomputable def ct_1045 : CTB2 := [(14, 84, 0, con_927, [0, 1, 2]), (34, 84, 0, con_927, [0, 1, 2]), (43, 45, 2, con_224, []), (43, 45, 2, con_223, []), (43, 45, 2, con_222, []), (43, 45, 2, con_46, []), (75, 19, 1, con_1015, [])]
noncomputable def rf_1045 : List (Nat × List POP) := [(40, [(2, (1, 5, 0), 7, 0), (1, (1, 1, 0), 0, 0)])]
noncomputable def gi_656 : GI := jl_n [gp_210, jl_z 20, jl_i 0 2, gp_162, jl_i 0 8]
noncomputable def cu_1045 : List CUT2 := [((24, [lq 0 6 0, lq 1 1 22, lq 2 0 7, lq 3 1 24, lq 4 1 25, lq 5 1 26], [], gi_656, hq_550), [], ([(26, (-1))], 8))]
theorem ch_1045 : staG tb_X1_ordersDecided 1 bt_RX1 [] ct_1045 rf_1045 [] cu_1045 51 con_1045 = true := by decide +kernel
theorem cc_1045 : cu_1045.all (cutG tb_X1_ordersDecided 1 bt_RX1 [] ct_1045 rf_1045 [] cu_1045 51 con_1045) = true := by decide +kernel
theorem cto_1045 (l : Launch) : CTOK2 l RX1 vwCl gTbl ct_1045 := ct2_cons (vl_927 l) ck_RX1_84_927 (ct2_cons (vl_927 l) ck_RX1_84_927 (ct2_cons (vl_224 l) ck_RX1_45_224 (ct2_cons (vl_223 l) ck_RX1_45_223 (ct2_cons (vl_222 l) ck_RX1_45_222 (ct2_cons (vl_46 l) ck_RX1_45_46 (ct2_cons (vl_1015 l) ck_RX1_19_1015 (ct2_nil)))))))
theorem vl_1045 (l : Launch) : Vld2 l vwCl gTbl con_1045 := conR_ok3 gT_all (hd_1045) rfl pn_RX1 tk_X1_ordersDecided bo_RX1 xo_RX1 (cto_1045 l) ch_1045 (cut_all cc_1045)
/-- RookHusting isVoter -/
noncomputable def ac_577 : AC := .inl (4, jl_n [jl_8 27 7, jl_c 2, jl_8 37 9])
noncomputable def hq_551 : HP := [(false, ac_431), (false, .inl (9, [(6, 2, 0), (8, 19, 0)])), (false, ac_577)]
noncomputable def gi_657 : GI := jl_n [gp_209, jl_z 36]
noncomputable def con_1046 : Con2 := ((yX11_isVoter, cX11_isVoter, 2, (some .boolean)), (0, 0), ([(6, 0, 0), (1, 1, 0)], gi_633, [ac_431, .inl (9, [(6, 2, 0), (8, 19, 0)]), ac_577], []), [((0, 0, 0), gi_634, hq_551, [], [1]), ((0, 1, 0), gi_657, hq_551, [], [1])])
theorem hd_1046 : con_1046.1 = (yX11_isVoter, cX11_isVoter, 2, (some .boolean)) := rfl
noncomputable def cu_1046 : List CUT2 := []
theorem ch_1046 : staG tb_X11_isVoter 1 bt_RX11 [] ct_3 [] [] cu_1046 13 con_1046 = true := by decide +kernel
theorem vl_1046 (l : Launch) : Vld2 l vwCl gTbl con_1046 := conR_ok3 gT_all (hd_1046) rfl pn_RX11 tk_X11_isVoter bo_RX11 xo_RX11 (cto_3 l) ch_1046 cut_nil
/-- RookHusting$Election ordersDecided -/
noncomputable def gi_658 : GI := jl_n [gp_209, jl_z 19]
noncomputable def ac_578 : AC := .inl (4, jl_n [jl_8 11 7, jl_c 2, vp_91])
noncomputable def hc_138 : List AC := [.inl (1, [(6, 1, 0), (8, 3, 0)]), ac_578, am_7]
noncomputable def gi_659 : GI := jl_n [gp_209, gp_191]
noncomputable def hq_552 : HP := [(false, .inl (1, [(6, 1, 0), (8, 3, 0)])), (false, ac_578), (false, am_7)]
noncomputable def con_1047 : Con2 := ((yX1_ordersDecided, cX1_ordersDecided, 8, (some .int)), (2, 44), ([(6, 0, 0), (1, 1, 0)], gi_658, hc_138, []), [((1, 21, 0), gi_659, hq_552, [], [1])])
theorem hd_1047 : con_1047.1 = (yX1_ordersDecided, cX1_ordersDecided, 8, (some .int)) := rfl
theorem ck_RX1_45_162 : COK2 RX1 vwCl gTbl 45 2 con_162 := ⟨wd_682, wd_125, mh_X11_hasBit, .inr (.inl ⟨rfl, by decide +kernel, wd_681, pd_X11_hasBit⟩)⟩
theorem ck_RX1_45_163 : COK2 RX1 vwCl gTbl 45 2 con_163 := ⟨wd_682, wd_125, mh_X11_hasBit, .inr (.inl ⟨rfl, by decide +kernel, wd_681, pd_X11_hasBit⟩)⟩
noncomputable def ct_1047 : CTB2 := [(14, 84, 0, con_927, [0, 1, 2]), (34, 84, 0, con_927, [0, 1, 2]), (43, 45, 2, con_163, []), (43, 45, 2, con_162, []), (43, 45, 2, con_46, []), (75, 19, 1, con_1015, [])]
noncomputable def rf_1047 : List (Nat × List POP) := [(40, [(2, (1, 5, 0), 3, 0), (1, (1, 1, 0), 0, 0)])]
noncomputable def gi_660 : GI := jl_n [gp_209, jl_z 20, jl_i 0 1, gp_162, jl_i 0 4]
noncomputable def cu_1047 : List CUT2 := [((24, [lq 0 6 0, lq 1 1 22, lq 2 0 3, lq 3 1 24, lq 4 1 25, lq 5 1 26], [], gi_660, hq_552), [], ([(26, (-1))], 4))]
theorem ch_1047 : staG tb_X1_ordersDecided 1 bt_RX1 [] ct_1047 rf_1047 [] cu_1047 51 con_1047 = true := by decide +kernel
theorem cc_1047 : cu_1047.all (cutG tb_X1_ordersDecided 1 bt_RX1 [] ct_1047 rf_1047 [] cu_1047 51 con_1047) = true := by decide +kernel
theorem cto_1047 (l : Launch) : CTOK2 l RX1 vwCl gTbl ct_1047 := ct2_cons (vl_927 l) ck_RX1_84_927 (ct2_cons (vl_927 l) ck_RX1_84_927 (ct2_cons (vl_163 l) ck_RX1_45_163 (ct2_cons (vl_162 l) ck_RX1_45_162 (ct2_cons (vl_46 l) ck_RX1_45_46 (ct2_cons (vl_1015 l) ck_RX1_19_1015 (ct2_nil))))))
theorem vl_1047 (l : Launch) : Vld2 l vwCl gTbl con_1047 := conR_ok3 gT_all (hd_1047) rfl pn_RX1 tk_X1_ordersDecided bo_RX1 xo_RX1 (cto_1047 l) ch_1047 (cut_all cc_1047)
/-- RookHusting isVoter -/
noncomputable def ac_579 : AC := .inl (4, jl_n [jl_8 27 7, jl_c 1, jl_8 37 9])
noncomputable def hq_553 : HP := [(false, ac_431), (false, .inl (9, [(6, 2, 0), (8, 19, 0)])), (false, ac_579)]
noncomputable def gi_661 : GI := jl_n [jl_z 38]
noncomputable def con_1048 : Con2 := ((yX11_isVoter, cX11_isVoter, 2, (some .boolean)), (0, 0), ([(6, 0, 0), (1, 1, 0)], gi_633, [ac_431, .inl (9, [(6, 2, 0), (8, 19, 0)]), ac_579], []), [((0, 0, 0), gi_634, hq_553, [], [1]), ((0, 1, 0), gi_661, hq_553, [], [1])])
theorem hd_1048 : con_1048.1 = (yX11_isVoter, cX11_isVoter, 2, (some .boolean)) := rfl
noncomputable def cu_1048 : List CUT2 := []
theorem ch_1048 : staG tb_X11_isVoter 1 bt_RX11 [] ct_3 [] [] cu_1048 13 con_1048 = true := by decide +kernel
theorem vl_1048 (l : Launch) : Vld2 l vwCl gTbl con_1048 := conR_ok3 gT_all (hd_1048) rfl pn_RX11 tk_X11_isVoter bo_RX11 xo_RX11 (cto_3 l) ch_1048 cut_nil
/-- RookHusting$Election ordersDecided -/
noncomputable def gi_662 : GI := jl_n [jl_z 21]
noncomputable def ac_580 : AC := .inl (4, jl_n [jl_8 11 7, jl_c 1, vp_91])
noncomputable def hc_139 : List AC := [.inl (1, [(6, 1, 0), (8, 3, 0)]), ac_580, am_7]
noncomputable def gi_663 : GI := jl_n [jl_z 21, jl_t]
noncomputable def hq_554 : HP := [(false, .inl (1, [(6, 1, 0), (8, 3, 0)])), (false, ac_580), (false, am_7)]
noncomputable def con_1049 : Con2 := ((yX1_ordersDecided, cX1_ordersDecided, 8, (some .int)), (2, 44), ([(6, 0, 0), (0, 0, 0)], gi_662, hc_139, []), [((1, 21, 0), gi_663, hq_554, [], [1])])
theorem hd_1049 : con_1049.1 = (yX1_ordersDecided, cX1_ordersDecided, 8, (some .int)) := rfl
theorem ck_RX1_45_57 : COK2 RX1 vwCl gTbl 45 2 con_57 := ⟨wd_682, wd_125, mh_X11_hasBit, .inr (.inl ⟨rfl, by decide +kernel, wd_681, pd_X11_hasBit⟩)⟩
theorem ck_RX1_45_1021 : COK2 RX1 vwCl gTbl 45 2 con_1021 := ⟨wd_682, wd_125, mh_X11_hasBit, .inr (.inl ⟨rfl, by decide +kernel, wd_681, pd_X11_hasBit⟩)⟩
noncomputable def ct_1049 : CTB2 := [(14, 84, 0, con_927, [0, 1, 2]), (34, 84, 0, con_927, [0, 1, 2]), (43, 45, 2, con_1021, []), (43, 45, 2, con_57, []), (75, 19, 1, con_1015, [])]
noncomputable def rf_1049 : List (Nat × List POP) := [(40, [(2, (1, 5, 0), 1, 0), (1, (1, 1, 0), 0, 0)])]
noncomputable def gi_664 : GI := jl_n [jl_z 24, jl_r 2 (jl_t), jl_i 0 2]
noncomputable def cu_1049 : List CUT2 := [((24, [lq 0 6 0, lq 1 0 0, lq 2 0 1, lq 3 1 24, lq 4 1 25, lq 5 1 26], [], gi_664, hq_554), [], ([(26, (-1))], 2))]
theorem ch_1049 : staG tb_X1_ordersDecided 1 bt_RX1 [] ct_1049 rf_1049 [] cu_1049 51 con_1049 = true := by decide +kernel
theorem cc_1049 : cu_1049.all (cutG tb_X1_ordersDecided 1 bt_RX1 [] ct_1049 rf_1049 [] cu_1049 51 con_1049) = true := by decide +kernel
theorem cto_1049 (l : Launch) : CTOK2 l RX1 vwCl gTbl ct_1049 := ct2_cons (vl_927 l) ck_RX1_84_927 (ct2_cons (vl_927 l) ck_RX1_84_927 (ct2_cons (vl_1021 l) ck_RX1_45_1021 (ct2_cons (vl_57 l) ck_RX1_45_57 (ct2_cons (vl_1015 l) ck_RX1_19_1015 (ct2_nil)))))
theorem vl_1049 (l : Launch) : Vld2 l vwCl gTbl con_1049 := conR_ok3 gT_all (hd_1049) rfl pn_RX1 tk_X1_ordersDecided bo_RX1 xo_RX1 (cto_1049 l) ch_1049 (cut_all cc_1049)
/-- RookHusting isVoter -/
noncomputable def ac_581 : AC := .inl (4, jl_n [jl_8 27 7, jl_c 0, jl_8 37 9])
noncomputable def hq_555 : HP := [(false, ac_431), (false, .inl (9, [(6, 2, 0), (8, 19, 0)])), (false, ac_581)]
noncomputable def con_1050 : Con2 := ((yX11_isVoter, cX11_isVoter, 2, (some .boolean)), (0, 0), ([(6, 0, 0), (1, 1, 0)], gi_633, [ac_431, .inl (9, [(6, 2, 0), (8, 19, 0)]), ac_581], []), [((0, 0, 0), gi_634, hq_555, [], [1])])
theorem hd_1050 : con_1050.1 = (yX11_isVoter, cX11_isVoter, 2, (some .boolean)) := rfl
noncomputable def cu_1050 : List CUT2 := []
theorem ch_1050 : staG tb_X11_isVoter 1 bt_RX11 [] ct_3 [] [] cu_1050 12 con_1050 = true := by decide +kernel
theorem vl_1050 (l : Launch) : Vld2 l vwCl gTbl con_1050 := conR_ok3 gT_all (hd_1050) rfl pn_RX11 tk_X11_isVoter bo_RX11 xo_RX11 (cto_3 l) ch_1050 cut_nil
/-- RookHusting power -/
noncomputable def gi_665 : GI := jl_n [gp_162, gp_181, jl_z 11]
noncomputable def ac_582 : AC := .inl (4, jl_n [jl_8 28 7, jl_1 29 1, jl_8 34 5, jl_6 5 1, jl_8 38 3])
noncomputable def hc_140 : List AC := [ac_465, .inl (9, [(6, 2, 0), (8, 20, 0)]), ac_582, .inl (1, [(6, 2, 0), (8, 39, 0)]), am_7]
noncomputable def gi_666 : GI := jl_n [gp_162, gp_181, jl_z 11, jl_t]
noncomputable def hq_556 : HP := [(false, ac_465), (false, .inl (9, [(6, 2, 0), (8, 20, 0)])), (false, ac_582), (false, .inl (1, [(6, 2, 0), (8, 39, 0)])), (false, am_7)]
noncomputable def con_1051 : Con2 := ((yX11_power, cX11_power, 3, (some .int)), (3, 71), ([(6, 0, 0), (1, 1, 0), (1, 2, 0)], gi_665, hc_140, []), [((1, 40, 0), gi_666, hq_556, [], [1])])
theorem hd_1051 : con_1051.1 = (yX11_power, cX11_power, 3, (some .int)) := rfl
theorem ck_RX11_247_1031 : COK2 RX11 vwCl gTbl 247 1 con_1031 := ⟨wd_984, wd_125, mh_X11_partOf, .inl ⟨rfl, wd_982, wd_983, pd_X11_partOf⟩⟩
theorem ck_RX11_238_1049 : COK2 RX11 vwCl gTbl 238 0 con_1049 := ⟨wd_978, wd_132, mh_X1_ordersDecided, .inr (.inr ⟨rfl, wd_975, wd_976, wd_977, ⟨_, rfl, pd_X1_ordersDecided⟩, 1, _, TX1, 2, rfl, rfl⟩)⟩
theorem ck_RX11_238_1047 : COK2 RX11 vwCl gTbl 238 0 con_1047 := ⟨wd_978, wd_132, mh_X1_ordersDecided, .inr (.inr ⟨rfl, wd_975, wd_976, wd_977, ⟨_, rfl, pd_X1_ordersDecided⟩, 1, _, TX1, 2, rfl, rfl⟩)⟩
theorem ck_RX11_238_1045 : COK2 RX11 vwCl gTbl 238 0 con_1045 := ⟨wd_978, wd_132, mh_X1_ordersDecided, .inr (.inr ⟨rfl, wd_975, wd_976, wd_977, ⟨_, rfl, pd_X1_ordersDecided⟩, 1, _, TX1, 2, rfl, rfl⟩)⟩
theorem ck_RX11_238_1043 : COK2 RX11 vwCl gTbl 238 0 con_1043 := ⟨wd_978, wd_132, mh_X1_ordersDecided, .inr (.inr ⟨rfl, wd_975, wd_976, wd_977, ⟨_, rfl, pd_X1_ordersDecided⟩, 1, _, TX1, 2, rfl, rfl⟩)⟩
theorem ck_RX11_238_1041 : COK2 RX11 vwCl gTbl 238 0 con_1041 := ⟨wd_978, wd_132, mh_X1_ordersDecided, .inr (.inr ⟨rfl, wd_975, wd_976, wd_977, ⟨_, rfl, pd_X1_ordersDecided⟩, 1, _, TX1, 2, rfl, rfl⟩)⟩
theorem ck_RX11_238_1039 : COK2 RX11 vwCl gTbl 238 0 con_1039 := ⟨wd_978, wd_132, mh_X1_ordersDecided, .inr (.inr ⟨rfl, wd_975, wd_976, wd_977, ⟨_, rfl, pd_X1_ordersDecided⟩, 1, _, TX1, 2, rfl, rfl⟩)⟩
theorem ck_RX11_238_1029 : COK2 RX11 vwCl gTbl 238 0 con_1029 := ⟨wd_978, wd_132, mh_X1_ordersDecided, .inr (.inr ⟨rfl, wd_975, wd_976, wd_977, ⟨_, rfl, pd_X1_ordersDecided⟩, 1, _, TX1, 2, rfl, rfl⟩)⟩
theorem ck_RX11_165_1050 : COK2 RX11 vwCl gTbl 165 0 con_1050 := ⟨wd_779, wd_125, mh_X11_isVoter, .inr (.inr ⟨rfl, wd_776, wd_778, wd_13, ⟨_, rfl, pd_X11_isVoter⟩, 11, _, TX11, 16, rfl, rfl⟩)⟩
theorem ck_RX11_165_1048 : COK2 RX11 vwCl gTbl 165 0 con_1048 := ⟨wd_779, wd_125, mh_X11_isVoter, .inr (.inr ⟨rfl, wd_776, wd_778, wd_13, ⟨_, rfl, pd_X11_isVoter⟩, 11, _, TX11, 16, rfl, rfl⟩)⟩
theorem ck_RX11_165_1046 : COK2 RX11 vwCl gTbl 165 0 con_1046 := ⟨wd_779, wd_125, mh_X11_isVoter, .inr (.inr ⟨rfl, wd_776, wd_778, wd_13, ⟨_, rfl, pd_X11_isVoter⟩, 11, _, TX11, 16, rfl, rfl⟩)⟩
theorem ck_RX11_165_1044 : COK2 RX11 vwCl gTbl 165 0 con_1044 := ⟨wd_779, wd_125, mh_X11_isVoter, .inr (.inr ⟨rfl, wd_776, wd_778, wd_13, ⟨_, rfl, pd_X11_isVoter⟩, 11, _, TX11, 16, rfl, rfl⟩)⟩
theorem ck_RX11_165_1042 : COK2 RX11 vwCl gTbl 165 0 con_1042 := ⟨wd_779, wd_125, mh_X11_isVoter, .inr (.inr ⟨rfl, wd_776, wd_778, wd_13, ⟨_, rfl, pd_X11_isVoter⟩, 11, _, TX11, 16, rfl, rfl⟩)⟩
theorem ck_RX11_165_1040 : COK2 RX11 vwCl gTbl 165 0 con_1040 := ⟨wd_779, wd_125, mh_X11_isVoter, .inr (.inr ⟨rfl, wd_776, wd_778, wd_13, ⟨_, rfl, pd_X11_isVoter⟩, 11, _, TX11, 16, rfl, rfl⟩)⟩
theorem ck_RX11_165_1032 : COK2 RX11 vwCl gTbl 165 0 con_1032 := ⟨wd_779, wd_125, mh_X11_isVoter, .inr (.inr ⟨rfl, wd_776, wd_778, wd_13, ⟨_, rfl, pd_X11_isVoter⟩, 11, _, TX11, 16, rfl, rfl⟩)⟩
theorem ck_RX11_165_1013 : COK2 RX11 vwCl gTbl 165 0 con_1013 := ⟨wd_779, wd_125, mh_X11_isVoter, .inr (.inr ⟨rfl, wd_776, wd_778, wd_13, ⟨_, rfl, pd_X11_isVoter⟩, 11, _, TX11, 16, rfl, rfl⟩)⟩
noncomputable def ct_1051 : CTB2 := [(2, 165, 0, con_1013, [0, 1, 2]), (2, 165, 0, con_1032, [0, 1, 2]), (2, 165, 0, con_1040, [0, 1, 2]), (2, 165, 0, con_1042, [0, 1, 2]), (2, 165, 0, con_1044, [0, 1, 2]), (2, 165, 0, con_1046, [0, 1, 2]), (2, 165, 0, con_1048, [0, 1, 2]), (2, 165, 0, con_1050, [0, 1, 2]), (9, 143, 1, con_644, []), (23, 238, 0, con_1029, [3, 2, 4]), (23, 238, 0, con_1039, [3, 2, 4]), (23, 238, 0, con_1041, [3, 2, 4]), (23, 238, 0, con_1043, [3, 2, 4]), (23, 238, 0, con_1045, [3, 2, 4]), (23, 238, 0, con_1047, [3, 2, 4]), (23, 238, 0, con_1049, [3, 2, 4]), (43, 247, 1, con_1031, [])]
noncomputable def cu_1051 : List CUT2 := []
theorem ch_1051 : staG tb_X11_power 1 bt_RX11 [] ct_1051 [(0, [(1, (2, 2, 7), 0, 0)])] [] cu_1051 25 con_1051 = true := by decide +kernel
theorem cto_1051 (l : Launch) : CTOK2 l RX11 vwCl gTbl ct_1051 := ct2_cons (vl_1013 l) ck_RX11_165_1013 (ct2_cons (vl_1032 l) ck_RX11_165_1032 (ct2_cons (vl_1040 l) ck_RX11_165_1040 (ct2_cons (vl_1042 l) ck_RX11_165_1042 (ct2_cons (vl_1044 l) ck_RX11_165_1044 (ct2_cons (vl_1046 l) ck_RX11_165_1046 (ct2_cons (vl_1048 l) ck_RX11_165_1048 (ct2_cons (vl_1050 l) ck_RX11_165_1050 (ct2_cons (vl_644 l) ck_RX11_143_644 (ct2_cons (vl_1029 l) ck_RX11_238_1029 (ct2_cons (vl_1039 l) ck_RX11_238_1039 (ct2_cons (vl_1041 l) ck_RX11_238_1041 (ct2_cons (vl_1043 l) ck_RX11_238_1043 (ct2_cons (vl_1045 l) ck_RX11_238_1045 (ct2_cons (vl_1047 l) ck_RX11_238_1047 (ct2_cons (vl_1049 l) ck_RX11_238_1049 (ct2_cons (vl_1031 l) ck_RX11_247_1031 (ct2_nil)))))))))))))))))
theorem vl_1051 (l : Launch) : Vld2 l vwCl gTbl con_1051 := conR_ok3 gT_all (hd_1051) rfl pn_RX11 tk_X11_power bo_RX11 xo_RX11 (cto_1051 l) ch_1051 cut_nil
/-- RookHustingModel in -/
noncomputable def con_1052 : Con2 := ((yX12_in, cX12_in, 6, (some .boolean)), (0, 0), ([(4, 0, 0), (3, 0, 0), (3, 6, 0)], gi_146, [], []), [((0, 0, 0), gi_147, [], [], [1]), ((0, 1, 0), [(0, 6), (0, 0), (0, 0), (0, 0)], [], [], [1])])
theorem hd_1052 : con_1052.1 = (yX12_in, cX12_in, 6, (some .boolean)) := rfl
noncomputable def cu_1052 : List CUT2 := []
theorem ch_1052 : staG tb_X12_in 1 bt_RX12 [] ct_2 [] [] cu_1052 11 con_1052 = true := by decide +kernel
theorem vl_1052 (l : Launch) : Vld2 l vwCl gTbl con_1052 := conR_ok3 gT_all (hd_1052) rfl pn_RX12 tk_X12_in bo_RX12 xo_RX12 (cto_2 l) ch_1052 cut_nil
/-- RookHustingModel isVoter -/
noncomputable def gi_667 : GI := jl_n [gp_330, gp_331]
noncomputable def ac_583 : AC := .inr (1, jl_n [js_1 53 6, jl_x (1, (0, 7, 0)), sp_131])
noncomputable def gi_668 : GI := jl_n [gp_330, gp_127]
noncomputable def gi_669 : GI := jl_n [gp_183, gp_332]
noncomputable def con_1053 : Con2 := ((yX12_isVoter, cX12_isVoter, 2, (some .boolean)), (1, 25), ([(6, 0, 0), (1, 1, 0)], gi_667, [ac_437, ac_583], []), [((0, 0, 0), gi_668, [(false, ac_437), (false, ac_583)], [], [1]), ((0, 1, 0), gi_669, [(false, ac_437), (false, ac_583)], [], [1])])
theorem hd_1053 : con_1053.1 = (yX12_isVoter, cX12_isVoter, 2, (some .boolean)) := rfl
theorem ck_RX12_91_1052 : COK2 RX12 vwCl gTbl 91 1 con_1052 := ⟨wd_1544, wd_137, mh_X12_in, .inl ⟨rfl, wd_1542, wd_1543, pd_X12_in⟩⟩
noncomputable def ct_1053 : CTB2 := [(13, 91, 1, con_1052, [])]
noncomputable def cu_1053 : List CUT2 := []
theorem ch_1053 : staG tb_X12_isVoter 1 bt_RX12 [] ct_1053 [] [] cu_1053 14 con_1053 = true := by decide +kernel
theorem cto_1053 (l : Launch) : CTOK2 l RX12 vwCl gTbl ct_1053 := ct2_cons (vl_1052 l) ck_RX12_91_1052 (ct2_nil)
theorem vl_1053 (l : Launch) : Vld2 l vwCl gTbl con_1053 := conR_ok3 gT_all (hd_1053) rfl pn_RX12 tk_X12_isVoter bo_RX12 xo_RX12 (cto_1053 l) ch_1053 cut_nil
/-- RookHustingModel hatsIn -/
noncomputable def gi_670 : GI := jl_n [gp_330, gp_331, jl_t]
noncomputable def con_1054 : Con2 := ((yX12_hatsIn, cX12_hatsIn, 4, (some .int)), (1, 21), ([(6, 0, 0), (1, 1, 0)], gi_667, [ac_437, ac_583], []), [((1, 70, 0), gi_670, [(false, ac_437), (false, ac_583)], [], [1])])
theorem hd_1054 : con_1054.1 = (yX12_hatsIn, cX12_hatsIn, 4, (some .int)) := rfl
noncomputable def gi_671 : GI := jl_n [gp_333, jl_z 16, gp_213]
noncomputable def cu_1054 : List CUT2 := [((4, [lq 0 6 0, lq 1 1 1, lq 2 1 72, lq 3 1 73], [], gi_671, [(false, ac_437), (false, ac_583)]), [], ([(73, (-1))], 7))]
theorem ch_1054 : staG tb_X12_hatsIn 1 bt_RX12 [] ct_931 [] [] cu_1054 23 con_1054 = true := by decide +kernel
theorem cc_1054 : cu_1054.all (cutG tb_X12_hatsIn 1 bt_RX12 [] ct_931 [] [] cu_1054 23 con_1054) = true := by decide +kernel
theorem vl_1054 (l : Launch) : Vld2 l vwCl gTbl con_1054 := conR_ok3 gT_all (hd_1054) rfl pn_RX12 tk_X12_hatsIn bo_RX12 xo_RX12 (cto_931 l) ch_1054 (cut_all cc_1054)
/-- RookHustingModel in -/
noncomputable def con_1055 : Con2 := ((yX12_in, cX12_in, 6, (some .boolean)), (0, 0), ([(4, 0, 0), (3, 0, 0), (3, 5, 0)], gi_146, [], []), [((0, 0, 0), gi_147, [], [], [1]), ((0, 1, 0), [(0, 5), (0, 0), (0, 0), (0, 0)], [], [], [1])])
theorem hd_1055 : con_1055.1 = (yX12_in, cX12_in, 6, (some .boolean)) := rfl
noncomputable def cu_1055 : List CUT2 := []
theorem ch_1055 : staG tb_X12_in 1 bt_RX12 [] ct_2 [] [] cu_1055 11 con_1055 = true := by decide +kernel
theorem vl_1055 (l : Launch) : Vld2 l vwCl gTbl con_1055 := conR_ok3 gT_all (hd_1055) rfl pn_RX12 tk_X12_in bo_RX12 xo_RX12 (cto_2 l) ch_1055 cut_nil
/-- RookHustingModel isVoter -/
noncomputable def ac_584 : AC := .inr (1, jl_n [js_1 53 6, jl_x (1, (0, 6, 0)), sp_131])
noncomputable def gi_672 : GI := jl_n [gp_212, gp_332]
noncomputable def con_1056 : Con2 := ((yX12_isVoter, cX12_isVoter, 2, (some .boolean)), (1, 25), ([(6, 0, 0), (1, 1, 0)], gi_667, [ac_437, ac_584], []), [((0, 0, 0), gi_668, [(false, ac_437), (false, ac_584)], [], [1]), ((0, 1, 0), gi_672, [(false, ac_437), (false, ac_584)], [], [1])])
theorem hd_1056 : con_1056.1 = (yX12_isVoter, cX12_isVoter, 2, (some .boolean)) := rfl
theorem ck_RX12_91_1055 : COK2 RX12 vwCl gTbl 91 1 con_1055 := ⟨wd_1544, wd_137, mh_X12_in, .inl ⟨rfl, wd_1542, wd_1543, pd_X12_in⟩⟩
noncomputable def ct_1056 : CTB2 := [(13, 91, 1, con_1055, [])]
noncomputable def cu_1056 : List CUT2 := []
theorem ch_1056 : staG tb_X12_isVoter 1 bt_RX12 [] ct_1056 [] [] cu_1056 14 con_1056 = true := by decide +kernel
theorem cto_1056 (l : Launch) : CTOK2 l RX12 vwCl gTbl ct_1056 := ct2_cons (vl_1055 l) ck_RX12_91_1055 (ct2_nil)
theorem vl_1056 (l : Launch) : Vld2 l vwCl gTbl con_1056 := conR_ok3 gT_all (hd_1056) rfl pn_RX12 tk_X12_isVoter bo_RX12 xo_RX12 (cto_1056 l) ch_1056 cut_nil
/-- RookHustingModel hatsIn -/
noncomputable def con_1057 : Con2 := ((yX12_hatsIn, cX12_hatsIn, 4, (some .int)), (1, 21), ([(6, 0, 0), (1, 1, 0)], gi_667, [ac_437, ac_584], []), [((1, 70, 0), gi_670, [(false, ac_437), (false, ac_584)], [], [1])])
theorem hd_1057 : con_1057.1 = (yX12_hatsIn, cX12_hatsIn, 4, (some .int)) := rfl
theorem ck_RX12_243_684 : COK2 RX12 vwCl gTbl 243 0 con_684 := ⟨wd_1684, wd_137, mh_X12_hatsOf, .inr (.inr ⟨rfl, wd_1681, wd_1683, wd_71, ⟨_, rfl, pd_X12_hatsOf⟩, 12, _, TX12, 45, rfl, rfl⟩)⟩
noncomputable def ct_1057 : CTB2 := [(18, 199, 1, con_390, []), (27, 243, 0, con_684, [0, 1])]
noncomputable def gi_673 : GI := jl_n [gp_334, jl_i 0 6]
noncomputable def cu_1057 : List CUT2 := [((4, [lq 0 6 0, lq 1 1 1, lq 2 1 72, lq 3 1 73], [], gi_673, [(false, ac_437), (false, ac_584)]), [], ([(73, (-1))], 6))]
theorem ch_1057 : staG tb_X12_hatsIn 1 bt_RX12 [] ct_1057 [] [] cu_1057 23 con_1057 = true := by decide +kernel
theorem cc_1057 : cu_1057.all (cutG tb_X12_hatsIn 1 bt_RX12 [] ct_1057 [] [] cu_1057 23 con_1057) = true := by decide +kernel
theorem cto_1057 (l : Launch) : CTOK2 l RX12 vwCl gTbl ct_1057 := ct2_cons (vl_390 l) ck_RX12_199_390 (ct2_cons (vl_684 l) ck_RX12_243_684 (ct2_nil))
theorem vl_1057 (l : Launch) : Vld2 l vwCl gTbl con_1057 := conR_ok3 gT_all (hd_1057) rfl pn_RX12 tk_X12_hatsIn bo_RX12 xo_RX12 (cto_1057 l) ch_1057 (cut_all cc_1057)
/-- RookHustingModel in -/
noncomputable def con_1058 : Con2 := ((yX12_in, cX12_in, 6, (some .boolean)), (0, 0), ([(4, 0, 0), (3, 0, 0), (3, 4, 0)], gi_146, [], []), [((0, 0, 0), gi_147, [], [], [1]), ((0, 1, 0), [(0, 4), (0, 0), (0, 0), (0, 0)], [], [], [1])])
theorem hd_1058 : con_1058.1 = (yX12_in, cX12_in, 6, (some .boolean)) := rfl
noncomputable def cu_1058 : List CUT2 := []
theorem ch_1058 : staG tb_X12_in 1 bt_RX12 [] ct_2 [] [] cu_1058 11 con_1058 = true := by decide +kernel
theorem vl_1058 (l : Launch) : Vld2 l vwCl gTbl con_1058 := conR_ok3 gT_all (hd_1058) rfl pn_RX12 tk_X12_in bo_RX12 xo_RX12 (cto_2 l) ch_1058 cut_nil
/-- RookHustingModel isVoter -/
noncomputable def ac_585 : AC := .inr (1, jl_n [js_1 53 6, jl_x (1, (0, 5, 0)), sp_131])
noncomputable def gi_674 : GI := jl_n [gp_52, gp_332]
noncomputable def con_1059 : Con2 := ((yX12_isVoter, cX12_isVoter, 2, (some .boolean)), (1, 25), ([(6, 0, 0), (1, 1, 0)], gi_667, [ac_437, ac_585], []), [((0, 0, 0), gi_668, [(false, ac_437), (false, ac_585)], [], [1]), ((0, 1, 0), gi_674, [(false, ac_437), (false, ac_585)], [], [1])])
theorem hd_1059 : con_1059.1 = (yX12_isVoter, cX12_isVoter, 2, (some .boolean)) := rfl
theorem ck_RX12_91_1058 : COK2 RX12 vwCl gTbl 91 1 con_1058 := ⟨wd_1544, wd_137, mh_X12_in, .inl ⟨rfl, wd_1542, wd_1543, pd_X12_in⟩⟩
noncomputable def ct_1059 : CTB2 := [(13, 91, 1, con_1058, [])]
noncomputable def cu_1059 : List CUT2 := []
theorem ch_1059 : staG tb_X12_isVoter 1 bt_RX12 [] ct_1059 [] [] cu_1059 14 con_1059 = true := by decide +kernel
theorem cto_1059 (l : Launch) : CTOK2 l RX12 vwCl gTbl ct_1059 := ct2_cons (vl_1058 l) ck_RX12_91_1058 (ct2_nil)
theorem vl_1059 (l : Launch) : Vld2 l vwCl gTbl con_1059 := conR_ok3 gT_all (hd_1059) rfl pn_RX12 tk_X12_isVoter bo_RX12 xo_RX12 (cto_1059 l) ch_1059 cut_nil
/-- RookHustingModel hatsIn -/
noncomputable def con_1060 : Con2 := ((yX12_hatsIn, cX12_hatsIn, 4, (some .int)), (1, 21), ([(6, 0, 0), (1, 1, 0)], gi_667, [ac_437, ac_585], []), [((1, 70, 0), gi_670, [(false, ac_437), (false, ac_585)], [], [1])])
theorem hd_1060 : con_1060.1 = (yX12_hatsIn, cX12_hatsIn, 4, (some .int)) := rfl
theorem ck_RX12_243_683 : COK2 RX12 vwCl gTbl 243 0 con_683 := ⟨wd_1684, wd_137, mh_X12_hatsOf, .inr (.inr ⟨rfl, wd_1681, wd_1683, wd_71, ⟨_, rfl, pd_X12_hatsOf⟩, 12, _, TX12, 45, rfl, rfl⟩)⟩
noncomputable def ct_1060 : CTB2 := [(18, 199, 1, con_390, []), (27, 243, 0, con_683, [0, 1])]
noncomputable def gi_675 : GI := jl_n [gp_333, jl_z 16, gp_208]
noncomputable def cu_1060 : List CUT2 := [((4, [lq 0 6 0, lq 1 1 1, lq 2 1 72, lq 3 1 73], [], gi_675, [(false, ac_437), (false, ac_585)]), [], ([(73, (-1))], 5))]
theorem ch_1060 : staG tb_X12_hatsIn 1 bt_RX12 [] ct_1060 [] [] cu_1060 23 con_1060 = true := by decide +kernel
theorem cc_1060 : cu_1060.all (cutG tb_X12_hatsIn 1 bt_RX12 [] ct_1060 [] [] cu_1060 23 con_1060) = true := by decide +kernel
theorem cto_1060 (l : Launch) : CTOK2 l RX12 vwCl gTbl ct_1060 := ct2_cons (vl_390 l) ck_RX12_199_390 (ct2_cons (vl_683 l) ck_RX12_243_683 (ct2_nil))
theorem vl_1060 (l : Launch) : Vld2 l vwCl gTbl con_1060 := conR_ok3 gT_all (hd_1060) rfl pn_RX12 tk_X12_hatsIn bo_RX12 xo_RX12 (cto_1060 l) ch_1060 (cut_all cc_1060)
/-- RookHustingModel isVoter -/
noncomputable def ac_586 : AC := .inr (1, jl_n [js_1 53 6, jl_x (1, (0, 4, 0)), sp_131])
noncomputable def gi_676 : GI := jl_n [gp_211, gp_332]
noncomputable def con_1061 : Con2 := ((yX12_isVoter, cX12_isVoter, 2, (some .boolean)), (1, 25), ([(6, 0, 0), (1, 1, 0)], gi_667, [ac_437, ac_586], []), [((0, 0, 0), gi_668, [(false, ac_437), (false, ac_586)], [], [1]), ((0, 1, 0), gi_676, [(false, ac_437), (false, ac_586)], [], [1])])
theorem hd_1061 : con_1061.1 = (yX12_isVoter, cX12_isVoter, 2, (some .boolean)) := rfl
noncomputable def ct_1061 : CTB2 := [(13, 91, 1, con_332, [])]
noncomputable def cu_1061 : List CUT2 := []
theorem ch_1061 : staG tb_X12_isVoter 1 bt_RX12 [] ct_1061 [] [] cu_1061 14 con_1061 = true := by decide +kernel
theorem cto_1061 (l : Launch) : CTOK2 l RX12 vwCl gTbl ct_1061 := ct2_cons (vl_332 l) ck_RX12_91_332 (ct2_nil)
theorem vl_1061 (l : Launch) : Vld2 l vwCl gTbl con_1061 := conR_ok3 gT_all (hd_1061) rfl pn_RX12 tk_X12_isVoter bo_RX12 xo_RX12 (cto_1061 l) ch_1061 cut_nil
/-- RookHustingModel hatsIn -/
noncomputable def con_1062 : Con2 := ((yX12_hatsIn, cX12_hatsIn, 4, (some .int)), (1, 21), ([(6, 0, 0), (1, 1, 0)], gi_667, [ac_437, ac_586], []), [((1, 70, 0), gi_670, [(false, ac_437), (false, ac_586)], [], [1])])
theorem hd_1062 : con_1062.1 = (yX12_hatsIn, cX12_hatsIn, 4, (some .int)) := rfl
theorem ck_RX12_243_682 : COK2 RX12 vwCl gTbl 243 0 con_682 := ⟨wd_1684, wd_137, mh_X12_hatsOf, .inr (.inr ⟨rfl, wd_1681, wd_1683, wd_71, ⟨_, rfl, pd_X12_hatsOf⟩, 12, _, TX12, 45, rfl, rfl⟩)⟩
noncomputable def ct_1062 : CTB2 := [(18, 199, 1, con_390, []), (27, 243, 0, con_682, [0, 1])]
noncomputable def gi_677 : GI := jl_n [gp_334, jl_i 0 4]
noncomputable def cu_1062 : List CUT2 := [((4, [lq 0 6 0, lq 1 1 1, lq 2 1 72, lq 3 1 73], [], gi_677, [(false, ac_437), (false, ac_586)]), [], ([(73, (-1))], 4))]
theorem ch_1062 : staG tb_X12_hatsIn 1 bt_RX12 [] ct_1062 [] [] cu_1062 23 con_1062 = true := by decide +kernel
theorem cc_1062 : cu_1062.all (cutG tb_X12_hatsIn 1 bt_RX12 [] ct_1062 [] [] cu_1062 23 con_1062) = true := by decide +kernel
theorem cto_1062 (l : Launch) : CTOK2 l RX12 vwCl gTbl ct_1062 := ct2_cons (vl_390 l) ck_RX12_199_390 (ct2_cons (vl_682 l) ck_RX12_243_682 (ct2_nil))
theorem vl_1062 (l : Launch) : Vld2 l vwCl gTbl con_1062 := conR_ok3 gT_all (hd_1062) rfl pn_RX12 tk_X12_hatsIn bo_RX12 xo_RX12 (cto_1062 l) ch_1062 (cut_all cc_1062)
/-- RookHustingModel in -/
noncomputable def con_1063 : Con2 := ((yX12_in, cX12_in, 6, (some .boolean)), (0, 0), ([(4, 0, 0), (3, 0, 0), (3, 2, 0)], gi_146, [], []), [((0, 0, 0), [(3, 9223372036854775807), (0, 0), (0, 0), (0, 0)], [], [], [1]), ((0, 0, 0), [((-9223372036854775808), (-1)), (0, 0), (0, 0), (0, 0)], [], [], [1]), ((0, 1, 0), [(0, 2), (0, 0), (0, 0), (0, 0)], [], [], [1])])
theorem hd_1063 : con_1063.1 = (yX12_in, cX12_in, 6, (some .boolean)) := rfl
noncomputable def cu_1063 : List CUT2 := []
theorem ch_1063 : staG tb_X12_in 1 bt_RX12 [] ct_2 [] [] cu_1063 11 con_1063 = true := by decide +kernel
theorem vl_1063 (l : Launch) : Vld2 l vwCl gTbl con_1063 := conR_ok3 gT_all (hd_1063) rfl pn_RX12 tk_X12_in bo_RX12 xo_RX12 (cto_2 l) ch_1063 cut_nil
/-- RookHustingModel isVoter -/
noncomputable def ac_587 : AC := .inr (1, jl_n [js_1 53 6, jl_x (1, (0, 3, 0)), sp_131])
noncomputable def gi_678 : GI := jl_n [gp_210, gp_332]
noncomputable def con_1064 : Con2 := ((yX12_isVoter, cX12_isVoter, 2, (some .boolean)), (1, 25), ([(6, 0, 0), (1, 1, 0)], gi_667, [ac_437, ac_587], []), [((0, 0, 0), gi_668, [(false, ac_437), (false, ac_587)], [], [1]), ((0, 1, 0), gi_678, [(false, ac_437), (false, ac_587)], [], [1])])
theorem hd_1064 : con_1064.1 = (yX12_isVoter, cX12_isVoter, 2, (some .boolean)) := rfl
theorem ck_RX12_91_1063 : COK2 RX12 vwCl gTbl 91 1 con_1063 := ⟨wd_1544, wd_137, mh_X12_in, .inl ⟨rfl, wd_1542, wd_1543, pd_X12_in⟩⟩
noncomputable def ct_1064 : CTB2 := [(13, 91, 1, con_1063, [])]
noncomputable def cu_1064 : List CUT2 := []
theorem ch_1064 : staG tb_X12_isVoter 1 bt_RX12 [] ct_1064 [] [] cu_1064 14 con_1064 = true := by decide +kernel
theorem cto_1064 (l : Launch) : CTOK2 l RX12 vwCl gTbl ct_1064 := ct2_cons (vl_1063 l) ck_RX12_91_1063 (ct2_nil)
theorem vl_1064 (l : Launch) : Vld2 l vwCl gTbl con_1064 := conR_ok3 gT_all (hd_1064) rfl pn_RX12 tk_X12_isVoter bo_RX12 xo_RX12 (cto_1064 l) ch_1064 cut_nil
/-- RookHustingModel hatsIn -/
noncomputable def con_1065 : Con2 := ((yX12_hatsIn, cX12_hatsIn, 4, (some .int)), (1, 21), ([(6, 0, 0), (1, 1, 0)], gi_667, [ac_437, ac_587], []), [((1, 70, 0), gi_670, [(false, ac_437), (false, ac_587)], [], [1])])
theorem hd_1065 : con_1065.1 = (yX12_hatsIn, cX12_hatsIn, 4, (some .int)) := rfl
theorem ck_RX12_243_681 : COK2 RX12 vwCl gTbl 243 0 con_681 := ⟨wd_1684, wd_137, mh_X12_hatsOf, .inr (.inr ⟨rfl, wd_1681, wd_1683, wd_71, ⟨_, rfl, pd_X12_hatsOf⟩, 12, _, TX12, 45, rfl, rfl⟩)⟩
noncomputable def ct_1065 : CTB2 := [(18, 199, 1, con_390, []), (27, 243, 0, con_681, [0, 1])]
noncomputable def gi_679 : GI := jl_n [gp_334, jl_i 0 3]
noncomputable def cu_1065 : List CUT2 := [((4, [lq 0 6 0, lq 1 1 1, lq 2 1 72, lq 3 1 73], [], gi_679, [(false, ac_437), (false, ac_587)]), [], ([(73, (-1))], 3))]
theorem ch_1065 : staG tb_X12_hatsIn 1 bt_RX12 [] ct_1065 [] [] cu_1065 23 con_1065 = true := by decide +kernel
theorem cc_1065 : cu_1065.all (cutG tb_X12_hatsIn 1 bt_RX12 [] ct_1065 [] [] cu_1065 23 con_1065) = true := by decide +kernel
theorem cto_1065 (l : Launch) : CTOK2 l RX12 vwCl gTbl ct_1065 := ct2_cons (vl_390 l) ck_RX12_199_390 (ct2_cons (vl_681 l) ck_RX12_243_681 (ct2_nil))
theorem vl_1065 (l : Launch) : Vld2 l vwCl gTbl con_1065 := conR_ok3 gT_all (hd_1065) rfl pn_RX12 tk_X12_hatsIn bo_RX12 xo_RX12 (cto_1065 l) ch_1065 (cut_all cc_1065)
/-- RookHustingModel isVoter -/
noncomputable def ac_588 : AC := .inr (1, jl_n [js_1 53 6, jl_x (1, (0, 2, 0)), sp_131])
noncomputable def gi_680 : GI := jl_n [gp_209, gp_332]
noncomputable def con_1066 : Con2 := ((yX12_isVoter, cX12_isVoter, 2, (some .boolean)), (1, 25), ([(6, 0, 0), (1, 1, 0)], gi_667, [ac_437, ac_588], []), [((0, 0, 0), gi_668, [(false, ac_437), (false, ac_588)], [], [1]), ((0, 1, 0), gi_680, [(false, ac_437), (false, ac_588)], [], [1])])
theorem hd_1066 : con_1066.1 = (yX12_isVoter, cX12_isVoter, 2, (some .boolean)) := rfl
noncomputable def ct_1066 : CTB2 := [(13, 91, 1, con_648, [])]
noncomputable def cu_1066 : List CUT2 := []
theorem ch_1066 : staG tb_X12_isVoter 1 bt_RX12 [] ct_1066 [] [] cu_1066 14 con_1066 = true := by decide +kernel
theorem cto_1066 (l : Launch) : CTOK2 l RX12 vwCl gTbl ct_1066 := ct2_cons (vl_648 l) ck_RX12_91_648 (ct2_nil)
theorem vl_1066 (l : Launch) : Vld2 l vwCl gTbl con_1066 := conR_ok3 gT_all (hd_1066) rfl pn_RX12 tk_X12_isVoter bo_RX12 xo_RX12 (cto_1066 l) ch_1066 cut_nil
/-- RookHustingModel hatsIn -/
noncomputable def con_1067 : Con2 := ((yX12_hatsIn, cX12_hatsIn, 4, (some .int)), (1, 21), ([(6, 0, 0), (1, 1, 0)], gi_667, [ac_437, ac_588], []), [((1, 70, 0), gi_670, [(false, ac_437), (false, ac_588)], [], [1])])
theorem hd_1067 : con_1067.1 = (yX12_hatsIn, cX12_hatsIn, 4, (some .int)) := rfl
theorem ck_RX12_243_680 : COK2 RX12 vwCl gTbl 243 0 con_680 := ⟨wd_1684, wd_137, mh_X12_hatsOf, .inr (.inr ⟨rfl, wd_1681, wd_1683, wd_71, ⟨_, rfl, pd_X12_hatsOf⟩, 12, _, TX12, 45, rfl, rfl⟩)⟩
noncomputable def ct_1067 : CTB2 := [(18, 199, 1, con_390, []), (27, 243, 0, con_680, [0, 1])]
noncomputable def gi_681 : GI := jl_n [gp_334, jl_i 0 2]
noncomputable def cu_1067 : List CUT2 := [((4, [lq 0 6 0, lq 1 1 1, lq 2 1 72, lq 3 1 73], [], gi_681, [(false, ac_437), (false, ac_588)]), [], ([(73, (-1))], 2))]
theorem ch_1067 : staG tb_X12_hatsIn 1 bt_RX12 [] ct_1067 [] [] cu_1067 23 con_1067 = true := by decide +kernel
theorem cc_1067 : cu_1067.all (cutG tb_X12_hatsIn 1 bt_RX12 [] ct_1067 [] [] cu_1067 23 con_1067) = true := by decide +kernel
theorem cto_1067 (l : Launch) : CTOK2 l RX12 vwCl gTbl ct_1067 := ct2_cons (vl_390 l) ck_RX12_199_390 (ct2_cons (vl_680 l) ck_RX12_243_680 (ct2_nil))
theorem vl_1067 (l : Launch) : Vld2 l vwCl gTbl con_1067 := conR_ok3 gT_all (hd_1067) rfl pn_RX12 tk_X12_hatsIn bo_RX12 xo_RX12 (cto_1067 l) ch_1067 (cut_all cc_1067)
/-- RookHustingModel isVoter -/
noncomputable def ac_589 : AC := .inr (1, jl_n [js_1 53 6, jl_x (1, (0, 1, 0)), sp_131])
noncomputable def gi_682 : GI := jl_n [jl_z 47, gp_113, gp_127]
noncomputable def con_1068 : Con2 := ((yX12_isVoter, cX12_isVoter, 2, (some .boolean)), (1, 25), ([(6, 0, 0), (1, 1, 0)], gi_667, [ac_437, ac_589], []), [((0, 0, 0), gi_668, [(false, ac_437), (false, ac_589)], [], [1]), ((0, 1, 0), gi_682, [(false, ac_437), (false, ac_589)], [], [1])])
theorem hd_1068 : con_1068.1 = (yX12_isVoter, cX12_isVoter, 2, (some .boolean)) := rfl
noncomputable def ct_1068 : CTB2 := [(13, 91, 1, con_848, [])]
noncomputable def cu_1068 : List CUT2 := []
theorem ch_1068 : staG tb_X12_isVoter 1 bt_RX12 [] ct_1068 [] [] cu_1068 14 con_1068 = true := by decide +kernel
theorem cto_1068 (l : Launch) : CTOK2 l RX12 vwCl gTbl ct_1068 := ct2_cons (vl_848 l) ck_RX12_91_848 (ct2_nil)
theorem vl_1068 (l : Launch) : Vld2 l vwCl gTbl con_1068 := conR_ok3 gT_all (hd_1068) rfl pn_RX12 tk_X12_isVoter bo_RX12 xo_RX12 (cto_1068 l) ch_1068 cut_nil
/-- RookHustingModel hatsIn -/
noncomputable def con_1069 : Con2 := ((yX12_hatsIn, cX12_hatsIn, 4, (some .int)), (1, 21), ([(6, 0, 0), (1, 1, 0)], gi_667, [ac_437, ac_589], []), [((1, 70, 0), gi_670, [(false, ac_437), (false, ac_589)], [], [1])])
theorem hd_1069 : con_1069.1 = (yX12_hatsIn, cX12_hatsIn, 4, (some .int)) := rfl
theorem ck_RX12_243_677 : COK2 RX12 vwCl gTbl 243 0 con_677 := ⟨wd_1684, wd_137, mh_X12_hatsOf, .inr (.inr ⟨rfl, wd_1681, wd_1683, wd_71, ⟨_, rfl, pd_X12_hatsOf⟩, 12, _, TX12, 45, rfl, rfl⟩)⟩
noncomputable def ct_1069 : CTB2 := [(18, 199, 1, con_390, []), (27, 243, 0, con_677, [0, 1])]
noncomputable def gi_683 : GI := jl_n [gp_334, jl_i 0 1]
noncomputable def cu_1069 : List CUT2 := [((4, [lq 0 6 0, lq 1 1 1, lq 2 1 72, lq 3 1 73], [], gi_683, [(false, ac_437), (false, ac_589)]), [], ([(73, (-1))], 1))]
theorem ch_1069 : staG tb_X12_hatsIn 1 bt_RX12 [] ct_1069 [] [] cu_1069 23 con_1069 = true := by decide +kernel
theorem cc_1069 : cu_1069.all (cutG tb_X12_hatsIn 1 bt_RX12 [] ct_1069 [] [] cu_1069 23 con_1069) = true := by decide +kernel
theorem cto_1069 (l : Launch) : CTOK2 l RX12 vwCl gTbl ct_1069 := ct2_cons (vl_390 l) ck_RX12_199_390 (ct2_cons (vl_677 l) ck_RX12_243_677 (ct2_nil))
theorem vl_1069 (l : Launch) : Vld2 l vwCl gTbl con_1069 := conR_ok3 gT_all (hd_1069) rfl pn_RX12 tk_X12_hatsIn bo_RX12 xo_RX12 (cto_1069 l) ch_1069 (cut_all cc_1069)
/-- RookHustingModel in -/
noncomputable def con_1070 : Con2 := ((yX12_in, cX12_in, 6, (some .boolean)), (0, 0), ([(4, 0, 0), (3, 0, 0), (3, (-1), 0)], gi_146, [], []), [((0, 0, 0), gi_147, [], [], [1])])
theorem hd_1070 : con_1070.1 = (yX12_in, cX12_in, 6, (some .boolean)) := rfl
noncomputable def cu_1070 : List CUT2 := []
theorem ch_1070 : staG tb_X12_in 1 bt_RX12 [] ct_2 [] [] cu_1070 10 con_1070 = true := by decide +kernel
theorem vl_1070 (l : Launch) : Vld2 l vwCl gTbl con_1070 := conR_ok3 gT_all (hd_1070) rfl pn_RX12 tk_X12_in bo_RX12 xo_RX12 (cto_2 l) ch_1070 cut_nil
/-- RookHustingModel isVoter -/
noncomputable def ac_590 : AC := .inr (1, jl_n [js_1 53 6, jl_x (1, (0, 0, 0)), sp_131])
noncomputable def con_1071 : Con2 := ((yX12_isVoter, cX12_isVoter, 2, (some .boolean)), (1, 25), ([(6, 0, 0), (1, 1, 0)], gi_667, [ac_437, ac_590], []), [((0, 0, 0), gi_668, [(false, ac_437), (false, ac_590)], [], [1])])
theorem hd_1071 : con_1071.1 = (yX12_isVoter, cX12_isVoter, 2, (some .boolean)) := rfl
theorem ck_RX12_91_1070 : COK2 RX12 vwCl gTbl 91 1 con_1070 := ⟨wd_1544, wd_137, mh_X12_in, .inl ⟨rfl, wd_1542, wd_1543, pd_X12_in⟩⟩
noncomputable def ct_1071 : CTB2 := [(13, 91, 1, con_1070, [])]
noncomputable def cu_1071 : List CUT2 := []
theorem ch_1071 : staG tb_X12_isVoter 1 bt_RX12 [] ct_1071 [] [] cu_1071 14 con_1071 = true := by decide +kernel
theorem cto_1071 (l : Launch) : CTOK2 l RX12 vwCl gTbl ct_1071 := ct2_cons (vl_1070 l) ck_RX12_91_1070 (ct2_nil)
theorem vl_1071 (l : Launch) : Vld2 l vwCl gTbl con_1071 := conR_ok3 gT_all (hd_1071) rfl pn_RX12 tk_X12_isVoter bo_RX12 xo_RX12 (cto_1071 l) ch_1071 cut_nil
/-- RookHustingModel factorial -/
noncomputable def con_1073 : Con2 := ((yX12_factorial, cX12_factorial, 3, (some .int)), (0, 0), ([(0, 6, 0)], [(0, 0)], [], []), [((0, 720, 0), [(0, 0), (0, 0)], [], [], [1])])
theorem hd_1073 : con_1073.1 = (yX12_factorial, cX12_factorial, 3, (some .int)) := rfl
noncomputable def cu_1073 : List CUT2 := []
theorem ch_1073 : staG tb_X12_factorial 1 bt_RX12 [] ct_2 [] [] cu_1073 56 con_1073 = true := by decide +kernel
theorem vl_1073 (l : Launch) : Vld2 l vwCl gTbl con_1073 := conR_ok3 gT_all (hd_1073) rfl pn_RX12 tk_X12_factorial bo_RX12 xo_RX12 (cto_2 l) ch_1073 cut_nil
/-- RookHustingModel factorial -/
noncomputable def con_1074 : Con2 := ((yX12_factorial, cX12_factorial, 3, (some .int)), (0, 0), ([(0, 5, 0)], [(0, 0)], [], []), [((0, 120, 0), [(0, 0), (0, 0)], [], [], [1])])
theorem hd_1074 : con_1074.1 = (yX12_factorial, cX12_factorial, 3, (some .int)) := rfl
noncomputable def cu_1074 : List CUT2 := []
theorem ch_1074 : staG tb_X12_factorial 1 bt_RX12 [] ct_2 [] [] cu_1074 47 con_1074 = true := by decide +kernel
theorem vl_1074 (l : Launch) : Vld2 l vwCl gTbl con_1074 := conR_ok3 gT_all (hd_1074) rfl pn_RX12 tk_X12_factorial bo_RX12 xo_RX12 (cto_2 l) ch_1074 cut_nil
/-- RookHustingModel factorial -/
noncomputable def con_1075 : Con2 := ((yX12_factorial, cX12_factorial, 3, (some .int)), (0, 0), ([(0, 4, 0)], [(0, 0)], [], []), [((0, 24, 0), [(0, 0), (0, 0)], [], [], [1])])
theorem hd_1075 : con_1075.1 = (yX12_factorial, cX12_factorial, 3, (some .int)) := rfl
noncomputable def cu_1075 : List CUT2 := []
theorem ch_1075 : staG tb_X12_factorial 1 bt_RX12 [] ct_2 [] [] cu_1075 38 con_1075 = true := by decide +kernel
theorem vl_1075 (l : Launch) : Vld2 l vwCl gTbl con_1075 := conR_ok3 gT_all (hd_1075) rfl pn_RX12 tk_X12_factorial bo_RX12 xo_RX12 (cto_2 l) ch_1075 cut_nil
/-- RookHustingModel factorial -/
noncomputable def con_1076 : Con2 := ((yX12_factorial, cX12_factorial, 3, (some .int)), (0, 0), ([(0, 3, 0)], [(0, 0)], [], []), [((0, 6, 0), [(0, 0), (0, 0)], [], [], [1])])
theorem hd_1076 : con_1076.1 = (yX12_factorial, cX12_factorial, 3, (some .int)) := rfl
noncomputable def cu_1076 : List CUT2 := []
theorem ch_1076 : staG tb_X12_factorial 1 bt_RX12 [] ct_2 [] [] cu_1076 29 con_1076 = true := by decide +kernel
theorem vl_1076 (l : Launch) : Vld2 l vwCl gTbl con_1076 := conR_ok3 gT_all (hd_1076) rfl pn_RX12 tk_X12_factorial bo_RX12 xo_RX12 (cto_2 l) ch_1076 cut_nil
/-- RookHustingModel factorial -/
noncomputable def con_1077 : Con2 := ((yX12_factorial, cX12_factorial, 3, (some .int)), (0, 0), ([(0, 2, 0)], [(0, 0)], [], []), [((0, 2, 0), [(0, 0), (0, 0)], [], [], [1])])
theorem hd_1077 : con_1077.1 = (yX12_factorial, cX12_factorial, 3, (some .int)) := rfl
noncomputable def cu_1077 : List CUT2 := []
theorem ch_1077 : staG tb_X12_factorial 1 bt_RX12 [] ct_2 [] [] cu_1077 20 con_1077 = true := by decide +kernel
theorem vl_1077 (l : Launch) : Vld2 l vwCl gTbl con_1077 := conR_ok3 gT_all (hd_1077) rfl pn_RX12 tk_X12_factorial bo_RX12 xo_RX12 (cto_2 l) ch_1077 cut_nil
/-- RookHustingModel factorial -/
noncomputable def con_1078 : Con2 := ((yX12_factorial, cX12_factorial, 3, (some .int)), (0, 0), ([(0, 1, 0)], [(0, 0)], [], []), [((0, 1, 0), [(0, 0), (0, 0)], [], [], [1])])
theorem hd_1078 : con_1078.1 = (yX12_factorial, cX12_factorial, 3, (some .int)) := rfl
noncomputable def cu_1078 : List CUT2 := []
theorem ch_1078 : staG tb_X12_factorial 1 bt_RX12 [] ct_2 [] [] cu_1078 11 con_1078 = true := by decide +kernel
theorem vl_1078 (l : Launch) : Vld2 l vwCl gTbl con_1078 := conR_ok3 gT_all (hd_1078) rfl pn_RX12 tk_X12_factorial bo_RX12 xo_RX12 (cto_2 l) ch_1078 cut_nil
/-- RookHustingModel bits -/
noncomputable def con_1079 : Con2 := ((yX12_bits, cX12_bits, 3, (some .int)), (0, 0), ([(1, 0, 0)], [(0, 127)], [], []), [((1, 1, 0), [(0, 127), (0, 7)], [], [], [1])])
theorem hd_1079 : con_1079.1 = (yX12_bits, cX12_bits, 3, (some .int)) := rfl
noncomputable def cu_1079 : List CUT2 := []
theorem ch_1079 : staG tb_X12_bits 1 bt_RX12 [] ct_2 [] [] cu_1079 219 con_1079 = true := by decide +kernel
theorem vl_1079 (l : Launch) : Vld2 l vwCl gTbl con_1079 := conR_ok3 gT_all (hd_1079) rfl pn_RX12 tk_X12_bits bo_RX12 xo_RX12 (cto_2 l) ch_1079 cut_nil
/-- RookHustingModel factorial -/
noncomputable def con_1080 : Con2 := ((yX12_factorial, cX12_factorial, 3, (some .int)), (0, 0), ([(1, 0, 0)], [((-100), 100)], [], []), [((1, 1, 0), [((-100), 100), ((-2147483648), 2147483647)], [], [], [1])])
theorem hd_1080 : con_1080.1 = (yX12_factorial, cX12_factorial, 3, (some .int)) := rfl
noncomputable def gi_684 : GI := jl_n [jl_m 99 100, gp_7, jl_i 2 101]
noncomputable def cu_1080 : List CUT2 := [((4, [lq 0 1 0, lq 1 1 2, lq 2 1 3], [], gi_684, []), [], ([(3, (-1))], 101))]
theorem ch_1080 : staG tb_X12_factorial 1 bt_RX12 [] ct_2 [] [] cu_1080 12 con_1080 = true := by decide +kernel
theorem cc_1080 : cu_1080.all (cutG tb_X12_factorial 1 bt_RX12 [] ct_2 [] [] cu_1080 12 con_1080) = true := by decide +kernel
theorem vl_1080 (l : Launch) : Vld2 l vwCl gTbl con_1080 := conR_ok3 gT_all (hd_1080) rfl pn_RX12 tk_X12_factorial bo_RX12 xo_RX12 (cto_2 l) ch_1080 (cut_all cc_1080)
/-- RookHustingModel divisor -/
noncomputable def con_1081 : Con2 := ((yX12_divisor, cX12_divisor, 10, (some .long)), (1, 13), ([(4, 0, 0), (3, 1, 0)], [((-9223372036854775808), 25600000000), (0, 0)], [], []), [((3, 1, 0), [((-9223372036854775808), 25600000000), (0, 0), (0, 0)], [], [], [1])])
theorem hd_1081 : con_1081.1 = (yX12_divisor, cX12_divisor, 10, (some .long)) := rfl
noncomputable def gi_685 : GI := jl_n [gp_335, gp_129]
noncomputable def gi_686 : GI := jl_n [jl_m 9223372036854775807 25600000000, jl_z 6]
noncomputable def cu_1081 : List CUT2 := [((9, [lq 0 4 0, lq 2 3 1, lq 4 4 4, lq 6 3 1], [], gi_685, []), [], ([], 1)), ((9, [lq 0 4 0, lq 2 3 1, lq 4 3 1, lq 6 3 0, lq 8 3 0], [], gi_686, []), [], ([], 0))]
theorem ch_1081 : staG tb_X12_divisor 1 bt_RX12 [] ct_2 [(16, [(2, (1, 4, 0), 0, 0)])] [20] cu_1081 15 con_1081 = true := by decide +kernel
theorem cc_1081 : cu_1081.all (cutG tb_X12_divisor 1 bt_RX12 [] ct_2 [(16, [(2, (1, 4, 0), 0, 0)])] [20] cu_1081 15 con_1081) = true := by decide +kernel
theorem vl_1081 (l : Launch) : Vld2 l vwCl gTbl con_1081 := conR_ok3 gT_all (hd_1081) rfl pn_RX12 tk_X12_divisor bo_RX12 xo_RX12 (cto_2 l) ch_1081 (cut_all cc_1081)
/-- RookHustingModel part -/
noncomputable def gi_687 : GI := jl_n [jl_m 9223372036854775807 25600000000, gp_209, jl_u]
noncomputable def con_1082 : Con2 := ((yX12_part, cX12_part, 5, (some .long)), (2, 42), ([(4, 0, 0), (3, 1, 0), (1, 2, 0)], [((-9223372036854775808), 25600000000), (0, 0), (0, 1)], [], []), [((4, 3, 0), gi_687, [], [], [4])])
theorem hd_1082 : con_1082.1 = (yX12_part, cX12_part, 5, (some .long)) := rfl
theorem ck_RX12_312_1081 : COK2 RX12 vwCl gTbl 312 1 con_1081 := ⟨wd_1810, wd_137, mh_X12_divisor, .inl ⟨rfl, wd_1808, wd_1809, pd_X12_divisor⟩⟩
noncomputable def ct_1082 : CTB2 := [(12, 312, 1, con_1081, [])]
noncomputable def cu_1082 : List CUT2 := []
theorem ch_1082 : staG tb_X12_part 1 bt_RX12 [] ct_1082 [] [] cu_1082 11 con_1082 = true := by decide +kernel
theorem cto_1082 (l : Launch) : CTOK2 l RX12 vwCl gTbl ct_1082 := ct2_cons (vl_1081 l) ck_RX12_312_1081 (ct2_nil)
theorem vl_1082 (l : Launch) : Vld2 l vwCl gTbl con_1082 := conR_ok3 gT_all (hd_1082) rfl pn_RX12 tk_X12_part bo_RX12 xo_RX12 (cto_1082 l) ch_1082 cut_nil
/-- RookHustingModel divisor -/
noncomputable def con_1083 : Con2 := ((yX12_divisor, cX12_divisor, 10, (some .long)), (1, 13), ([(4, 0, 0), (3, 2, 0)], [((-9223372036854775808), 25600000000), (0, 0)], [], []), [((3, (-1), 0), [((-9223372036854775808), 25600000000), (0, 0), (0, 0)], [], [], [1]), ((4, 2, 0), [((-9223372036854775808), 25600000000), (0, 0), (1, 2)], [], [], [4])])
theorem hd_1083 : con_1083.1 = (yX12_divisor, cX12_divisor, 10, (some .long)) := rfl
noncomputable def gi_688 : GI := jl_n [gp_335, jl_i 1 2, jl_r 2 (jl_i 0 1)]
noncomputable def gi_689 : GI := jl_n [jl_m 9223372036854775807 25600000000, jl_z 4, jl_r 2 (jl_m 0 0)]
noncomputable def cu_1083 : List CUT2 := [((9, [lq 0 4 0, lq 2 3 2, lq 4 4 4, lq 6 3 2], [], gi_685, []), [], ([], 2)), ((9, [lq 0 4 0, lq 2 3 2, lq 4 4 4, lq 6 4 5, lq 8 4 6], [], gi_688, []), [], ([(5, 1)], 0)), ((9, [lq 0 4 0, lq 2 3 2, lq 4 3 2, lq 6 4 5, lq 8 4 6], [], gi_689, []), [], ([(5, (-1))], 0)), ((9, [lq 0 4 0, lq 2 3 2, (4, (3, (-1), 0)), lq 6 3 0, lq 8 3 0], [], gi_686, []), [], ([], 0))]
theorem ch_1083 : staG tb_X12_divisor 1 bt_RX12 [] ct_2 [(16, [(2, (1, 4, 0), 0, 0)])] [20] cu_1083 15 con_1083 = true := by decide +kernel
theorem cc_1083 : cu_1083.all (cutG tb_X12_divisor 1 bt_RX12 [] ct_2 [(16, [(2, (1, 4, 0), 0, 0)])] [20] cu_1083 15 con_1083) = true := by decide +kernel
theorem vl_1083 (l : Launch) : Vld2 l vwCl gTbl con_1083 := conR_ok3 gT_all (hd_1083) rfl pn_RX12 tk_X12_divisor bo_RX12 xo_RX12 (cto_2 l) ch_1083 (cut_all cc_1083)
/-- RookHustingModel part -/
noncomputable def con_1084 : Con2 := ((yX12_part, cX12_part, 5, (some .long)), (2, 42), ([(4, 0, 0), (3, 2, 0), (1, 2, 0)], [((-9223372036854775808), 25600000000), (0, 0), (0, 1)], [], []), [((4, 3, 0), gi_687, [], [], [4])])
theorem hd_1084 : con_1084.1 = (yX12_part, cX12_part, 5, (some .long)) := rfl
theorem ck_RX12_312_1083 : COK2 RX12 vwCl gTbl 312 1 con_1083 := ⟨wd_1810, wd_137, mh_X12_divisor, .inl ⟨rfl, wd_1808, wd_1809, pd_X12_divisor⟩⟩
noncomputable def ct_1084 : CTB2 := [(12, 312, 1, con_1083, [])]
noncomputable def cu_1084 : List CUT2 := []
theorem ch_1084 : staG tb_X12_part 1 bt_RX12 [] ct_1084 [] [] cu_1084 11 con_1084 = true := by decide +kernel
theorem cto_1084 (l : Launch) : CTOK2 l RX12 vwCl gTbl ct_1084 := ct2_cons (vl_1083 l) ck_RX12_312_1083 (ct2_nil)
theorem vl_1084 (l : Launch) : Vld2 l vwCl gTbl con_1084 := conR_ok3 gT_all (hd_1084) rfl pn_RX12 tk_X12_part bo_RX12 xo_RX12 (cto_1084 l) ch_1084 cut_nil
/-- RookHustingModel divisor -/
noncomputable def gi_690 : GI := jl_n [gp_336, jl_k 4 0]
noncomputable def con_1085 : Con2 := ((yX12_divisor, cX12_divisor, 10, (some .long)), (1, 13), ([(4, 0, 0), (3, 6, 0)], [((-9223372036854775808), 25600000000), (0, 0)], [], []), [((4, 2, 0), gi_690, [], [], [4]), ((4, 2, 0), [((-9223372036854775808), 25600000000), (0, 0), (1, 6)], [], [], [4])])
theorem hd_1085 : con_1085.1 = (yX12_divisor, cX12_divisor, 10, (some .long)) := rfl
noncomputable def gi_691 : GI := jl_n [gp_335, jl_i 1 6, jl_r 2 (jl_i 0 5)]
noncomputable def gi_692 : GI := jl_n [gp_335, jl_i 1 6, jl_r 2 (jl_m 4 0)]
noncomputable def gi_693 : GI := jl_n [gp_335, jl_k 4 0, jl_r 2 (jl_i 0 4)]
noncomputable def cu_1085 : List CUT2 := [((9, [lq 0 4 0, lq 2 3 6, lq 4 4 4, lq 6 3 6], [], gi_685, []), [], ([], 6)), ((9, [lq 0 4 0, lq 2 3 6, lq 4 4 4, lq 6 4 5, lq 8 4 6], [], gi_691, []), [], ([(5, 1)], 0)), ((9, [lq 0 4 0, lq 2 3 6, lq 4 4 4, lq 6 4 5, lq 8 4 6], [], gi_692, []), [], ([(5, (-1))], 0)), ((9, [lq 0 4 0, lq 2 3 6, lq 4 4 4, lq 6 4 5, lq 8 4 6], [], gi_693, []), [], ([(5, 1)], 0))]
theorem ch_1085 : staG tb_X12_divisor 1 bt_RX12 [] ct_2 [(16, [(2, (1, 4, 0), 0, 0)])] [20] cu_1085 15 con_1085 = true := by decide +kernel
theorem cc_1085 : cu_1085.all (cutG tb_X12_divisor 1 bt_RX12 [] ct_2 [(16, [(2, (1, 4, 0), 0, 0)])] [20] cu_1085 15 con_1085) = true := by decide +kernel
theorem vl_1085 (l : Launch) : Vld2 l vwCl gTbl con_1085 := conR_ok3 gT_all (hd_1085) rfl pn_RX12 tk_X12_divisor bo_RX12 xo_RX12 (cto_2 l) ch_1085 (cut_all cc_1085)
/-- RookHustingModel part -/
noncomputable def con_1086 : Con2 := ((yX12_part, cX12_part, 5, (some .long)), (2, 42), ([(4, 0, 0), (3, 6, 0), (1, 2, 0)], [((-9223372036854775808), 25600000000), (0, 0), (0, 1)], [], []), [((4, 3, 0), gi_687, [], [], [4])])
theorem hd_1086 : con_1086.1 = (yX12_part, cX12_part, 5, (some .long)) := rfl
theorem ck_RX12_312_1085 : COK2 RX12 vwCl gTbl 312 1 con_1085 := ⟨wd_1810, wd_137, mh_X12_divisor, .inl ⟨rfl, wd_1808, wd_1809, pd_X12_divisor⟩⟩
noncomputable def ct_1086 : CTB2 := [(12, 312, 1, con_1085, [])]
noncomputable def cu_1086 : List CUT2 := []
theorem ch_1086 : staG tb_X12_part 1 bt_RX12 [] ct_1086 [] [] cu_1086 11 con_1086 = true := by decide +kernel
theorem cto_1086 (l : Launch) : CTOK2 l RX12 vwCl gTbl ct_1086 := ct2_cons (vl_1085 l) ck_RX12_312_1085 (ct2_nil)
theorem vl_1086 (l : Launch) : Vld2 l vwCl gTbl con_1086 := conR_ok3 gT_all (hd_1086) rfl pn_RX12 tk_X12_part bo_RX12 xo_RX12 (cto_1086 l) ch_1086 cut_nil
/-- RookHustingModel divisor -/
noncomputable def gi_694 : GI := jl_n [gp_336, jl_k 22 0]
noncomputable def con_1087 : Con2 := ((yX12_divisor, cX12_divisor, 10, (some .long)), (1, 13), ([(4, 0, 0), (3, 24, 0)], [((-9223372036854775808), 25600000000), (0, 0)], [], []), [((4, 2, 0), gi_694, [], [], [4]), ((4, 2, 0), [((-9223372036854775808), 25600000000), (0, 0), (1, 24)], [], [], [4])])
theorem hd_1087 : con_1087.1 = (yX12_divisor, cX12_divisor, 10, (some .long)) := rfl
noncomputable def gi_695 : GI := jl_n [gp_335, jl_i 1 24, jl_r 2 (jl_i 0 23)]
noncomputable def gi_696 : GI := jl_n [gp_335, jl_i 1 24, jl_r 2 (jl_m 22 0)]
noncomputable def gi_697 : GI := jl_n [gp_335, jl_k 22 0, jl_r 2 (jl_i 0 22)]
noncomputable def cu_1087 : List CUT2 := [((9, [lq 0 4 0, lq 2 3 24, lq 4 4 4, lq 6 3 24], [], gi_685, []), [], ([], 24)), ((9, [lq 0 4 0, lq 2 3 24, lq 4 4 4, lq 6 4 5, lq 8 4 6], [], gi_695, []), [], ([(5, 1)], 0)), ((9, [lq 0 4 0, lq 2 3 24, lq 4 4 4, lq 6 4 5, lq 8 4 6], [], gi_696, []), [], ([(5, (-1))], 0)), ((9, [lq 0 4 0, lq 2 3 24, lq 4 4 4, lq 6 4 5, lq 8 4 6], [], gi_697, []), [], ([(5, 1)], 0))]
theorem ch_1087 : staG tb_X12_divisor 1 bt_RX12 [] ct_2 [(16, [(2, (1, 4, 0), 0, 0)])] [20] cu_1087 15 con_1087 = true := by decide +kernel
theorem cc_1087 : cu_1087.all (cutG tb_X12_divisor 1 bt_RX12 [] ct_2 [(16, [(2, (1, 4, 0), 0, 0)])] [20] cu_1087 15 con_1087) = true := by decide +kernel
theorem vl_1087 (l : Launch) : Vld2 l vwCl gTbl con_1087 := conR_ok3 gT_all (hd_1087) rfl pn_RX12 tk_X12_divisor bo_RX12 xo_RX12 (cto_2 l) ch_1087 (cut_all cc_1087)
/-- RookHustingModel part -/
noncomputable def con_1088 : Con2 := ((yX12_part, cX12_part, 5, (some .long)), (2, 42), ([(4, 0, 0), (3, 24, 0), (1, 2, 0)], [((-9223372036854775808), 25600000000), (0, 0), (0, 1)], [], []), [((4, 3, 0), gi_687, [], [], [4])])
theorem hd_1088 : con_1088.1 = (yX12_part, cX12_part, 5, (some .long)) := rfl
theorem ck_RX12_312_1087 : COK2 RX12 vwCl gTbl 312 1 con_1087 := ⟨wd_1810, wd_137, mh_X12_divisor, .inl ⟨rfl, wd_1808, wd_1809, pd_X12_divisor⟩⟩
noncomputable def ct_1088 : CTB2 := [(12, 312, 1, con_1087, [])]
noncomputable def cu_1088 : List CUT2 := []
theorem ch_1088 : staG tb_X12_part 1 bt_RX12 [] ct_1088 [] [] cu_1088 11 con_1088 = true := by decide +kernel
theorem cto_1088 (l : Launch) : CTOK2 l RX12 vwCl gTbl ct_1088 := ct2_cons (vl_1087 l) ck_RX12_312_1087 (ct2_nil)
theorem vl_1088 (l : Launch) : Vld2 l vwCl gTbl con_1088 := conR_ok3 gT_all (hd_1088) rfl pn_RX12 tk_X12_part bo_RX12 xo_RX12 (cto_1088 l) ch_1088 cut_nil
/-- RookHustingModel divisor -/
noncomputable def gi_698 : GI := jl_n [gp_336, jl_k 118 0]
noncomputable def con_1089 : Con2 := ((yX12_divisor, cX12_divisor, 10, (some .long)), (1, 13), ([(4, 0, 0), (3, 120, 0)], [((-9223372036854775808), 25600000000), (0, 0)], [], []), [((4, 2, 0), gi_698, [], [], [4]), ((4, 2, 0), [((-9223372036854775808), 25600000000), (0, 0), (1, 120)], [], [], [4])])
theorem hd_1089 : con_1089.1 = (yX12_divisor, cX12_divisor, 10, (some .long)) := rfl
noncomputable def gi_699 : GI := jl_n [gp_335, jl_i 1 120, jl_r 2 (jl_i 0 119)]
noncomputable def gi_700 : GI := jl_n [gp_335, jl_i 1 120, jl_r 2 (jl_m 118 0)]
noncomputable def gi_701 : GI := jl_n [gp_335, jl_k 118 0, jl_r 2 (jl_i 0 118)]
noncomputable def cu_1089 : List CUT2 := [((9, [lq 0 4 0, lq 2 3 120, lq 4 4 4, lq 6 3 120], [], gi_685, []), [], ([], 120)), ((9, [lq 0 4 0, lq 2 3 120, lq 4 4 4, lq 6 4 5, lq 8 4 6], [], gi_699, []), [], ([(5, 1)], 0)), ((9, [lq 0 4 0, lq 2 3 120, lq 4 4 4, lq 6 4 5, lq 8 4 6], [], gi_700, []), [], ([(5, (-1))], 0)), ((9, [lq 0 4 0, lq 2 3 120, lq 4 4 4, lq 6 4 5, lq 8 4 6], [], gi_701, []), [], ([(5, 1)], 0))]
theorem ch_1089 : staG tb_X12_divisor 1 bt_RX12 [] ct_2 [(16, [(2, (1, 4, 0), 0, 0)])] [20] cu_1089 15 con_1089 = true := by decide +kernel
theorem cc_1089 : cu_1089.all (cutG tb_X12_divisor 1 bt_RX12 [] ct_2 [(16, [(2, (1, 4, 0), 0, 0)])] [20] cu_1089 15 con_1089) = true := by decide +kernel
theorem vl_1089 (l : Launch) : Vld2 l vwCl gTbl con_1089 := conR_ok3 gT_all (hd_1089) rfl pn_RX12 tk_X12_divisor bo_RX12 xo_RX12 (cto_2 l) ch_1089 (cut_all cc_1089)
/-- RookHustingModel part -/
noncomputable def con_1090 : Con2 := ((yX12_part, cX12_part, 5, (some .long)), (2, 42), ([(4, 0, 0), (3, 120, 0), (1, 2, 0)], [((-9223372036854775808), 25600000000), (0, 0), (0, 1)], [], []), [((4, 3, 0), gi_687, [], [], [4])])
theorem hd_1090 : con_1090.1 = (yX12_part, cX12_part, 5, (some .long)) := rfl
theorem ck_RX12_312_1089 : COK2 RX12 vwCl gTbl 312 1 con_1089 := ⟨wd_1810, wd_137, mh_X12_divisor, .inl ⟨rfl, wd_1808, wd_1809, pd_X12_divisor⟩⟩
noncomputable def ct_1090 : CTB2 := [(12, 312, 1, con_1089, [])]
noncomputable def cu_1090 : List CUT2 := []
theorem ch_1090 : staG tb_X12_part 1 bt_RX12 [] ct_1090 [] [] cu_1090 11 con_1090 = true := by decide +kernel
theorem cto_1090 (l : Launch) : CTOK2 l RX12 vwCl gTbl ct_1090 := ct2_cons (vl_1089 l) ck_RX12_312_1089 (ct2_nil)
theorem vl_1090 (l : Launch) : Vld2 l vwCl gTbl con_1090 := conR_ok3 gT_all (hd_1090) rfl pn_RX12 tk_X12_part bo_RX12 xo_RX12 (cto_1090 l) ch_1090 cut_nil
/-- RookHustingModel divisor -/
noncomputable def gi_702 : GI := jl_n [gp_336, jl_k 718 0]
noncomputable def con_1091 : Con2 := ((yX12_divisor, cX12_divisor, 10, (some .long)), (1, 13), ([(4, 0, 0), (3, 720, 0)], [((-9223372036854775808), 25600000000), (0, 0)], [], []), [((4, 2, 0), gi_702, [], [], [4]), ((4, 2, 0), [((-9223372036854775808), 25600000000), (0, 0), (1, 720)], [], [], [4])])
theorem hd_1091 : con_1091.1 = (yX12_divisor, cX12_divisor, 10, (some .long)) := rfl
noncomputable def gi_703 : GI := jl_n [gp_335, jl_i 1 720, jl_r 2 (jl_i 0 719)]
noncomputable def gi_704 : GI := jl_n [gp_335, jl_i 1 720, jl_r 2 (jl_m 718 0)]
noncomputable def gi_705 : GI := jl_n [gp_335, jl_k 718 0, jl_r 2 (jl_i 0 718)]
noncomputable def cu_1091 : List CUT2 := [((9, [lq 0 4 0, lq 2 3 720, lq 4 4 4, lq 6 3 720], [], gi_685, []), [], ([], 720)), ((9, [lq 0 4 0, lq 2 3 720, lq 4 4 4, lq 6 4 5, lq 8 4 6], [], gi_703, []), [], ([(5, 1)], 0)), ((9, [lq 0 4 0, lq 2 3 720, lq 4 4 4, lq 6 4 5, lq 8 4 6], [], gi_704, []), [], ([(5, (-1))], 0)), ((9, [lq 0 4 0, lq 2 3 720, lq 4 4 4, lq 6 4 5, lq 8 4 6], [], gi_705, []), [], ([(5, 1)], 0))]
theorem ch_1091 : staG tb_X12_divisor 1 bt_RX12 [] ct_2 [(16, [(2, (1, 4, 0), 0, 0)])] [20] cu_1091 15 con_1091 = true := by decide +kernel
theorem cc_1091 : cu_1091.all (cutG tb_X12_divisor 1 bt_RX12 [] ct_2 [(16, [(2, (1, 4, 0), 0, 0)])] [20] cu_1091 15 con_1091) = true := by decide +kernel
theorem vl_1091 (l : Launch) : Vld2 l vwCl gTbl con_1091 := conR_ok3 gT_all (hd_1091) rfl pn_RX12 tk_X12_divisor bo_RX12 xo_RX12 (cto_2 l) ch_1091 (cut_all cc_1091)
/-- RookHustingModel part -/
noncomputable def con_1092 : Con2 := ((yX12_part, cX12_part, 5, (some .long)), (2, 42), ([(4, 0, 0), (3, 720, 0), (1, 2, 0)], [((-9223372036854775808), 25600000000), (0, 0), (0, 1)], [], []), [((4, 3, 0), gi_687, [], [], [4])])
theorem hd_1092 : con_1092.1 = (yX12_part, cX12_part, 5, (some .long)) := rfl
theorem ck_RX12_312_1091 : COK2 RX12 vwCl gTbl 312 1 con_1091 := ⟨wd_1810, wd_137, mh_X12_divisor, .inl ⟨rfl, wd_1808, wd_1809, pd_X12_divisor⟩⟩
noncomputable def ct_1092 : CTB2 := [(12, 312, 1, con_1091, [])]
noncomputable def cu_1092 : List CUT2 := []
theorem ch_1092 : staG tb_X12_part 1 bt_RX12 [] ct_1092 [] [] cu_1092 11 con_1092 = true := by decide +kernel
theorem cto_1092 (l : Launch) : CTOK2 l RX12 vwCl gTbl ct_1092 := ct2_cons (vl_1091 l) ck_RX12_312_1091 (ct2_nil)
theorem vl_1092 (l : Launch) : Vld2 l vwCl gTbl con_1092 := conR_ok3 gT_all (hd_1092) rfl pn_RX12 tk_X12_part bo_RX12 xo_RX12 (cto_1092 l) ch_1092 cut_nil
/-- RookHustingModel factorial -/
noncomputable def con_1093 : Con2 := ((yX12_factorial, cX12_factorial, 3, (some .int)), (0, 0), ([(0, 7, 0)], [(0, 0)], [], []), [((0, 5040, 0), [(0, 0), (0, 0)], [], [], [1])])
theorem hd_1093 : con_1093.1 = (yX12_factorial, cX12_factorial, 3, (some .int)) := rfl
noncomputable def cu_1093 : List CUT2 := []
theorem ch_1093 : staG tb_X12_factorial 1 bt_RX12 [] ct_2 [] [] cu_1093 65 con_1093 = true := by decide +kernel
theorem vl_1093 (l : Launch) : Vld2 l vwCl gTbl con_1093 := conR_ok3 gT_all (hd_1093) rfl pn_RX12 tk_X12_factorial bo_RX12 xo_RX12 (cto_2 l) ch_1093 cut_nil
/-- RookHustingModel divisor -/
noncomputable def gi_706 : GI := jl_n [gp_336, jl_k 5038 0]
noncomputable def con_1094 : Con2 := ((yX12_divisor, cX12_divisor, 10, (some .long)), (1, 13), ([(4, 0, 0), (3, 5040, 0)], [((-9223372036854775808), 25600000000), (0, 0)], [], []), [((4, 2, 0), gi_706, [], [], [4]), ((4, 2, 0), [((-9223372036854775808), 25600000000), (0, 0), (1, 5040)], [], [], [4])])
theorem hd_1094 : con_1094.1 = (yX12_divisor, cX12_divisor, 10, (some .long)) := rfl
noncomputable def gi_707 : GI := jl_n [gp_335, jl_i 1 5040, jl_r 2 (jl_i 0 5039)]
noncomputable def gi_708 : GI := jl_n [gp_335, jl_i 1 5040, jl_r 2 (jl_m 5038 0)]
noncomputable def gi_709 : GI := jl_n [gp_335, jl_k 5038 0, jl_r 2 (jl_i 0 5038)]
noncomputable def cu_1094 : List CUT2 := [((9, [lq 0 4 0, lq 2 3 5040, lq 4 4 4, lq 6 3 5040], [], gi_685, []), [], ([], 5040)), ((9, [lq 0 4 0, lq 2 3 5040, lq 4 4 4, lq 6 4 5, lq 8 4 6], [], gi_707, []), [], ([(5, 1)], 0)), ((9, [lq 0 4 0, lq 2 3 5040, lq 4 4 4, lq 6 4 5, lq 8 4 6], [], gi_708, []), [], ([(5, (-1))], 0)), ((9, [lq 0 4 0, lq 2 3 5040, lq 4 4 4, lq 6 4 5, lq 8 4 6], [], gi_709, []), [], ([(5, 1)], 0))]
theorem ch_1094 : staG tb_X12_divisor 1 bt_RX12 [] ct_2 [(16, [(2, (1, 4, 0), 0, 0)])] [20] cu_1094 15 con_1094 = true := by decide +kernel
theorem cc_1094 : cu_1094.all (cutG tb_X12_divisor 1 bt_RX12 [] ct_2 [(16, [(2, (1, 4, 0), 0, 0)])] [20] cu_1094 15 con_1094) = true := by decide +kernel
theorem vl_1094 (l : Launch) : Vld2 l vwCl gTbl con_1094 := conR_ok3 gT_all (hd_1094) rfl pn_RX12 tk_X12_divisor bo_RX12 xo_RX12 (cto_2 l) ch_1094 (cut_all cc_1094)
/-- RookHustingModel part -/
noncomputable def con_1095 : Con2 := ((yX12_part, cX12_part, 5, (some .long)), (2, 42), ([(4, 0, 0), (3, 5040, 0), (1, 2, 0)], [((-9223372036854775808), 25600000000), (0, 0), (0, 1)], [], []), [((4, 3, 0), gi_687, [], [], [4])])
theorem hd_1095 : con_1095.1 = (yX12_part, cX12_part, 5, (some .long)) := rfl
theorem ck_RX12_312_1094 : COK2 RX12 vwCl gTbl 312 1 con_1094 := ⟨wd_1810, wd_137, mh_X12_divisor, .inl ⟨rfl, wd_1808, wd_1809, pd_X12_divisor⟩⟩
noncomputable def ct_1095 : CTB2 := [(12, 312, 1, con_1094, [])]
noncomputable def cu_1095 : List CUT2 := []
theorem ch_1095 : staG tb_X12_part 1 bt_RX12 [] ct_1095 [] [] cu_1095 11 con_1095 = true := by decide +kernel
theorem cto_1095 (l : Launch) : CTOK2 l RX12 vwCl gTbl ct_1095 := ct2_cons (vl_1094 l) ck_RX12_312_1094 (ct2_nil)
theorem vl_1095 (l : Launch) : Vld2 l vwCl gTbl con_1095 := conR_ok3 gT_all (hd_1095) rfl pn_RX12 tk_X12_part bo_RX12 xo_RX12 (cto_1095 l) ch_1095 cut_nil
/-- RookHustingModel power -/
noncomputable def con_1096 : Con2 := ((yX12_power, cX12_power, 8, (some .int)), (3, 66), ([(6, 0, 0), (1, 1, 0), (1, 2, 0)], gi_304, [ac_439, ac_440], []), [((1, 71, 0), gi_528, [(false, ac_439), (false, ac_440)], [], [1])])
theorem hd_1096 : con_1096.1 = (yX12_power, cX12_power, 8, (some .int)) := rfl
theorem ck_RX12_319_1082 : COK2 RX12 vwCl gTbl 319 1 con_1082 := ⟨wd_1807, wd_137, mh_X12_part, .inl ⟨rfl, wd_1805, wd_1806, pd_X12_part⟩⟩
theorem ck_RX12_319_1084 : COK2 RX12 vwCl gTbl 319 1 con_1084 := ⟨wd_1807, wd_137, mh_X12_part, .inl ⟨rfl, wd_1805, wd_1806, pd_X12_part⟩⟩
theorem ck_RX12_319_1086 : COK2 RX12 vwCl gTbl 319 1 con_1086 := ⟨wd_1807, wd_137, mh_X12_part, .inl ⟨rfl, wd_1805, wd_1806, pd_X12_part⟩⟩
theorem ck_RX12_319_1088 : COK2 RX12 vwCl gTbl 319 1 con_1088 := ⟨wd_1807, wd_137, mh_X12_part, .inl ⟨rfl, wd_1805, wd_1806, pd_X12_part⟩⟩
theorem ck_RX12_319_1090 : COK2 RX12 vwCl gTbl 319 1 con_1090 := ⟨wd_1807, wd_137, mh_X12_part, .inl ⟨rfl, wd_1805, wd_1806, pd_X12_part⟩⟩
theorem ck_RX12_319_1092 : COK2 RX12 vwCl gTbl 319 1 con_1092 := ⟨wd_1807, wd_137, mh_X12_part, .inl ⟨rfl, wd_1805, wd_1806, pd_X12_part⟩⟩
theorem ck_RX12_319_1095 : COK2 RX12 vwCl gTbl 319 1 con_1095 := ⟨wd_1807, wd_137, mh_X12_part, .inl ⟨rfl, wd_1805, wd_1806, pd_X12_part⟩⟩
theorem ck_RX12_316_1093 : COK2 RX12 vwCl gTbl 316 1 con_1093 := ⟨wd_1804, wd_137, mh_X12_factorial, .inl ⟨rfl, wd_1802, wd_1803, pd_X12_factorial⟩⟩
theorem ck_RX12_316_1073 : COK2 RX12 vwCl gTbl 316 1 con_1073 := ⟨wd_1804, wd_137, mh_X12_factorial, .inl ⟨rfl, wd_1802, wd_1803, pd_X12_factorial⟩⟩
theorem ck_RX12_316_1074 : COK2 RX12 vwCl gTbl 316 1 con_1074 := ⟨wd_1804, wd_137, mh_X12_factorial, .inl ⟨rfl, wd_1802, wd_1803, pd_X12_factorial⟩⟩
theorem ck_RX12_316_1075 : COK2 RX12 vwCl gTbl 316 1 con_1075 := ⟨wd_1804, wd_137, mh_X12_factorial, .inl ⟨rfl, wd_1802, wd_1803, pd_X12_factorial⟩⟩
theorem ck_RX12_316_1076 : COK2 RX12 vwCl gTbl 316 1 con_1076 := ⟨wd_1804, wd_137, mh_X12_factorial, .inl ⟨rfl, wd_1802, wd_1803, pd_X12_factorial⟩⟩
theorem ck_RX12_316_1077 : COK2 RX12 vwCl gTbl 316 1 con_1077 := ⟨wd_1804, wd_137, mh_X12_factorial, .inl ⟨rfl, wd_1802, wd_1803, pd_X12_factorial⟩⟩
theorem ck_RX12_316_1078 : COK2 RX12 vwCl gTbl 316 1 con_1078 := ⟨wd_1804, wd_137, mh_X12_factorial, .inl ⟨rfl, wd_1802, wd_1803, pd_X12_factorial⟩⟩
theorem ck_RX12_316_1080 : COK2 RX12 vwCl gTbl 316 1 con_1080 := ⟨wd_1804, wd_137, mh_X12_factorial, .inl ⟨rfl, wd_1802, wd_1803, pd_X12_factorial⟩⟩
theorem ck_RX12_252_1079 : COK2 RX12 vwCl gTbl 252 1 con_1079 := ⟨wd_1720, wd_137, mh_X12_bits, .inl ⟨rfl, wd_1718, wd_1719, pd_X12_bits⟩⟩
theorem ck_RX12_298_1069 : COK2 RX12 vwCl gTbl 298 0 con_1069 := ⟨wd_1781, wd_137, mh_X12_hatsIn, .inr (.inr ⟨rfl, wd_1778, wd_1780, wd_86, ⟨_, rfl, pd_X12_hatsIn⟩, 12, _, TX12, 45, rfl, rfl⟩)⟩
theorem ck_RX12_298_1067 : COK2 RX12 vwCl gTbl 298 0 con_1067 := ⟨wd_1781, wd_137, mh_X12_hatsIn, .inr (.inr ⟨rfl, wd_1778, wd_1780, wd_86, ⟨_, rfl, pd_X12_hatsIn⟩, 12, _, TX12, 45, rfl, rfl⟩)⟩
theorem ck_RX12_298_1065 : COK2 RX12 vwCl gTbl 298 0 con_1065 := ⟨wd_1781, wd_137, mh_X12_hatsIn, .inr (.inr ⟨rfl, wd_1778, wd_1780, wd_86, ⟨_, rfl, pd_X12_hatsIn⟩, 12, _, TX12, 45, rfl, rfl⟩)⟩
theorem ck_RX12_298_1062 : COK2 RX12 vwCl gTbl 298 0 con_1062 := ⟨wd_1781, wd_137, mh_X12_hatsIn, .inr (.inr ⟨rfl, wd_1778, wd_1780, wd_86, ⟨_, rfl, pd_X12_hatsIn⟩, 12, _, TX12, 45, rfl, rfl⟩)⟩
theorem ck_RX12_298_1060 : COK2 RX12 vwCl gTbl 298 0 con_1060 := ⟨wd_1781, wd_137, mh_X12_hatsIn, .inr (.inr ⟨rfl, wd_1778, wd_1780, wd_86, ⟨_, rfl, pd_X12_hatsIn⟩, 12, _, TX12, 45, rfl, rfl⟩)⟩
theorem ck_RX12_298_1057 : COK2 RX12 vwCl gTbl 298 0 con_1057 := ⟨wd_1781, wd_137, mh_X12_hatsIn, .inr (.inr ⟨rfl, wd_1778, wd_1780, wd_86, ⟨_, rfl, pd_X12_hatsIn⟩, 12, _, TX12, 45, rfl, rfl⟩)⟩
theorem ck_RX12_298_1054 : COK2 RX12 vwCl gTbl 298 0 con_1054 := ⟨wd_1781, wd_137, mh_X12_hatsIn, .inr (.inr ⟨rfl, wd_1778, wd_1780, wd_86, ⟨_, rfl, pd_X12_hatsIn⟩, 12, _, TX12, 45, rfl, rfl⟩)⟩
theorem ck_RX12_240_1071 : COK2 RX12 vwCl gTbl 240 0 con_1071 := ⟨wd_1680, wd_137, mh_X12_isVoter, .inr (.inr ⟨rfl, wd_1677, wd_1679, wd_70, ⟨_, rfl, pd_X12_isVoter⟩, 12, _, TX12, 45, rfl, rfl⟩)⟩
theorem ck_RX12_240_1068 : COK2 RX12 vwCl gTbl 240 0 con_1068 := ⟨wd_1680, wd_137, mh_X12_isVoter, .inr (.inr ⟨rfl, wd_1677, wd_1679, wd_70, ⟨_, rfl, pd_X12_isVoter⟩, 12, _, TX12, 45, rfl, rfl⟩)⟩
theorem ck_RX12_240_1066 : COK2 RX12 vwCl gTbl 240 0 con_1066 := ⟨wd_1680, wd_137, mh_X12_isVoter, .inr (.inr ⟨rfl, wd_1677, wd_1679, wd_70, ⟨_, rfl, pd_X12_isVoter⟩, 12, _, TX12, 45, rfl, rfl⟩)⟩
theorem ck_RX12_240_1064 : COK2 RX12 vwCl gTbl 240 0 con_1064 := ⟨wd_1680, wd_137, mh_X12_isVoter, .inr (.inr ⟨rfl, wd_1677, wd_1679, wd_70, ⟨_, rfl, pd_X12_isVoter⟩, 12, _, TX12, 45, rfl, rfl⟩)⟩
theorem ck_RX12_240_1061 : COK2 RX12 vwCl gTbl 240 0 con_1061 := ⟨wd_1680, wd_137, mh_X12_isVoter, .inr (.inr ⟨rfl, wd_1677, wd_1679, wd_70, ⟨_, rfl, pd_X12_isVoter⟩, 12, _, TX12, 45, rfl, rfl⟩)⟩
theorem ck_RX12_240_1059 : COK2 RX12 vwCl gTbl 240 0 con_1059 := ⟨wd_1680, wd_137, mh_X12_isVoter, .inr (.inr ⟨rfl, wd_1677, wd_1679, wd_70, ⟨_, rfl, pd_X12_isVoter⟩, 12, _, TX12, 45, rfl, rfl⟩)⟩
theorem ck_RX12_240_1056 : COK2 RX12 vwCl gTbl 240 0 con_1056 := ⟨wd_1680, wd_137, mh_X12_isVoter, .inr (.inr ⟨rfl, wd_1677, wd_1679, wd_70, ⟨_, rfl, pd_X12_isVoter⟩, 12, _, TX12, 45, rfl, rfl⟩)⟩
theorem ck_RX12_240_1053 : COK2 RX12 vwCl gTbl 240 0 con_1053 := ⟨wd_1680, wd_137, mh_X12_isVoter, .inr (.inr ⟨rfl, wd_1677, wd_1679, wd_70, ⟨_, rfl, pd_X12_isVoter⟩, 12, _, TX12, 45, rfl, rfl⟩)⟩
noncomputable def ct_1096 : CTB2 := [(2, 240, 0, con_1053, [0, 1]), (2, 240, 0, con_1056, [0, 1]), (2, 240, 0, con_1059, [0, 1]), (2, 240, 0, con_1061, [0, 1]), (2, 240, 0, con_1064, [0, 1]), (2, 240, 0, con_1066, [0, 1]), (2, 240, 0, con_1068, [0, 1]), (2, 240, 0, con_1071, [0, 1]), (12, 91, 1, con_648, []), (35, 298, 0, con_1054, [0, 1]), (35, 298, 0, con_1057, [0, 1]), (35, 298, 0, con_1060, [0, 1]), (35, 298, 0, con_1062, [0, 1]), (35, 298, 0, con_1065, [0, 1]), (35, 298, 0, con_1067, [0, 1]), (35, 298, 0, con_1069, [0, 1]), (57, 199, 1, con_390, []), (67, 298, 0, con_1054, [0, 1]), (67, 298, 0, con_1057, [0, 1]), (67, 298, 0, con_1060, [0, 1]), (67, 298, 0, con_1062, [0, 1]), (67, 298, 0, con_1065, [0, 1]), (67, 298, 0, con_1067, [0, 1]), (67, 298, 0, con_1069, [0, 1]), (80, 298, 0, con_1054, [0, 1]), (80, 298, 0, con_1057, [0, 1]), (80, 298, 0, con_1060, [0, 1]), (80, 298, 0, con_1062, [0, 1]), (80, 298, 0, con_1065, [0, 1]), (80, 298, 0, con_1067, [0, 1]), (80, 298, 0, con_1069, [0, 1]), (85, 243, 0, con_662, [0, 1]), (111, 252, 1, con_1079, []), (114, 316, 1, con_1080, []), (122, 252, 1, con_1079, []), (126, 316, 1, con_1080, []), (147, 316, 1, con_1078, []), (147, 316, 1, con_1077, []), (147, 316, 1, con_1076, []), (147, 316, 1, con_1075, []), (147, 316, 1, con_1074, []), (147, 316, 1, con_1073, []), (147, 316, 1, con_1093, []), (152, 319, 1, con_1095, []), (152, 319, 1, con_1092, []), (152, 319, 1, con_1090, []), (152, 319, 1, con_1088, []), (152, 319, 1, con_1086, []), (152, 319, 1, con_1084, []), (152, 319, 1, con_1082, [])]
noncomputable def gi_710 : GI := jl_n [gp_183, gp_337, jl_i 7 7, gp_338, jl_i 0 128]
noncomputable def gi_711 : GI := jl_n [gp_212, gp_337, jl_i 6 6, gp_338, jl_i 0 64]
noncomputable def gi_712 : GI := jl_n [gp_52, gp_337, jl_i 5 5, gp_338, jl_i 0 32]
noncomputable def gi_713 : GI := jl_n [gp_211, gp_337, jl_i 4 4, gp_338, jl_i 0 16]
noncomputable def gi_714 : GI := jl_n [gp_210, gp_337, jl_i 3 3, gp_338, jl_i 0 8]
noncomputable def gi_715 : GI := jl_n [jl_z 1, jl_r 2 (jl_i 0 1), jl_z 45, gp_126, jl_i 2 2, gp_338, jl_i 0 4]
noncomputable def gi_716 : GI := jl_n [jl_z 2, gp_337, jl_i 1 1, gp_338, jl_i 0 2]
noncomputable def cu_1096 : List CUT2 := [((46, [lq 0 6 0, lq 1 1 1, lq 2 1 2, lq 3 0 7, lq 4 1 75, lq 5 1 76, lq 6 1 77], [], gi_710, [(false, ac_439), (false, ac_440)]), [], ([(77, (-1))], 128)), ((46, [lq 0 6 0, lq 1 1 1, lq 2 1 2, lq 3 0 6, lq 4 1 75, lq 5 1 76, lq 6 1 77], [], gi_711, [(false, ac_439), (false, ac_440)]), [], ([(77, (-1))], 128)), ((46, [lq 0 6 0, lq 1 1 1, lq 2 1 2, lq 3 0 5, lq 4 1 75, lq 5 1 76, lq 6 1 77], [], gi_712, [(false, ac_439), (false, ac_440)]), [], ([(77, (-1))], 128)), ((46, [lq 0 6 0, lq 1 1 1, lq 2 1 2, lq 3 0 4, lq 4 1 75, lq 5 1 76, lq 6 1 77], [], gi_713, [(false, ac_439), (false, ac_440)]), [], ([(77, (-1))], 128)), ((46, [lq 0 6 0, lq 1 1 1, lq 2 1 2, lq 3 0 3, lq 4 1 75, lq 5 1 76, lq 6 1 77], [], gi_714, [(false, ac_439), (false, ac_440)]), [], ([(77, (-1))], 128)), ((46, [lq 0 6 0, lq 1 1 1, lq 2 1 2, lq 3 0 2, lq 4 1 75, lq 5 1 76, lq 6 1 77], [], gi_715, [(false, ac_439), (false, ac_440)]), [], ([(77, (-1))], 128)), ((46, [lq 0 6 0, lq 1 0 0, lq 2 1 2, lq 3 0 1, lq 4 1 75, lq 5 1 76, lq 6 1 77], [], gi_716, [(false, ac_439), (false, ac_440)]), [], ([(77, (-1))], 128))]
theorem ch_1096 : staG tb_X12_power 1 bt_RX12 [] ct_1096 [(0, [(1, (2, 1, 6), 0, 0)])] [] cu_1096 52 con_1096 = true := by decide +kernel
theorem cc_1096 : cu_1096.all (cutG tb_X12_power 1 bt_RX12 [] ct_1096 [(0, [(1, (2, 1, 6), 0, 0)])] [] cu_1096 52 con_1096) = true := by decide +kernel
theorem cto_1096 (l : Launch) : CTOK2 l RX12 vwCl gTbl ct_1096 := ct2_cons (vl_1053 l) ck_RX12_240_1053 (ct2_cons (vl_1056 l) ck_RX12_240_1056 (ct2_cons (vl_1059 l) ck_RX12_240_1059 (ct2_cons (vl_1061 l) ck_RX12_240_1061 (ct2_cons (vl_1064 l) ck_RX12_240_1064 (ct2_cons (vl_1066 l) ck_RX12_240_1066 (ct2_cons (vl_1068 l) ck_RX12_240_1068 (ct2_cons (vl_1071 l) ck_RX12_240_1071 (ct2_cons (vl_648 l) ck_RX12_91_648 (ct2_cons (vl_1054 l) ck_RX12_298_1054 (ct2_cons (vl_1057 l) ck_RX12_298_1057 (ct2_cons (vl_1060 l) ck_RX12_298_1060 (ct2_cons (vl_1062 l) ck_RX12_298_1062 (ct2_cons (vl_1065 l) ck_RX12_298_1065 (ct2_cons (vl_1067 l) ck_RX12_298_1067 (ct2_cons (vl_1069 l) ck_RX12_298_1069 (ct2_cons (vl_390 l) ck_RX12_199_390 (ct2_cons (vl_1054 l) ck_RX12_298_1054 (ct2_cons (vl_1057 l) ck_RX12_298_1057 (ct2_cons (vl_1060 l) ck_RX12_298_1060 (ct2_cons (vl_1062 l) ck_RX12_298_1062 (ct2_cons (vl_1065 l) ck_RX12_298_1065 (ct2_cons (vl_1067 l) ck_RX12_298_1067 (ct2_cons (vl_1069 l) ck_RX12_298_1069 (ct2_cons (vl_1054 l) ck_RX12_298_1054 (ct2_cons (vl_1057 l) ck_RX12_298_1057 (ct2_cons (vl_1060 l) ck_RX12_298_1060 (ct2_cons (vl_1062 l) ck_RX12_298_1062 (ct2_cons (vl_1065 l) ck_RX12_298_1065 (ct2_cons (vl_1067 l) ck_RX12_298_1067 (ct2_cons (vl_1069 l) ck_RX12_298_1069 (ct2_cons (vl_662 l) ck_RX12_243_662 (ct2_cons (vl_1079 l) ck_RX12_252_1079 (ct2_cons (vl_1080 l) ck_RX12_316_1080 (ct2_cons (vl_1079 l) ck_RX12_252_1079 (ct2_cons (vl_1080 l) ck_RX12_316_1080 (ct2_cons (vl_1078 l) ck_RX12_316_1078 (ct2_cons (vl_1077 l) ck_RX12_316_1077 (ct2_cons (vl_1076 l) ck_RX12_316_1076 (ct2_cons (vl_1075 l) ck_RX12_316_1075 (ct2_cons (vl_1074 l) ck_RX12_316_1074 (ct2_cons (vl_1073 l) ck_RX12_316_1073 (ct2_cons (vl_1093 l) ck_RX12_316_1093 (ct2_cons (vl_1095 l) ck_RX12_319_1095 (ct2_cons (vl_1092 l) ck_RX12_319_1092 (ct2_cons (vl_1090 l) ck_RX12_319_1090 (ct2_cons (vl_1088 l) ck_RX12_319_1088 (ct2_cons (vl_1086 l) ck_RX12_319_1086 (ct2_cons (vl_1084 l) ck_RX12_319_1084 (ct2_cons (vl_1082 l) ck_RX12_319_1082 (ct2_nil))))))))))))))))))))))))))))))))))))))))))))))))))
theorem vl_1096 (l : Launch) : Vld2 l vwCl gTbl con_1096 := conR_ok3 gT_all (hd_1096) rfl pn_RX12 tk_X12_power bo_RX12 xo_RX12 (cto_1096 l) ch_1096 (cut_all cc_1096)
/-- RookHusting isDay -/
noncomputable def gi_717 : GI := jl_n [gp_192, gp_339, jl_z 15]
noncomputable def ac_591 : AC := .inl (4, jl_n [jl_1 22 2, jl_8 37 15])
noncomputable def gi_718 : GI := jl_n [gp_192, gp_339, jl_z 16]
noncomputable def hq_557 : HP := [(false, ac_431), (false, .inl (9, [(6, 2, 0), (8, 19, 0)])), (false, ac_591)]
noncomputable def gi_719 : GI := jl_n [gp_340, jl_z 18, jl_i 1 2147483647, jl_i 0 16, jl_z 16]
noncomputable def con_1097 : Con2 := ((yX11_isDay, cX11_isDay, 2, (some .boolean)), (1, 20), ([(6, 0, 0), (1, 1, 0)], gi_717, [ac_431, .inl (9, [(6, 2, 0), (8, 19, 0)]), ac_591], []), [((0, 0, 0), gi_718, hq_557, [], [1]), ((0, 1, 0), gi_719, hq_557, [], [1])])
theorem hd_1097 : con_1097.1 = (yX11_isDay, cX11_isDay, 2, (some .boolean)) := rfl
noncomputable def cu_1097 : List CUT2 := []
theorem ch_1097 : staG tb_X11_isDay 1 bt_RX11 [] ct_668 [] [] cu_1097 16 con_1097 = true := by decide +kernel
theorem vl_1097 (l : Launch) : Vld2 l vwCl gTbl con_1097 := conR_ok3 gT_all (hd_1097) rfl pn_RX11 tk_X11_isDay bo_RX11 xo_RX11 (cto_668 l) ch_1097 cut_nil
/-- RookHusting cellNow -/
noncomputable def gi_720 : GI := jl_n [jl_z 2, gp_341, gp_342]
noncomputable def ac_592 : AC := .inl (11, jl_n [jl_8 6 2, jl_6 3 1, jl_8 9 2, vp_94, jl_8 12 1, jl_6 17 1, jl_8 17 4, jl_1 18 1, jl_8 20 2])
noncomputable def ac_593 : AC := .inl (4, jl_n [vp_95, jl_8 30 1, jl_1 31 1, jl_8 32 1, jl_1 34 2, vp_96, vp_97, jl_8 42 2, jl_6 11 1])
noncomputable def ac_594 : AC := .inr (1, jl_n [js_1 79 30])
noncomputable def ac_595 : AC := .inr (1, jl_n [js_1 109 30])
noncomputable def ac_596 : AC := .inl (3, jl_n [vp_100, jl_1 118 2])
noncomputable def hc_141 : List AC := [ac_592, am_0, .inl (9, [(6, 4, 0), (6, 12, 0)]), .inl (7, [(6, 5, 0), (6, 6, 0), (6, 7, 0), (1, 25, 0)]), ac_593, am_3, am_1, am_1, am_1, .inl (1, [(6, 4, 0), (8, 44, 0)]), am_5, am_7, .inl (0, [(1, 45, 0), (6, 13, 0), (6, 14, 0), (6, 15, 0)]), ac_594, am_12, ac_595, ac_596, am_4, am_0, am_11, am_0, am_1, am_4, am_10, am_0, am_0, am_9]
noncomputable def rq_4 : RLs := [([(49, 12), (79, (-1))], 4), ([(50, 12), (80, (-1))], 4), ([(51, 12), (81, (-1))], 4), ([(52, 12), (82, (-1))], 4), ([(53, 12), (83, (-1))], 4), ([(54, 12), (84, (-1))], 4), ([(55, 12), (85, (-1))], 4), ([(56, 12), (86, (-1))], 4), ([(57, 12), (87, (-1))], 4), ([(58, 12), (88, (-1))], 4), ([(59, 12), (89, (-1))], 4), ([(60, 12), (90, (-1))], 4), ([(61, 12), (91, (-1))], 4), ([(62, 12), (92, (-1))], 4), ([(63, 12), (93, (-1))], 4), ([(64, 12), (94, (-1))], 4), ([(65, 12), (95, (-1))], 4), ([(66, 12), (96, (-1))], 4), ([(67, 12), (97, (-1))], 4), ([(68, 12), (98, (-1))], 4), ([(69, 12), (99, (-1))], 4), ([(70, 12), (100, (-1))], 4), ([(71, 12), (101, (-1))], 4), ([(72, 12), (102, (-1))], 4), ([(73, 12), (103, (-1))], 4), ([(74, 12), (104, (-1))], 4), ([(75, 12), (105, (-1))], 4), ([(76, 12), (106, (-1))], 4), ([(77, 12), (107, (-1))], 4), ([(78, 12), (108, (-1))], 4)]
noncomputable def gi_721 : GI := jl_n [jl_z 2, gp_341, gp_343]
noncomputable def ac_597 : AC := .inl (11, jl_n [jl_8 6 2, jl_6 3 1, jl_8 9 2, vp_94, jl_8 12 1, jl_6 17 1, jl_8 17 4, jl_c 1, jl_8 20 2])
noncomputable def ac_598 : AC := .inl (3, jl_n [vp_100, jl_1 148 2])
noncomputable def hq_558 : HP := [(true, ac_597), (true, am_0), (false, .inl (9, [(6, 4, 0), (6, 12, 0)])), (true, .inl (7, [(6, 5, 0), (6, 6, 0), (6, 7, 0), (1, 138, 0)])), (false, ac_593), (true, am_3), (true, am_1), (true, am_1), (false, am_1), (false, .inl (1, [(6, 4, 0), (8, 44, 0)])), (false, am_5), (false, am_7), (false, .inl (0, [(1, 45, 0), (6, 13, 0), (6, 14, 0), (6, 15, 0)])), (false, ac_594), (false, am_12), (false, ac_595), (true, ac_598), (false, am_4), (true, am_0), (false, am_11), (true, am_0), (true, am_1), (false, am_4), (false, am_10), (true, am_0), (true, am_0), (true, am_9)]
noncomputable def con_1098 : Con2 := ((yX11_cellNow, cX11_cellNow, 4, (some .int)), (6, 151), ([(6, 0, 0), (6, 1, 0), (1, 2, 0), (1, 3, 0)], gi_720, hc_141, rq_4), [((1, 118, 0), gi_721, hq_558, [], tg_15)])
theorem hd_1098 : con_1098.1 = (yX11_cellNow, cX11_cellNow, 4, (some .int)) := rfl
noncomputable def ct_1098 : CTB2 := [(1, 208, 0, con_900, [0, 2, 3, 4, 5, 6, 7, 8, 9, 10, 11, 12, 13, 14, 15, 16, 17, 18, 19, 20, 21, 1, 22, 23, 24, 25, 26])]
noncomputable def cu_1098 : List CUT2 := []
theorem ch_1098 : staG tb_X11_cellNow 1 bt_RX11 [] ct_1098 [] [] cu_1098 12 con_1098 = true := by decide +kernel
theorem cto_1098 (l : Launch) : CTOK2 l RX11 vwCl gTbl ct_1098 := ct2_cons (vl_900 l) ck_RX11_208_900 (ct2_nil)
theorem vl_1098 (l : Launch) : Vld2 l vwCl gTbl con_1098 := conR_ok3 gT_all (hd_1098) rfl pn_RX11 tk_X11_cellNow bo_RX11 xo_RX11 (cto_1098 l) ch_1098 cut_nil
/-- RookHusting fear -/
noncomputable def gi_722 : GI := jl_n [gp_162, gp_350]
noncomputable def ac_599 : AC := .inl (11, jl_n [vp_57, vp_101, jl_8 11 1, jl_6 4 1, jl_8 16 4, vp_102])
noncomputable def ac_600 : AC := .inl (4, jl_n [jl_1 24 3, vp_104, vp_107, jl_8 37 2, jl_6 12 1])
noncomputable def ac_601 : AC := .inl (3, jl_n [vp_108, jl_1 47 2])
noncomputable def ac_602 : AC := .inr (1, jl_n [js_1 87 30])
noncomputable def ac_603 : AC := .inr (1, jl_n [js_1 117 30])
noncomputable def hc_142 : List AC := [ac_599, .inl (9, [(6, 2, 0), (6, 13, 0)]), ac_600, ac_601, am_0, .inl (7, [(6, 6, 0), (6, 7, 0), (6, 8, 0), (1, 50, 0)]), am_3, am_1, am_1, am_1, .inl (1, [(6, 2, 0), (8, 52, 0)]), am_5, am_7, .inl (0, [(1, 53, 0), (6, 14, 0), (6, 15, 0), (6, 16, 0)]), ac_602, am_12, ac_603, am_4, am_0, am_11, am_0, am_1, am_4, am_10, am_0, am_0, am_9]
noncomputable def rq_5 : RLs := [([(57, 12), (87, (-1))], 4), ([(58, 12), (88, (-1))], 4), ([(59, 12), (89, (-1))], 4), ([(60, 12), (90, (-1))], 4), ([(61, 12), (91, (-1))], 4), ([(62, 12), (92, (-1))], 4), ([(63, 12), (93, (-1))], 4), ([(64, 12), (94, (-1))], 4), ([(65, 12), (95, (-1))], 4), ([(66, 12), (96, (-1))], 4), ([(67, 12), (97, (-1))], 4), ([(68, 12), (98, (-1))], 4), ([(69, 12), (99, (-1))], 4), ([(70, 12), (100, (-1))], 4), ([(71, 12), (101, (-1))], 4), ([(72, 12), (102, (-1))], 4), ([(73, 12), (103, (-1))], 4), ([(74, 12), (104, (-1))], 4), ([(75, 12), (105, (-1))], 4), ([(76, 12), (106, (-1))], 4), ([(77, 12), (107, (-1))], 4), ([(78, 12), (108, (-1))], 4), ([(79, 12), (109, (-1))], 4), ([(80, 12), (110, (-1))], 4), ([(81, 12), (111, (-1))], 4), ([(82, 12), (112, (-1))], 4), ([(83, 12), (113, (-1))], 4), ([(84, 12), (114, (-1))], 4), ([(85, 12), (115, (-1))], 4), ([(86, 12), (116, (-1))], 4)]
noncomputable def gi_723 : GI := jl_n [gp_162, gp_350, gp_353]
noncomputable def ac_604 : AC := .inl (11, jl_n [vp_57, vp_101, jl_8 11 1, jl_6 4 1, jl_8 16 4, jl_1 132 1, jl_8 19 2])
noncomputable def ac_605 : AC := .inl (3, jl_n [vp_108, jl_1 143 2])
noncomputable def hq_559 : HP := [(true, ac_604), (false, .inl (9, [(6, 2, 0), (6, 13, 0)])), (false, ac_600), (true, ac_605), (true, am_0), (true, .inl (7, [(6, 6, 0), (6, 7, 0), (6, 8, 0), (1, 146, 0)])), (true, am_3), (true, am_1), (true, am_1), (false, am_1), (false, .inl (1, [(6, 2, 0), (8, 52, 0)])), (false, am_5), (false, am_7), (false, .inl (0, [(1, 53, 0), (6, 14, 0), (6, 15, 0), (6, 16, 0)])), (false, ac_602), (false, am_12), (false, ac_603), (false, am_4), (true, am_0), (false, am_11), (true, am_0), (true, am_1), (false, am_4), (false, am_10), (true, am_0), (true, am_0), (true, am_9)]
noncomputable def con_1099 : Con2 := ((yX11_fear, cX11_fear, 3, (some .int)), (7, 174), ([(6, 0, 0), (1, 1, 0), (1, 2, 0)], gi_722, hc_142, rq_5), [((1, 117, 0), gi_723, hq_559, [], tg_15)])
theorem hd_1099 : con_1099.1 = (yX11_fear, cX11_fear, 3, (some .int)) := rfl
theorem ck_RX11_266_1098 : COK2 RX11 vwCl gTbl 266 0 con_1098 := ⟨wd_1023, wd_125, mh_X11_cellNow, .inr (.inr ⟨rfl, wd_1020, wd_1022, wd_32, ⟨_, rfl, pd_X11_cellNow⟩, 11, _, TX11, 16, rfl, rfl⟩)⟩
theorem ck_RX11_260_1097 : COK2 RX11 vwCl gTbl 260 0 con_1097 := ⟨wd_1019, wd_125, mh_X11_isDay, .inr (.inr ⟨rfl, wd_1016, wd_1018, wd_31, ⟨_, rfl, pd_X11_isDay⟩, 11, _, TX11, 16, rfl, rfl⟩)⟩
noncomputable def ct_1099 : CTB2 := [(2, 139, 0, con_643, [0, 1, 2]), (10, 260, 0, con_1097, [0, 1, 2]), (26, 266, 0, con_1098, [0, 4, 1, 5, 2, 6, 7, 8, 9, 10, 11, 12, 13, 14, 15, 16, 3, 17, 18, 19, 20, 21, 22, 23, 24, 25, 26])]
noncomputable def cu_1099 : List CUT2 := []
theorem ch_1099 : staG tb_X11_fear 1 bt_RX11 [] ct_1099 [] [] cu_1099 19 con_1099 = true := by decide +kernel
theorem cto_1099 (l : Launch) : CTOK2 l RX11 vwCl gTbl ct_1099 := ct2_cons (vl_643 l) ck_RX11_139_643 (ct2_cons (vl_1097 l) ck_RX11_260_1097 (ct2_cons (vl_1098 l) ck_RX11_266_1098 (ct2_nil)))
theorem vl_1099 (l : Launch) : Vld2 l vwCl gTbl con_1099 := conR_ok3 gT_all (hd_1099) rfl pn_RX11 tk_X11_fear bo_RX11 xo_RX11 (cto_1099 l) ch_1099 cut_nil
/-- RookHustingModel days -/
noncomputable def con_1100 : Con2 := ((yX12_days, cX12_days, 1, (some .int)), (0, 0), ([(6, 0, 0)], gi_299, [ac_435, ac_436], []), [((1, 46, 0), gi_300, [(false, ac_435), (false, ac_436)], [], [1])])
theorem hd_1100 : con_1100.1 = (yX12_days, cX12_days, 1, (some .int)) := rfl
noncomputable def cu_1100 : List CUT2 := []
theorem ch_1100 : staG tb_X12_days 1 bt_RX12 [] ct_2 [] [] cu_1100 7 con_1100 = true := by decide +kernel
theorem vl_1100 (l : Launch) : Vld2 l vwCl gTbl con_1100 := conR_ok3 gT_all (hd_1100) rfl pn_RX12 tk_X12_days bo_RX12 xo_RX12 (cto_2 l) ch_1100 cut_nil
/-- RookHustingModel fearOf -/
noncomputable def gi_724 : GI := jl_n [jl_z 1, gp_341, gp_355, jl_r 5 (jl_m 0 4), gp_124]
noncomputable def ac_606 : AC := .inl (12, jl_n [jl_8 4 1, jl_6 4 1, jl_8 22 17, jl_6 3 2, vp_103, jl_8 48 22])
noncomputable def ac_607 : AC := .inr (1, jl_n [js_1 53 5])
noncomputable def ac_608 : AC := .inr (1, jl_n [js_1 62 9, sp_124])
noncomputable def hc_143 : List AC := [ac_606, ac_607, am_1, ac_608]
noncomputable def gi_725 : GI := jl_n [jl_z 1, gp_341, gp_355, jl_r 5 (jl_m 0 4), gp_124, jl_i 0 2147483647]
noncomputable def hq_560 : HP := [(false, ac_606), (false, ac_607), (false, am_1), (false, ac_608)]
noncomputable def con_1102 : Con2 := ((yX12_fearOf, cX12_fearOf, 5, (some .int)), (1, 21), ([(6, 0, 0), (1, 1, 0), (1, 2, 0)], gi_724, hc_143, []), [((1, 76, 0), gi_725, hq_560, [], [1])])
theorem hd_1102 : con_1102.1 = (yX12_fearOf, cX12_fearOf, 5, (some .int)) := rfl
noncomputable def ct_1102 : CTB2 := [(31, 199, 1, con_390, []), (43, 199, 1, con_390, [])]
noncomputable def gi_726 : GI := jl_n [jl_z 1, jl_i 4 4, gp_356, jl_r 4 (jl_m 0 4), gp_341, jl_i 0 3, jl_i 0 10, gp_122, jl_z 17, gp_357]
noncomputable def gi_727 : GI := jl_n [jl_z 1, jl_i 3 3, gp_356, jl_r 3 (jl_m 0 4), jl_i 0 4, jl_m 0 4, gp_358]
noncomputable def gi_728 : GI := jl_n [gp_299, gp_356, jl_r 2 (jl_m 0 4), jl_i 0 4, jl_r 2 (jl_m 0 4), gp_358]
noncomputable def gi_729 : GI := jl_n [gp_300, gp_356, jl_m 0 4, jl_i 0 4, jl_r 3 (jl_m 0 4), gp_358]
noncomputable def gi_730 : GI := jl_n [gp_359, gp_355, jl_i 0 4, jl_r 4 (jl_m 0 4), gp_358]
noncomputable def cu_1102 : List CUT2 := [((17, [lq 0 6 0, lq 1 0 4, lq 2 1 2, lq 3 1 79, lq 4 1 80], [], gi_726, hq_560), [], ([(80, (-1))], 17)), ((17, [lq 0 6 0, lq 1 0 3, lq 2 1 2, lq 3 1 79, lq 4 1 80], [], gi_727, hq_560), [], ([(80, (-1))], 17)), ((17, [lq 0 6 0, lq 1 0 2, lq 2 1 2, lq 3 1 79, lq 4 1 80], [], gi_728, hq_560), [], ([(80, (-1))], 17)), ((17, [lq 0 6 0, lq 1 0 1, lq 2 1 2, lq 3 1 79, lq 4 1 80], [], gi_729, hq_560), [], ([(80, (-1))], 17)), ((17, [lq 0 6 0, lq 1 0 0, lq 2 1 2, lq 3 1 79, lq 4 1 80], [], gi_730, hq_560), [], ([(80, (-1))], 17))]
theorem ch_1102 : staG tb_X12_fearOf 1 bt_RX12 [] ct_1102 [(0, [(1, (1, 1, 0), 0, 0)])] [] cu_1102 35 con_1102 = true := by decide +kernel
theorem cc_1102 : cu_1102.all (cutG tb_X12_fearOf 1 bt_RX12 [] ct_1102 [(0, [(1, (1, 1, 0), 0, 0)])] [] cu_1102 35 con_1102) = true := by decide +kernel
theorem cto_1102 (l : Launch) : CTOK2 l RX12 vwCl gTbl ct_1102 := ct2_cons (vl_390 l) ck_RX12_199_390 (ct2_cons (vl_390 l) ck_RX12_199_390 (ct2_nil))
theorem vl_1102 (l : Launch) : Vld2 l vwCl gTbl con_1102 := conR_ok3 gT_all (hd_1102) rfl pn_RX12 tk_X12_fearOf bo_RX12 xo_RX12 (cto_1102 l) ch_1102 (cut_all cc_1102)
/-- RookHustingModel flyTo -/
noncomputable def gi_731 : GI := jl_n [gp_52, jl_i 0 15, gp_174]
noncomputable def ac_609 : AC := .inl (12, jl_n [vp_41, jl_8 26 21, jl_1 28 2, jl_6 3 1, jl_8 48 19])
noncomputable def hc_144 : List AC := [ac_609, ac_440, am_0]
noncomputable def gi_732 : GI := jl_n [gp_52, jl_i 0 15, gp_174, jl_m 0 4]
noncomputable def hq_561 : HP := [(false, ac_609), (false, ac_440), (false, am_0)]
noncomputable def con_1105 : Con2 := ((yX12_flyTo, cX12_flyTo, 5, (some .int)), (1, 25), ([(6, 0, 0), (1, 1, 0), (1, 2, 0)], gi_731, hc_144, []), [((1, 71, 0), gi_732, hq_561, [], [1])])
theorem hd_1105 : con_1105.1 = (yX12_flyTo, cX12_flyTo, 5, (some .int)) := rfl
noncomputable def ct_1105 : CTB2 := [(8, 106, 0, con_646, [0, 1]), (16, 348, 0, con_651, [0, 1]), (21, 199, 1, con_390, [])]
noncomputable def gi_733 : GI := jl_n [gp_52, jl_i 0 15, gp_173, gp_224, gp_225]
noncomputable def cu_1105 : List CUT2 := [((5, [lq 0 6 0, lq 1 1 1, lq 2 1 2, lq 3 1 74, lq 4 1 75], [], gi_733, hq_561), [], ([(75, (-1))], 5))]
theorem ch_1105 : staG tb_X12_flyTo 1 bt_RX12 [] ct_1105 [] [] cu_1105 38 con_1105 = true := by decide +kernel
theorem cc_1105 : cu_1105.all (cutG tb_X12_flyTo 1 bt_RX12 [] ct_1105 [] [] cu_1105 38 con_1105) = true := by decide +kernel
theorem cto_1105 (l : Launch) : CTOK2 l RX12 vwCl gTbl ct_1105 := ct2_cons (vl_646 l) ck_RX12_106_646 (ct2_cons (vl_651 l) ck_RX12_348_651 (ct2_cons (vl_390 l) ck_RX12_199_390 (ct2_nil)))
theorem vl_1105 (l : Launch) : Vld2 l vwCl gTbl con_1105 := conR_ok3 gT_all (hd_1105) rfl pn_RX12 tk_X12_flyTo bo_RX12 xo_RX12 (cto_1105 l) ch_1105 (cut_all cc_1105)
/-- RookHustingModel goDay -/
noncomputable def gi_734 : GI := jl_n [gp_228, gp_360, gp_172, gp_124]
noncomputable def ac_610 : AC := .inl (12, jl_n [jl_8 3 1, jl_6 3 1, jl_8 23 19, vp_109, jl_6 8 1, jl_6 7 4, jl_6 2 1, jl_8 47 14])
noncomputable def hc_145 : List AC := [ac_610, am_13, ac_438, am_0, am_0, am_14, am_15, am_0]
noncomputable def hq_562 : HP := [(false, ac_610), (true, am_13), (false, ac_438), (true, am_0), (true, am_0), (true, am_14), (true, am_15), (false, am_0)]
noncomputable def con_1107 : Con2 := ((yX12_goDay, cX12_goDay, 7, none), (2, 49), ([(6, 0, 0), (1, 1, 0)], gi_734, hc_145, []), [((9, 0, 0), gi_734, hq_562, [], [])])
theorem hd_1107 : con_1107.1 = (yX12_goDay, cX12_goDay, 7, none) := rfl
theorem ck_RX12_354_1105 : COK2 RX12 vwCl gTbl 354 0 con_1105 := ⟨wd_1898, wd_137, mh_X12_flyTo, .inr (.inr ⟨rfl, wd_1895, wd_1897, wd_100, ⟨_, rfl, pd_X12_flyTo⟩, 12, _, TX12, 45, rfl, rfl⟩)⟩
noncomputable def ct_1107 : CTB2 := [(21, 106, 0, con_646, [0, 2]), (94, 199, 1, con_390, []), (108, 106, 0, con_646, [0, 2]), (204, 354, 0, con_1105, [0, 2, 7])]
noncomputable def gi_735 : GI := jl_n [gp_228, gp_360, gp_172, gp_123, jl_z 16, jl_i 0 75, jl_i 5 80, jl_i 0 5]
noncomputable def cu_1107 : List CUT2 := [((18, [lq 0 6 0, lq 1 1 1, lq 2 1 72, lq 3 1 73, lq 4 1 74], [], gi_735, hq_562), [], ([(74, (-1))], 11)), ((105, [lq 0 6 0, lq 1 1 1, lq 2 1 72, lq 3 1 73, lq 4 1 74], [], gi_735, hq_562), [], ([(74, (-1))], 5))]
theorem ch_1107 : staG tb_X12_goDay 1 bt_RX12 [] ct_1107 [] [] cu_1107 104 con_1107 = true := by decide +kernel
theorem cc_1107 : cu_1107.all (cutG tb_X12_goDay 1 bt_RX12 [] ct_1107 [] [] cu_1107 104 con_1107) = true := by decide +kernel
theorem cto_1107 (l : Launch) : CTOK2 l RX12 vwCl gTbl ct_1107 := ct2_cons (vl_646 l) ck_RX12_106_646 (ct2_cons (vl_390 l) ck_RX12_199_390 (ct2_cons (vl_646 l) ck_RX12_106_646 (ct2_cons (vl_1105 l) ck_RX12_354_1105 (ct2_nil))))
theorem vl_1107 (l : Launch) : Vld2 l vwCl gTbl con_1107 := conR_ok3 gT_all (hd_1107) rfl pn_RX12 tk_X12_goDay bo_RX12 xo_RX12 (cto_1107 l) ch_1107 (cut_all cc_1107)
/-- RookHustingModel goAll -/
noncomputable def ac_611 : AC := .inl (12, jl_n [vp_110, jl_6 6 2, jl_1 26 4, jl_6 7 1, vp_44, vp_111, jl_8 46 14])
noncomputable def hc_146 : List AC := [ac_611, ac_436, am_0, am_0, am_3, am_1, am_0, am_13, am_14, am_15]
noncomputable def hq_563 : HP := [(false, ac_611), (false, ac_436), (true, am_0), (true, am_0), (false, am_3), (false, am_1), (true, am_0), (true, am_13), (true, am_14), (true, am_15)]
noncomputable def con_1108 : Con2 := ((yX12_goAll, cX12_goAll, 3, none), (3, 75), ([(6, 0, 0)], gi_496, hc_146, []), [((9, 0, 0), gi_496, hq_563, [], [])])
theorem hd_1108 : con_1108.1 = (yX12_goAll, cX12_goAll, 3, none) := rfl
theorem ck_RX12_360_1107 : COK2 RX12 vwCl gTbl 360 0 con_1107 := ⟨wd_1894, wd_137, mh_X12_goDay, .inr (.inr ⟨rfl, wd_1891, wd_1893, wd_99, ⟨_, rfl, pd_X12_goDay⟩, 12, _, TX12, 45, rfl, rfl⟩)⟩
theorem ck_RX12_103_1100 : COK2 RX12 vwCl gTbl 103 0 con_1100 := ⟨wd_1885, wd_137, mh_X12_days, .inr (.inr ⟨rfl, wd_1882, wd_1884, wd_97, ⟨_, rfl, pd_X12_days⟩, 12, _, TX12, 45, rfl, rfl⟩)⟩
theorem ck_RX12_357_1102 : COK2 RX12 vwCl gTbl 357 0 con_1102 := ⟨wd_1889, wd_137, mh_X12_fearOf, .inr (.inr ⟨rfl, wd_1886, wd_1888, wd_98, ⟨_, rfl, pd_X12_fearOf⟩, 12, _, TX12, 45, rfl, rfl⟩)⟩
noncomputable def ct_1108 : CTB2 := [(4, 106, 0, con_646, [0, 1]), (56, 103, 0, con_1100, [0, 1]), (66, 106, 0, con_646, [0, 1]), (84, 357, 0, con_1102, [0, 4, 5, 1]), (104, 103, 0, con_1100, [0, 1]), (112, 360, 0, con_1107, [0, 7, 1, 3, 2, 8, 9, 6])]
noncomputable def hq_564 : HP := [(false, ac_611), (false, ac_436), (true, am_0), (true, am_0), (false, am_3), (false, am_1), (false, am_0), (false, am_13), (false, am_14), (false, am_15)]
noncomputable def gi_736 : GI := jl_n [gp_285, jl_i 0 17]
noncomputable def hq_565 : HP := [(false, ac_611), (false, ac_436), (true, am_0), (true, am_0), (false, am_3), (false, am_1), (true, am_0), (false, am_13), (false, am_14), (false, am_15)]
noncomputable def gi_737 : GI := jl_n [gp_285, jl_i 0 16, jl_i 0 5]
noncomputable def gi_738 : GI := jl_n [gp_285, jl_i 0 16]
noncomputable def cu_1108 : List CUT2 := [((2, [lq 0 6 0, lq 1 1 70], [], gi_498, hq_564), [], ([(70, (-1))], 148)), ((54, [lq 0 6 0, lq 1 1 70], [], gi_736, hq_565), [], ([(70, (-7))], 142)), ((64, [lq 0 6 0, lq 1 1 70, lq 2 1 71], [], gi_737, hq_565), [], ([(70, (-7)), (71, (-1))], 141)), ((102, [lq 0 6 0, lq 1 1 70], [], gi_738, hq_563), [], ([(70, (-1))], 16))]
theorem ch_1108 : staG tb_X12_goAll 1 bt_RX12 [] ct_1108 [] [] cu_1108 35 con_1108 = true := by decide +kernel
theorem cc_1108 : cu_1108.all (cutG tb_X12_goAll 1 bt_RX12 [] ct_1108 [] [] cu_1108 35 con_1108) = true := by decide +kernel
theorem cto_1108 (l : Launch) : CTOK2 l RX12 vwCl gTbl ct_1108 := ct2_cons (vl_646 l) ck_RX12_106_646 (ct2_cons (vl_1100 l) ck_RX12_103_1100 (ct2_cons (vl_646 l) ck_RX12_106_646 (ct2_cons (vl_1102 l) ck_RX12_357_1102 (ct2_cons (vl_1100 l) ck_RX12_103_1100 (ct2_cons (vl_1107 l) ck_RX12_360_1107 (ct2_nil))))))
theorem vl_1108 (l : Launch) : Vld2 l vwCl gTbl con_1108 := conR_ok3 gT_all (hd_1108) rfl pn_RX12 tk_X12_goAll bo_RX12 xo_RX12 (cto_1108 l) ch_1108 (cut_all cc_1108)
/-- RookHustingModel asksHundred -/
noncomputable def ac_612 : AC := .inl (12, jl_n [vp_46, jl_6 7 3, jl_1 26 4, vp_113])
noncomputable def hc_147 : List AC := [ac_612, ac_436, am_8, am_6, am_3, am_3, am_1, am_0, am_0, am_0, am_13, am_14, am_15]
noncomputable def gi_739 : GI := jl_n [gp_292, gp_15, jl_i 0 30, jl_z 61]
noncomputable def ac_613 : AC := .inl (12, jl_n [vp_87, vp_114, jl_8 46 14])
noncomputable def hq_566 : HP := [(true, ac_613), (false, ac_436), (true, am_8), (true, am_6), (true, am_3), (true, am_3), (true, am_1), (true, am_0), (true, am_0), (true, am_0), (true, am_13), (true, am_14), (true, am_15)]
noncomputable def gi_740 : GI := jl_n [gp_292, gp_15, gp_203, jl_z 60]
noncomputable def con_1109 : Con2 := ((yX12_asksHundred, cX12_asksHundred, 1, (some .boolean)), (8, 188), ([(6, 0, 0)], gi_505, hc_147, []), [((0, 0, 0), gi_739, hq_566, [], tg_1), ((0, 1, 0), gi_740, hq_566, [], tg_1)])
theorem hd_1109 : con_1109.1 = (yX12_asksHundred, cX12_asksHundred, 1, (some .boolean)) := rfl
theorem ck_RX12_363_1108 : COK2 RX12 vwCl gTbl 363 0 con_1108 := ⟨wd_1881, wd_137, mh_X12_goAll, .inr (.inr ⟨rfl, wd_1878, wd_1880, wd_96, ⟨_, rfl, pd_X12_goAll⟩, 12, _, TX12, 45, rfl, rfl⟩)⟩
noncomputable def ct_1109 : CTB2 := [(1, 345, 0, con_905, [0, 1, 2, 3, 4, 5, 6]), (5, 363, 0, con_1108, [0, 1, 7, 8, 5, 6, 9, 10, 11, 12]), (9, 99, 0, con_673, [0, 1])]
noncomputable def cu_1109 : List CUT2 := []
theorem ch_1109 : staG tb_X12_asksHundred 1 bt_RX12 [] ct_1109 [] [] cu_1109 9 con_1109 = true := by decide +kernel
theorem cto_1109 (l : Launch) : CTOK2 l RX12 vwCl gTbl ct_1109 := ct2_cons (vl_905 l) ck_RX12_345_905 (ct2_cons (vl_1108 l) ck_RX12_363_1108 (ct2_cons (vl_673 l) ck_RX12_99_673 (ct2_nil)))
theorem vl_1109 (l : Launch) : Vld2 l vwCl gTbl con_1109 := conR_ok3 gT_all (hd_1109) rfl pn_RX12 tk_X12_asksHundred bo_RX12 xo_RX12 (cto_1109 l) ch_1109 cut_nil
/-- RookHustingModel in -/
noncomputable def gi_741 : GI := jl_n [gp_129, jl_i 0 16]
noncomputable def gi_742 : GI := jl_n [gp_129, gp_361]
noncomputable def con_1110 : Con2 := ((yX12_in, cX12_in, 6, (some .boolean)), (0, 0), ([(4, 0, 0), (3, 0, 0), (4, 2, 0)], gi_741, [], []), [((0, 0, 0), gi_742, [], [], [1]), ((0, 1, 0), [(0, 16), (0, 0), (0, 16), (0, 0)], [], [], [1])])
theorem hd_1110 : con_1110.1 = (yX12_in, cX12_in, 6, (some .boolean)) := rfl
noncomputable def cu_1110 : List CUT2 := []
theorem ch_1110 : staG tb_X12_in 1 bt_RX12 [] ct_2 [] [] cu_1110 11 con_1110 = true := by decide +kernel
theorem vl_1110 (l : Launch) : Vld2 l vwCl gTbl con_1110 := conR_ok3 gT_all (hd_1110) rfl pn_RX12 tk_X12_in bo_RX12 xo_RX12 (cto_2 l) ch_1110 cut_nil
/-- RookHustingModel isDay -/
noncomputable def gi_743 : GI := jl_n [gp_340, gp_206, gp_204]
noncomputable def con_1111 : Con2 := ((yX12_isDay, cX12_isDay, 3, (some .boolean)), (1, 25), ([(6, 0, 0), (4, 1, 0)], gi_301, [ac_437, ac_438], []), [((0, 0, 0), gi_302, [(false, ac_437), (false, ac_438)], [], [1]), ((0, 1, 0), gi_743, [(false, ac_437), (false, ac_438)], [], [1])])
theorem hd_1111 : con_1111.1 = (yX12_isDay, cX12_isDay, 3, (some .boolean)) := rfl
theorem ck_RX12_91_1110 : COK2 RX12 vwCl gTbl 91 1 con_1110 := ⟨wd_1544, wd_137, mh_X12_in, .inl ⟨rfl, wd_1542, wd_1543, pd_X12_in⟩⟩
noncomputable def ct_1111 : CTB2 := [(1, 99, 0, con_673, [0, 1]), (10, 103, 0, con_1100, [0, 1]), (14, 91, 1, con_1110, [])]
noncomputable def cu_1111 : List CUT2 := []
theorem ch_1111 : staG tb_X12_isDay 1 bt_RX12 [] ct_1111 [] [] cu_1111 15 con_1111 = true := by decide +kernel
theorem cto_1111 (l : Launch) : CTOK2 l RX12 vwCl gTbl ct_1111 := ct2_cons (vl_673 l) ck_RX12_99_673 (ct2_cons (vl_1100 l) ck_RX12_103_1100 (ct2_cons (vl_1110 l) ck_RX12_91_1110 (ct2_nil)))
theorem vl_1111 (l : Launch) : Vld2 l vwCl gTbl con_1111 := conR_ok3 gT_all (hd_1111) rfl pn_RX12 tk_X12_isDay bo_RX12 xo_RX12 (cto_1111 l) ch_1111 cut_nil
/-- RookHustingModel asksDay -/
noncomputable def ac_614 : AC := .inl (12, jl_n [vp_60, jl_6 7 3, jl_1 27 4, vp_112, jl_8 47 14])
noncomputable def hc_148 : List AC := [ac_614, ac_438, am_8, am_6, am_3, am_3, am_1, am_0, am_0, am_0, am_13, am_14, am_15]
noncomputable def gi_744 : GI := jl_n [gp_7, gp_288, gp_123, jl_z 60]
noncomputable def ac_615 : AC := .inl (12, jl_n [vp_58, vp_86, vp_114, jl_8 47 14])
noncomputable def hq_567 : HP := [(true, ac_615), (false, ac_438), (true, am_8), (true, am_6), (true, am_3), (true, am_3), (true, am_1), (true, am_0), (true, am_0), (true, am_0), (true, am_13), (true, am_14), (true, am_15)]
noncomputable def gi_745 : GI := jl_n [gp_340, gp_288, gp_15, gp_203, jl_z 60]
noncomputable def con_1112 : Con2 := ((yX12_asksDay, cX12_asksDay, 2, (some .boolean)), (9, 208), ([(6, 0, 0), (1, 1, 0)], gi_508, hc_148, []), [((0, 0, 0), gi_744, hq_567, [], tg_1), ((0, 1, 0), gi_745, hq_567, [], tg_1)])
theorem hd_1112 : con_1112.1 = (yX12_asksDay, cX12_asksDay, 2, (some .boolean)) := rfl
theorem ck_RX12_369_1111 : COK2 RX12 vwCl gTbl 369 0 con_1111 := ⟨wd_1902, wd_137, mh_X12_isDay, .inr (.inr ⟨rfl, wd_1899, wd_1901, wd_101, ⟨_, rfl, pd_X12_isDay⟩, 12, _, TX12, 45, rfl, rfl⟩)⟩
theorem ck_RX12_366_1109 : COK2 RX12 vwCl gTbl 366 0 con_1109 := ⟨wd_1877, wd_137, mh_X12_asksHundred, .inr (.inr ⟨rfl, wd_1874, wd_1876, wd_95, ⟨_, rfl, pd_X12_asksHundred⟩, 12, _, TX12, 45, rfl, rfl⟩)⟩
noncomputable def ct_1112 : CTB2 := [(1, 366, 0, con_1109, [0, 1, 2, 3, 4, 5, 6, 7, 8, 9, 10, 11, 12]), (8, 369, 0, con_1111, [0, 1])]
noncomputable def cu_1112 : List CUT2 := []
theorem ch_1112 : staG tb_X12_asksDay 1 bt_RX12 [] ct_1112 [] [] cu_1112 10 con_1112 = true := by decide +kernel
theorem cto_1112 (l : Launch) : CTOK2 l RX12 vwCl gTbl ct_1112 := ct2_cons (vl_1109 l) ck_RX12_366_1109 (ct2_cons (vl_1111 l) ck_RX12_369_1111 (ct2_nil))
theorem vl_1112 (l : Launch) : Vld2 l vwCl gTbl con_1112 := conR_ok3 gT_all (hd_1112) rfl pn_RX12 tk_X12_asksDay bo_RX12 xo_RX12 (cto_1112 l) ch_1112 cut_nil
/-- RookHustingModel fear -/
noncomputable def gi_746 : GI := jl_n [gp_362]
noncomputable def ac_616 : AC := .inl (12, jl_n [vp_50, jl_6 7 3, jl_1 28 4, vp_112, jl_8 48 14])
noncomputable def hc_149 : List AC := [ac_616, ac_440, am_8, am_6, am_3, am_3, am_1, am_0, am_0, am_0, am_13, am_14, am_15]
noncomputable def gi_747 : GI := jl_n [gp_362, gp_176]
noncomputable def ac_617 : AC := .inl (12, jl_n [vp_48, vp_86, vp_114, jl_8 48 14])
noncomputable def hq_568 : HP := [(true, ac_617), (false, ac_440), (true, am_8), (true, am_6), (true, am_3), (true, am_3), (true, am_1), (true, am_0), (true, am_0), (true, am_0), (true, am_13), (true, am_14), (true, am_15)]
noncomputable def con_1113 : Con2 := ((yX12_fear, cX12_fear, 3, (some .int)), (10, 229), ([(6, 0, 0), (1, 1, 0), (1, 2, 0)], gi_746, hc_149, []), [((1, 71, 0), gi_747, hq_568, [], tg_1)])
theorem hd_1113 : con_1113.1 = (yX12_fear, cX12_fear, 3, (some .int)) := rfl
theorem ck_RX12_378_1112 : COK2 RX12 vwCl gTbl 378 0 con_1112 := ⟨wd_1873, wd_137, mh_X12_asksDay, .inr (.inr ⟨rfl, wd_1870, wd_1872, wd_94, ⟨_, rfl, pd_X12_asksDay⟩, 12, _, TX12, 45, rfl, rfl⟩)⟩
noncomputable def ct_1113 : CTB2 := [(2, 378, 0, con_1112, [0, 1, 2, 3, 4, 5, 6, 7, 8, 9, 10, 11, 12]), (11, 109, 0, con_647, [0, 1])]
noncomputable def cu_1113 : List CUT2 := []
theorem ch_1113 : staG tb_X12_fear 1 bt_RX12 [] ct_1113 [] [] cu_1113 21 con_1113 = true := by decide +kernel
theorem cto_1113 (l : Launch) : CTOK2 l RX12 vwCl gTbl ct_1113 := ct2_cons (vl_1112 l) ck_RX12_378_1112 (ct2_cons (vl_647 l) ck_RX12_109_647 (ct2_nil))
theorem vl_1113 (l : Launch) : Vld2 l vwCl gTbl con_1113 := conR_ok3 gT_all (hd_1113) rfl pn_RX12 tk_X12_fear bo_RX12 xo_RX12 (cto_1113 l) ch_1113 cut_nil
/-- RookHusting cellNow -/
noncomputable def ac_618 : AC := .inl (4, jl_n [vp_95, jl_8 30 1, jl_1 31 1, jl_8 32 1, jl_1 34 2, vp_115, vp_97, jl_8 42 2, jl_6 11 1])
noncomputable def ac_619 : AC := .inl (3, jl_n [vp_116, jl_1 118 2])
noncomputable def hc_150 : List AC := [ac_592, am_0, .inl (9, [(6, 4, 0), (6, 12, 0)]), .inl (7, [(6, 5, 0), (6, 6, 0), (6, 7, 0), (1, 25, 0)]), ac_618, am_3, am_1, am_1, am_1, .inl (1, [(6, 4, 0), (8, 44, 0)]), am_5, am_7, .inl (0, [(1, 45, 0), (6, 13, 0), (6, 14, 0), (6, 15, 0)]), ac_594, am_12, ac_595, ac_619, am_4, am_11, am_0, am_1, am_0, am_4, am_10, am_0, am_0, am_9]
noncomputable def ac_620 : AC := .inl (3, jl_n [vp_116, jl_1 148 2])
noncomputable def hq_569 : HP := [(true, ac_597), (true, am_0), (false, .inl (9, [(6, 4, 0), (6, 12, 0)])), (true, .inl (7, [(6, 5, 0), (6, 6, 0), (6, 7, 0), (1, 138, 0)])), (false, ac_618), (true, am_3), (true, am_1), (true, am_1), (false, am_1), (false, .inl (1, [(6, 4, 0), (8, 44, 0)])), (false, am_5), (false, am_7), (false, .inl (0, [(1, 45, 0), (6, 13, 0), (6, 14, 0), (6, 15, 0)])), (false, ac_594), (false, am_12), (false, ac_595), (true, ac_620), (false, am_4), (false, am_11), (true, am_0), (true, am_1), (true, am_0), (false, am_4), (false, am_10), (true, am_0), (true, am_0), (true, am_9)]
noncomputable def con_1114 : Con2 := ((yX11_cellNow, cX11_cellNow, 4, (some .int)), (6, 151), ([(6, 0, 0), (6, 1, 0), (1, 2, 0), (1, 3, 0)], gi_720, hc_150, rq_4), [((1, 118, 0), gi_721, hq_569, [], tg_15)])
theorem hd_1114 : con_1114.1 = (yX11_cellNow, cX11_cellNow, 4, (some .int)) := rfl
noncomputable def ct_1114 : CTB2 := [(1, 208, 0, con_900, [0, 2, 3, 4, 5, 6, 7, 8, 9, 10, 11, 12, 13, 14, 15, 16, 17, 1, 18, 19, 20, 21, 22, 23, 24, 25, 26])]
noncomputable def cu_1114 : List CUT2 := []
theorem ch_1114 : staG tb_X11_cellNow 1 bt_RX11 [] ct_1114 [] [] cu_1114 12 con_1114 = true := by decide +kernel
theorem cto_1114 (l : Launch) : CTOK2 l RX11 vwCl gTbl ct_1114 := ct2_cons (vl_900 l) ck_RX11_208_900 (ct2_nil)
theorem vl_1114 (l : Launch) : Vld2 l vwCl gTbl con_1114 := conR_ok3 gT_all (hd_1114) rfl pn_RX11 tk_X11_cellNow bo_RX11 xo_RX11 (cto_1114 l) ch_1114 cut_nil
/-- RookHusting rooks -/
noncomputable def ac_621 : AC := .inl (4, jl_n [jl_1 24 3, vp_104, vp_115, jl_6 10 1, vp_106, jl_8 37 2, jl_6 12 1])
noncomputable def ac_622 : AC := .inl (3, jl_n [vp_117, jl_1 47 2])
noncomputable def hc_151 : List AC := [ac_599, .inl (9, [(6, 2, 0), (6, 13, 0)]), ac_621, ac_622, am_0, .inl (7, [(6, 6, 0), (6, 7, 0), (6, 8, 0), (1, 50, 0)]), am_3, am_1, am_1, am_1, .inl (1, [(6, 2, 0), (8, 52, 0)]), am_5, am_7, .inl (0, [(1, 53, 0), (6, 14, 0), (6, 15, 0), (6, 16, 0)]), ac_602, am_12, ac_603, am_4, am_11, am_0, am_1, am_0, am_4, am_10, am_0, am_0, am_9]
noncomputable def ac_623 : AC := .inl (3, jl_n [vp_117, jl_1 143 2])
noncomputable def hq_570 : HP := [(true, ac_604), (false, .inl (9, [(6, 2, 0), (6, 13, 0)])), (false, ac_621), (true, ac_623), (true, am_0), (true, .inl (7, [(6, 6, 0), (6, 7, 0), (6, 8, 0), (1, 146, 0)])), (true, am_3), (true, am_1), (true, am_1), (false, am_1), (false, .inl (1, [(6, 2, 0), (8, 52, 0)])), (false, am_5), (false, am_7), (false, .inl (0, [(1, 53, 0), (6, 14, 0), (6, 15, 0), (6, 16, 0)])), (false, ac_602), (false, am_12), (false, ac_603), (false, am_4), (false, am_11), (true, am_0), (true, am_1), (true, am_0), (false, am_4), (false, am_10), (true, am_0), (true, am_0), (true, am_9)]
noncomputable def con_1115 : Con2 := ((yX11_rooks, cX11_rooks, 3, (some .int)), (7, 174), ([(6, 0, 0), (1, 1, 0), (1, 2, 0)], gi_722, hc_151, rq_5), [((1, 117, 0), gi_723, hq_570, [], tg_15)])
theorem hd_1115 : con_1115.1 = (yX11_rooks, cX11_rooks, 3, (some .int)) := rfl
theorem ck_RX11_266_1114 : COK2 RX11 vwCl gTbl 266 0 con_1114 := ⟨wd_1023, wd_125, mh_X11_cellNow, .inr (.inr ⟨rfl, wd_1020, wd_1022, wd_32, ⟨_, rfl, pd_X11_cellNow⟩, 11, _, TX11, 16, rfl, rfl⟩)⟩
noncomputable def ct_1115 : CTB2 := [(2, 139, 0, con_643, [0, 1, 2]), (10, 260, 0, con_1097, [0, 1, 2]), (26, 266, 0, con_1114, [0, 4, 1, 5, 2, 6, 7, 8, 9, 10, 11, 12, 13, 14, 15, 16, 3, 17, 18, 19, 20, 21, 22, 23, 24, 25, 26])]
noncomputable def cu_1115 : List CUT2 := []
theorem ch_1115 : staG tb_X11_rooks 1 bt_RX11 [] ct_1115 [] [] cu_1115 19 con_1115 = true := by decide +kernel
theorem cto_1115 (l : Launch) : CTOK2 l RX11 vwCl gTbl ct_1115 := ct2_cons (vl_643 l) ck_RX11_139_643 (ct2_cons (vl_1097 l) ck_RX11_260_1097 (ct2_cons (vl_1114 l) ck_RX11_266_1114 (ct2_nil)))
theorem vl_1115 (l : Launch) : Vld2 l vwCl gTbl con_1115 := conR_ok3 gT_all (hd_1115) rfl pn_RX11 tk_X11_rooks bo_RX11 xo_RX11 (cto_1115 l) ch_1115 cut_nil
/-- RookHustingModel rooks -/
noncomputable def con_1116 : Con2 := ((yX12_rooks, cX12_rooks, 3, (some .int)), (10, 229), ([(6, 0, 0), (1, 1, 0), (1, 2, 0)], gi_746, hc_149, []), [((1, 71, 0), gi_747, hq_568, [], tg_1)])
theorem hd_1116 : con_1116.1 = (yX12_rooks, cX12_rooks, 3, (some .int)) := rfl
noncomputable def cu_1116 : List CUT2 := []
theorem ch_1116 : staG tb_X12_rooks 1 bt_RX12 [] ct_1113 [] [] cu_1116 21 con_1116 = true := by decide +kernel
theorem vl_1116 (l : Launch) : Vld2 l vwCl gTbl con_1116 := conR_ok3 gT_all (hd_1116) rfl pn_RX12 tk_X12_rooks bo_RX12 xo_RX12 (cto_1113 l) ch_1116 cut_nil
/-- RookHusting cellNow -/
noncomputable def ac_624 : AC := .inl (3, jl_n [vp_119, jl_1 118 2])
noncomputable def hc_152 : List AC := [ac_592, am_0, .inl (9, [(6, 4, 0), (6, 12, 0)]), .inl (7, [(6, 5, 0), (6, 6, 0), (6, 7, 0), (1, 25, 0)]), ac_593, am_3, am_1, am_1, am_1, .inl (1, [(6, 4, 0), (8, 44, 0)]), am_5, am_7, .inl (0, [(1, 45, 0), (6, 13, 0), (6, 14, 0), (6, 15, 0)]), ac_594, am_12, ac_595, ac_624, am_4, am_0, am_11, am_1, am_0, am_4, am_10, am_0, am_0, am_9]
noncomputable def ac_625 : AC := .inl (3, jl_n [vp_119, jl_1 148 2])
noncomputable def hq_571 : HP := [(true, ac_597), (true, am_0), (false, .inl (9, [(6, 4, 0), (6, 12, 0)])), (true, .inl (7, [(6, 5, 0), (6, 6, 0), (6, 7, 0), (1, 138, 0)])), (false, ac_593), (true, am_3), (true, am_1), (true, am_1), (false, am_1), (false, .inl (1, [(6, 4, 0), (8, 44, 0)])), (false, am_5), (false, am_7), (false, .inl (0, [(1, 45, 0), (6, 13, 0), (6, 14, 0), (6, 15, 0)])), (false, ac_594), (false, am_12), (false, ac_595), (true, ac_625), (false, am_4), (true, am_0), (false, am_11), (true, am_1), (true, am_0), (false, am_4), (false, am_10), (true, am_0), (true, am_0), (true, am_9)]
noncomputable def con_1117 : Con2 := ((yX11_cellNow, cX11_cellNow, 4, (some .int)), (6, 151), ([(6, 0, 0), (6, 1, 0), (1, 2, 0), (1, 3, 0)], gi_720, hc_152, rq_4), [((1, 118, 0), gi_721, hq_571, [], tg_15)])
theorem hd_1117 : con_1117.1 = (yX11_cellNow, cX11_cellNow, 4, (some .int)) := rfl
noncomputable def ct_1117 : CTB2 := [(1, 208, 0, con_900, [0, 2, 3, 4, 5, 6, 7, 8, 9, 10, 11, 12, 13, 14, 15, 16, 17, 18, 19, 1, 20, 21, 22, 23, 24, 25, 26])]
noncomputable def cu_1117 : List CUT2 := []
theorem ch_1117 : staG tb_X11_cellNow 1 bt_RX11 [] ct_1117 [] [] cu_1117 12 con_1117 = true := by decide +kernel
theorem cto_1117 (l : Launch) : CTOK2 l RX11 vwCl gTbl ct_1117 := ct2_cons (vl_900 l) ck_RX11_208_900 (ct2_nil)
theorem vl_1117 (l : Launch) : Vld2 l vwCl gTbl con_1117 := conR_ok3 gT_all (hd_1117) rfl pn_RX11 tk_X11_cellNow bo_RX11 xo_RX11 (cto_1117 l) ch_1117 cut_nil
/-- RookHusting corn -/
noncomputable def ac_626 : AC := .inl (3, jl_n [vp_120, jl_1 47 2])
noncomputable def hc_153 : List AC := [ac_599, .inl (9, [(6, 2, 0), (6, 13, 0)]), ac_600, ac_626, am_0, .inl (7, [(6, 6, 0), (6, 7, 0), (6, 8, 0), (1, 50, 0)]), am_3, am_1, am_1, am_1, .inl (1, [(6, 2, 0), (8, 52, 0)]), am_5, am_7, .inl (0, [(1, 53, 0), (6, 14, 0), (6, 15, 0), (6, 16, 0)]), ac_602, am_12, ac_603, am_4, am_0, am_11, am_1, am_0, am_4, am_10, am_0, am_0, am_9]
noncomputable def ac_627 : AC := .inl (3, jl_n [vp_120, jl_1 143 2])
noncomputable def hq_572 : HP := [(true, ac_604), (false, .inl (9, [(6, 2, 0), (6, 13, 0)])), (false, ac_600), (true, ac_627), (true, am_0), (true, .inl (7, [(6, 6, 0), (6, 7, 0), (6, 8, 0), (1, 146, 0)])), (true, am_3), (true, am_1), (true, am_1), (false, am_1), (false, .inl (1, [(6, 2, 0), (8, 52, 0)])), (false, am_5), (false, am_7), (false, .inl (0, [(1, 53, 0), (6, 14, 0), (6, 15, 0), (6, 16, 0)])), (false, ac_602), (false, am_12), (false, ac_603), (false, am_4), (true, am_0), (false, am_11), (true, am_1), (true, am_0), (false, am_4), (false, am_10), (true, am_0), (true, am_0), (true, am_9)]
noncomputable def con_1118 : Con2 := ((yX11_corn, cX11_corn, 3, (some .int)), (7, 174), ([(6, 0, 0), (1, 1, 0), (1, 2, 0)], gi_722, hc_153, rq_5), [((1, 117, 0), gi_723, hq_572, [], tg_15)])
theorem hd_1118 : con_1118.1 = (yX11_corn, cX11_corn, 3, (some .int)) := rfl
theorem ck_RX11_266_1117 : COK2 RX11 vwCl gTbl 266 0 con_1117 := ⟨wd_1023, wd_125, mh_X11_cellNow, .inr (.inr ⟨rfl, wd_1020, wd_1022, wd_32, ⟨_, rfl, pd_X11_cellNow⟩, 11, _, TX11, 16, rfl, rfl⟩)⟩
noncomputable def ct_1118 : CTB2 := [(2, 139, 0, con_643, [0, 1, 2]), (10, 260, 0, con_1097, [0, 1, 2]), (26, 266, 0, con_1117, [0, 4, 1, 5, 2, 6, 7, 8, 9, 10, 11, 12, 13, 14, 15, 16, 3, 17, 18, 19, 20, 21, 22, 23, 24, 25, 26])]
noncomputable def cu_1118 : List CUT2 := []
theorem ch_1118 : staG tb_X11_corn 1 bt_RX11 [] ct_1118 [] [] cu_1118 19 con_1118 = true := by decide +kernel
theorem cto_1118 (l : Launch) : CTOK2 l RX11 vwCl gTbl ct_1118 := ct2_cons (vl_643 l) ck_RX11_139_643 (ct2_cons (vl_1097 l) ck_RX11_260_1097 (ct2_cons (vl_1117 l) ck_RX11_266_1117 (ct2_nil)))
theorem vl_1118 (l : Launch) : Vld2 l vwCl gTbl con_1118 := conR_ok3 gT_all (hd_1118) rfl pn_RX11 tk_X11_corn bo_RX11 xo_RX11 (cto_1118 l) ch_1118 cut_nil
/-- RookHustingModel corn -/
noncomputable def con_1119 : Con2 := ((yX12_corn, cX12_corn, 3, (some .int)), (10, 229), ([(6, 0, 0), (1, 1, 0), (1, 2, 0)], gi_746, hc_149, []), [((1, 71, 0), gi_747, hq_568, [], tg_1)])
theorem hd_1119 : con_1119.1 = (yX12_corn, cX12_corn, 3, (some .int)) := rfl
noncomputable def cu_1119 : List CUT2 := []
theorem ch_1119 : staG tb_X12_corn 1 bt_RX12 [] ct_1113 [] [] cu_1119 21 con_1119 = true := by decide +kernel
theorem vl_1119 (l : Launch) : Vld2 l vwCl gTbl con_1119 := conR_ok3 gT_all (hd_1119) rfl pn_RX12 tk_X12_corn bo_RX12 xo_RX12 (cto_1113 l) ch_1119 cut_nil
/-- RookHusting isEatingDay -/
noncomputable def gi_748 : GI := jl_n [gp_7, jl_z 19, jl_i 0 16, jl_z 15]
noncomputable def ac_628 : AC := .inl (4, jl_n [jl_8 21 1, jl_1 22 1, jl_8 37 15])
noncomputable def gi_749 : GI := jl_n [gp_7, jl_z 19, jl_i 0 16, jl_z 16]
noncomputable def hq_573 : HP := [(false, ac_431), (false, .inl (9, [(6, 2, 0), (8, 19, 0)])), (false, ac_628)]
noncomputable def gi_750 : GI := jl_n [gp_228, jl_z 19, jl_i 1 16, jl_z 16]
noncomputable def con_1120 : Con2 := ((yX11_isEatingDay, cX11_isEatingDay, 2, (some .boolean)), (0, 0), ([(6, 0, 0), (1, 1, 0)], gi_748, [ac_431, .inl (9, [(6, 2, 0), (8, 19, 0)]), ac_628], []), [((0, 0, 0), gi_749, hq_573, [], [1]), ((0, 1, 0), gi_750, hq_573, [], [1])])
theorem hd_1120 : con_1120.1 = (yX11_isEatingDay, cX11_isEatingDay, 2, (some .boolean)) := rfl
noncomputable def cu_1120 : List CUT2 := []
theorem ch_1120 : staG tb_X11_isEatingDay 1 bt_RX11 [] ct_3 [] [] cu_1120 13 con_1120 = true := by decide +kernel
theorem vl_1120 (l : Launch) : Vld2 l vwCl gTbl con_1120 := conR_ok3 gT_all (hd_1120) rfl pn_RX11 tk_X11_isEatingDay bo_RX11 xo_RX11 (cto_3 l) ch_1120 cut_nil
/-- RookHusting cellNow -/
noncomputable def gi_751 : GI := jl_n [gp_363, gp_342]
noncomputable def ac_629 : AC := .inl (4, jl_n [vp_95, jl_8 30 1, jl_1 31 1, jl_8 32 1, jl_1 34 2, vp_96, jl_6 9 1, jl_6 25 2, jl_6 12 1, jl_8 42 2, jl_6 11 1])
noncomputable def ac_630 : AC := .inl (3, jl_n [vp_121, jl_6 2 1, vp_122, jl_1 118 2])
noncomputable def hc_154 : List AC := [ac_592, am_0, .inl (9, [(6, 4, 0), (6, 12, 0)]), .inl (7, [(6, 5, 0), (6, 6, 0), (6, 7, 0), (1, 25, 0)]), ac_629, am_3, am_1, am_1, am_1, .inl (1, [(6, 4, 0), (8, 44, 0)]), am_5, am_7, .inl (0, [(1, 45, 0), (6, 13, 0), (6, 14, 0), (6, 15, 0)]), ac_594, am_12, ac_595, ac_630, am_4, am_0, am_11, am_0, am_1, am_0, am_4, am_10, am_0, am_9]
noncomputable def gi_752 : GI := jl_n [gp_363, gp_343]
noncomputable def ac_631 : AC := .inl (3, jl_n [vp_121, jl_6 2 1, vp_122, jl_1 148 2])
noncomputable def hq_574 : HP := [(true, ac_597), (true, am_0), (false, .inl (9, [(6, 4, 0), (6, 12, 0)])), (true, .inl (7, [(6, 5, 0), (6, 6, 0), (6, 7, 0), (1, 138, 0)])), (false, ac_629), (true, am_3), (true, am_1), (true, am_1), (false, am_1), (false, .inl (1, [(6, 4, 0), (8, 44, 0)])), (false, am_5), (false, am_7), (false, .inl (0, [(1, 45, 0), (6, 13, 0), (6, 14, 0), (6, 15, 0)])), (false, ac_594), (false, am_12), (false, ac_595), (true, ac_631), (false, am_4), (true, am_0), (false, am_11), (true, am_0), (true, am_1), (true, am_0), (false, am_4), (false, am_10), (true, am_0), (true, am_9)]
noncomputable def con_1121 : Con2 := ((yX11_cellNow, cX11_cellNow, 4, (some .int)), (6, 151), ([(6, 0, 0), (6, 1, 0), (1, 2, 0), (1, 3, 0)], gi_751, hc_154, rq_4), [((1, 118, 0), gi_752, hq_574, [], tg_15)])
theorem hd_1121 : con_1121.1 = (yX11_cellNow, cX11_cellNow, 4, (some .int)) := rfl
noncomputable def ct_1121 : CTB2 := [(1, 208, 0, con_900, [0, 2, 3, 4, 5, 6, 7, 8, 9, 10, 11, 12, 13, 14, 15, 16, 17, 18, 19, 20, 21, 22, 23, 24, 1, 25, 26])]
noncomputable def cu_1121 : List CUT2 := []
theorem ch_1121 : staG tb_X11_cellNow 1 bt_RX11 [] ct_1121 [] [] cu_1121 12 con_1121 = true := by decide +kernel
theorem cto_1121 (l : Launch) : CTOK2 l RX11 vwCl gTbl ct_1121 := ct2_cons (vl_900 l) ck_RX11_208_900 (ct2_nil)
theorem vl_1121 (l : Launch) : Vld2 l vwCl gTbl con_1121 := conR_ok3 gT_all (hd_1121) rfl pn_RX11 tk_X11_cellNow bo_RX11 xo_RX11 (cto_1121 l) ch_1121 cut_nil
/-- RookHusting eaten -/
noncomputable def gi_753 : GI := jl_n [gp_364, gp_349]
noncomputable def ac_632 : AC := .inl (4, jl_n [vp_123, vp_105, jl_6 25 2, jl_6 13 1, jl_8 37 2, jl_6 12 1])
noncomputable def ac_633 : AC := .inl (3, jl_n [vp_121, jl_6 5 1, vp_122, jl_1 47 2])
noncomputable def hc_155 : List AC := [ac_599, .inl (9, [(6, 2, 0), (6, 13, 0)]), ac_632, ac_633, am_0, .inl (7, [(6, 6, 0), (6, 7, 0), (6, 8, 0), (1, 50, 0)]), am_3, am_1, am_1, am_1, .inl (1, [(6, 2, 0), (8, 52, 0)]), am_5, am_7, .inl (0, [(1, 53, 0), (6, 14, 0), (6, 15, 0), (6, 16, 0)]), ac_602, am_12, ac_603, am_4, am_0, am_11, am_0, am_1, am_0, am_4, am_10, am_0, am_9]
noncomputable def gi_754 : GI := jl_n [gp_364, gp_349, gp_353]
noncomputable def ac_634 : AC := .inl (3, jl_n [vp_121, jl_6 5 1, vp_122, jl_1 143 2])
noncomputable def hq_575 : HP := [(true, ac_604), (false, .inl (9, [(6, 2, 0), (6, 13, 0)])), (false, ac_632), (true, ac_634), (true, am_0), (true, .inl (7, [(6, 6, 0), (6, 7, 0), (6, 8, 0), (1, 146, 0)])), (true, am_3), (true, am_1), (true, am_1), (false, am_1), (false, .inl (1, [(6, 2, 0), (8, 52, 0)])), (false, am_5), (false, am_7), (false, .inl (0, [(1, 53, 0), (6, 14, 0), (6, 15, 0), (6, 16, 0)])), (false, ac_602), (false, am_12), (false, ac_603), (false, am_4), (true, am_0), (false, am_11), (true, am_0), (true, am_1), (true, am_0), (false, am_4), (false, am_10), (true, am_0), (true, am_9)]
noncomputable def con_1122 : Con2 := ((yX11_eaten, cX11_eaten, 3, (some .int)), (7, 174), ([(6, 0, 0), (1, 1, 0), (1, 2, 0)], gi_753, hc_155, rq_5), [((1, 117, 0), gi_754, hq_575, [], tg_15)])
theorem hd_1122 : con_1122.1 = (yX11_eaten, cX11_eaten, 3, (some .int)) := rfl
theorem ck_RX11_266_1121 : COK2 RX11 vwCl gTbl 266 0 con_1121 := ⟨wd_1023, wd_125, mh_X11_cellNow, .inr (.inr ⟨rfl, wd_1020, wd_1022, wd_32, ⟨_, rfl, pd_X11_cellNow⟩, 11, _, TX11, 16, rfl, rfl⟩)⟩
theorem ck_RX11_272_1120 : COK2 RX11 vwCl gTbl 272 0 con_1120 := ⟨wd_1039, wd_125, mh_X11_isEatingDay, .inr (.inr ⟨rfl, wd_1036, wd_1038, wd_33, ⟨_, rfl, pd_X11_isEatingDay⟩, 11, _, TX11, 16, rfl, rfl⟩)⟩
noncomputable def ct_1122 : CTB2 := [(2, 139, 0, con_643, [0, 1, 2]), (10, 272, 0, con_1120, [0, 1, 2]), (26, 266, 0, con_1121, [0, 4, 1, 5, 2, 6, 7, 8, 9, 10, 11, 12, 13, 14, 15, 16, 3, 17, 18, 19, 20, 21, 22, 23, 24, 25, 26])]
noncomputable def cu_1122 : List CUT2 := []
theorem ch_1122 : staG tb_X11_eaten 1 bt_RX11 [] ct_1122 [] [] cu_1122 19 con_1122 = true := by decide +kernel
theorem cto_1122 (l : Launch) : CTOK2 l RX11 vwCl gTbl ct_1122 := ct2_cons (vl_643 l) ck_RX11_139_643 (ct2_cons (vl_1120 l) ck_RX11_272_1120 (ct2_cons (vl_1121 l) ck_RX11_266_1121 (ct2_nil)))
theorem vl_1122 (l : Launch) : Vld2 l vwCl gTbl con_1122 := conR_ok3 gT_all (hd_1122) rfl pn_RX11 tk_X11_eaten bo_RX11 xo_RX11 (cto_1122 l) ch_1122 cut_nil
/-- RookHustingModel in -/
noncomputable def gi_755 : GI := jl_n [gp_129, jl_m 0 15]
noncomputable def gi_756 : GI := jl_n [gp_129, jl_m 0 15, jl_z 1]
noncomputable def con_1123 : Con2 := ((yX12_in, cX12_in, 6, (some .boolean)), (0, 0), ([(4, 0, 0), (3, 0, 0), (4, 2, 0)], gi_755, [], []), [((0, 0, 0), gi_756, [], [], [1]), ((0, 1, 0), [(0, 15), (0, 0), (0, 15), (0, 0)], [], [], [1])])
theorem hd_1123 : con_1123.1 = (yX12_in, cX12_in, 6, (some .boolean)) := rfl
noncomputable def cu_1123 : List CUT2 := []
theorem ch_1123 : staG tb_X12_in 1 bt_RX12 [] ct_2 [] [] cu_1123 11 con_1123 = true := by decide +kernel
theorem vl_1123 (l : Launch) : Vld2 l vwCl gTbl con_1123 := conR_ok3 gT_all (hd_1123) rfl pn_RX12 tk_X12_in bo_RX12 xo_RX12 (cto_2 l) ch_1123 cut_nil
