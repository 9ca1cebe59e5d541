/-! ===== contracts, 28 ===== -/
/-- RookHusting$Slots at -/
noncomputable def ac_983 : AC := .inr (2, jl_n [js_5 112 9223372036854775807 9223372036854775807, js_4 7 1, js_5 127 9223372036854775807 9223372036854775807])
noncomputable def hq_815 : HP := [(false, .inl (8, [(6, 1, 0), (8, 4, 0), (8, 5, 0)])), (false, ac_983)]
noncomputable def con_1682 : Con2 := ((yX8_at, cX8_at, 3, (some .long)), (0, 0), ([(6, 0, 0), (0, 1, 0), (0, 52, 0)], gi_927, [.inl (8, [(6, 1, 0), (8, 4, 0), (8, 5, 0)]), ac_983], []), [((4, 6, 0), gi_928, hq_815, [], [1])])
theorem hd_1682 : con_1682.1 = (yX8_at, cX8_at, 3, (some .long)) := rfl
noncomputable def cu_1682 : List CUT2 := []
theorem ch_1682 : staG tb_X8_at 1 bt_RX8 [] ct_1497 [] [] cu_1682 11 con_1682 = true := by decide +kernel
theorem vl_1682 (l : Launch) : Vld2 l vwCl gTbl con_1682 := conR_ok3 gT_all (hd_1682) rfl pn_RX8 tk_X8_at bo_RX8 xo_RX8 (cto_1497 l) ch_1682 cut_nil
/-- RookHusting$Slots at -/
noncomputable def ac_984 : AC := .inr (2, jl_n [js_5 113 9223372036854775807 9223372036854775807, js_4 7 1, js_5 126 9223372036854775807 9223372036854775807])
noncomputable def hq_816 : HP := [(false, .inl (8, [(6, 1, 0), (8, 4, 0), (8, 5, 0)])), (false, ac_984)]
noncomputable def con_1683 : Con2 := ((yX8_at, cX8_at, 3, (some .long)), (0, 0), ([(6, 0, 0), (0, 1, 0), (0, 53, 0)], gi_927, [.inl (8, [(6, 1, 0), (8, 4, 0), (8, 5, 0)]), ac_984], []), [((4, 6, 0), gi_928, hq_816, [], [1])])
theorem hd_1683 : con_1683.1 = (yX8_at, cX8_at, 3, (some .long)) := rfl
noncomputable def cu_1683 : List CUT2 := []
theorem ch_1683 : staG tb_X8_at 1 bt_RX8 [] ct_1497 [] [] cu_1683 11 con_1683 = true := by decide +kernel
theorem vl_1683 (l : Launch) : Vld2 l vwCl gTbl con_1683 := conR_ok3 gT_all (hd_1683) rfl pn_RX8 tk_X8_at bo_RX8 xo_RX8 (cto_1497 l) ch_1683 cut_nil
/-- RookHusting$Slots at -/
noncomputable def ac_985 : AC := .inr (2, jl_n [js_5 114 9223372036854775807 9223372036854775807, js_4 7 1, js_5 125 9223372036854775807 9223372036854775807])
noncomputable def hq_817 : HP := [(false, .inl (8, [(6, 1, 0), (8, 4, 0), (8, 5, 0)])), (false, ac_985)]
noncomputable def con_1684 : Con2 := ((yX8_at, cX8_at, 3, (some .long)), (0, 0), ([(6, 0, 0), (0, 1, 0), (0, 54, 0)], gi_927, [.inl (8, [(6, 1, 0), (8, 4, 0), (8, 5, 0)]), ac_985], []), [((4, 6, 0), gi_928, hq_817, [], [1])])
theorem hd_1684 : con_1684.1 = (yX8_at, cX8_at, 3, (some .long)) := rfl
noncomputable def cu_1684 : List CUT2 := []
theorem ch_1684 : staG tb_X8_at 1 bt_RX8 [] ct_1497 [] [] cu_1684 11 con_1684 = true := by decide +kernel
theorem vl_1684 (l : Launch) : Vld2 l vwCl gTbl con_1684 := conR_ok3 gT_all (hd_1684) rfl pn_RX8 tk_X8_at bo_RX8 xo_RX8 (cto_1497 l) ch_1684 cut_nil
/-- RookHusting$Slots at -/
noncomputable def ac_986 : AC := .inr (2, jl_n [js_5 115 9223372036854775807 9223372036854775807, js_4 7 1, js_5 124 9223372036854775807 9223372036854775807])
noncomputable def hq_818 : HP := [(false, .inl (8, [(6, 1, 0), (8, 4, 0), (8, 5, 0)])), (false, ac_986)]
noncomputable def con_1685 : Con2 := ((yX8_at, cX8_at, 3, (some .long)), (0, 0), ([(6, 0, 0), (0, 1, 0), (0, 55, 0)], gi_927, [.inl (8, [(6, 1, 0), (8, 4, 0), (8, 5, 0)]), ac_986], []), [((4, 6, 0), gi_928, hq_818, [], [1])])
theorem hd_1685 : con_1685.1 = (yX8_at, cX8_at, 3, (some .long)) := rfl
noncomputable def cu_1685 : List CUT2 := []
theorem ch_1685 : staG tb_X8_at 1 bt_RX8 [] ct_1497 [] [] cu_1685 11 con_1685 = true := by decide +kernel
theorem vl_1685 (l : Launch) : Vld2 l vwCl gTbl con_1685 := conR_ok3 gT_all (hd_1685) rfl pn_RX8 tk_X8_at bo_RX8 xo_RX8 (cto_1497 l) ch_1685 cut_nil
/-- RookHusting$Slots at -/
noncomputable def ac_987 : AC := .inr (2, jl_n [js_5 116 9223372036854775807 9223372036854775807, js_4 7 1, js_5 123 9223372036854775807 9223372036854775807])
noncomputable def hq_819 : HP := [(false, .inl (8, [(6, 1, 0), (8, 4, 0), (8, 5, 0)])), (false, ac_987)]
noncomputable def con_1686 : Con2 := ((yX8_at, cX8_at, 3, (some .long)), (0, 0), ([(6, 0, 0), (0, 1, 0), (0, 56, 0)], gi_927, [.inl (8, [(6, 1, 0), (8, 4, 0), (8, 5, 0)]), ac_987], []), [((4, 6, 0), gi_928, hq_819, [], [1])])
theorem hd_1686 : con_1686.1 = (yX8_at, cX8_at, 3, (some .long)) := rfl
noncomputable def cu_1686 : List CUT2 := []
theorem ch_1686 : staG tb_X8_at 1 bt_RX8 [] ct_1497 [] [] cu_1686 11 con_1686 = true := by decide +kernel
theorem vl_1686 (l : Launch) : Vld2 l vwCl gTbl con_1686 := conR_ok3 gT_all (hd_1686) rfl pn_RX8 tk_X8_at bo_RX8 xo_RX8 (cto_1497 l) ch_1686 cut_nil
/-- RookHusting$Slots at -/
noncomputable def ac_988 : AC := .inr (2, jl_n [js_5 117 9223372036854775807 9223372036854775807, js_4 7 1, js_5 122 9223372036854775807 9223372036854775807])
noncomputable def hq_820 : HP := [(false, .inl (8, [(6, 1, 0), (8, 4, 0), (8, 5, 0)])), (false, ac_988)]
noncomputable def con_1687 : Con2 := ((yX8_at, cX8_at, 3, (some .long)), (0, 0), ([(6, 0, 0), (0, 1, 0), (0, 57, 0)], gi_927, [.inl (8, [(6, 1, 0), (8, 4, 0), (8, 5, 0)]), ac_988], []), [((4, 6, 0), gi_928, hq_820, [], [1])])
theorem hd_1687 : con_1687.1 = (yX8_at, cX8_at, 3, (some .long)) := rfl
noncomputable def cu_1687 : List CUT2 := []
theorem ch_1687 : staG tb_X8_at 1 bt_RX8 [] ct_1497 [] [] cu_1687 11 con_1687 = true := by decide +kernel
theorem vl_1687 (l : Launch) : Vld2 l vwCl gTbl con_1687 := conR_ok3 gT_all (hd_1687) rfl pn_RX8 tk_X8_at bo_RX8 xo_RX8 (cto_1497 l) ch_1687 cut_nil
/-- RookHusting$Slots at -/
noncomputable def ac_989 : AC := .inr (2, jl_n [js_5 118 9223372036854775807 9223372036854775807, js_4 7 1, js_5 121 9223372036854775807 9223372036854775807])
noncomputable def hq_821 : HP := [(false, .inl (8, [(6, 1, 0), (8, 4, 0), (8, 5, 0)])), (false, ac_989)]
noncomputable def con_1688 : Con2 := ((yX8_at, cX8_at, 3, (some .long)), (0, 0), ([(6, 0, 0), (0, 1, 0), (0, 58, 0)], gi_927, [.inl (8, [(6, 1, 0), (8, 4, 0), (8, 5, 0)]), ac_989], []), [((4, 6, 0), gi_928, hq_821, [], [1])])
theorem hd_1688 : con_1688.1 = (yX8_at, cX8_at, 3, (some .long)) := rfl
noncomputable def cu_1688 : List CUT2 := []
theorem ch_1688 : staG tb_X8_at 1 bt_RX8 [] ct_1497 [] [] cu_1688 11 con_1688 = true := by decide +kernel
theorem vl_1688 (l : Launch) : Vld2 l vwCl gTbl con_1688 := conR_ok3 gT_all (hd_1688) rfl pn_RX8 tk_X8_at bo_RX8 xo_RX8 (cto_1497 l) ch_1688 cut_nil
/-- RookHusting$Slots at -/
noncomputable def ac_990 : AC := .inr (2, jl_n [js_5 119 9223372036854775807 9223372036854775807, js_4 7 1, js_5 120 9223372036854775807 9223372036854775807])
noncomputable def hq_822 : HP := [(false, .inl (8, [(6, 1, 0), (8, 4, 0), (8, 5, 0)])), (false, ac_990)]
noncomputable def con_1689 : Con2 := ((yX8_at, cX8_at, 3, (some .long)), (0, 0), ([(6, 0, 0), (0, 1, 0), (0, 59, 0)], gi_927, [.inl (8, [(6, 1, 0), (8, 4, 0), (8, 5, 0)]), ac_990], []), [((4, 6, 0), gi_928, hq_822, [], [1])])
theorem hd_1689 : con_1689.1 = (yX8_at, cX8_at, 3, (some .long)) := rfl
noncomputable def cu_1689 : List CUT2 := []
theorem ch_1689 : staG tb_X8_at 1 bt_RX8 [] ct_1497 [] [] cu_1689 11 con_1689 = true := by decide +kernel
theorem vl_1689 (l : Launch) : Vld2 l vwCl gTbl con_1689 := conR_ok3 gT_all (hd_1689) rfl pn_RX8 tk_X8_at bo_RX8 xo_RX8 (cto_1497 l) ch_1689 cut_nil
/-- RookHusting wrongSeen -/
noncomputable def ac_991 : AC := .inr (2, jl_n [js_5 60 9223372036854775807 9223372036854775807, js_4 105 60, js_5 120 9223372036854775807 9223372036854775807])
noncomputable def hc_194 : List AC := [ac_804, .inl (9, [(6, 2, 0), (8, 20, 0)]), ac_805, .inl (8, [(6, 5, 0), (8, 39, 0), (6, 4, 0)]), ac_806, ac_991]
noncomputable def hq_823 : HP := [(false, ac_804), (false, .inl (9, [(6, 2, 0), (8, 20, 0)])), (false, ac_805), (false, .inl (8, [(6, 5, 0), (8, 39, 0), (6, 4, 0)])), (false, ac_806), (false, ac_991)]
noncomputable def gi_1024 : GI := jl_n [gp_529, jl_k 0 0, gp_530, jl_z 1]
noncomputable def gi_1025 : GI := jl_n [gp_529, gp_531, jl_z 1]
noncomputable def gi_1026 : GI := jl_n [gp_529, gp_533, jl_z 1]
noncomputable def gi_1027 : GI := jl_n [gp_529, gp_535, jl_z 1]
noncomputable def gi_1028 : GI := jl_n [gp_529, gp_537, jl_z 1]
noncomputable def gi_1029 : GI := jl_n [gp_529, gp_539, jl_z 1]
noncomputable def gi_1030 : GI := jl_n [gp_529, gp_542, jl_z 1]
noncomputable def gi_1031 : GI := jl_n [gp_529, gp_544, jl_z 1]
noncomputable def gi_1032 : GI := jl_n [gp_529, gp_546, jl_z 1]
noncomputable def gi_1033 : GI := jl_n [gp_529, gp_548, jl_z 1]
noncomputable def gi_1034 : GI := jl_n [gp_529, gp_550, jl_z 1]
noncomputable def gi_1035 : GI := jl_n [gp_529, gp_552, jl_z 1]
noncomputable def gi_1036 : GI := jl_n [gp_529, gp_554, jl_z 1]
noncomputable def gi_1037 : GI := jl_n [gp_529, gp_556, jl_z 1]
noncomputable def gi_1038 : GI := jl_n [gp_529, gp_558, jl_z 1]
noncomputable def gi_1039 : GI := jl_n [gp_529, gp_560, jl_z 1]
noncomputable def gi_1040 : GI := jl_n [gp_529, gp_562, jl_z 1]
noncomputable def gi_1041 : GI := jl_n [gp_529, gp_564, jl_z 1]
noncomputable def gi_1042 : GI := jl_n [gp_529, gp_566, jl_z 1]
noncomputable def gi_1043 : GI := jl_n [gp_529, gp_568, jl_z 1]
noncomputable def gi_1044 : GI := jl_n [gp_529, gp_569, jl_z 1]
noncomputable def gi_1045 : GI := jl_n [gp_529, gp_571, jl_z 1]
noncomputable def con_1690 : Con2 := ((yX11_wrongSeen, cX11_wrongSeen, 5, (some .int)), (1, 22), ([(6, 0, 0), (0, 1, 0), (1, 2, 0)], gi_932, hc_194, []), [((0, (-2), 0), gi_933, hq_823, [], [1]), ((0, (-6), 0), gi_1024, hq_823, [], [1]), ((0, 0, 0), gi_1025, hq_823, [], [1]), ((0, 0, 0), gi_1026, hq_823, [], [1]), ((0, 0, 0), gi_1027, hq_823, [], [1]), ((0, 0, 0), gi_1028, hq_823, [], [1]), ((0, 0, 0), gi_1029, hq_823, [], [1]), ((0, 0, 0), gi_1030, hq_823, [], [1]), ((0, 0, 0), gi_1031, hq_823, [], [1]), ((0, 0, 0), gi_1032, hq_823, [], [1]), ((0, 0, 0), gi_1033, hq_823, [], [1]), ((0, 0, 0), gi_1034, hq_823, [], [1]), ((0, 0, 0), gi_1035, hq_823, [], [1]), ((0, 0, 0), gi_1036, hq_823, [], [1]), ((0, 0, 0), gi_1037, hq_823, [], [1]), ((0, 0, 0), gi_1038, hq_823, [], [1]), ((0, 0, 0), gi_1039, hq_823, [], [1]), ((0, 0, 0), gi_1040, hq_823, [], [1]), ((0, 0, 0), gi_1041, hq_823, [], [1]), ((0, 0, 0), gi_1042, hq_823, [], [1]), ((0, 0, 0), gi_1043, hq_823, [], [1]), ((0, 0, 0), gi_1044, hq_823, [], [1]), ((0, 0, 0), gi_1045, hq_823, [], [1])])
theorem hd_1690 : con_1690.1 = (yX11_wrongSeen, cX11_wrongSeen, 5, (some .int)) := rfl
theorem ck_RX11_473_1632 : COK2 RX11 vwCl gTbl 473 0 con_1632 := ⟨wd_1218, wd_131, mh_X8_at, .inr (.inr ⟨rfl, wd_1215, wd_1216, wd_1217, ⟨_, rfl, pd_X8_at⟩, 8, _, TX8, 3, rfl, rfl⟩)⟩
theorem ck_RX11_473_1635 : COK2 RX11 vwCl gTbl 473 0 con_1635 := ⟨wd_1218, wd_131, mh_X8_at, .inr (.inr ⟨rfl, wd_1215, wd_1216, wd_1217, ⟨_, rfl, pd_X8_at⟩, 8, _, TX8, 3, rfl, rfl⟩)⟩
theorem ck_RX11_473_1638 : COK2 RX11 vwCl gTbl 473 0 con_1638 := ⟨wd_1218, wd_131, mh_X8_at, .inr (.inr ⟨rfl, wd_1215, wd_1216, wd_1217, ⟨_, rfl, pd_X8_at⟩, 8, _, TX8, 3, rfl, rfl⟩)⟩
theorem ck_RX11_473_1641 : COK2 RX11 vwCl gTbl 473 0 con_1641 := ⟨wd_1218, wd_131, mh_X8_at, .inr (.inr ⟨rfl, wd_1215, wd_1216, wd_1217, ⟨_, rfl, pd_X8_at⟩, 8, _, TX8, 3, rfl, rfl⟩)⟩
theorem ck_RX11_473_1644 : COK2 RX11 vwCl gTbl 473 0 con_1644 := ⟨wd_1218, wd_131, mh_X8_at, .inr (.inr ⟨rfl, wd_1215, wd_1216, wd_1217, ⟨_, rfl, pd_X8_at⟩, 8, _, TX8, 3, rfl, rfl⟩)⟩
theorem ck_RX11_473_1647 : COK2 RX11 vwCl gTbl 473 0 con_1647 := ⟨wd_1218, wd_131, mh_X8_at, .inr (.inr ⟨rfl, wd_1215, wd_1216, wd_1217, ⟨_, rfl, pd_X8_at⟩, 8, _, TX8, 3, rfl, rfl⟩)⟩
theorem ck_RX11_473_1650 : COK2 RX11 vwCl gTbl 473 0 con_1650 := ⟨wd_1218, wd_131, mh_X8_at, .inr (.inr ⟨rfl, wd_1215, wd_1216, wd_1217, ⟨_, rfl, pd_X8_at⟩, 8, _, TX8, 3, rfl, rfl⟩)⟩
theorem ck_RX11_473_1653 : COK2 RX11 vwCl gTbl 473 0 con_1653 := ⟨wd_1218, wd_131, mh_X8_at, .inr (.inr ⟨rfl, wd_1215, wd_1216, wd_1217, ⟨_, rfl, pd_X8_at⟩, 8, _, TX8, 3, rfl, rfl⟩)⟩
theorem ck_RX11_473_1656 : COK2 RX11 vwCl gTbl 473 0 con_1656 := ⟨wd_1218, wd_131, mh_X8_at, .inr (.inr ⟨rfl, wd_1215, wd_1216, wd_1217, ⟨_, rfl, pd_X8_at⟩, 8, _, TX8, 3, rfl, rfl⟩)⟩
theorem ck_RX11_473_1659 : COK2 RX11 vwCl gTbl 473 0 con_1659 := ⟨wd_1218, wd_131, mh_X8_at, .inr (.inr ⟨rfl, wd_1215, wd_1216, wd_1217, ⟨_, rfl, pd_X8_at⟩, 8, _, TX8, 3, rfl, rfl⟩)⟩
theorem ck_RX11_473_1662 : COK2 RX11 vwCl gTbl 473 0 con_1662 := ⟨wd_1218, wd_131, mh_X8_at, .inr (.inr ⟨rfl, wd_1215, wd_1216, wd_1217, ⟨_, rfl, pd_X8_at⟩, 8, _, TX8, 3, rfl, rfl⟩)⟩
theorem ck_RX11_473_1665 : COK2 RX11 vwCl gTbl 473 0 con_1665 := ⟨wd_1218, wd_131, mh_X8_at, .inr (.inr ⟨rfl, wd_1215, wd_1216, wd_1217, ⟨_, rfl, pd_X8_at⟩, 8, _, TX8, 3, rfl, rfl⟩)⟩
theorem ck_RX11_473_1668 : COK2 RX11 vwCl gTbl 473 0 con_1668 := ⟨wd_1218, wd_131, mh_X8_at, .inr (.inr ⟨rfl, wd_1215, wd_1216, wd_1217, ⟨_, rfl, pd_X8_at⟩, 8, _, TX8, 3, rfl, rfl⟩)⟩
theorem ck_RX11_473_1671 : COK2 RX11 vwCl gTbl 473 0 con_1671 := ⟨wd_1218, wd_131, mh_X8_at, .inr (.inr ⟨rfl, wd_1215, wd_1216, wd_1217, ⟨_, rfl, pd_X8_at⟩, 8, _, TX8, 3, rfl, rfl⟩)⟩
theorem ck_RX11_473_1674 : COK2 RX11 vwCl gTbl 473 0 con_1674 := ⟨wd_1218, wd_131, mh_X8_at, .inr (.inr ⟨rfl, wd_1215, wd_1216, wd_1217, ⟨_, rfl, pd_X8_at⟩, 8, _, TX8, 3, rfl, rfl⟩)⟩
theorem ck_RX11_473_1677 : COK2 RX11 vwCl gTbl 473 0 con_1677 := ⟨wd_1218, wd_131, mh_X8_at, .inr (.inr ⟨rfl, wd_1215, wd_1216, wd_1217, ⟨_, rfl, pd_X8_at⟩, 8, _, TX8, 3, rfl, rfl⟩)⟩
theorem ck_RX11_473_1680 : COK2 RX11 vwCl gTbl 473 0 con_1680 := ⟨wd_1218, wd_131, mh_X8_at, .inr (.inr ⟨rfl, wd_1215, wd_1216, wd_1217, ⟨_, rfl, pd_X8_at⟩, 8, _, TX8, 3, rfl, rfl⟩)⟩
theorem ck_RX11_473_1683 : COK2 RX11 vwCl gTbl 473 0 con_1683 := ⟨wd_1218, wd_131, mh_X8_at, .inr (.inr ⟨rfl, wd_1215, wd_1216, wd_1217, ⟨_, rfl, pd_X8_at⟩, 8, _, TX8, 3, rfl, rfl⟩)⟩
theorem ck_RX11_473_1686 : COK2 RX11 vwCl gTbl 473 0 con_1686 := ⟨wd_1218, wd_131, mh_X8_at, .inr (.inr ⟨rfl, wd_1215, wd_1216, wd_1217, ⟨_, rfl, pd_X8_at⟩, 8, _, TX8, 3, rfl, rfl⟩)⟩
theorem ck_RX11_473_1689 : COK2 RX11 vwCl gTbl 473 0 con_1689 := ⟨wd_1218, wd_131, mh_X8_at, .inr (.inr ⟨rfl, wd_1215, wd_1216, wd_1217, ⟨_, rfl, pd_X8_at⟩, 8, _, TX8, 3, rfl, rfl⟩)⟩
theorem ck_RX11_473_1631 : COK2 RX11 vwCl gTbl 473 0 con_1631 := ⟨wd_1218, wd_131, mh_X8_at, .inr (.inr ⟨rfl, wd_1215, wd_1216, wd_1217, ⟨_, rfl, pd_X8_at⟩, 8, _, TX8, 3, rfl, rfl⟩)⟩
theorem ck_RX11_473_1634 : COK2 RX11 vwCl gTbl 473 0 con_1634 := ⟨wd_1218, wd_131, mh_X8_at, .inr (.inr ⟨rfl, wd_1215, wd_1216, wd_1217, ⟨_, rfl, pd_X8_at⟩, 8, _, TX8, 3, rfl, rfl⟩)⟩
theorem ck_RX11_473_1637 : COK2 RX11 vwCl gTbl 473 0 con_1637 := ⟨wd_1218, wd_131, mh_X8_at, .inr (.inr ⟨rfl, wd_1215, wd_1216, wd_1217, ⟨_, rfl, pd_X8_at⟩, 8, _, TX8, 3, rfl, rfl⟩)⟩
theorem ck_RX11_473_1640 : COK2 RX11 vwCl gTbl 473 0 con_1640 := ⟨wd_1218, wd_131, mh_X8_at, .inr (.inr ⟨rfl, wd_1215, wd_1216, wd_1217, ⟨_, rfl, pd_X8_at⟩, 8, _, TX8, 3, rfl, rfl⟩)⟩
theorem ck_RX11_473_1643 : COK2 RX11 vwCl gTbl 473 0 con_1643 := ⟨wd_1218, wd_131, mh_X8_at, .inr (.inr ⟨rfl, wd_1215, wd_1216, wd_1217, ⟨_, rfl, pd_X8_at⟩, 8, _, TX8, 3, rfl, rfl⟩)⟩
theorem ck_RX11_473_1646 : COK2 RX11 vwCl gTbl 473 0 con_1646 := ⟨wd_1218, wd_131, mh_X8_at, .inr (.inr ⟨rfl, wd_1215, wd_1216, wd_1217, ⟨_, rfl, pd_X8_at⟩, 8, _, TX8, 3, rfl, rfl⟩)⟩
theorem ck_RX11_473_1649 : COK2 RX11 vwCl gTbl 473 0 con_1649 := ⟨wd_1218, wd_131, mh_X8_at, .inr (.inr ⟨rfl, wd_1215, wd_1216, wd_1217, ⟨_, rfl, pd_X8_at⟩, 8, _, TX8, 3, rfl, rfl⟩)⟩
theorem ck_RX11_473_1652 : COK2 RX11 vwCl gTbl 473 0 con_1652 := ⟨wd_1218, wd_131, mh_X8_at, .inr (.inr ⟨rfl, wd_1215, wd_1216, wd_1217, ⟨_, rfl, pd_X8_at⟩, 8, _, TX8, 3, rfl, rfl⟩)⟩
theorem ck_RX11_473_1655 : COK2 RX11 vwCl gTbl 473 0 con_1655 := ⟨wd_1218, wd_131, mh_X8_at, .inr (.inr ⟨rfl, wd_1215, wd_1216, wd_1217, ⟨_, rfl, pd_X8_at⟩, 8, _, TX8, 3, rfl, rfl⟩)⟩
theorem ck_RX11_473_1658 : COK2 RX11 vwCl gTbl 473 0 con_1658 := ⟨wd_1218, wd_131, mh_X8_at, .inr (.inr ⟨rfl, wd_1215, wd_1216, wd_1217, ⟨_, rfl, pd_X8_at⟩, 8, _, TX8, 3, rfl, rfl⟩)⟩
theorem ck_RX11_473_1661 : COK2 RX11 vwCl gTbl 473 0 con_1661 := ⟨wd_1218, wd_131, mh_X8_at, .inr (.inr ⟨rfl, wd_1215, wd_1216, wd_1217, ⟨_, rfl, pd_X8_at⟩, 8, _, TX8, 3, rfl, rfl⟩)⟩
theorem ck_RX11_473_1664 : COK2 RX11 vwCl gTbl 473 0 con_1664 := ⟨wd_1218, wd_131, mh_X8_at, .inr (.inr ⟨rfl, wd_1215, wd_1216, wd_1217, ⟨_, rfl, pd_X8_at⟩, 8, _, TX8, 3, rfl, rfl⟩)⟩
theorem ck_RX11_473_1667 : COK2 RX11 vwCl gTbl 473 0 con_1667 := ⟨wd_1218, wd_131, mh_X8_at, .inr (.inr ⟨rfl, wd_1215, wd_1216, wd_1217, ⟨_, rfl, pd_X8_at⟩, 8, _, TX8, 3, rfl, rfl⟩)⟩
theorem ck_RX11_473_1670 : COK2 RX11 vwCl gTbl 473 0 con_1670 := ⟨wd_1218, wd_131, mh_X8_at, .inr (.inr ⟨rfl, wd_1215, wd_1216, wd_1217, ⟨_, rfl, pd_X8_at⟩, 8, _, TX8, 3, rfl, rfl⟩)⟩
theorem ck_RX11_473_1673 : COK2 RX11 vwCl gTbl 473 0 con_1673 := ⟨wd_1218, wd_131, mh_X8_at, .inr (.inr ⟨rfl, wd_1215, wd_1216, wd_1217, ⟨_, rfl, pd_X8_at⟩, 8, _, TX8, 3, rfl, rfl⟩)⟩
theorem ck_RX11_473_1676 : COK2 RX11 vwCl gTbl 473 0 con_1676 := ⟨wd_1218, wd_131, mh_X8_at, .inr (.inr ⟨rfl, wd_1215, wd_1216, wd_1217, ⟨_, rfl, pd_X8_at⟩, 8, _, TX8, 3, rfl, rfl⟩)⟩
theorem ck_RX11_473_1679 : COK2 RX11 vwCl gTbl 473 0 con_1679 := ⟨wd_1218, wd_131, mh_X8_at, .inr (.inr ⟨rfl, wd_1215, wd_1216, wd_1217, ⟨_, rfl, pd_X8_at⟩, 8, _, TX8, 3, rfl, rfl⟩)⟩
theorem ck_RX11_473_1682 : COK2 RX11 vwCl gTbl 473 0 con_1682 := ⟨wd_1218, wd_131, mh_X8_at, .inr (.inr ⟨rfl, wd_1215, wd_1216, wd_1217, ⟨_, rfl, pd_X8_at⟩, 8, _, TX8, 3, rfl, rfl⟩)⟩
theorem ck_RX11_473_1685 : COK2 RX11 vwCl gTbl 473 0 con_1685 := ⟨wd_1218, wd_131, mh_X8_at, .inr (.inr ⟨rfl, wd_1215, wd_1216, wd_1217, ⟨_, rfl, pd_X8_at⟩, 8, _, TX8, 3, rfl, rfl⟩)⟩
theorem ck_RX11_473_1688 : COK2 RX11 vwCl gTbl 473 0 con_1688 := ⟨wd_1218, wd_131, mh_X8_at, .inr (.inr ⟨rfl, wd_1215, wd_1216, wd_1217, ⟨_, rfl, pd_X8_at⟩, 8, _, TX8, 3, rfl, rfl⟩)⟩
theorem ck_RX11_473_1630 : COK2 RX11 vwCl gTbl 473 0 con_1630 := ⟨wd_1218, wd_131, mh_X8_at, .inr (.inr ⟨rfl, wd_1215, wd_1216, wd_1217, ⟨_, rfl, pd_X8_at⟩, 8, _, TX8, 3, rfl, rfl⟩)⟩
theorem ck_RX11_473_1633 : COK2 RX11 vwCl gTbl 473 0 con_1633 := ⟨wd_1218, wd_131, mh_X8_at, .inr (.inr ⟨rfl, wd_1215, wd_1216, wd_1217, ⟨_, rfl, pd_X8_at⟩, 8, _, TX8, 3, rfl, rfl⟩)⟩
theorem ck_RX11_473_1636 : COK2 RX11 vwCl gTbl 473 0 con_1636 := ⟨wd_1218, wd_131, mh_X8_at, .inr (.inr ⟨rfl, wd_1215, wd_1216, wd_1217, ⟨_, rfl, pd_X8_at⟩, 8, _, TX8, 3, rfl, rfl⟩)⟩
theorem ck_RX11_473_1639 : COK2 RX11 vwCl gTbl 473 0 con_1639 := ⟨wd_1218, wd_131, mh_X8_at, .inr (.inr ⟨rfl, wd_1215, wd_1216, wd_1217, ⟨_, rfl, pd_X8_at⟩, 8, _, TX8, 3, rfl, rfl⟩)⟩
theorem ck_RX11_473_1642 : COK2 RX11 vwCl gTbl 473 0 con_1642 := ⟨wd_1218, wd_131, mh_X8_at, .inr (.inr ⟨rfl, wd_1215, wd_1216, wd_1217, ⟨_, rfl, pd_X8_at⟩, 8, _, TX8, 3, rfl, rfl⟩)⟩
theorem ck_RX11_473_1645 : COK2 RX11 vwCl gTbl 473 0 con_1645 := ⟨wd_1218, wd_131, mh_X8_at, .inr (.inr ⟨rfl, wd_1215, wd_1216, wd_1217, ⟨_, rfl, pd_X8_at⟩, 8, _, TX8, 3, rfl, rfl⟩)⟩
theorem ck_RX11_473_1648 : COK2 RX11 vwCl gTbl 473 0 con_1648 := ⟨wd_1218, wd_131, mh_X8_at, .inr (.inr ⟨rfl, wd_1215, wd_1216, wd_1217, ⟨_, rfl, pd_X8_at⟩, 8, _, TX8, 3, rfl, rfl⟩)⟩
theorem ck_RX11_473_1651 : COK2 RX11 vwCl gTbl 473 0 con_1651 := ⟨wd_1218, wd_131, mh_X8_at, .inr (.inr ⟨rfl, wd_1215, wd_1216, wd_1217, ⟨_, rfl, pd_X8_at⟩, 8, _, TX8, 3, rfl, rfl⟩)⟩
theorem ck_RX11_473_1654 : COK2 RX11 vwCl gTbl 473 0 con_1654 := ⟨wd_1218, wd_131, mh_X8_at, .inr (.inr ⟨rfl, wd_1215, wd_1216, wd_1217, ⟨_, rfl, pd_X8_at⟩, 8, _, TX8, 3, rfl, rfl⟩)⟩
theorem ck_RX11_473_1657 : COK2 RX11 vwCl gTbl 473 0 con_1657 := ⟨wd_1218, wd_131, mh_X8_at, .inr (.inr ⟨rfl, wd_1215, wd_1216, wd_1217, ⟨_, rfl, pd_X8_at⟩, 8, _, TX8, 3, rfl, rfl⟩)⟩
theorem ck_RX11_473_1660 : COK2 RX11 vwCl gTbl 473 0 con_1660 := ⟨wd_1218, wd_131, mh_X8_at, .inr (.inr ⟨rfl, wd_1215, wd_1216, wd_1217, ⟨_, rfl, pd_X8_at⟩, 8, _, TX8, 3, rfl, rfl⟩)⟩
theorem ck_RX11_473_1663 : COK2 RX11 vwCl gTbl 473 0 con_1663 := ⟨wd_1218, wd_131, mh_X8_at, .inr (.inr ⟨rfl, wd_1215, wd_1216, wd_1217, ⟨_, rfl, pd_X8_at⟩, 8, _, TX8, 3, rfl, rfl⟩)⟩
theorem ck_RX11_473_1666 : COK2 RX11 vwCl gTbl 473 0 con_1666 := ⟨wd_1218, wd_131, mh_X8_at, .inr (.inr ⟨rfl, wd_1215, wd_1216, wd_1217, ⟨_, rfl, pd_X8_at⟩, 8, _, TX8, 3, rfl, rfl⟩)⟩
theorem ck_RX11_473_1669 : COK2 RX11 vwCl gTbl 473 0 con_1669 := ⟨wd_1218, wd_131, mh_X8_at, .inr (.inr ⟨rfl, wd_1215, wd_1216, wd_1217, ⟨_, rfl, pd_X8_at⟩, 8, _, TX8, 3, rfl, rfl⟩)⟩
theorem ck_RX11_473_1672 : COK2 RX11 vwCl gTbl 473 0 con_1672 := ⟨wd_1218, wd_131, mh_X8_at, .inr (.inr ⟨rfl, wd_1215, wd_1216, wd_1217, ⟨_, rfl, pd_X8_at⟩, 8, _, TX8, 3, rfl, rfl⟩)⟩
theorem ck_RX11_473_1675 : COK2 RX11 vwCl gTbl 473 0 con_1675 := ⟨wd_1218, wd_131, mh_X8_at, .inr (.inr ⟨rfl, wd_1215, wd_1216, wd_1217, ⟨_, rfl, pd_X8_at⟩, 8, _, TX8, 3, rfl, rfl⟩)⟩
theorem ck_RX11_473_1678 : COK2 RX11 vwCl gTbl 473 0 con_1678 := ⟨wd_1218, wd_131, mh_X8_at, .inr (.inr ⟨rfl, wd_1215, wd_1216, wd_1217, ⟨_, rfl, pd_X8_at⟩, 8, _, TX8, 3, rfl, rfl⟩)⟩
theorem ck_RX11_473_1681 : COK2 RX11 vwCl gTbl 473 0 con_1681 := ⟨wd_1218, wd_131, mh_X8_at, .inr (.inr ⟨rfl, wd_1215, wd_1216, wd_1217, ⟨_, rfl, pd_X8_at⟩, 8, _, TX8, 3, rfl, rfl⟩)⟩
theorem ck_RX11_473_1684 : COK2 RX11 vwCl gTbl 473 0 con_1684 := ⟨wd_1218, wd_131, mh_X8_at, .inr (.inr ⟨rfl, wd_1215, wd_1216, wd_1217, ⟨_, rfl, pd_X8_at⟩, 8, _, TX8, 3, rfl, rfl⟩)⟩
theorem ck_RX11_473_1687 : COK2 RX11 vwCl gTbl 473 0 con_1687 := ⟨wd_1218, wd_131, mh_X8_at, .inr (.inr ⟨rfl, wd_1215, wd_1216, wd_1217, ⟨_, rfl, pd_X8_at⟩, 8, _, TX8, 3, rfl, rfl⟩)⟩
theorem ck_RX11_420_1629 : COK2 RX11 vwCl gTbl 420 0 con_1629 := ⟨wd_1214, wd_131, mh_X8_hasRow, .inr (.inr ⟨rfl, wd_1211, wd_1212, wd_1213, ⟨_, rfl, pd_X8_hasRow⟩, 8, _, TX8, 3, rfl, rfl⟩)⟩
theorem ck_RX11_414_1628 : COK2 RX11 vwCl gTbl 414 1 con_1628 := ⟨wd_1210, wd_131, mh_X8_isSlot, .inl ⟨rfl, wd_1208, wd_1209, pd_X8_isSlot⟩⟩
noncomputable def ct_1690 : CTB2 := [(1, 414, 1, con_1628, []), (9, 139, 0, con_647, [0, 1, 2]), (23, 420, 0, con_1629, [3, 4]), (67, 473, 0, con_1687, [3, 5]), (67, 473, 0, con_1684, [3, 5]), (67, 473, 0, con_1681, [3, 5]), (67, 473, 0, con_1678, [3, 5]), (67, 473, 0, con_1675, [3, 5]), (67, 473, 0, con_1672, [3, 5]), (67, 473, 0, con_1669, [3, 5]), (67, 473, 0, con_1666, [3, 5]), (67, 473, 0, con_1663, [3, 5]), (67, 473, 0, con_1660, [3, 5]), (67, 473, 0, con_1657, [3, 5]), (67, 473, 0, con_1654, [3, 5]), (67, 473, 0, con_1651, [3, 5]), (67, 473, 0, con_1648, [3, 5]), (67, 473, 0, con_1645, [3, 5]), (67, 473, 0, con_1642, [3, 5]), (67, 473, 0, con_1639, [3, 5]), (67, 473, 0, con_1636, [3, 5]), (67, 473, 0, con_1633, [3, 5]), (67, 473, 0, con_1630, [3, 5]), (82, 476, 1, con_1502, []), (97, 473, 0, con_1688, [3, 5]), (97, 473, 0, con_1685, [3, 5]), (97, 473, 0, con_1682, [3, 5]), (97, 473, 0, con_1679, [3, 5]), (97, 473, 0, con_1676, [3, 5]), (97, 473, 0, con_1673, [3, 5]), (97, 473, 0, con_1670, [3, 5]), (97, 473, 0, con_1667, [3, 5]), (97, 473, 0, con_1664, [3, 5]), (97, 473, 0, con_1661, [3, 5]), (97, 473, 0, con_1658, [3, 5]), (97, 473, 0, con_1655, [3, 5]), (97, 473, 0, con_1652, [3, 5]), (97, 473, 0, con_1649, [3, 5]), (97, 473, 0, con_1646, [3, 5]), (97, 473, 0, con_1643, [3, 5]), (97, 473, 0, con_1640, [3, 5]), (97, 473, 0, con_1637, [3, 5]), (97, 473, 0, con_1634, [3, 5]), (97, 473, 0, con_1631, [3, 5]), (110, 476, 1, con_1504, []), (125, 473, 0, con_1689, [3, 5]), (125, 473, 0, con_1686, [3, 5]), (125, 473, 0, con_1683, [3, 5]), (125, 473, 0, con_1680, [3, 5]), (125, 473, 0, con_1677, [3, 5]), (125, 473, 0, con_1674, [3, 5]), (125, 473, 0, con_1671, [3, 5]), (125, 473, 0, con_1668, [3, 5]), (125, 473, 0, con_1665, [3, 5]), (125, 473, 0, con_1662, [3, 5]), (125, 473, 0, con_1659, [3, 5]), (125, 473, 0, con_1656, [3, 5]), (125, 473, 0, con_1653, [3, 5]), (125, 473, 0, con_1650, [3, 5]), (125, 473, 0, con_1647, [3, 5]), (125, 473, 0, con_1644, [3, 5]), (125, 473, 0, con_1641, [3, 5]), (125, 473, 0, con_1638, [3, 5]), (125, 473, 0, con_1635, [3, 5]), (125, 473, 0, con_1632, [3, 5]), (131, 476, 1, con_1506, [])]
noncomputable def gi_1046 : GI := jl_n [gp_529, jl_i 0 60, gp_530, jl_z 5]
noncomputable def gi_1047 : GI := jl_n [gp_529, jl_i 1 60, gp_545, jl_z 5]
noncomputable def gi_1048 : GI := jl_n [gp_529, jl_i 4 60, gp_567, jl_z 5]
noncomputable def gi_1049 : GI := jl_n [gp_529, jl_i 7 60, gp_570, jl_z 5]
noncomputable def gi_1050 : GI := jl_n [gp_529, jl_i 10 60, gp_532, jl_z 5]
noncomputable def gi_1051 : GI := jl_n [gp_529, jl_i 13 60, gp_534, jl_z 5]
noncomputable def gi_1052 : GI := jl_n [gp_529, jl_i 16 60, gp_536, jl_z 5]
noncomputable def gi_1053 : GI := jl_n [gp_529, jl_i 19 60, gp_538, jl_z 5]
noncomputable def gi_1054 : GI := jl_n [gp_529, jl_i 22 60, gp_541, jl_z 5]
noncomputable def gi_1055 : GI := jl_n [gp_529, jl_i 25 60, gp_543, jl_z 5]
noncomputable def gi_1056 : GI := jl_n [gp_529, jl_i 28 60, gp_547, jl_z 5]
noncomputable def gi_1057 : GI := jl_n [gp_529, jl_i 31 60, gp_549, jl_z 5]
noncomputable def gi_1058 : GI := jl_n [gp_529, jl_i 34 60, gp_551, jl_z 5]
noncomputable def gi_1059 : GI := jl_n [gp_529, jl_i 37 60, gp_553, jl_z 5]
noncomputable def gi_1060 : GI := jl_n [gp_529, jl_i 40 60, gp_555, jl_z 5]
noncomputable def gi_1061 : GI := jl_n [gp_529, jl_i 43 60, gp_557, jl_z 5]
noncomputable def gi_1062 : GI := jl_n [gp_529, jl_i 46 60, gp_559, jl_z 5]
noncomputable def gi_1063 : GI := jl_n [gp_529, jl_i 49 60, gp_561, jl_z 5]
noncomputable def gi_1064 : GI := jl_n [gp_529, jl_i 52 60, gp_563, jl_z 5]
noncomputable def gi_1065 : GI := jl_n [gp_529, jl_i 55 60, gp_565, jl_z 5]
noncomputable def gi_1066 : GI := jl_n [gp_529, gp_569, jl_z 5]
noncomputable def cu_1690_0 : List CUT2 := [((54, [lq 0 6 0, lq 1 0 1, lq 2 1 2, lq 3 1 42, lq 4 0 0], [], gi_1046, hq_823), [], ([], 60)), ((54, [lq 0 6 0, lq 1 0 1, lq 2 1 2, lq 3 1 42, lq 4 0 3], [], gi_1047, hq_823), [], ([], 57)), ((54, [lq 0 6 0, lq 1 0 1, lq 2 1 2, lq 3 1 42, lq 4 0 6], [], gi_1048, hq_823), [], ([], 54)), ((54, [lq 0 6 0, lq 1 0 1, lq 2 1 2, lq 3 1 42, lq 4 0 9], [], gi_1049, hq_823), [], ([], 51)), ((54, [lq 0 6 0, lq 1 0 1, lq 2 1 2, lq 3 1 42, lq 4 0 12], [], gi_1050, hq_823), [], ([], 48)), ((54, [lq 0 6 0, lq 1 0 1, lq 2 1 2, lq 3 1 42, lq 4 0 15], [], gi_1051, hq_823), [], ([], 45)), ((54, [lq 0 6 0, lq 1 0 1, lq 2 1 2, lq 3 1 42, lq 4 0 18], [], gi_1052, hq_823), [], ([], 42)), ((54, [lq 0 6 0, lq 1 0 1, lq 2 1 2, lq 3 1 42, lq 4 0 21], [], gi_1053, hq_823), [], ([], 39)), ((54, [lq 0 6 0, lq 1 0 1, lq 2 1 2, lq 3 1 42, lq 4 0 24], [], gi_1054, hq_823), [], ([], 36)), ((54, [lq 0 6 0, lq 1 0 1, lq 2 1 2, lq 3 1 42, lq 4 0 27], [], gi_1055, hq_823), [], ([], 33)), ((54, [lq 0 6 0, lq 1 0 1, lq 2 1 2, lq 3 1 42, lq 4 0 30], [], gi_1056, hq_823), [], ([], 30)), ((54, [lq 0 6 0, lq 1 0 1, lq 2 1 2, lq 3 1 42, lq 4 0 33], [], gi_1057, hq_823), [], ([], 27)), ((54, [lq 0 6 0, lq 1 0 1, lq 2 1 2, lq 3 1 42, lq 4 0 36], [], gi_1058, hq_823), [], ([], 24))]
noncomputable def cu_1690_1 : List CUT2 := [((54, [lq 0 6 0, lq 1 0 1, lq 2 1 2, lq 3 1 42, lq 4 0 39], [], gi_1059, hq_823), [], ([], 21)), ((54, [lq 0 6 0, lq 1 0 1, lq 2 1 2, lq 3 1 42, lq 4 0 42], [], gi_1060, hq_823), [], ([], 18)), ((54, [lq 0 6 0, lq 1 0 1, lq 2 1 2, lq 3 1 42, lq 4 0 45], [], gi_1061, hq_823), [], ([], 15)), ((54, [lq 0 6 0, lq 1 0 1, lq 2 1 2, lq 3 1 42, lq 4 0 48], [], gi_1062, hq_823), [], ([], 12)), ((54, [lq 0 6 0, lq 1 0 1, lq 2 1 2, lq 3 1 42, lq 4 0 51], [], gi_1063, hq_823), [], ([], 9)), ((54, [lq 0 6 0, lq 1 0 1, lq 2 1 2, lq 3 1 42, lq 4 0 54], [], gi_1064, hq_823), [], ([], 6)), ((54, [lq 0 6 0, lq 1 0 1, lq 2 1 2, lq 3 1 42, lq 4 0 57], [], gi_1065, hq_823), [], ([], 3)), ((54, [lq 0 6 0, lq 1 0 1, lq 2 1 2, lq 3 1 42, lq 4 0 60], [], gi_1066, hq_823), [], ([], 0))]
noncomputable def cu_1690 : List CUT2 := cu_1690_0 ++ (cu_1690_1)
theorem ch_1690 : staG tb_X11_wrongSeen 1 bt_RX11 [] ct_1690 [] [] cu_1690 44 con_1690 = true := by decide +kernel
theorem cc_1690_0 : cu_1690_0.all (cutG tb_X11_wrongSeen 1 bt_RX11 [] ct_1690 [] [] cu_1690 44 con_1690) = true := by decide +kernel
theorem cc_1690_1 : cu_1690_1.all (cutG tb_X11_wrongSeen 1 bt_RX11 [] ct_1690 [] [] cu_1690 44 con_1690) = true := by decide +kernel
theorem cto_1690 (l : Launch) : CTOK2 l RX11 vwCl gTbl ct_1690 := ct2_cons (vl_1628 l) ck_RX11_414_1628 (ct2_cons (vl_647 l) ck_RX11_139_647 (ct2_cons (vl_1629 l) ck_RX11_420_1629 (ct2_cons (vl_1687 l) ck_RX11_473_1687 (ct2_cons (vl_1684 l) ck_RX11_473_1684 (ct2_cons (vl_1681 l) ck_RX11_473_1681 (ct2_cons (vl_1678 l) ck_RX11_473_1678 (ct2_cons (vl_1675 l) ck_RX11_473_1675 (ct2_cons (vl_1672 l) ck_RX11_473_1672 (ct2_cons (vl_1669 l) ck_RX11_473_1669 (ct2_cons (vl_1666 l) ck_RX11_473_1666 (ct2_cons (vl_1663 l) ck_RX11_473_1663 (ct2_cons (vl_1660 l) ck_RX11_473_1660 (ct2_cons (vl_1657 l) ck_RX11_473_1657 (ct2_cons (vl_1654 l) ck_RX11_473_1654 (ct2_cons (vl_1651 l) ck_RX11_473_1651 (ct2_cons (vl_1648 l) ck_RX11_473_1648 (ct2_cons (vl_1645 l) ck_RX11_473_1645 (ct2_cons (vl_1642 l) ck_RX11_473_1642 (ct2_cons (vl_1639 l) ck_RX11_473_1639 (ct2_cons (vl_1636 l) ck_RX11_473_1636 (ct2_cons (vl_1633 l) ck_RX11_473_1633 (ct2_cons (vl_1630 l) ck_RX11_473_1630 (ct2_cons (vl_1502 l) ck_RX11_476_1502 (ct2_cons (vl_1688 l) ck_RX11_473_1688 (ct2_cons (vl_1685 l) ck_RX11_473_1685 (ct2_cons (vl_1682 l) ck_RX11_473_1682 (ct2_cons (vl_1679 l) ck_RX11_473_1679 (ct2_cons (vl_1676 l) ck_RX11_473_1676 (ct2_cons (vl_1673 l) ck_RX11_473_1673 (ct2_cons (vl_1670 l) ck_RX11_473_1670 (ct2_cons (vl_1667 l) ck_RX11_473_1667 (ct2_cons (vl_1664 l) ck_RX11_473_1664 (ct2_cons (vl_1661 l) ck_RX11_473_1661 (ct2_cons (vl_1658 l) ck_RX11_473_1658 (ct2_cons (vl_1655 l) ck_RX11_473_1655 (ct2_cons (vl_1652 l) ck_RX11_473_1652 (ct2_cons (vl_1649 l) ck_RX11_473_1649 (ct2_cons (vl_1646 l) ck_RX11_473_1646 (ct2_cons (vl_1643 l) ck_RX11_473_1643 (ct2_cons (vl_1640 l) ck_RX11_473_1640 (ct2_cons (vl_1637 l) ck_RX11_473_1637 (ct2_cons (vl_1634 l) ck_RX11_473_1634 (ct2_cons (vl_1631 l) ck_RX11_473_1631 (ct2_cons (vl_1504 l) ck_RX11_476_1504 (ct2_cons (vl_1689 l) ck_RX11_473_1689 (ct2_cons (vl_1686 l) ck_RX11_473_1686 (ct2_cons (vl_1683 l) ck_RX11_473_1683 (ct2_cons (vl_1680 l) ck_RX11_473_1680 (ct2_cons (vl_1677 l) ck_RX11_473_1677 (ct2_cons (vl_1674 l) ck_RX11_473_1674 (ct2_cons (vl_1671 l) ck_RX11_473_1671 (ct2_cons (vl_1668 l) ck_RX11_473_1668 (ct2_cons (vl_1665 l) ck_RX11_473_1665 (ct2_cons (vl_1662 l) ck_RX11_473_1662 (ct2_cons (vl_1659 l) ck_RX11_473_1659 (ct2_cons (vl_1656 l) ck_RX11_473_1656 (ct2_cons (vl_1653 l) ck_RX11_473_1653 (ct2_cons (vl_1650 l) ck_RX11_473_1650 (ct2_cons (vl_1647 l) ck_RX11_473_1647 (ct2_cons (vl_1644 l) ck_RX11_473_1644 (ct2_cons (vl_1641 l) ck_RX11_473_1641 (ct2_cons (vl_1638 l) ck_RX11_473_1638 (ct2_cons (vl_1635 l) ck_RX11_473_1635 (ct2_cons (vl_1632 l) ck_RX11_473_1632 (ct2_cons (vl_1506 l) ck_RX11_476_1506 (ct2_nil))))))))))))))))))))))))))))))))))))))))))))))))))))))))))))))))))
theorem vl_1690 (l : Launch) : Vld2 l vwCl gTbl con_1690 := conR_ok3 gT_all (hd_1690) rfl pn_RX11 tk_X11_wrongSeen bo_RX11 xo_RX11 (cto_1690 l) ch_1690 (cut_app (cut_all cc_1690_0) (cut_all cc_1690_1))
/-- RookHusting$Slots isSlot -/
noncomputable def con_1691 : Con2 := ((yX8_isSlot, cX8_isSlot, 1, (some .boolean)), (0, 0), ([(0, 0, 0)], [(0, 0)], [], []), [((0, 1, 0), [(0, 0), (0, 0)], [], [], [1])])
theorem hd_1691 : con_1691.1 = (yX8_isSlot, cX8_isSlot, 1, (some .boolean)) := rfl
noncomputable def cu_1691 : List CUT2 := []
theorem ch_1691 : staG tb_X8_isSlot 1 bt_RX8 [] ct_1497 [] [] cu_1691 10 con_1691 = true := by decide +kernel
theorem vl_1691 (l : Launch) : Vld2 l vwCl gTbl con_1691 := conR_ok3 gT_all (hd_1691) rfl pn_RX8 tk_X8_isSlot bo_RX8 xo_RX8 (cto_1497 l) ch_1691 cut_nil
/-- RookHusting$Slots hasRow -/
noncomputable def gi_1067 : GI := jl_n [jl_z 5, jl_k 0 0, jl_r 3 (jl_m 0 60), jl_z 1]
noncomputable def gi_1068 : GI := jl_n [jl_z 5, jl_i 0 60, jl_r 3 (jl_m 0 60), jl_z 1]
noncomputable def con_1692 : Con2 := ((yX8_hasRow, cX8_hasRow, 2, (some .boolean)), (0, 0), ([(6, 0, 0), (0, 0, 0)], gi_924, [.inl (8, [(8, 2, 0), (8, 3, 0), (6, 1, 0)]), ac_808], []), [((0, 0, 0), gi_1067, hq_640, [], [1]), ((0, 1, 0), gi_1068, hq_640, [], [1])])
theorem hd_1692 : con_1692.1 = (yX8_hasRow, cX8_hasRow, 2, (some .boolean)) := rfl
noncomputable def cu_1692 : List CUT2 := []
theorem ch_1692 : staG tb_X8_hasRow 1 bt_RX8 [] ct_1497 [] [] cu_1692 11 con_1692 = true := by decide +kernel
theorem vl_1692 (l : Launch) : Vld2 l vwCl gTbl con_1692 := conR_ok3 gT_all (hd_1692) rfl pn_RX8 tk_X8_hasRow bo_RX8 xo_RX8 (cto_1497 l) ch_1692 cut_nil
/-- RookHusting$Slots at -/
noncomputable def ac_992 : AC := .inr (2, jl_n [js_4 7 1, js_5 239 9223372036854775807 9223372036854775807])
noncomputable def hq_824 : HP := [(false, .inl (8, [(6, 1, 0), (8, 4, 0), (8, 5, 0)])), (false, ac_992)]
noncomputable def con_1693 : Con2 := ((yX8_at, cX8_at, 3, (some .long)), (0, 0), ([(6, 0, 0), (0, 0, 0), (0, 0, 0)], gi_927, [.inl (8, [(6, 1, 0), (8, 4, 0), (8, 5, 0)]), ac_992], []), [((4, 6, 0), gi_928, hq_824, [], [1])])
theorem hd_1693 : con_1693.1 = (yX8_at, cX8_at, 3, (some .long)) := rfl
noncomputable def cu_1693 : List CUT2 := []
theorem ch_1693 : staG tb_X8_at 1 bt_RX8 [] ct_1497 [] [] cu_1693 11 con_1693 = true := by decide +kernel
theorem vl_1693 (l : Launch) : Vld2 l vwCl gTbl con_1693 := conR_ok3 gT_all (hd_1693) rfl pn_RX8 tk_X8_at bo_RX8 xo_RX8 (cto_1497 l) ch_1693 cut_nil
/-- RookHusting$Slots at -/
noncomputable def gi_1069 : GI := jl_n [jl_z 7, jl_u]
noncomputable def ac_993 : AC := .inr (2, jl_n [js_5 1 9223372036854775807 9223372036854775807, js_4 8 1, js_5 238 9223372036854775807 9223372036854775807])
noncomputable def gi_1070 : GI := jl_n [jl_z 7, gp_129]
noncomputable def hq_825 : HP := [(false, .inl (8, [(6, 1, 0), (8, 4, 0), (8, 5, 0)])), (false, ac_993)]
noncomputable def con_1694 : Con2 := ((yX8_at, cX8_at, 3, (some .long)), (0, 0), ([(6, 0, 0), (0, 0, 0), (0, 1, 0)], gi_1069, [.inl (8, [(6, 1, 0), (8, 4, 0), (8, 5, 0)]), ac_993], []), [((4, 7, 0), gi_1070, hq_825, [], [1])])
theorem hd_1694 : con_1694.1 = (yX8_at, cX8_at, 3, (some .long)) := rfl
noncomputable def cu_1694 : List CUT2 := []
theorem ch_1694 : staG tb_X8_at 1 bt_RX8 [] ct_1497 [] [] cu_1694 11 con_1694 = true := by decide +kernel
theorem vl_1694 (l : Launch) : Vld2 l vwCl gTbl con_1694 := conR_ok3 gT_all (hd_1694) rfl pn_RX8 tk_X8_at bo_RX8 xo_RX8 (cto_1497 l) ch_1694 cut_nil
/-- RookHusting$Slots at -/
noncomputable def ac_994 : AC := .inr (2, jl_n [js_5 2 9223372036854775807 9223372036854775807, js_4 7 1, js_5 237 9223372036854775807 9223372036854775807])
noncomputable def hq_826 : HP := [(false, .inl (8, [(6, 1, 0), (8, 4, 0), (8, 5, 0)])), (false, ac_994)]
noncomputable def con_1695 : Con2 := ((yX8_at, cX8_at, 3, (some .long)), (0, 0), ([(6, 0, 0), (0, 0, 0), (0, 2, 0)], gi_927, [.inl (8, [(6, 1, 0), (8, 4, 0), (8, 5, 0)]), ac_994], []), [((4, 6, 0), gi_928, hq_826, [], [1])])
theorem hd_1695 : con_1695.1 = (yX8_at, cX8_at, 3, (some .long)) := rfl
noncomputable def cu_1695 : List CUT2 := []
theorem ch_1695 : staG tb_X8_at 1 bt_RX8 [] ct_1497 [] [] cu_1695 11 con_1695 = true := by decide +kernel
theorem vl_1695 (l : Launch) : Vld2 l vwCl gTbl con_1695 := conR_ok3 gT_all (hd_1695) rfl pn_RX8 tk_X8_at bo_RX8 xo_RX8 (cto_1497 l) ch_1695 cut_nil
/-- RookHusting$Slots at -/
noncomputable def ac_995 : AC := .inr (2, jl_n [js_5 3 9223372036854775807 9223372036854775807, js_4 7 1, js_5 236 9223372036854775807 9223372036854775807])
noncomputable def hq_827 : HP := [(false, .inl (8, [(6, 1, 0), (8, 4, 0), (8, 5, 0)])), (false, ac_995)]
noncomputable def con_1696 : Con2 := ((yX8_at, cX8_at, 3, (some .long)), (0, 0), ([(6, 0, 0), (0, 0, 0), (0, 3, 0)], gi_927, [.inl (8, [(6, 1, 0), (8, 4, 0), (8, 5, 0)]), ac_995], []), [((4, 6, 0), gi_928, hq_827, [], [1])])
theorem hd_1696 : con_1696.1 = (yX8_at, cX8_at, 3, (some .long)) := rfl
noncomputable def cu_1696 : List CUT2 := []
theorem ch_1696 : staG tb_X8_at 1 bt_RX8 [] ct_1497 [] [] cu_1696 11 con_1696 = true := by decide +kernel
theorem vl_1696 (l : Launch) : Vld2 l vwCl gTbl con_1696 := conR_ok3 gT_all (hd_1696) rfl pn_RX8 tk_X8_at bo_RX8 xo_RX8 (cto_1497 l) ch_1696 cut_nil
/-- RookHusting$Slots at -/
noncomputable def ac_996 : AC := .inr (2, jl_n [js_5 4 9223372036854775807 9223372036854775807, js_4 7 1, js_5 235 9223372036854775807 9223372036854775807])
noncomputable def hq_828 : HP := [(false, .inl (8, [(6, 1, 0), (8, 4, 0), (8, 5, 0)])), (false, ac_996)]
noncomputable def con_1697 : Con2 := ((yX8_at, cX8_at, 3, (some .long)), (0, 0), ([(6, 0, 0), (0, 0, 0), (0, 4, 0)], gi_927, [.inl (8, [(6, 1, 0), (8, 4, 0), (8, 5, 0)]), ac_996], []), [((4, 6, 0), gi_928, hq_828, [], [1])])
theorem hd_1697 : con_1697.1 = (yX8_at, cX8_at, 3, (some .long)) := rfl
noncomputable def cu_1697 : List CUT2 := []
theorem ch_1697 : staG tb_X8_at 1 bt_RX8 [] ct_1497 [] [] cu_1697 11 con_1697 = true := by decide +kernel
theorem vl_1697 (l : Launch) : Vld2 l vwCl gTbl con_1697 := conR_ok3 gT_all (hd_1697) rfl pn_RX8 tk_X8_at bo_RX8 xo_RX8 (cto_1497 l) ch_1697 cut_nil
/-- RookHusting$Slots at -/
noncomputable def ac_997 : AC := .inr (2, jl_n [js_5 5 9223372036854775807 9223372036854775807, js_4 7 1, js_5 234 9223372036854775807 9223372036854775807])
noncomputable def hq_829 : HP := [(false, .inl (8, [(6, 1, 0), (8, 4, 0), (8, 5, 0)])), (false, ac_997)]
noncomputable def con_1698 : Con2 := ((yX8_at, cX8_at, 3, (some .long)), (0, 0), ([(6, 0, 0), (0, 0, 0), (0, 5, 0)], gi_927, [.inl (8, [(6, 1, 0), (8, 4, 0), (8, 5, 0)]), ac_997], []), [((4, 6, 0), gi_928, hq_829, [], [1])])
theorem hd_1698 : con_1698.1 = (yX8_at, cX8_at, 3, (some .long)) := rfl
noncomputable def cu_1698 : List CUT2 := []
theorem ch_1698 : staG tb_X8_at 1 bt_RX8 [] ct_1497 [] [] cu_1698 11 con_1698 = true := by decide +kernel
theorem vl_1698 (l : Launch) : Vld2 l vwCl gTbl con_1698 := conR_ok3 gT_all (hd_1698) rfl pn_RX8 tk_X8_at bo_RX8 xo_RX8 (cto_1497 l) ch_1698 cut_nil
/-- RookHusting$Slots at -/
noncomputable def ac_998 : AC := .inr (2, jl_n [js_5 6 9223372036854775807 9223372036854775807, js_4 7 1, js_5 233 9223372036854775807 9223372036854775807])
noncomputable def hq_830 : HP := [(false, .inl (8, [(6, 1, 0), (8, 4, 0), (8, 5, 0)])), (false, ac_998)]
noncomputable def con_1699 : Con2 := ((yX8_at, cX8_at, 3, (some .long)), (0, 0), ([(6, 0, 0), (0, 0, 0), (0, 6, 0)], gi_927, [.inl (8, [(6, 1, 0), (8, 4, 0), (8, 5, 0)]), ac_998], []), [((4, 6, 0), gi_928, hq_830, [], [1])])
theorem hd_1699 : con_1699.1 = (yX8_at, cX8_at, 3, (some .long)) := rfl
noncomputable def cu_1699 : List CUT2 := []
theorem ch_1699 : staG tb_X8_at 1 bt_RX8 [] ct_1497 [] [] cu_1699 11 con_1699 = true := by decide +kernel
theorem vl_1699 (l : Launch) : Vld2 l vwCl gTbl con_1699 := conR_ok3 gT_all (hd_1699) rfl pn_RX8 tk_X8_at bo_RX8 xo_RX8 (cto_1497 l) ch_1699 cut_nil
/-- RookHusting$Slots at -/
noncomputable def ac_999 : AC := .inr (2, jl_n [js_5 7 9223372036854775807 9223372036854775807, js_4 7 1, js_5 232 9223372036854775807 9223372036854775807])
noncomputable def hq_831 : HP := [(false, .inl (8, [(6, 1, 0), (8, 4, 0), (8, 5, 0)])), (false, ac_999)]
noncomputable def con_1700 : Con2 := ((yX8_at, cX8_at, 3, (some .long)), (0, 0), ([(6, 0, 0), (0, 0, 0), (0, 7, 0)], gi_927, [.inl (8, [(6, 1, 0), (8, 4, 0), (8, 5, 0)]), ac_999], []), [((4, 6, 0), gi_928, hq_831, [], [1])])
theorem hd_1700 : con_1700.1 = (yX8_at, cX8_at, 3, (some .long)) := rfl
noncomputable def cu_1700 : List CUT2 := []
theorem ch_1700 : staG tb_X8_at 1 bt_RX8 [] ct_1497 [] [] cu_1700 11 con_1700 = true := by decide +kernel
theorem vl_1700 (l : Launch) : Vld2 l vwCl gTbl con_1700 := conR_ok3 gT_all (hd_1700) rfl pn_RX8 tk_X8_at bo_RX8 xo_RX8 (cto_1497 l) ch_1700 cut_nil
/-- RookHusting$Slots at -/
noncomputable def ac_1000 : AC := .inr (2, jl_n [js_5 8 9223372036854775807 9223372036854775807, js_4 7 1, js_5 231 9223372036854775807 9223372036854775807])
noncomputable def hq_832 : HP := [(false, .inl (8, [(6, 1, 0), (8, 4, 0), (8, 5, 0)])), (false, ac_1000)]
noncomputable def con_1701 : Con2 := ((yX8_at, cX8_at, 3, (some .long)), (0, 0), ([(6, 0, 0), (0, 0, 0), (0, 8, 0)], gi_927, [.inl (8, [(6, 1, 0), (8, 4, 0), (8, 5, 0)]), ac_1000], []), [((4, 6, 0), gi_928, hq_832, [], [1])])
theorem hd_1701 : con_1701.1 = (yX8_at, cX8_at, 3, (some .long)) := rfl
noncomputable def cu_1701 : List CUT2 := []
theorem ch_1701 : staG tb_X8_at 1 bt_RX8 [] ct_1497 [] [] cu_1701 11 con_1701 = true := by decide +kernel
theorem vl_1701 (l : Launch) : Vld2 l vwCl gTbl con_1701 := conR_ok3 gT_all (hd_1701) rfl pn_RX8 tk_X8_at bo_RX8 xo_RX8 (cto_1497 l) ch_1701 cut_nil
/-- RookHusting$Slots at -/
noncomputable def ac_1001 : AC := .inr (2, jl_n [js_5 9 9223372036854775807 9223372036854775807, js_4 7 1, js_5 230 9223372036854775807 9223372036854775807])
noncomputable def hq_833 : HP := [(false, .inl (8, [(6, 1, 0), (8, 4, 0), (8, 5, 0)])), (false, ac_1001)]
noncomputable def con_1702 : Con2 := ((yX8_at, cX8_at, 3, (some .long)), (0, 0), ([(6, 0, 0), (0, 0, 0), (0, 9, 0)], gi_927, [.inl (8, [(6, 1, 0), (8, 4, 0), (8, 5, 0)]), ac_1001], []), [((4, 6, 0), gi_928, hq_833, [], [1])])
theorem hd_1702 : con_1702.1 = (yX8_at, cX8_at, 3, (some .long)) := rfl
noncomputable def cu_1702 : List CUT2 := []
theorem ch_1702 : staG tb_X8_at 1 bt_RX8 [] ct_1497 [] [] cu_1702 11 con_1702 = true := by decide +kernel
theorem vl_1702 (l : Launch) : Vld2 l vwCl gTbl con_1702 := conR_ok3 gT_all (hd_1702) rfl pn_RX8 tk_X8_at bo_RX8 xo_RX8 (cto_1497 l) ch_1702 cut_nil
/-- RookHusting$Slots at -/
noncomputable def ac_1002 : AC := .inr (2, jl_n [js_5 10 9223372036854775807 9223372036854775807, js_4 7 1, js_5 229 9223372036854775807 9223372036854775807])
noncomputable def hq_834 : HP := [(false, .inl (8, [(6, 1, 0), (8, 4, 0), (8, 5, 0)])), (false, ac_1002)]
noncomputable def con_1703 : Con2 := ((yX8_at, cX8_at, 3, (some .long)), (0, 0), ([(6, 0, 0), (0, 0, 0), (0, 10, 0)], gi_927, [.inl (8, [(6, 1, 0), (8, 4, 0), (8, 5, 0)]), ac_1002], []), [((4, 6, 0), gi_928, hq_834, [], [1])])
theorem hd_1703 : con_1703.1 = (yX8_at, cX8_at, 3, (some .long)) := rfl
noncomputable def cu_1703 : List CUT2 := []
theorem ch_1703 : staG tb_X8_at 1 bt_RX8 [] ct_1497 [] [] cu_1703 11 con_1703 = true := by decide +kernel
theorem vl_1703 (l : Launch) : Vld2 l vwCl gTbl con_1703 := conR_ok3 gT_all (hd_1703) rfl pn_RX8 tk_X8_at bo_RX8 xo_RX8 (cto_1497 l) ch_1703 cut_nil
/-- RookHusting$Slots at -/
noncomputable def ac_1003 : AC := .inr (2, jl_n [js_5 11 9223372036854775807 9223372036854775807, js_4 7 1, js_5 228 9223372036854775807 9223372036854775807])
noncomputable def hq_835 : HP := [(false, .inl (8, [(6, 1, 0), (8, 4, 0), (8, 5, 0)])), (false, ac_1003)]
noncomputable def con_1704 : Con2 := ((yX8_at, cX8_at, 3, (some .long)), (0, 0), ([(6, 0, 0), (0, 0, 0), (0, 11, 0)], gi_927, [.inl (8, [(6, 1, 0), (8, 4, 0), (8, 5, 0)]), ac_1003], []), [((4, 6, 0), gi_928, hq_835, [], [1])])
theorem hd_1704 : con_1704.1 = (yX8_at, cX8_at, 3, (some .long)) := rfl
noncomputable def cu_1704 : List CUT2 := []
theorem ch_1704 : staG tb_X8_at 1 bt_RX8 [] ct_1497 [] [] cu_1704 11 con_1704 = true := by decide +kernel
theorem vl_1704 (l : Launch) : Vld2 l vwCl gTbl con_1704 := conR_ok3 gT_all (hd_1704) rfl pn_RX8 tk_X8_at bo_RX8 xo_RX8 (cto_1497 l) ch_1704 cut_nil
/-- RookHusting$Slots at -/
noncomputable def ac_1004 : AC := .inr (2, jl_n [js_5 12 9223372036854775807 9223372036854775807, js_4 7 1, js_5 227 9223372036854775807 9223372036854775807])
noncomputable def hq_836 : HP := [(false, .inl (8, [(6, 1, 0), (8, 4, 0), (8, 5, 0)])), (false, ac_1004)]
noncomputable def con_1705 : Con2 := ((yX8_at, cX8_at, 3, (some .long)), (0, 0), ([(6, 0, 0), (0, 0, 0), (0, 12, 0)], gi_927, [.inl (8, [(6, 1, 0), (8, 4, 0), (8, 5, 0)]), ac_1004], []), [((4, 6, 0), gi_928, hq_836, [], [1])])
theorem hd_1705 : con_1705.1 = (yX8_at, cX8_at, 3, (some .long)) := rfl
noncomputable def cu_1705 : List CUT2 := []
theorem ch_1705 : staG tb_X8_at 1 bt_RX8 [] ct_1497 [] [] cu_1705 11 con_1705 = true := by decide +kernel
theorem vl_1705 (l : Launch) : Vld2 l vwCl gTbl con_1705 := conR_ok3 gT_all (hd_1705) rfl pn_RX8 tk_X8_at bo_RX8 xo_RX8 (cto_1497 l) ch_1705 cut_nil
/-- RookHusting$Slots at -/
noncomputable def ac_1005 : AC := .inr (2, jl_n [js_5 13 9223372036854775807 9223372036854775807, js_4 7 1, js_5 226 9223372036854775807 9223372036854775807])
noncomputable def hq_837 : HP := [(false, .inl (8, [(6, 1, 0), (8, 4, 0), (8, 5, 0)])), (false, ac_1005)]
noncomputable def con_1706 : Con2 := ((yX8_at, cX8_at, 3, (some .long)), (0, 0), ([(6, 0, 0), (0, 0, 0), (0, 13, 0)], gi_927, [.inl (8, [(6, 1, 0), (8, 4, 0), (8, 5, 0)]), ac_1005], []), [((4, 6, 0), gi_928, hq_837, [], [1])])
theorem hd_1706 : con_1706.1 = (yX8_at, cX8_at, 3, (some .long)) := rfl
noncomputable def cu_1706 : List CUT2 := []
theorem ch_1706 : staG tb_X8_at 1 bt_RX8 [] ct_1497 [] [] cu_1706 11 con_1706 = true := by decide +kernel
theorem vl_1706 (l : Launch) : Vld2 l vwCl gTbl con_1706 := conR_ok3 gT_all (hd_1706) rfl pn_RX8 tk_X8_at bo_RX8 xo_RX8 (cto_1497 l) ch_1706 cut_nil
/-- RookHusting$Slots at -/
noncomputable def ac_1006 : AC := .inr (2, jl_n [js_5 14 9223372036854775807 9223372036854775807, js_4 7 1, js_5 225 9223372036854775807 9223372036854775807])
noncomputable def hq_838 : HP := [(false, .inl (8, [(6, 1, 0), (8, 4, 0), (8, 5, 0)])), (false, ac_1006)]
noncomputable def con_1707 : Con2 := ((yX8_at, cX8_at, 3, (some .long)), (0, 0), ([(6, 0, 0), (0, 0, 0), (0, 14, 0)], gi_927, [.inl (8, [(6, 1, 0), (8, 4, 0), (8, 5, 0)]), ac_1006], []), [((4, 6, 0), gi_928, hq_838, [], [1])])
theorem hd_1707 : con_1707.1 = (yX8_at, cX8_at, 3, (some .long)) := rfl
noncomputable def cu_1707 : List CUT2 := []
theorem ch_1707 : staG tb_X8_at 1 bt_RX8 [] ct_1497 [] [] cu_1707 11 con_1707 = true := by decide +kernel
theorem vl_1707 (l : Launch) : Vld2 l vwCl gTbl con_1707 := conR_ok3 gT_all (hd_1707) rfl pn_RX8 tk_X8_at bo_RX8 xo_RX8 (cto_1497 l) ch_1707 cut_nil
/-- RookHusting$Slots at -/
noncomputable def ac_1007 : AC := .inr (2, jl_n [js_5 15 9223372036854775807 9223372036854775807, js_4 7 1, js_5 224 9223372036854775807 9223372036854775807])
noncomputable def hq_839 : HP := [(false, .inl (8, [(6, 1, 0), (8, 4, 0), (8, 5, 0)])), (false, ac_1007)]
noncomputable def con_1708 : Con2 := ((yX8_at, cX8_at, 3, (some .long)), (0, 0), ([(6, 0, 0), (0, 0, 0), (0, 15, 0)], gi_927, [.inl (8, [(6, 1, 0), (8, 4, 0), (8, 5, 0)]), ac_1007], []), [((4, 6, 0), gi_928, hq_839, [], [1])])
theorem hd_1708 : con_1708.1 = (yX8_at, cX8_at, 3, (some .long)) := rfl
noncomputable def cu_1708 : List CUT2 := []
theorem ch_1708 : staG tb_X8_at 1 bt_RX8 [] ct_1497 [] [] cu_1708 11 con_1708 = true := by decide +kernel
theorem vl_1708 (l : Launch) : Vld2 l vwCl gTbl con_1708 := conR_ok3 gT_all (hd_1708) rfl pn_RX8 tk_X8_at bo_RX8 xo_RX8 (cto_1497 l) ch_1708 cut_nil
/-- RookHusting$Slots at -/
noncomputable def ac_1008 : AC := .inr (2, jl_n [js_5 16 9223372036854775807 9223372036854775807, js_4 7 1, js_5 223 9223372036854775807 9223372036854775807])
noncomputable def hq_840 : HP := [(false, .inl (8, [(6, 1, 0), (8, 4, 0), (8, 5, 0)])), (false, ac_1008)]
noncomputable def con_1709 : Con2 := ((yX8_at, cX8_at, 3, (some .long)), (0, 0), ([(6, 0, 0), (0, 0, 0), (0, 16, 0)], gi_927, [.inl (8, [(6, 1, 0), (8, 4, 0), (8, 5, 0)]), ac_1008], []), [((4, 6, 0), gi_928, hq_840, [], [1])])
theorem hd_1709 : con_1709.1 = (yX8_at, cX8_at, 3, (some .long)) := rfl
noncomputable def cu_1709 : List CUT2 := []
theorem ch_1709 : staG tb_X8_at 1 bt_RX8 [] ct_1497 [] [] cu_1709 11 con_1709 = true := by decide +kernel
theorem vl_1709 (l : Launch) : Vld2 l vwCl gTbl con_1709 := conR_ok3 gT_all (hd_1709) rfl pn_RX8 tk_X8_at bo_RX8 xo_RX8 (cto_1497 l) ch_1709 cut_nil
/-- RookHusting$Slots at -/
noncomputable def ac_1009 : AC := .inr (2, jl_n [js_5 17 9223372036854775807 9223372036854775807, js_4 7 1, js_5 222 9223372036854775807 9223372036854775807])
noncomputable def hq_841 : HP := [(false, .inl (8, [(6, 1, 0), (8, 4, 0), (8, 5, 0)])), (false, ac_1009)]
noncomputable def con_1710 : Con2 := ((yX8_at, cX8_at, 3, (some .long)), (0, 0), ([(6, 0, 0), (0, 0, 0), (0, 17, 0)], gi_927, [.inl (8, [(6, 1, 0), (8, 4, 0), (8, 5, 0)]), ac_1009], []), [((4, 6, 0), gi_928, hq_841, [], [1])])
theorem hd_1710 : con_1710.1 = (yX8_at, cX8_at, 3, (some .long)) := rfl
noncomputable def cu_1710 : List CUT2 := []
theorem ch_1710 : staG tb_X8_at 1 bt_RX8 [] ct_1497 [] [] cu_1710 11 con_1710 = true := by decide +kernel
theorem vl_1710 (l : Launch) : Vld2 l vwCl gTbl con_1710 := conR_ok3 gT_all (hd_1710) rfl pn_RX8 tk_X8_at bo_RX8 xo_RX8 (cto_1497 l) ch_1710 cut_nil
/-- RookHusting$Slots at -/
noncomputable def ac_1010 : AC := .inr (2, jl_n [js_5 18 9223372036854775807 9223372036854775807, js_4 7 1, js_5 221 9223372036854775807 9223372036854775807])
noncomputable def hq_842 : HP := [(false, .inl (8, [(6, 1, 0), (8, 4, 0), (8, 5, 0)])), (false, ac_1010)]
noncomputable def con_1711 : Con2 := ((yX8_at, cX8_at, 3, (some .long)), (0, 0), ([(6, 0, 0), (0, 0, 0), (0, 18, 0)], gi_927, [.inl (8, [(6, 1, 0), (8, 4, 0), (8, 5, 0)]), ac_1010], []), [((4, 6, 0), gi_928, hq_842, [], [1])])
theorem hd_1711 : con_1711.1 = (yX8_at, cX8_at, 3, (some .long)) := rfl
noncomputable def cu_1711 : List CUT2 := []
theorem ch_1711 : staG tb_X8_at 1 bt_RX8 [] ct_1497 [] [] cu_1711 11 con_1711 = true := by decide +kernel
theorem vl_1711 (l : Launch) : Vld2 l vwCl gTbl con_1711 := conR_ok3 gT_all (hd_1711) rfl pn_RX8 tk_X8_at bo_RX8 xo_RX8 (cto_1497 l) ch_1711 cut_nil
/-- RookHusting$Slots at -/
noncomputable def ac_1011 : AC := .inr (2, jl_n [js_5 19 9223372036854775807 9223372036854775807, js_4 7 1, js_5 220 9223372036854775807 9223372036854775807])
noncomputable def hq_843 : HP := [(false, .inl (8, [(6, 1, 0), (8, 4, 0), (8, 5, 0)])), (false, ac_1011)]
noncomputable def con_1712 : Con2 := ((yX8_at, cX8_at, 3, (some .long)), (0, 0), ([(6, 0, 0), (0, 0, 0), (0, 19, 0)], gi_927, [.inl (8, [(6, 1, 0), (8, 4, 0), (8, 5, 0)]), ac_1011], []), [((4, 6, 0), gi_928, hq_843, [], [1])])
theorem hd_1712 : con_1712.1 = (yX8_at, cX8_at, 3, (some .long)) := rfl
noncomputable def cu_1712 : List CUT2 := []
theorem ch_1712 : staG tb_X8_at 1 bt_RX8 [] ct_1497 [] [] cu_1712 11 con_1712 = true := by decide +kernel
theorem vl_1712 (l : Launch) : Vld2 l vwCl gTbl con_1712 := conR_ok3 gT_all (hd_1712) rfl pn_RX8 tk_X8_at bo_RX8 xo_RX8 (cto_1497 l) ch_1712 cut_nil
/-- RookHusting$Slots at -/
noncomputable def ac_1012 : AC := .inr (2, jl_n [js_5 20 9223372036854775807 9223372036854775807, js_4 7 1, js_5 219 9223372036854775807 9223372036854775807])
noncomputable def hq_844 : HP := [(false, .inl (8, [(6, 1, 0), (8, 4, 0), (8, 5, 0)])), (false, ac_1012)]
noncomputable def con_1713 : Con2 := ((yX8_at, cX8_at, 3, (some .long)), (0, 0), ([(6, 0, 0), (0, 0, 0), (0, 20, 0)], gi_927, [.inl (8, [(6, 1, 0), (8, 4, 0), (8, 5, 0)]), ac_1012], []), [((4, 6, 0), gi_928, hq_844, [], [1])])
theorem hd_1713 : con_1713.1 = (yX8_at, cX8_at, 3, (some .long)) := rfl
noncomputable def cu_1713 : List CUT2 := []
theorem ch_1713 : staG tb_X8_at 1 bt_RX8 [] ct_1497 [] [] cu_1713 11 con_1713 = true := by decide +kernel
theorem vl_1713 (l : Launch) : Vld2 l vwCl gTbl con_1713 := conR_ok3 gT_all (hd_1713) rfl pn_RX8 tk_X8_at bo_RX8 xo_RX8 (cto_1497 l) ch_1713 cut_nil
/-- RookHusting$Slots at -/
noncomputable def ac_1013 : AC := .inr (2, jl_n [js_5 21 9223372036854775807 9223372036854775807, js_4 7 1, js_5 218 9223372036854775807 9223372036854775807])
noncomputable def hq_845 : HP := [(false, .inl (8, [(6, 1, 0), (8, 4, 0), (8, 5, 0)])), (false, ac_1013)]
noncomputable def con_1714 : Con2 := ((yX8_at, cX8_at, 3, (some .long)), (0, 0), ([(6, 0, 0), (0, 0, 0), (0, 21, 0)], gi_927, [.inl (8, [(6, 1, 0), (8, 4, 0), (8, 5, 0)]), ac_1013], []), [((4, 6, 0), gi_928, hq_845, [], [1])])
theorem hd_1714 : con_1714.1 = (yX8_at, cX8_at, 3, (some .long)) := rfl
noncomputable def cu_1714 : List CUT2 := []
theorem ch_1714 : staG tb_X8_at 1 bt_RX8 [] ct_1497 [] [] cu_1714 11 con_1714 = true := by decide +kernel
theorem vl_1714 (l : Launch) : Vld2 l vwCl gTbl con_1714 := conR_ok3 gT_all (hd_1714) rfl pn_RX8 tk_X8_at bo_RX8 xo_RX8 (cto_1497 l) ch_1714 cut_nil
/-- RookHusting$Slots at -/
noncomputable def ac_1014 : AC := .inr (2, jl_n [js_5 22 9223372036854775807 9223372036854775807, js_4 7 1, js_5 217 9223372036854775807 9223372036854775807])
noncomputable def hq_846 : HP := [(false, .inl (8, [(6, 1, 0), (8, 4, 0), (8, 5, 0)])), (false, ac_1014)]
noncomputable def con_1715 : Con2 := ((yX8_at, cX8_at, 3, (some .long)), (0, 0), ([(6, 0, 0), (0, 0, 0), (0, 22, 0)], gi_927, [.inl (8, [(6, 1, 0), (8, 4, 0), (8, 5, 0)]), ac_1014], []), [((4, 6, 0), gi_928, hq_846, [], [1])])
theorem hd_1715 : con_1715.1 = (yX8_at, cX8_at, 3, (some .long)) := rfl
noncomputable def cu_1715 : List CUT2 := []
theorem ch_1715 : staG tb_X8_at 1 bt_RX8 [] ct_1497 [] [] cu_1715 11 con_1715 = true := by decide +kernel
theorem vl_1715 (l : Launch) : Vld2 l vwCl gTbl con_1715 := conR_ok3 gT_all (hd_1715) rfl pn_RX8 tk_X8_at bo_RX8 xo_RX8 (cto_1497 l) ch_1715 cut_nil
/-- RookHusting$Slots at -/
noncomputable def ac_1015 : AC := .inr (2, jl_n [js_5 23 9223372036854775807 9223372036854775807, js_4 7 1, js_5 216 9223372036854775807 9223372036854775807])
noncomputable def hq_847 : HP := [(false, .inl (8, [(6, 1, 0), (8, 4, 0), (8, 5, 0)])), (false, ac_1015)]
noncomputable def con_1716 : Con2 := ((yX8_at, cX8_at, 3, (some .long)), (0, 0), ([(6, 0, 0), (0, 0, 0), (0, 23, 0)], gi_927, [.inl (8, [(6, 1, 0), (8, 4, 0), (8, 5, 0)]), ac_1015], []), [((4, 6, 0), gi_928, hq_847, [], [1])])
theorem hd_1716 : con_1716.1 = (yX8_at, cX8_at, 3, (some .long)) := rfl
noncomputable def cu_1716 : List CUT2 := []
theorem ch_1716 : staG tb_X8_at 1 bt_RX8 [] ct_1497 [] [] cu_1716 11 con_1716 = true := by decide +kernel
theorem vl_1716 (l : Launch) : Vld2 l vwCl gTbl con_1716 := conR_ok3 gT_all (hd_1716) rfl pn_RX8 tk_X8_at bo_RX8 xo_RX8 (cto_1497 l) ch_1716 cut_nil
/-- RookHusting$Slots at -/
noncomputable def ac_1016 : AC := .inr (2, jl_n [js_5 24 9223372036854775807 9223372036854775807, js_4 7 1, js_5 215 9223372036854775807 9223372036854775807])
noncomputable def hq_848 : HP := [(false, .inl (8, [(6, 1, 0), (8, 4, 0), (8, 5, 0)])), (false, ac_1016)]
noncomputable def con_1717 : Con2 := ((yX8_at, cX8_at, 3, (some .long)), (0, 0), ([(6, 0, 0), (0, 0, 0), (0, 24, 0)], gi_927, [.inl (8, [(6, 1, 0), (8, 4, 0), (8, 5, 0)]), ac_1016], []), [((4, 6, 0), gi_928, hq_848, [], [1])])
theorem hd_1717 : con_1717.1 = (yX8_at, cX8_at, 3, (some .long)) := rfl
noncomputable def cu_1717 : List CUT2 := []
theorem ch_1717 : staG tb_X8_at 1 bt_RX8 [] ct_1497 [] [] cu_1717 11 con_1717 = true := by decide +kernel
theorem vl_1717 (l : Launch) : Vld2 l vwCl gTbl con_1717 := conR_ok3 gT_all (hd_1717) rfl pn_RX8 tk_X8_at bo_RX8 xo_RX8 (cto_1497 l) ch_1717 cut_nil
/-- RookHusting$Slots at -/
noncomputable def ac_1017 : AC := .inr (2, jl_n [js_5 25 9223372036854775807 9223372036854775807, js_4 7 1, js_5 214 9223372036854775807 9223372036854775807])
noncomputable def hq_849 : HP := [(false, .inl (8, [(6, 1, 0), (8, 4, 0), (8, 5, 0)])), (false, ac_1017)]
noncomputable def con_1718 : Con2 := ((yX8_at, cX8_at, 3, (some .long)), (0, 0), ([(6, 0, 0), (0, 0, 0), (0, 25, 0)], gi_927, [.inl (8, [(6, 1, 0), (8, 4, 0), (8, 5, 0)]), ac_1017], []), [((4, 6, 0), gi_928, hq_849, [], [1])])
theorem hd_1718 : con_1718.1 = (yX8_at, cX8_at, 3, (some .long)) := rfl
noncomputable def cu_1718 : List CUT2 := []
theorem ch_1718 : staG tb_X8_at 1 bt_RX8 [] ct_1497 [] [] cu_1718 11 con_1718 = true := by decide +kernel
theorem vl_1718 (l : Launch) : Vld2 l vwCl gTbl con_1718 := conR_ok3 gT_all (hd_1718) rfl pn_RX8 tk_X8_at bo_RX8 xo_RX8 (cto_1497 l) ch_1718 cut_nil
/-- RookHusting$Slots at -/
noncomputable def ac_1018 : AC := .inr (2, jl_n [js_5 26 9223372036854775807 9223372036854775807, js_4 7 1, js_5 213 9223372036854775807 9223372036854775807])
noncomputable def hq_850 : HP := [(false, .inl (8, [(6, 1, 0), (8, 4, 0), (8, 5, 0)])), (false, ac_1018)]
noncomputable def con_1719 : Con2 := ((yX8_at, cX8_at, 3, (some .long)), (0, 0), ([(6, 0, 0), (0, 0, 0), (0, 26, 0)], gi_927, [.inl (8, [(6, 1, 0), (8, 4, 0), (8, 5, 0)]), ac_1018], []), [((4, 6, 0), gi_928, hq_850, [], [1])])
theorem hd_1719 : con_1719.1 = (yX8_at, cX8_at, 3, (some .long)) := rfl
noncomputable def cu_1719 : List CUT2 := []
theorem ch_1719 : staG tb_X8_at 1 bt_RX8 [] ct_1497 [] [] cu_1719 11 con_1719 = true := by decide +kernel
theorem vl_1719 (l : Launch) : Vld2 l vwCl gTbl con_1719 := conR_ok3 gT_all (hd_1719) rfl pn_RX8 tk_X8_at bo_RX8 xo_RX8 (cto_1497 l) ch_1719 cut_nil
/-- RookHusting$Slots at -/
noncomputable def ac_1019 : AC := .inr (2, jl_n [js_5 27 9223372036854775807 9223372036854775807, js_4 7 1, js_5 212 9223372036854775807 9223372036854775807])
noncomputable def hq_851 : HP := [(false, .inl (8, [(6, 1, 0), (8, 4, 0), (8, 5, 0)])), (false, ac_1019)]
noncomputable def con_1720 : Con2 := ((yX8_at, cX8_at, 3, (some .long)), (0, 0), ([(6, 0, 0), (0, 0, 0), (0, 27, 0)], gi_927, [.inl (8, [(6, 1, 0), (8, 4, 0), (8, 5, 0)]), ac_1019], []), [((4, 6, 0), gi_928, hq_851, [], [1])])
theorem hd_1720 : con_1720.1 = (yX8_at, cX8_at, 3, (some .long)) := rfl
noncomputable def cu_1720 : List CUT2 := []
theorem ch_1720 : staG tb_X8_at 1 bt_RX8 [] ct_1497 [] [] cu_1720 11 con_1720 = true := by decide +kernel
theorem vl_1720 (l : Launch) : Vld2 l vwCl gTbl con_1720 := conR_ok3 gT_all (hd_1720) rfl pn_RX8 tk_X8_at bo_RX8 xo_RX8 (cto_1497 l) ch_1720 cut_nil
/-- RookHusting$Slots at -/
noncomputable def ac_1020 : AC := .inr (2, jl_n [js_5 28 9223372036854775807 9223372036854775807, js_4 7 1, js_5 211 9223372036854775807 9223372036854775807])
noncomputable def hq_852 : HP := [(false, .inl (8, [(6, 1, 0), (8, 4, 0), (8, 5, 0)])), (false, ac_1020)]
noncomputable def con_1721 : Con2 := ((yX8_at, cX8_at, 3, (some .long)), (0, 0), ([(6, 0, 0), (0, 0, 0), (0, 28, 0)], gi_927, [.inl (8, [(6, 1, 0), (8, 4, 0), (8, 5, 0)]), ac_1020], []), [((4, 6, 0), gi_928, hq_852, [], [1])])
theorem hd_1721 : con_1721.1 = (yX8_at, cX8_at, 3, (some .long)) := rfl
noncomputable def cu_1721 : List CUT2 := []
theorem ch_1721 : staG tb_X8_at 1 bt_RX8 [] ct_1497 [] [] cu_1721 11 con_1721 = true := by decide +kernel
theorem vl_1721 (l : Launch) : Vld2 l vwCl gTbl con_1721 := conR_ok3 gT_all (hd_1721) rfl pn_RX8 tk_X8_at bo_RX8 xo_RX8 (cto_1497 l) ch_1721 cut_nil
/-- RookHusting$Slots at -/
noncomputable def ac_1021 : AC := .inr (2, jl_n [js_5 29 9223372036854775807 9223372036854775807, js_4 7 1, js_5 210 9223372036854775807 9223372036854775807])
noncomputable def hq_853 : HP := [(false, .inl (8, [(6, 1, 0), (8, 4, 0), (8, 5, 0)])), (false, ac_1021)]
noncomputable def con_1722 : Con2 := ((yX8_at, cX8_at, 3, (some .long)), (0, 0), ([(6, 0, 0), (0, 0, 0), (0, 29, 0)], gi_927, [.inl (8, [(6, 1, 0), (8, 4, 0), (8, 5, 0)]), ac_1021], []), [((4, 6, 0), gi_928, hq_853, [], [1])])
theorem hd_1722 : con_1722.1 = (yX8_at, cX8_at, 3, (some .long)) := rfl
noncomputable def cu_1722 : List CUT2 := []
theorem ch_1722 : staG tb_X8_at 1 bt_RX8 [] ct_1497 [] [] cu_1722 11 con_1722 = true := by decide +kernel
theorem vl_1722 (l : Launch) : Vld2 l vwCl gTbl con_1722 := conR_ok3 gT_all (hd_1722) rfl pn_RX8 tk_X8_at bo_RX8 xo_RX8 (cto_1497 l) ch_1722 cut_nil
/-- RookHusting$Slots at -/
noncomputable def ac_1022 : AC := .inr (2, jl_n [js_5 30 9223372036854775807 9223372036854775807, js_4 7 1, js_5 209 9223372036854775807 9223372036854775807])
noncomputable def hq_854 : HP := [(false, .inl (8, [(6, 1, 0), (8, 4, 0), (8, 5, 0)])), (false, ac_1022)]
noncomputable def con_1723 : Con2 := ((yX8_at, cX8_at, 3, (some .long)), (0, 0), ([(6, 0, 0), (0, 0, 0), (0, 30, 0)], gi_927, [.inl (8, [(6, 1, 0), (8, 4, 0), (8, 5, 0)]), ac_1022], []), [((4, 6, 0), gi_928, hq_854, [], [1])])
theorem hd_1723 : con_1723.1 = (yX8_at, cX8_at, 3, (some .long)) := rfl
noncomputable def cu_1723 : List CUT2 := []
theorem ch_1723 : staG tb_X8_at 1 bt_RX8 [] ct_1497 [] [] cu_1723 11 con_1723 = true := by decide +kernel
theorem vl_1723 (l : Launch) : Vld2 l vwCl gTbl con_1723 := conR_ok3 gT_all (hd_1723) rfl pn_RX8 tk_X8_at bo_RX8 xo_RX8 (cto_1497 l) ch_1723 cut_nil
/-- RookHusting$Slots at -/
noncomputable def ac_1023 : AC := .inr (2, jl_n [js_5 31 9223372036854775807 9223372036854775807, js_4 7 1, js_5 208 9223372036854775807 9223372036854775807])
noncomputable def hq_855 : HP := [(false, .inl (8, [(6, 1, 0), (8, 4, 0), (8, 5, 0)])), (false, ac_1023)]
noncomputable def con_1724 : Con2 := ((yX8_at, cX8_at, 3, (some .long)), (0, 0), ([(6, 0, 0), (0, 0, 0), (0, 31, 0)], gi_927, [.inl (8, [(6, 1, 0), (8, 4, 0), (8, 5, 0)]), ac_1023], []), [((4, 6, 0), gi_928, hq_855, [], [1])])
theorem hd_1724 : con_1724.1 = (yX8_at, cX8_at, 3, (some .long)) := rfl
noncomputable def cu_1724 : List CUT2 := []
theorem ch_1724 : staG tb_X8_at 1 bt_RX8 [] ct_1497 [] [] cu_1724 11 con_1724 = true := by decide +kernel
theorem vl_1724 (l : Launch) : Vld2 l vwCl gTbl con_1724 := conR_ok3 gT_all (hd_1724) rfl pn_RX8 tk_X8_at bo_RX8 xo_RX8 (cto_1497 l) ch_1724 cut_nil
/-- RookHusting$Slots at -/
noncomputable def ac_1024 : AC := .inr (2, jl_n [js_5 32 9223372036854775807 9223372036854775807, js_4 7 1, js_5 207 9223372036854775807 9223372036854775807])
noncomputable def hq_856 : HP := [(false, .inl (8, [(6, 1, 0), (8, 4, 0), (8, 5, 0)])), (false, ac_1024)]
noncomputable def con_1725 : Con2 := ((yX8_at, cX8_at, 3, (some .long)), (0, 0), ([(6, 0, 0), (0, 0, 0), (0, 32, 0)], gi_927, [.inl (8, [(6, 1, 0), (8, 4, 0), (8, 5, 0)]), ac_1024], []), [((4, 6, 0), gi_928, hq_856, [], [1])])
theorem hd_1725 : con_1725.1 = (yX8_at, cX8_at, 3, (some .long)) := rfl
noncomputable def cu_1725 : List CUT2 := []
theorem ch_1725 : staG tb_X8_at 1 bt_RX8 [] ct_1497 [] [] cu_1725 11 con_1725 = true := by decide +kernel
theorem vl_1725 (l : Launch) : Vld2 l vwCl gTbl con_1725 := conR_ok3 gT_all (hd_1725) rfl pn_RX8 tk_X8_at bo_RX8 xo_RX8 (cto_1497 l) ch_1725 cut_nil
/-- RookHusting$Slots at -/
noncomputable def ac_1025 : AC := .inr (2, jl_n [js_5 33 9223372036854775807 9223372036854775807, js_4 7 1, js_5 206 9223372036854775807 9223372036854775807])
noncomputable def hq_857 : HP := [(false, .inl (8, [(6, 1, 0), (8, 4, 0), (8, 5, 0)])), (false, ac_1025)]
noncomputable def con_1726 : Con2 := ((yX8_at, cX8_at, 3, (some .long)), (0, 0), ([(6, 0, 0), (0, 0, 0), (0, 33, 0)], gi_927, [.inl (8, [(6, 1, 0), (8, 4, 0), (8, 5, 0)]), ac_1025], []), [((4, 6, 0), gi_928, hq_857, [], [1])])
theorem hd_1726 : con_1726.1 = (yX8_at, cX8_at, 3, (some .long)) := rfl
noncomputable def cu_1726 : List CUT2 := []
theorem ch_1726 : staG tb_X8_at 1 bt_RX8 [] ct_1497 [] [] cu_1726 11 con_1726 = true := by decide +kernel
theorem vl_1726 (l : Launch) : Vld2 l vwCl gTbl con_1726 := conR_ok3 gT_all (hd_1726) rfl pn_RX8 tk_X8_at bo_RX8 xo_RX8 (cto_1497 l) ch_1726 cut_nil
/-- RookHusting$Slots at -/
noncomputable def ac_1026 : AC := .inr (2, jl_n [js_5 34 9223372036854775807 9223372036854775807, js_4 7 1, js_5 205 9223372036854775807 9223372036854775807])
noncomputable def hq_858 : HP := [(false, .inl (8, [(6, 1, 0), (8, 4, 0), (8, 5, 0)])), (false, ac_1026)]
noncomputable def con_1727 : Con2 := ((yX8_at, cX8_at, 3, (some .long)), (0, 0), ([(6, 0, 0), (0, 0, 0), (0, 34, 0)], gi_927, [.inl (8, [(6, 1, 0), (8, 4, 0), (8, 5, 0)]), ac_1026], []), [((4, 6, 0), gi_928, hq_858, [], [1])])
theorem hd_1727 : con_1727.1 = (yX8_at, cX8_at, 3, (some .long)) := rfl
noncomputable def cu_1727 : List CUT2 := []
theorem ch_1727 : staG tb_X8_at 1 bt_RX8 [] ct_1497 [] [] cu_1727 11 con_1727 = true := by decide +kernel
theorem vl_1727 (l : Launch) : Vld2 l vwCl gTbl con_1727 := conR_ok3 gT_all (hd_1727) rfl pn_RX8 tk_X8_at bo_RX8 xo_RX8 (cto_1497 l) ch_1727 cut_nil
/-- RookHusting$Slots at -/
noncomputable def ac_1027 : AC := .inr (2, jl_n [js_5 35 9223372036854775807 9223372036854775807, js_4 7 1, js_5 204 9223372036854775807 9223372036854775807])
noncomputable def hq_859 : HP := [(false, .inl (8, [(6, 1, 0), (8, 4, 0), (8, 5, 0)])), (false, ac_1027)]
noncomputable def con_1728 : Con2 := ((yX8_at, cX8_at, 3, (some .long)), (0, 0), ([(6, 0, 0), (0, 0, 0), (0, 35, 0)], gi_927, [.inl (8, [(6, 1, 0), (8, 4, 0), (8, 5, 0)]), ac_1027], []), [((4, 6, 0), gi_928, hq_859, [], [1])])
theorem hd_1728 : con_1728.1 = (yX8_at, cX8_at, 3, (some .long)) := rfl
noncomputable def cu_1728 : List CUT2 := []
theorem ch_1728 : staG tb_X8_at 1 bt_RX8 [] ct_1497 [] [] cu_1728 11 con_1728 = true := by decide +kernel
theorem vl_1728 (l : Launch) : Vld2 l vwCl gTbl con_1728 := conR_ok3 gT_all (hd_1728) rfl pn_RX8 tk_X8_at bo_RX8 xo_RX8 (cto_1497 l) ch_1728 cut_nil
/-- RookHusting$Slots at -/
noncomputable def ac_1028 : AC := .inr (2, jl_n [js_5 36 9223372036854775807 9223372036854775807, js_4 7 1, js_5 203 9223372036854775807 9223372036854775807])
noncomputable def hq_860 : HP := [(false, .inl (8, [(6, 1, 0), (8, 4, 0), (8, 5, 0)])), (false, ac_1028)]
noncomputable def con_1729 : Con2 := ((yX8_at, cX8_at, 3, (some .long)), (0, 0), ([(6, 0, 0), (0, 0, 0), (0, 36, 0)], gi_927, [.inl (8, [(6, 1, 0), (8, 4, 0), (8, 5, 0)]), ac_1028], []), [((4, 6, 0), gi_928, hq_860, [], [1])])
theorem hd_1729 : con_1729.1 = (yX8_at, cX8_at, 3, (some .long)) := rfl
noncomputable def cu_1729 : List CUT2 := []
theorem ch_1729 : staG tb_X8_at 1 bt_RX8 [] ct_1497 [] [] cu_1729 11 con_1729 = true := by decide +kernel
theorem vl_1729 (l : Launch) : Vld2 l vwCl gTbl con_1729 := conR_ok3 gT_all (hd_1729) rfl pn_RX8 tk_X8_at bo_RX8 xo_RX8 (cto_1497 l) ch_1729 cut_nil
/-- RookHusting$Slots at -/
noncomputable def ac_1029 : AC := .inr (2, jl_n [js_5 37 9223372036854775807 9223372036854775807, js_4 7 1, js_5 202 9223372036854775807 9223372036854775807])
noncomputable def hq_861 : HP := [(false, .inl (8, [(6, 1, 0), (8, 4, 0), (8, 5, 0)])), (false, ac_1029)]
noncomputable def con_1730 : Con2 := ((yX8_at, cX8_at, 3, (some .long)), (0, 0), ([(6, 0, 0), (0, 0, 0), (0, 37, 0)], gi_927, [.inl (8, [(6, 1, 0), (8, 4, 0), (8, 5, 0)]), ac_1029], []), [((4, 6, 0), gi_928, hq_861, [], [1])])
theorem hd_1730 : con_1730.1 = (yX8_at, cX8_at, 3, (some .long)) := rfl
noncomputable def cu_1730 : List CUT2 := []
theorem ch_1730 : staG tb_X8_at 1 bt_RX8 [] ct_1497 [] [] cu_1730 11 con_1730 = true := by decide +kernel
theorem vl_1730 (l : Launch) : Vld2 l vwCl gTbl con_1730 := conR_ok3 gT_all (hd_1730) rfl pn_RX8 tk_X8_at bo_RX8 xo_RX8 (cto_1497 l) ch_1730 cut_nil
/-- RookHusting$Slots at -/
noncomputable def ac_1030 : AC := .inr (2, jl_n [js_5 38 9223372036854775807 9223372036854775807, js_4 7 1, js_5 201 9223372036854775807 9223372036854775807])
noncomputable def hq_862 : HP := [(false, .inl (8, [(6, 1, 0), (8, 4, 0), (8, 5, 0)])), (false, ac_1030)]
noncomputable def con_1731 : Con2 := ((yX8_at, cX8_at, 3, (some .long)), (0, 0), ([(6, 0, 0), (0, 0, 0), (0, 38, 0)], gi_927, [.inl (8, [(6, 1, 0), (8, 4, 0), (8, 5, 0)]), ac_1030], []), [((4, 6, 0), gi_928, hq_862, [], [1])])
theorem hd_1731 : con_1731.1 = (yX8_at, cX8_at, 3, (some .long)) := rfl
noncomputable def cu_1731 : List CUT2 := []
theorem ch_1731 : staG tb_X8_at 1 bt_RX8 [] ct_1497 [] [] cu_1731 11 con_1731 = true := by decide +kernel
theorem vl_1731 (l : Launch) : Vld2 l vwCl gTbl con_1731 := conR_ok3 gT_all (hd_1731) rfl pn_RX8 tk_X8_at bo_RX8 xo_RX8 (cto_1497 l) ch_1731 cut_nil
/-- RookHusting$Slots at -/
noncomputable def ac_1031 : AC := .inr (2, jl_n [js_5 39 9223372036854775807 9223372036854775807, js_4 7 1, js_5 200 9223372036854775807 9223372036854775807])
noncomputable def hq_863 : HP := [(false, .inl (8, [(6, 1, 0), (8, 4, 0), (8, 5, 0)])), (false, ac_1031)]
noncomputable def con_1732 : Con2 := ((yX8_at, cX8_at, 3, (some .long)), (0, 0), ([(6, 0, 0), (0, 0, 0), (0, 39, 0)], gi_927, [.inl (8, [(6, 1, 0), (8, 4, 0), (8, 5, 0)]), ac_1031], []), [((4, 6, 0), gi_928, hq_863, [], [1])])
theorem hd_1732 : con_1732.1 = (yX8_at, cX8_at, 3, (some .long)) := rfl
noncomputable def cu_1732 : List CUT2 := []
theorem ch_1732 : staG tb_X8_at 1 bt_RX8 [] ct_1497 [] [] cu_1732 11 con_1732 = true := by decide +kernel
theorem vl_1732 (l : Launch) : Vld2 l vwCl gTbl con_1732 := conR_ok3 gT_all (hd_1732) rfl pn_RX8 tk_X8_at bo_RX8 xo_RX8 (cto_1497 l) ch_1732 cut_nil
/-- RookHusting$Slots at -/
noncomputable def ac_1032 : AC := .inr (2, jl_n [js_5 40 9223372036854775807 9223372036854775807, js_4 7 1, js_5 199 9223372036854775807 9223372036854775807])
noncomputable def hq_864 : HP := [(false, .inl (8, [(6, 1, 0), (8, 4, 0), (8, 5, 0)])), (false, ac_1032)]
noncomputable def con_1733 : Con2 := ((yX8_at, cX8_at, 3, (some .long)), (0, 0), ([(6, 0, 0), (0, 0, 0), (0, 40, 0)], gi_927, [.inl (8, [(6, 1, 0), (8, 4, 0), (8, 5, 0)]), ac_1032], []), [((4, 6, 0), gi_928, hq_864, [], [1])])
theorem hd_1733 : con_1733.1 = (yX8_at, cX8_at, 3, (some .long)) := rfl
noncomputable def cu_1733 : List CUT2 := []
theorem ch_1733 : staG tb_X8_at 1 bt_RX8 [] ct_1497 [] [] cu_1733 11 con_1733 = true := by decide +kernel
theorem vl_1733 (l : Launch) : Vld2 l vwCl gTbl con_1733 := conR_ok3 gT_all (hd_1733) rfl pn_RX8 tk_X8_at bo_RX8 xo_RX8 (cto_1497 l) ch_1733 cut_nil
/-- RookHusting$Slots at -/
noncomputable def ac_1033 : AC := .inr (2, jl_n [js_5 41 9223372036854775807 9223372036854775807, js_4 7 1, js_5 198 9223372036854775807 9223372036854775807])
noncomputable def hq_865 : HP := [(false, .inl (8, [(6, 1, 0), (8, 4, 0), (8, 5, 0)])), (false, ac_1033)]
noncomputable def con_1734 : Con2 := ((yX8_at, cX8_at, 3, (some .long)), (0, 0), ([(6, 0, 0), (0, 0, 0), (0, 41, 0)], gi_927, [.inl (8, [(6, 1, 0), (8, 4, 0), (8, 5, 0)]), ac_1033], []), [((4, 6, 0), gi_928, hq_865, [], [1])])
theorem hd_1734 : con_1734.1 = (yX8_at, cX8_at, 3, (some .long)) := rfl
noncomputable def cu_1734 : List CUT2 := []
theorem ch_1734 : staG tb_X8_at 1 bt_RX8 [] ct_1497 [] [] cu_1734 11 con_1734 = true := by decide +kernel
theorem vl_1734 (l : Launch) : Vld2 l vwCl gTbl con_1734 := conR_ok3 gT_all (hd_1734) rfl pn_RX8 tk_X8_at bo_RX8 xo_RX8 (cto_1497 l) ch_1734 cut_nil
/-- RookHusting$Slots at -/
noncomputable def ac_1034 : AC := .inr (2, jl_n [js_5 42 9223372036854775807 9223372036854775807, js_4 7 1, js_5 197 9223372036854775807 9223372036854775807])
noncomputable def hq_866 : HP := [(false, .inl (8, [(6, 1, 0), (8, 4, 0), (8, 5, 0)])), (false, ac_1034)]
noncomputable def con_1735 : Con2 := ((yX8_at, cX8_at, 3, (some .long)), (0, 0), ([(6, 0, 0), (0, 0, 0), (0, 42, 0)], gi_927, [.inl (8, [(6, 1, 0), (8, 4, 0), (8, 5, 0)]), ac_1034], []), [((4, 6, 0), gi_928, hq_866, [], [1])])
theorem hd_1735 : con_1735.1 = (yX8_at, cX8_at, 3, (some .long)) := rfl
noncomputable def cu_1735 : List CUT2 := []
theorem ch_1735 : staG tb_X8_at 1 bt_RX8 [] ct_1497 [] [] cu_1735 11 con_1735 = true := by decide +kernel
theorem vl_1735 (l : Launch) : Vld2 l vwCl gTbl con_1735 := conR_ok3 gT_all (hd_1735) rfl pn_RX8 tk_X8_at bo_RX8 xo_RX8 (cto_1497 l) ch_1735 cut_nil
/-- RookHusting$Slots at -/
noncomputable def ac_1035 : AC := .inr (2, jl_n [js_5 43 9223372036854775807 9223372036854775807, js_4 7 1, js_5 196 9223372036854775807 9223372036854775807])
noncomputable def hq_867 : HP := [(false, .inl (8, [(6, 1, 0), (8, 4, 0), (8, 5, 0)])), (false, ac_1035)]
noncomputable def con_1736 : Con2 := ((yX8_at, cX8_at, 3, (some .long)), (0, 0), ([(6, 0, 0), (0, 0, 0), (0, 43, 0)], gi_927, [.inl (8, [(6, 1, 0), (8, 4, 0), (8, 5, 0)]), ac_1035], []), [((4, 6, 0), gi_928, hq_867, [], [1])])
theorem hd_1736 : con_1736.1 = (yX8_at, cX8_at, 3, (some .long)) := rfl
noncomputable def cu_1736 : List CUT2 := []
theorem ch_1736 : staG tb_X8_at 1 bt_RX8 [] ct_1497 [] [] cu_1736 11 con_1736 = true := by decide +kernel
theorem vl_1736 (l : Launch) : Vld2 l vwCl gTbl con_1736 := conR_ok3 gT_all (hd_1736) rfl pn_RX8 tk_X8_at bo_RX8 xo_RX8 (cto_1497 l) ch_1736 cut_nil
/-- RookHusting$Slots at -/
noncomputable def ac_1036 : AC := .inr (2, jl_n [js_5 44 9223372036854775807 9223372036854775807, js_4 7 1, js_5 195 9223372036854775807 9223372036854775807])
noncomputable def hq_868 : HP := [(false, .inl (8, [(6, 1, 0), (8, 4, 0), (8, 5, 0)])), (false, ac_1036)]
noncomputable def con_1737 : Con2 := ((yX8_at, cX8_at, 3, (some .long)), (0, 0), ([(6, 0, 0), (0, 0, 0), (0, 44, 0)], gi_927, [.inl (8, [(6, 1, 0), (8, 4, 0), (8, 5, 0)]), ac_1036], []), [((4, 6, 0), gi_928, hq_868, [], [1])])
theorem hd_1737 : con_1737.1 = (yX8_at, cX8_at, 3, (some .long)) := rfl
noncomputable def cu_1737 : List CUT2 := []
theorem ch_1737 : staG tb_X8_at 1 bt_RX8 [] ct_1497 [] [] cu_1737 11 con_1737 = true := by decide +kernel
theorem vl_1737 (l : Launch) : Vld2 l vwCl gTbl con_1737 := conR_ok3 gT_all (hd_1737) rfl pn_RX8 tk_X8_at bo_RX8 xo_RX8 (cto_1497 l) ch_1737 cut_nil
/-- RookHusting$Slots at -/
noncomputable def ac_1037 : AC := .inr (2, jl_n [js_5 45 9223372036854775807 9223372036854775807, js_4 7 1, js_5 194 9223372036854775807 9223372036854775807])
noncomputable def hq_869 : HP := [(false, .inl (8, [(6, 1, 0), (8, 4, 0), (8, 5, 0)])), (false, ac_1037)]
noncomputable def con_1738 : Con2 := ((yX8_at, cX8_at, 3, (some .long)), (0, 0), ([(6, 0, 0), (0, 0, 0), (0, 45, 0)], gi_927, [.inl (8, [(6, 1, 0), (8, 4, 0), (8, 5, 0)]), ac_1037], []), [((4, 6, 0), gi_928, hq_869, [], [1])])
theorem hd_1738 : con_1738.1 = (yX8_at, cX8_at, 3, (some .long)) := rfl
noncomputable def cu_1738 : List CUT2 := []
theorem ch_1738 : staG tb_X8_at 1 bt_RX8 [] ct_1497 [] [] cu_1738 11 con_1738 = true := by decide +kernel
theorem vl_1738 (l : Launch) : Vld2 l vwCl gTbl con_1738 := conR_ok3 gT_all (hd_1738) rfl pn_RX8 tk_X8_at bo_RX8 xo_RX8 (cto_1497 l) ch_1738 cut_nil
/-- RookHusting$Slots at -/
noncomputable def ac_1038 : AC := .inr (2, jl_n [js_5 46 9223372036854775807 9223372036854775807, js_4 7 1, js_5 193 9223372036854775807 9223372036854775807])
noncomputable def hq_870 : HP := [(false, .inl (8, [(6, 1, 0), (8, 4, 0), (8, 5, 0)])), (false, ac_1038)]
noncomputable def con_1739 : Con2 := ((yX8_at, cX8_at, 3, (some .long)), (0, 0), ([(6, 0, 0), (0, 0, 0), (0, 46, 0)], gi_927, [.inl (8, [(6, 1, 0), (8, 4, 0), (8, 5, 0)]), ac_1038], []), [((4, 6, 0), gi_928, hq_870, [], [1])])
theorem hd_1739 : con_1739.1 = (yX8_at, cX8_at, 3, (some .long)) := rfl
noncomputable def cu_1739 : List CUT2 := []
theorem ch_1739 : staG tb_X8_at 1 bt_RX8 [] ct_1497 [] [] cu_1739 11 con_1739 = true := by decide +kernel
theorem vl_1739 (l : Launch) : Vld2 l vwCl gTbl con_1739 := conR_ok3 gT_all (hd_1739) rfl pn_RX8 tk_X8_at bo_RX8 xo_RX8 (cto_1497 l) ch_1739 cut_nil
/-- RookHusting$Slots at -/
noncomputable def ac_1039 : AC := .inr (2, jl_n [js_5 47 9223372036854775807 9223372036854775807, js_4 7 1, js_5 192 9223372036854775807 9223372036854775807])
noncomputable def hq_871 : HP := [(false, .inl (8, [(6, 1, 0), (8, 4, 0), (8, 5, 0)])), (false, ac_1039)]
noncomputable def con_1740 : Con2 := ((yX8_at, cX8_at, 3, (some .long)), (0, 0), ([(6, 0, 0), (0, 0, 0), (0, 47, 0)], gi_927, [.inl (8, [(6, 1, 0), (8, 4, 0), (8, 5, 0)]), ac_1039], []), [((4, 6, 0), gi_928, hq_871, [], [1])])
theorem hd_1740 : con_1740.1 = (yX8_at, cX8_at, 3, (some .long)) := rfl
noncomputable def cu_1740 : List CUT2 := []
theorem ch_1740 : staG tb_X8_at 1 bt_RX8 [] ct_1497 [] [] cu_1740 11 con_1740 = true := by decide +kernel
theorem vl_1740 (l : Launch) : Vld2 l vwCl gTbl con_1740 := conR_ok3 gT_all (hd_1740) rfl pn_RX8 tk_X8_at bo_RX8 xo_RX8 (cto_1497 l) ch_1740 cut_nil
/-- RookHusting$Slots at -/
noncomputable def ac_1040 : AC := .inr (2, jl_n [js_5 48 9223372036854775807 9223372036854775807, js_4 7 1, js_5 191 9223372036854775807 9223372036854775807])
noncomputable def hq_872 : HP := [(false, .inl (8, [(6, 1, 0), (8, 4, 0), (8, 5, 0)])), (false, ac_1040)]
noncomputable def con_1741 : Con2 := ((yX8_at, cX8_at, 3, (some .long)), (0, 0), ([(6, 0, 0), (0, 0, 0), (0, 48, 0)], gi_927, [.inl (8, [(6, 1, 0), (8, 4, 0), (8, 5, 0)]), ac_1040], []), [((4, 6, 0), gi_928, hq_872, [], [1])])
theorem hd_1741 : con_1741.1 = (yX8_at, cX8_at, 3, (some .long)) := rfl
noncomputable def cu_1741 : List CUT2 := []
theorem ch_1741 : staG tb_X8_at 1 bt_RX8 [] ct_1497 [] [] cu_1741 11 con_1741 = true := by decide +kernel
theorem vl_1741 (l : Launch) : Vld2 l vwCl gTbl con_1741 := conR_ok3 gT_all (hd_1741) rfl pn_RX8 tk_X8_at bo_RX8 xo_RX8 (cto_1497 l) ch_1741 cut_nil
/-- RookHusting$Slots at -/
noncomputable def ac_1041 : AC := .inr (2, jl_n [js_5 49 9223372036854775807 9223372036854775807, js_4 7 1, js_5 190 9223372036854775807 9223372036854775807])
noncomputable def hq_873 : HP := [(false, .inl (8, [(6, 1, 0), (8, 4, 0), (8, 5, 0)])), (false, ac_1041)]
noncomputable def con_1742 : Con2 := ((yX8_at, cX8_at, 3, (some .long)), (0, 0), ([(6, 0, 0), (0, 0, 0), (0, 49, 0)], gi_927, [.inl (8, [(6, 1, 0), (8, 4, 0), (8, 5, 0)]), ac_1041], []), [((4, 6, 0), gi_928, hq_873, [], [1])])
theorem hd_1742 : con_1742.1 = (yX8_at, cX8_at, 3, (some .long)) := rfl
noncomputable def cu_1742 : List CUT2 := []
theorem ch_1742 : staG tb_X8_at 1 bt_RX8 [] ct_1497 [] [] cu_1742 11 con_1742 = true := by decide +kernel
theorem vl_1742 (l : Launch) : Vld2 l vwCl gTbl con_1742 := conR_ok3 gT_all (hd_1742) rfl pn_RX8 tk_X8_at bo_RX8 xo_RX8 (cto_1497 l) ch_1742 cut_nil
/-- RookHusting$Slots at -/
noncomputable def ac_1042 : AC := .inr (2, jl_n [js_5 50 9223372036854775807 9223372036854775807, js_4 7 1, js_5 189 9223372036854775807 9223372036854775807])
noncomputable def hq_874 : HP := [(false, .inl (8, [(6, 1, 0), (8, 4, 0), (8, 5, 0)])), (false, ac_1042)]
noncomputable def con_1743 : Con2 := ((yX8_at, cX8_at, 3, (some .long)), (0, 0), ([(6, 0, 0), (0, 0, 0), (0, 50, 0)], gi_927, [.inl (8, [(6, 1, 0), (8, 4, 0), (8, 5, 0)]), ac_1042], []), [((4, 6, 0), gi_928, hq_874, [], [1])])
theorem hd_1743 : con_1743.1 = (yX8_at, cX8_at, 3, (some .long)) := rfl
noncomputable def cu_1743 : List CUT2 := []
theorem ch_1743 : staG tb_X8_at 1 bt_RX8 [] ct_1497 [] [] cu_1743 11 con_1743 = true := by decide +kernel
theorem vl_1743 (l : Launch) : Vld2 l vwCl gTbl con_1743 := conR_ok3 gT_all (hd_1743) rfl pn_RX8 tk_X8_at bo_RX8 xo_RX8 (cto_1497 l) ch_1743 cut_nil
/-- RookHusting$Slots at -/
noncomputable def ac_1043 : AC := .inr (2, jl_n [js_5 51 9223372036854775807 9223372036854775807, js_4 7 1, js_5 188 9223372036854775807 9223372036854775807])
noncomputable def hq_875 : HP := [(false, .inl (8, [(6, 1, 0), (8, 4, 0), (8, 5, 0)])), (false, ac_1043)]
noncomputable def con_1744 : Con2 := ((yX8_at, cX8_at, 3, (some .long)), (0, 0), ([(6, 0, 0), (0, 0, 0), (0, 51, 0)], gi_927, [.inl (8, [(6, 1, 0), (8, 4, 0), (8, 5, 0)]), ac_1043], []), [((4, 6, 0), gi_928, hq_875, [], [1])])
theorem hd_1744 : con_1744.1 = (yX8_at, cX8_at, 3, (some .long)) := rfl
noncomputable def cu_1744 : List CUT2 := []
theorem ch_1744 : staG tb_X8_at 1 bt_RX8 [] ct_1497 [] [] cu_1744 11 con_1744 = true := by decide +kernel
theorem vl_1744 (l : Launch) : Vld2 l vwCl gTbl con_1744 := conR_ok3 gT_all (hd_1744) rfl pn_RX8 tk_X8_at bo_RX8 xo_RX8 (cto_1497 l) ch_1744 cut_nil
/-- RookHusting$Slots at -/
noncomputable def ac_1044 : AC := .inr (2, jl_n [js_5 52 9223372036854775807 9223372036854775807, js_4 7 1, js_5 187 9223372036854775807 9223372036854775807])
noncomputable def hq_876 : HP := [(false, .inl (8, [(6, 1, 0), (8, 4, 0), (8, 5, 0)])), (false, ac_1044)]
noncomputable def con_1745 : Con2 := ((yX8_at, cX8_at, 3, (some .long)), (0, 0), ([(6, 0, 0), (0, 0, 0), (0, 52, 0)], gi_927, [.inl (8, [(6, 1, 0), (8, 4, 0), (8, 5, 0)]), ac_1044], []), [((4, 6, 0), gi_928, hq_876, [], [1])])
theorem hd_1745 : con_1745.1 = (yX8_at, cX8_at, 3, (some .long)) := rfl
noncomputable def cu_1745 : List CUT2 := []
theorem ch_1745 : staG tb_X8_at 1 bt_RX8 [] ct_1497 [] [] cu_1745 11 con_1745 = true := by decide +kernel
theorem vl_1745 (l : Launch) : Vld2 l vwCl gTbl con_1745 := conR_ok3 gT_all (hd_1745) rfl pn_RX8 tk_X8_at bo_RX8 xo_RX8 (cto_1497 l) ch_1745 cut_nil
/-- RookHusting$Slots at -/
noncomputable def ac_1045 : AC := .inr (2, jl_n [js_5 53 9223372036854775807 9223372036854775807, js_4 7 1, js_5 186 9223372036854775807 9223372036854775807])
noncomputable def hq_877 : HP := [(false, .inl (8, [(6, 1, 0), (8, 4, 0), (8, 5, 0)])), (false, ac_1045)]
noncomputable def con_1746 : Con2 := ((yX8_at, cX8_at, 3, (some .long)), (0, 0), ([(6, 0, 0), (0, 0, 0), (0, 53, 0)], gi_927, [.inl (8, [(6, 1, 0), (8, 4, 0), (8, 5, 0)]), ac_1045], []), [((4, 6, 0), gi_928, hq_877, [], [1])])
theorem hd_1746 : con_1746.1 = (yX8_at, cX8_at, 3, (some .long)) := rfl
noncomputable def cu_1746 : List CUT2 := []
theorem ch_1746 : staG tb_X8_at 1 bt_RX8 [] ct_1497 [] [] cu_1746 11 con_1746 = true := by decide +kernel
theorem vl_1746 (l : Launch) : Vld2 l vwCl gTbl con_1746 := conR_ok3 gT_all (hd_1746) rfl pn_RX8 tk_X8_at bo_RX8 xo_RX8 (cto_1497 l) ch_1746 cut_nil
/-- RookHusting$Slots at -/
noncomputable def ac_1046 : AC := .inr (2, jl_n [js_5 54 9223372036854775807 9223372036854775807, js_4 7 1, js_5 185 9223372036854775807 9223372036854775807])
noncomputable def hq_878 : HP := [(false, .inl (8, [(6, 1, 0), (8, 4, 0), (8, 5, 0)])), (false, ac_1046)]
noncomputable def con_1747 : Con2 := ((yX8_at, cX8_at, 3, (some .long)), (0, 0), ([(6, 0, 0), (0, 0, 0), (0, 54, 0)], gi_927, [.inl (8, [(6, 1, 0), (8, 4, 0), (8, 5, 0)]), ac_1046], []), [((4, 6, 0), gi_928, hq_878, [], [1])])
theorem hd_1747 : con_1747.1 = (yX8_at, cX8_at, 3, (some .long)) := rfl
noncomputable def cu_1747 : List CUT2 := []
theorem ch_1747 : staG tb_X8_at 1 bt_RX8 [] ct_1497 [] [] cu_1747 11 con_1747 = true := by decide +kernel
theorem vl_1747 (l : Launch) : Vld2 l vwCl gTbl con_1747 := conR_ok3 gT_all (hd_1747) rfl pn_RX8 tk_X8_at bo_RX8 xo_RX8 (cto_1497 l) ch_1747 cut_nil
/-- RookHusting$Slots at -/
noncomputable def ac_1047 : AC := .inr (2, jl_n [js_5 55 9223372036854775807 9223372036854775807, js_4 7 1, js_5 184 9223372036854775807 9223372036854775807])
noncomputable def hq_879 : HP := [(false, .inl (8, [(6, 1, 0), (8, 4, 0), (8, 5, 0)])), (false, ac_1047)]
noncomputable def con_1748 : Con2 := ((yX8_at, cX8_at, 3, (some .long)), (0, 0), ([(6, 0, 0), (0, 0, 0), (0, 55, 0)], gi_927, [.inl (8, [(6, 1, 0), (8, 4, 0), (8, 5, 0)]), ac_1047], []), [((4, 6, 0), gi_928, hq_879, [], [1])])
theorem hd_1748 : con_1748.1 = (yX8_at, cX8_at, 3, (some .long)) := rfl
noncomputable def cu_1748 : List CUT2 := []
theorem ch_1748 : staG tb_X8_at 1 bt_RX8 [] ct_1497 [] [] cu_1748 11 con_1748 = true := by decide +kernel
theorem vl_1748 (l : Launch) : Vld2 l vwCl gTbl con_1748 := conR_ok3 gT_all (hd_1748) rfl pn_RX8 tk_X8_at bo_RX8 xo_RX8 (cto_1497 l) ch_1748 cut_nil
/-- RookHusting$Slots at -/
noncomputable def ac_1048 : AC := .inr (2, jl_n [js_5 56 9223372036854775807 9223372036854775807, js_4 7 1, js_5 183 9223372036854775807 9223372036854775807])
noncomputable def hq_880 : HP := [(false, .inl (8, [(6, 1, 0), (8, 4, 0), (8, 5, 0)])), (false, ac_1048)]
noncomputable def con_1749 : Con2 := ((yX8_at, cX8_at, 3, (some .long)), (0, 0), ([(6, 0, 0), (0, 0, 0), (0, 56, 0)], gi_927, [.inl (8, [(6, 1, 0), (8, 4, 0), (8, 5, 0)]), ac_1048], []), [((4, 6, 0), gi_928, hq_880, [], [1])])
theorem hd_1749 : con_1749.1 = (yX8_at, cX8_at, 3, (some .long)) := rfl
noncomputable def cu_1749 : List CUT2 := []
theorem ch_1749 : staG tb_X8_at 1 bt_RX8 [] ct_1497 [] [] cu_1749 11 con_1749 = true := by decide +kernel
theorem vl_1749 (l : Launch) : Vld2 l vwCl gTbl con_1749 := conR_ok3 gT_all (hd_1749) rfl pn_RX8 tk_X8_at bo_RX8 xo_RX8 (cto_1497 l) ch_1749 cut_nil
/-- RookHusting$Slots at -/
noncomputable def ac_1049 : AC := .inr (2, jl_n [js_5 57 9223372036854775807 9223372036854775807, js_4 7 1, js_5 182 9223372036854775807 9223372036854775807])
noncomputable def hq_881 : HP := [(false, .inl (8, [(6, 1, 0), (8, 4, 0), (8, 5, 0)])), (false, ac_1049)]
noncomputable def con_1750 : Con2 := ((yX8_at, cX8_at, 3, (some .long)), (0, 0), ([(6, 0, 0), (0, 0, 0), (0, 57, 0)], gi_927, [.inl (8, [(6, 1, 0), (8, 4, 0), (8, 5, 0)]), ac_1049], []), [((4, 6, 0), gi_928, hq_881, [], [1])])
theorem hd_1750 : con_1750.1 = (yX8_at, cX8_at, 3, (some .long)) := rfl
noncomputable def cu_1750 : List CUT2 := []
theorem ch_1750 : staG tb_X8_at 1 bt_RX8 [] ct_1497 [] [] cu_1750 11 con_1750 = true := by decide +kernel
theorem vl_1750 (l : Launch) : Vld2 l vwCl gTbl con_1750 := conR_ok3 gT_all (hd_1750) rfl pn_RX8 tk_X8_at bo_RX8 xo_RX8 (cto_1497 l) ch_1750 cut_nil
/-- RookHusting$Slots at -/
noncomputable def ac_1050 : AC := .inr (2, jl_n [js_5 58 9223372036854775807 9223372036854775807, js_4 7 1, js_5 181 9223372036854775807 9223372036854775807])
noncomputable def hq_882 : HP := [(false, .inl (8, [(6, 1, 0), (8, 4, 0), (8, 5, 0)])), (false, ac_1050)]
noncomputable def con_1751 : Con2 := ((yX8_at, cX8_at, 3, (some .long)), (0, 0), ([(6, 0, 0), (0, 0, 0), (0, 58, 0)], gi_927, [.inl (8, [(6, 1, 0), (8, 4, 0), (8, 5, 0)]), ac_1050], []), [((4, 6, 0), gi_928, hq_882, [], [1])])
theorem hd_1751 : con_1751.1 = (yX8_at, cX8_at, 3, (some .long)) := rfl
noncomputable def cu_1751 : List CUT2 := []
theorem ch_1751 : staG tb_X8_at 1 bt_RX8 [] ct_1497 [] [] cu_1751 11 con_1751 = true := by decide +kernel
theorem vl_1751 (l : Launch) : Vld2 l vwCl gTbl con_1751 := conR_ok3 gT_all (hd_1751) rfl pn_RX8 tk_X8_at bo_RX8 xo_RX8 (cto_1497 l) ch_1751 cut_nil
/-- RookHusting$Slots at -/
noncomputable def ac_1051 : AC := .inr (2, jl_n [js_5 59 9223372036854775807 9223372036854775807, js_4 7 1, js_5 180 9223372036854775807 9223372036854775807])
noncomputable def hq_883 : HP := [(false, .inl (8, [(6, 1, 0), (8, 4, 0), (8, 5, 0)])), (false, ac_1051)]
noncomputable def con_1752 : Con2 := ((yX8_at, cX8_at, 3, (some .long)), (0, 0), ([(6, 0, 0), (0, 0, 0), (0, 59, 0)], gi_927, [.inl (8, [(6, 1, 0), (8, 4, 0), (8, 5, 0)]), ac_1051], []), [((4, 6, 0), gi_928, hq_883, [], [1])])
theorem hd_1752 : con_1752.1 = (yX8_at, cX8_at, 3, (some .long)) := rfl
noncomputable def cu_1752 : List CUT2 := []
theorem ch_1752 : staG tb_X8_at 1 bt_RX8 [] ct_1497 [] [] cu_1752 11 con_1752 = true := by decide +kernel
theorem vl_1752 (l : Launch) : Vld2 l vwCl gTbl con_1752 := conR_ok3 gT_all (hd_1752) rfl pn_RX8 tk_X8_at bo_RX8 xo_RX8 (cto_1497 l) ch_1752 cut_nil
/-- RookHusting wrongSeen -/
noncomputable def ac_1052 : AC := .inr (2, jl_n [js_4 105 60, js_5 180 9223372036854775807 9223372036854775807])
noncomputable def hc_195 : List AC := [ac_804, .inl (9, [(6, 2, 0), (8, 20, 0)]), ac_805, .inl (8, [(6, 5, 0), (8, 39, 0), (6, 4, 0)]), ac_806, ac_1052]
noncomputable def hq_884 : HP := [(false, ac_804), (false, .inl (9, [(6, 2, 0), (8, 20, 0)])), (false, ac_805), (false, .inl (8, [(6, 5, 0), (8, 39, 0), (6, 4, 0)])), (false, ac_806), (false, ac_1052)]
noncomputable def gi_1071 : GI := jl_n [gp_423, jl_k 0 0, gp_573]
noncomputable def gi_1072 : GI := jl_n [gp_422, jl_z 16, gp_573]
noncomputable def gi_1073 : GI := jl_n [gp_423, gp_575, jl_z 1]
noncomputable def gi_1074 : GI := jl_n [gp_423, gp_577, jl_z 1]
noncomputable def gi_1075 : GI := jl_n [gp_423, gp_579, jl_z 1]
noncomputable def gi_1076 : GI := jl_n [gp_423, gp_581, jl_z 1]
noncomputable def gi_1077 : GI := jl_n [gp_423, gp_584, jl_z 1]
noncomputable def gi_1078 : GI := jl_n [gp_423, gp_586, jl_z 1]
noncomputable def gi_1079 : GI := jl_n [gp_423, gp_588, jl_z 1]
noncomputable def gi_1080 : GI := jl_n [gp_423, gp_590, jl_z 1]
noncomputable def gi_1081 : GI := jl_n [gp_423, gp_592, jl_z 1]
noncomputable def gi_1082 : GI := jl_n [gp_423, gp_594, jl_z 1]
noncomputable def gi_1083 : GI := jl_n [gp_423, gp_596, jl_z 1]
noncomputable def gi_1084 : GI := jl_n [gp_423, gp_598, jl_z 1]
noncomputable def gi_1085 : GI := jl_n [gp_423, gp_600, jl_z 1]
noncomputable def gi_1086 : GI := jl_n [gp_423, gp_602, jl_z 1]
noncomputable def gi_1087 : GI := jl_n [gp_423, gp_604, jl_z 1]
noncomputable def gi_1088 : GI := jl_n [gp_423, gp_606, jl_z 1]
noncomputable def gi_1089 : GI := jl_n [gp_423, gp_608, jl_z 1]
noncomputable def gi_1090 : GI := jl_n [gp_423, gp_610, jl_z 1]
noncomputable def gi_1091 : GI := jl_n [gp_423, gp_611, jl_z 1]
noncomputable def gi_1092 : GI := jl_n [gp_423, gp_613, jl_z 1]
noncomputable def con_1753 : Con2 := ((yX11_wrongSeen, cX11_wrongSeen, 5, (some .int)), (1, 22), ([(6, 0, 0), (0, 0, 0), (1, 2, 0)], gi_932, hc_195, []), [((0, (-2), 0), gi_933, hq_884, [], [1]), ((0, (-6), 0), gi_1071, hq_884, [], [1]), ((0, 0, 0), gi_1072, hq_884, [], [1]), ((0, 0, 0), gi_1073, hq_884, [], [1]), ((0, 0, 0), gi_1074, hq_884, [], [1]), ((0, 0, 0), gi_1075, hq_884, [], [1]), ((0, 0, 0), gi_1076, hq_884, [], [1]), ((0, 0, 0), gi_1077, hq_884, [], [1]), ((0, 0, 0), gi_1078, hq_884, [], [1]), ((0, 0, 0), gi_1079, hq_884, [], [1]), ((0, 0, 0), gi_1080, hq_884, [], [1]), ((0, 0, 0), gi_1081, hq_884, [], [1]), ((0, 0, 0), gi_1082, hq_884, [], [1]), ((0, 0, 0), gi_1083, hq_884, [], [1]), ((0, 0, 0), gi_1084, hq_884, [], [1]), ((0, 0, 0), gi_1085, hq_884, [], [1]), ((0, 0, 0), gi_1086, hq_884, [], [1]), ((0, 0, 0), gi_1087, hq_884, [], [1]), ((0, 0, 0), gi_1088, hq_884, [], [1]), ((0, 0, 0), gi_1089, hq_884, [], [1]), ((0, 0, 0), gi_1090, hq_884, [], [1]), ((0, 0, 0), gi_1091, hq_884, [], [1]), ((0, 0, 0), gi_1092, hq_884, [], [1])])
theorem hd_1753 : con_1753.1 = (yX11_wrongSeen, cX11_wrongSeen, 5, (some .int)) := rfl
theorem ck_RX11_473_1695 : COK2 RX11 vwCl gTbl 473 0 con_1695 := ⟨wd_1218, wd_131, mh_X8_at, .inr (.inr ⟨rfl, wd_1215, wd_1216, wd_1217, ⟨_, rfl, pd_X8_at⟩, 8, _, TX8, 3, rfl, rfl⟩)⟩
theorem ck_RX11_473_1698 : COK2 RX11 vwCl gTbl 473 0 con_1698 := ⟨wd_1218, wd_131, mh_X8_at, .inr (.inr ⟨rfl, wd_1215, wd_1216, wd_1217, ⟨_, rfl, pd_X8_at⟩, 8, _, TX8, 3, rfl, rfl⟩)⟩
theorem ck_RX11_473_1701 : COK2 RX11 vwCl gTbl 473 0 con_1701 := ⟨wd_1218, wd_131, mh_X8_at, .inr (.inr ⟨rfl, wd_1215, wd_1216, wd_1217, ⟨_, rfl, pd_X8_at⟩, 8, _, TX8, 3, rfl, rfl⟩)⟩
theorem ck_RX11_473_1704 : COK2 RX11 vwCl gTbl 473 0 con_1704 := ⟨wd_1218, wd_131, mh_X8_at, .inr (.inr ⟨rfl, wd_1215, wd_1216, wd_1217, ⟨_, rfl, pd_X8_at⟩, 8, _, TX8, 3, rfl, rfl⟩)⟩
theorem ck_RX11_473_1707 : COK2 RX11 vwCl gTbl 473 0 con_1707 := ⟨wd_1218, wd_131, mh_X8_at, .inr (.inr ⟨rfl, wd_1215, wd_1216, wd_1217, ⟨_, rfl, pd_X8_at⟩, 8, _, TX8, 3, rfl, rfl⟩)⟩
theorem ck_RX11_473_1710 : COK2 RX11 vwCl gTbl 473 0 con_1710 := ⟨wd_1218, wd_131, mh_X8_at, .inr (.inr ⟨rfl, wd_1215, wd_1216, wd_1217, ⟨_, rfl, pd_X8_at⟩, 8, _, TX8, 3, rfl, rfl⟩)⟩
theorem ck_RX11_473_1713 : COK2 RX11 vwCl gTbl 473 0 con_1713 := ⟨wd_1218, wd_131, mh_X8_at, .inr (.inr ⟨rfl, wd_1215, wd_1216, wd_1217, ⟨_, rfl, pd_X8_at⟩, 8, _, TX8, 3, rfl, rfl⟩)⟩
theorem ck_RX11_473_1716 : COK2 RX11 vwCl gTbl 473 0 con_1716 := ⟨wd_1218, wd_131, mh_X8_at, .inr (.inr ⟨rfl, wd_1215, wd_1216, wd_1217, ⟨_, rfl, pd_X8_at⟩, 8, _, TX8, 3, rfl, rfl⟩)⟩
theorem ck_RX11_473_1719 : COK2 RX11 vwCl gTbl 473 0 con_1719 := ⟨wd_1218, wd_131, mh_X8_at, .inr (.inr ⟨rfl, wd_1215, wd_1216, wd_1217, ⟨_, rfl, pd_X8_at⟩, 8, _, TX8, 3, rfl, rfl⟩)⟩
theorem ck_RX11_473_1722 : COK2 RX11 vwCl gTbl 473 0 con_1722 := ⟨wd_1218, wd_131, mh_X8_at, .inr (.inr ⟨rfl, wd_1215, wd_1216, wd_1217, ⟨_, rfl, pd_X8_at⟩, 8, _, TX8, 3, rfl, rfl⟩)⟩
theorem ck_RX11_473_1725 : COK2 RX11 vwCl gTbl 473 0 con_1725 := ⟨wd_1218, wd_131, mh_X8_at, .inr (.inr ⟨rfl, wd_1215, wd_1216, wd_1217, ⟨_, rfl, pd_X8_at⟩, 8, _, TX8, 3, rfl, rfl⟩)⟩
theorem ck_RX11_473_1728 : COK2 RX11 vwCl gTbl 473 0 con_1728 := ⟨wd_1218, wd_131, mh_X8_at, .inr (.inr ⟨rfl, wd_1215, wd_1216, wd_1217, ⟨_, rfl, pd_X8_at⟩, 8, _, TX8, 3, rfl, rfl⟩)⟩
theorem ck_RX11_473_1731 : COK2 RX11 vwCl gTbl 473 0 con_1731 := ⟨wd_1218, wd_131, mh_X8_at, .inr (.inr ⟨rfl, wd_1215, wd_1216, wd_1217, ⟨_, rfl, pd_X8_at⟩, 8, _, TX8, 3, rfl, rfl⟩)⟩
theorem ck_RX11_473_1734 : COK2 RX11 vwCl gTbl 473 0 con_1734 := ⟨wd_1218, wd_131, mh_X8_at, .inr (.inr ⟨rfl, wd_1215, wd_1216, wd_1217, ⟨_, rfl, pd_X8_at⟩, 8, _, TX8, 3, rfl, rfl⟩)⟩
theorem ck_RX11_473_1737 : COK2 RX11 vwCl gTbl 473 0 con_1737 := ⟨wd_1218, wd_131, mh_X8_at, .inr (.inr ⟨rfl, wd_1215, wd_1216, wd_1217, ⟨_, rfl, pd_X8_at⟩, 8, _, TX8, 3, rfl, rfl⟩)⟩
theorem ck_RX11_473_1740 : COK2 RX11 vwCl gTbl 473 0 con_1740 := ⟨wd_1218, wd_131, mh_X8_at, .inr (.inr ⟨rfl, wd_1215, wd_1216, wd_1217, ⟨_, rfl, pd_X8_at⟩, 8, _, TX8, 3, rfl, rfl⟩)⟩
theorem ck_RX11_473_1743 : COK2 RX11 vwCl gTbl 473 0 con_1743 := ⟨wd_1218, wd_131, mh_X8_at, .inr (.inr ⟨rfl, wd_1215, wd_1216, wd_1217, ⟨_, rfl, pd_X8_at⟩, 8, _, TX8, 3, rfl, rfl⟩)⟩
theorem ck_RX11_473_1746 : COK2 RX11 vwCl gTbl 473 0 con_1746 := ⟨wd_1218, wd_131, mh_X8_at, .inr (.inr ⟨rfl, wd_1215, wd_1216, wd_1217, ⟨_, rfl, pd_X8_at⟩, 8, _, TX8, 3, rfl, rfl⟩)⟩
theorem ck_RX11_473_1749 : COK2 RX11 vwCl gTbl 473 0 con_1749 := ⟨wd_1218, wd_131, mh_X8_at, .inr (.inr ⟨rfl, wd_1215, wd_1216, wd_1217, ⟨_, rfl, pd_X8_at⟩, 8, _, TX8, 3, rfl, rfl⟩)⟩
theorem ck_RX11_473_1752 : COK2 RX11 vwCl gTbl 473 0 con_1752 := ⟨wd_1218, wd_131, mh_X8_at, .inr (.inr ⟨rfl, wd_1215, wd_1216, wd_1217, ⟨_, rfl, pd_X8_at⟩, 8, _, TX8, 3, rfl, rfl⟩)⟩
theorem ck_RX11_473_1694 : COK2 RX11 vwCl gTbl 473 0 con_1694 := ⟨wd_1218, wd_131, mh_X8_at, .inr (.inr ⟨rfl, wd_1215, wd_1216, wd_1217, ⟨_, rfl, pd_X8_at⟩, 8, _, TX8, 3, rfl, rfl⟩)⟩
theorem ck_RX11_473_1697 : COK2 RX11 vwCl gTbl 473 0 con_1697 := ⟨wd_1218, wd_131, mh_X8_at, .inr (.inr ⟨rfl, wd_1215, wd_1216, wd_1217, ⟨_, rfl, pd_X8_at⟩, 8, _, TX8, 3, rfl, rfl⟩)⟩
theorem ck_RX11_473_1700 : COK2 RX11 vwCl gTbl 473 0 con_1700 := ⟨wd_1218, wd_131, mh_X8_at, .inr (.inr ⟨rfl, wd_1215, wd_1216, wd_1217, ⟨_, rfl, pd_X8_at⟩, 8, _, TX8, 3, rfl, rfl⟩)⟩
theorem ck_RX11_473_1703 : COK2 RX11 vwCl gTbl 473 0 con_1703 := ⟨wd_1218, wd_131, mh_X8_at, .inr (.inr ⟨rfl, wd_1215, wd_1216, wd_1217, ⟨_, rfl, pd_X8_at⟩, 8, _, TX8, 3, rfl, rfl⟩)⟩
theorem ck_RX11_473_1706 : COK2 RX11 vwCl gTbl 473 0 con_1706 := ⟨wd_1218, wd_131, mh_X8_at, .inr (.inr ⟨rfl, wd_1215, wd_1216, wd_1217, ⟨_, rfl, pd_X8_at⟩, 8, _, TX8, 3, rfl, rfl⟩)⟩
theorem ck_RX11_473_1709 : COK2 RX11 vwCl gTbl 473 0 con_1709 := ⟨wd_1218, wd_131, mh_X8_at, .inr (.inr ⟨rfl, wd_1215, wd_1216, wd_1217, ⟨_, rfl, pd_X8_at⟩, 8, _, TX8, 3, rfl, rfl⟩)⟩
theorem ck_RX11_473_1712 : COK2 RX11 vwCl gTbl 473 0 con_1712 := ⟨wd_1218, wd_131, mh_X8_at, .inr (.inr ⟨rfl, wd_1215, wd_1216, wd_1217, ⟨_, rfl, pd_X8_at⟩, 8, _, TX8, 3, rfl, rfl⟩)⟩
theorem ck_RX11_473_1715 : COK2 RX11 vwCl gTbl 473 0 con_1715 := ⟨wd_1218, wd_131, mh_X8_at, .inr (.inr ⟨rfl, wd_1215, wd_1216, wd_1217, ⟨_, rfl, pd_X8_at⟩, 8, _, TX8, 3, rfl, rfl⟩)⟩
theorem ck_RX11_473_1718 : COK2 RX11 vwCl gTbl 473 0 con_1718 := ⟨wd_1218, wd_131, mh_X8_at, .inr (.inr ⟨rfl, wd_1215, wd_1216, wd_1217, ⟨_, rfl, pd_X8_at⟩, 8, _, TX8, 3, rfl, rfl⟩)⟩
theorem ck_RX11_473_1721 : COK2 RX11 vwCl gTbl 473 0 con_1721 := ⟨wd_1218, wd_131, mh_X8_at, .inr (.inr ⟨rfl, wd_1215, wd_1216, wd_1217, ⟨_, rfl, pd_X8_at⟩, 8, _, TX8, 3, rfl, rfl⟩)⟩
theorem ck_RX11_473_1724 : COK2 RX11 vwCl gTbl 473 0 con_1724 := ⟨wd_1218, wd_131, mh_X8_at, .inr (.inr ⟨rfl, wd_1215, wd_1216, wd_1217, ⟨_, rfl, pd_X8_at⟩, 8, _, TX8, 3, rfl, rfl⟩)⟩
theorem ck_RX11_473_1727 : COK2 RX11 vwCl gTbl 473 0 con_1727 := ⟨wd_1218, wd_131, mh_X8_at, .inr (.inr ⟨rfl, wd_1215, wd_1216, wd_1217, ⟨_, rfl, pd_X8_at⟩, 8, _, TX8, 3, rfl, rfl⟩)⟩
theorem ck_RX11_473_1730 : COK2 RX11 vwCl gTbl 473 0 con_1730 := ⟨wd_1218, wd_131, mh_X8_at, .inr (.inr ⟨rfl, wd_1215, wd_1216, wd_1217, ⟨_, rfl, pd_X8_at⟩, 8, _, TX8, 3, rfl, rfl⟩)⟩
theorem ck_RX11_473_1733 : COK2 RX11 vwCl gTbl 473 0 con_1733 := ⟨wd_1218, wd_131, mh_X8_at, .inr (.inr ⟨rfl, wd_1215, wd_1216, wd_1217, ⟨_, rfl, pd_X8_at⟩, 8, _, TX8, 3, rfl, rfl⟩)⟩
theorem ck_RX11_473_1736 : COK2 RX11 vwCl gTbl 473 0 con_1736 := ⟨wd_1218, wd_131, mh_X8_at, .inr (.inr ⟨rfl, wd_1215, wd_1216, wd_1217, ⟨_, rfl, pd_X8_at⟩, 8, _, TX8, 3, rfl, rfl⟩)⟩
theorem ck_RX11_473_1739 : COK2 RX11 vwCl gTbl 473 0 con_1739 := ⟨wd_1218, wd_131, mh_X8_at, .inr (.inr ⟨rfl, wd_1215, wd_1216, wd_1217, ⟨_, rfl, pd_X8_at⟩, 8, _, TX8, 3, rfl, rfl⟩)⟩
theorem ck_RX11_473_1742 : COK2 RX11 vwCl gTbl 473 0 con_1742 := ⟨wd_1218, wd_131, mh_X8_at, .inr (.inr ⟨rfl, wd_1215, wd_1216, wd_1217, ⟨_, rfl, pd_X8_at⟩, 8, _, TX8, 3, rfl, rfl⟩)⟩
theorem ck_RX11_473_1745 : COK2 RX11 vwCl gTbl 473 0 con_1745 := ⟨wd_1218, wd_131, mh_X8_at, .inr (.inr ⟨rfl, wd_1215, wd_1216, wd_1217, ⟨_, rfl, pd_X8_at⟩, 8, _, TX8, 3, rfl, rfl⟩)⟩
theorem ck_RX11_473_1748 : COK2 RX11 vwCl gTbl 473 0 con_1748 := ⟨wd_1218, wd_131, mh_X8_at, .inr (.inr ⟨rfl, wd_1215, wd_1216, wd_1217, ⟨_, rfl, pd_X8_at⟩, 8, _, TX8, 3, rfl, rfl⟩)⟩
theorem ck_RX11_473_1751 : COK2 RX11 vwCl gTbl 473 0 con_1751 := ⟨wd_1218, wd_131, mh_X8_at, .inr (.inr ⟨rfl, wd_1215, wd_1216, wd_1217, ⟨_, rfl, pd_X8_at⟩, 8, _, TX8, 3, rfl, rfl⟩)⟩
theorem ck_RX11_473_1693 : COK2 RX11 vwCl gTbl 473 0 con_1693 := ⟨wd_1218, wd_131, mh_X8_at, .inr (.inr ⟨rfl, wd_1215, wd_1216, wd_1217, ⟨_, rfl, pd_X8_at⟩, 8, _, TX8, 3, rfl, rfl⟩)⟩
theorem ck_RX11_473_1696 : COK2 RX11 vwCl gTbl 473 0 con_1696 := ⟨wd_1218, wd_131, mh_X8_at, .inr (.inr ⟨rfl, wd_1215, wd_1216, wd_1217, ⟨_, rfl, pd_X8_at⟩, 8, _, TX8, 3, rfl, rfl⟩)⟩
theorem ck_RX11_473_1699 : COK2 RX11 vwCl gTbl 473 0 con_1699 := ⟨wd_1218, wd_131, mh_X8_at, .inr (.inr ⟨rfl, wd_1215, wd_1216, wd_1217, ⟨_, rfl, pd_X8_at⟩, 8, _, TX8, 3, rfl, rfl⟩)⟩
theorem ck_RX11_473_1702 : COK2 RX11 vwCl gTbl 473 0 con_1702 := ⟨wd_1218, wd_131, mh_X8_at, .inr (.inr ⟨rfl, wd_1215, wd_1216, wd_1217, ⟨_, rfl, pd_X8_at⟩, 8, _, TX8, 3, rfl, rfl⟩)⟩
theorem ck_RX11_473_1705 : COK2 RX11 vwCl gTbl 473 0 con_1705 := ⟨wd_1218, wd_131, mh_X8_at, .inr (.inr ⟨rfl, wd_1215, wd_1216, wd_1217, ⟨_, rfl, pd_X8_at⟩, 8, _, TX8, 3, rfl, rfl⟩)⟩
theorem ck_RX11_473_1708 : COK2 RX11 vwCl gTbl 473 0 con_1708 := ⟨wd_1218, wd_131, mh_X8_at, .inr (.inr ⟨rfl, wd_1215, wd_1216, wd_1217, ⟨_, rfl, pd_X8_at⟩, 8, _, TX8, 3, rfl, rfl⟩)⟩
theorem ck_RX11_473_1711 : COK2 RX11 vwCl gTbl 473 0 con_1711 := ⟨wd_1218, wd_131, mh_X8_at, .inr (.inr ⟨rfl, wd_1215, wd_1216, wd_1217, ⟨_, rfl, pd_X8_at⟩, 8, _, TX8, 3, rfl, rfl⟩)⟩
theorem ck_RX11_473_1714 : COK2 RX11 vwCl gTbl 473 0 con_1714 := ⟨wd_1218, wd_131, mh_X8_at, .inr (.inr ⟨rfl, wd_1215, wd_1216, wd_1217, ⟨_, rfl, pd_X8_at⟩, 8, _, TX8, 3, rfl, rfl⟩)⟩
theorem ck_RX11_473_1717 : COK2 RX11 vwCl gTbl 473 0 con_1717 := ⟨wd_1218, wd_131, mh_X8_at, .inr (.inr ⟨rfl, wd_1215, wd_1216, wd_1217, ⟨_, rfl, pd_X8_at⟩, 8, _, TX8, 3, rfl, rfl⟩)⟩
theorem ck_RX11_473_1720 : COK2 RX11 vwCl gTbl 473 0 con_1720 := ⟨wd_1218, wd_131, mh_X8_at, .inr (.inr ⟨rfl, wd_1215, wd_1216, wd_1217, ⟨_, rfl, pd_X8_at⟩, 8, _, TX8, 3, rfl, rfl⟩)⟩
theorem ck_RX11_473_1723 : COK2 RX11 vwCl gTbl 473 0 con_1723 := ⟨wd_1218, wd_131, mh_X8_at, .inr (.inr ⟨rfl, wd_1215, wd_1216, wd_1217, ⟨_, rfl, pd_X8_at⟩, 8, _, TX8, 3, rfl, rfl⟩)⟩
theorem ck_RX11_473_1726 : COK2 RX11 vwCl gTbl 473 0 con_1726 := ⟨wd_1218, wd_131, mh_X8_at, .inr (.inr ⟨rfl, wd_1215, wd_1216, wd_1217, ⟨_, rfl, pd_X8_at⟩, 8, _, TX8, 3, rfl, rfl⟩)⟩
theorem ck_RX11_473_1729 : COK2 RX11 vwCl gTbl 473 0 con_1729 := ⟨wd_1218, wd_131, mh_X8_at, .inr (.inr ⟨rfl, wd_1215, wd_1216, wd_1217, ⟨_, rfl, pd_X8_at⟩, 8, _, TX8, 3, rfl, rfl⟩)⟩
theorem ck_RX11_473_1732 : COK2 RX11 vwCl gTbl 473 0 con_1732 := ⟨wd_1218, wd_131, mh_X8_at, .inr (.inr ⟨rfl, wd_1215, wd_1216, wd_1217, ⟨_, rfl, pd_X8_at⟩, 8, _, TX8, 3, rfl, rfl⟩)⟩
theorem ck_RX11_473_1735 : COK2 RX11 vwCl gTbl 473 0 con_1735 := ⟨wd_1218, wd_131, mh_X8_at, .inr (.inr ⟨rfl, wd_1215, wd_1216, wd_1217, ⟨_, rfl, pd_X8_at⟩, 8, _, TX8, 3, rfl, rfl⟩)⟩
theorem ck_RX11_473_1738 : COK2 RX11 vwCl gTbl 473 0 con_1738 := ⟨wd_1218, wd_131, mh_X8_at, .inr (.inr ⟨rfl, wd_1215, wd_1216, wd_1217, ⟨_, rfl, pd_X8_at⟩, 8, _, TX8, 3, rfl, rfl⟩)⟩
theorem ck_RX11_473_1741 : COK2 RX11 vwCl gTbl 473 0 con_1741 := ⟨wd_1218, wd_131, mh_X8_at, .inr (.inr ⟨rfl, wd_1215, wd_1216, wd_1217, ⟨_, rfl, pd_X8_at⟩, 8, _, TX8, 3, rfl, rfl⟩)⟩
theorem ck_RX11_473_1744 : COK2 RX11 vwCl gTbl 473 0 con_1744 := ⟨wd_1218, wd_131, mh_X8_at, .inr (.inr ⟨rfl, wd_1215, wd_1216, wd_1217, ⟨_, rfl, pd_X8_at⟩, 8, _, TX8, 3, rfl, rfl⟩)⟩
theorem ck_RX11_473_1747 : COK2 RX11 vwCl gTbl 473 0 con_1747 := ⟨wd_1218, wd_131, mh_X8_at, .inr (.inr ⟨rfl, wd_1215, wd_1216, wd_1217, ⟨_, rfl, pd_X8_at⟩, 8, _, TX8, 3, rfl, rfl⟩)⟩
theorem ck_RX11_473_1750 : COK2 RX11 vwCl gTbl 473 0 con_1750 := ⟨wd_1218, wd_131, mh_X8_at, .inr (.inr ⟨rfl, wd_1215, wd_1216, wd_1217, ⟨_, rfl, pd_X8_at⟩, 8, _, TX8, 3, rfl, rfl⟩)⟩
theorem ck_RX11_420_1692 : COK2 RX11 vwCl gTbl 420 0 con_1692 := ⟨wd_1214, wd_131, mh_X8_hasRow, .inr (.inr ⟨rfl, wd_1211, wd_1212, wd_1213, ⟨_, rfl, pd_X8_hasRow⟩, 8, _, TX8, 3, rfl, rfl⟩)⟩
theorem ck_RX11_414_1691 : COK2 RX11 vwCl gTbl 414 1 con_1691 := ⟨wd_1210, wd_131, mh_X8_isSlot, .inl ⟨rfl, wd_1208, wd_1209, pd_X8_isSlot⟩⟩
noncomputable def ct_1753 : CTB2 := [(1, 414, 1, con_1691, []), (9, 139, 0, con_647, [0, 1, 2]), (23, 420, 0, con_1692, [3, 4]), (67, 473, 0, con_1750, [3, 5]), (67, 473, 0, con_1747, [3, 5]), (67, 473, 0, con_1744, [3, 5]), (67, 473, 0, con_1741, [3, 5]), (67, 473, 0, con_1738, [3, 5]), (67, 473, 0, con_1735, [3, 5]), (67, 473, 0, con_1732, [3, 5]), (67, 473, 0, con_1729, [3, 5]), (67, 473, 0, con_1726, [3, 5]), (67, 473, 0, con_1723, [3, 5]), (67, 473, 0, con_1720, [3, 5]), (67, 473, 0, con_1717, [3, 5]), (67, 473, 0, con_1714, [3, 5]), (67, 473, 0, con_1711, [3, 5]), (67, 473, 0, con_1708, [3, 5]), (67, 473, 0, con_1705, [3, 5]), (67, 473, 0, con_1702, [3, 5]), (67, 473, 0, con_1699, [3, 5]), (67, 473, 0, con_1696, [3, 5]), (67, 473, 0, con_1693, [3, 5]), (82, 476, 1, con_1502, []), (97, 473, 0, con_1751, [3, 5]), (97, 473, 0, con_1748, [3, 5]), (97, 473, 0, con_1745, [3, 5]), (97, 473, 0, con_1742, [3, 5]), (97, 473, 0, con_1739, [3, 5]), (97, 473, 0, con_1736, [3, 5]), (97, 473, 0, con_1733, [3, 5]), (97, 473, 0, con_1730, [3, 5]), (97, 473, 0, con_1727, [3, 5]), (97, 473, 0, con_1724, [3, 5]), (97, 473, 0, con_1721, [3, 5]), (97, 473, 0, con_1718, [3, 5]), (97, 473, 0, con_1715, [3, 5]), (97, 473, 0, con_1712, [3, 5]), (97, 473, 0, con_1709, [3, 5]), (97, 473, 0, con_1706, [3, 5]), (97, 473, 0, con_1703, [3, 5]), (97, 473, 0, con_1700, [3, 5]), (97, 473, 0, con_1697, [3, 5]), (97, 473, 0, con_1694, [3, 5]), (110, 476, 1, con_1504, []), (125, 473, 0, con_1752, [3, 5]), (125, 473, 0, con_1749, [3, 5]), (125, 473, 0, con_1746, [3, 5]), (125, 473, 0, con_1743, [3, 5]), (125, 473, 0, con_1740, [3, 5]), (125, 473, 0, con_1737, [3, 5]), (125, 473, 0, con_1734, [3, 5]), (125, 473, 0, con_1731, [3, 5]), (125, 473, 0, con_1728, [3, 5]), (125, 473, 0, con_1725, [3, 5]), (125, 473, 0, con_1722, [3, 5]), (125, 473, 0, con_1719, [3, 5]), (125, 473, 0, con_1716, [3, 5]), (125, 473, 0, con_1713, [3, 5]), (125, 473, 0, con_1710, [3, 5]), (125, 473, 0, con_1707, [3, 5]), (125, 473, 0, con_1704, [3, 5]), (125, 473, 0, con_1701, [3, 5]), (125, 473, 0, con_1698, [3, 5]), (125, 473, 0, con_1695, [3, 5]), (131, 476, 1, con_1506, [])]
noncomputable def gi_1093 : GI := jl_n [gp_423, jl_i 0 60, gp_572, jl_z 5]
noncomputable def gi_1094 : GI := jl_n [gp_423, jl_i 1 60, jl_r 3 (jl_m 0 60), gp_446, jl_z 5]
noncomputable def gi_1095 : GI := jl_n [gp_423, jl_i 4 60, jl_r 3 (jl_m 0 60), gp_478, jl_z 5]
noncomputable def gi_1096 : GI := jl_n [gp_423, jl_i 7 60, jl_r 3 (jl_m 0 60), gp_482, jl_z 5]
noncomputable def gi_1097 : GI := jl_n [gp_423, jl_i 10 60, jl_r 3 (jl_m 0 60), gp_429, jl_z 5]
noncomputable def gi_1098 : GI := jl_n [gp_423, jl_i 13 60, jl_r 3 (jl_m 0 60), gp_432, jl_z 5]
noncomputable def gi_1099 : GI := jl_n [gp_423, jl_i 16 60, jl_r 3 (jl_m 0 60), gp_435, jl_z 5]
noncomputable def gi_1100 : GI := jl_n [gp_423, jl_i 19 60, jl_r 3 (jl_m 0 60), gp_438, jl_z 5]
noncomputable def gi_1101 : GI := jl_n [gp_423, jl_i 22 60, gp_582, jl_r 36 (jl_u), jl_z 5]
noncomputable def gi_1102 : GI := jl_n [gp_423, jl_i 25 60, gp_582, gp_443, jl_z 5]
noncomputable def gi_1103 : GI := jl_n [gp_423, jl_i 28 60, gp_582, gp_448, jl_z 5]
noncomputable def gi_1104 : GI := jl_n [gp_423, jl_i 31 60, gp_582, gp_451, jl_z 5]
noncomputable def gi_1105 : GI := jl_n [gp_423, jl_i 34 60, jl_r 3 (jl_m 0 60), gp_455, jl_z 5]
noncomputable def gi_1106 : GI := jl_n [gp_423, jl_i 37 60, jl_r 3 (jl_m 0 60), gp_458, jl_z 5]
noncomputable def gi_1107 : GI := jl_n [gp_423, jl_i 40 60, jl_r 3 (jl_m 0 60), gp_461, jl_z 5]
noncomputable def gi_1108 : GI := jl_n [gp_423, jl_i 43 60, jl_r 3 (jl_m 0 60), gp_464, jl_z 5]
noncomputable def gi_1109 : GI := jl_n [gp_423, jl_i 46 60, jl_r 3 (jl_m 0 60), gp_467, jl_z 5]
noncomputable def gi_1110 : GI := jl_n [gp_423, jl_i 49 60, jl_r 3 (jl_m 0 60), gp_470, jl_z 5]
noncomputable def gi_1111 : GI := jl_n [gp_423, jl_i 52 60, jl_r 3 (jl_m 0 60), gp_473, jl_z 5]
noncomputable def gi_1112 : GI := jl_n [gp_423, jl_i 55 60, jl_r 3 (jl_m 0 60), gp_476, jl_z 5]
noncomputable def gi_1113 : GI := jl_n [gp_423, gp_611, jl_z 5]
noncomputable def cu_1753_0 : List CUT2 := [((54, [lq 0 6 0, lq 1 0 0, lq 2 1 2, lq 3 1 41, lq 4 0 0], [], gi_1093, hq_884), [], ([], 60)), ((54, [lq 0 6 0, lq 1 0 0, lq 2 1 2, lq 3 1 41, lq 4 0 3], [], gi_1094, hq_884), [], ([], 57)), ((54, [lq 0 6 0, lq 1 0 0, lq 2 1 2, lq 3 1 41, lq 4 0 6], [], gi_1095, hq_884), [], ([], 54)), ((54, [lq 0 6 0, lq 1 0 0, lq 2 1 2, lq 3 1 41, lq 4 0 9], [], gi_1096, hq_884), [], ([], 51)), ((54, [lq 0 6 0, lq 1 0 0, lq 2 1 2, lq 3 1 41, lq 4 0 12], [], gi_1097, hq_884), [], ([], 48)), ((54, [lq 0 6 0, lq 1 0 0, lq 2 1 2, lq 3 1 41, lq 4 0 15], [], gi_1098, hq_884), [], ([], 45)), ((54, [lq 0 6 0, lq 1 0 0, lq 2 1 2, lq 3 1 41, lq 4 0 18], [], gi_1099, hq_884), [], ([], 42)), ((54, [lq 0 6 0, lq 1 0 0, lq 2 1 2, lq 3 1 41, lq 4 0 21], [], gi_1100, hq_884), [], ([], 39)), ((54, [lq 0 6 0, lq 1 0 0, lq 2 1 2, lq 3 1 41, lq 4 0 24], [], gi_1101, hq_884), [], ([], 36)), ((54, [lq 0 6 0, lq 1 0 0, lq 2 1 2, lq 3 1 41, lq 4 0 27], [], gi_1102, hq_884), [], ([], 33)), ((54, [lq 0 6 0, lq 1 0 0, lq 2 1 2, lq 3 1 41, lq 4 0 30], [], gi_1103, hq_884), [], ([], 30)), ((54, [lq 0 6 0, lq 1 0 0, lq 2 1 2, lq 3 1 41, lq 4 0 33], [], gi_1104, hq_884), [], ([], 27)), ((54, [lq 0 6 0, lq 1 0 0, lq 2 1 2, lq 3 1 41, lq 4 0 36], [], gi_1105, hq_884), [], ([], 24))]
noncomputable def cu_1753_1 : List CUT2 := [((54, [lq 0 6 0, lq 1 0 0, lq 2 1 2, lq 3 1 41, lq 4 0 39], [], gi_1106, hq_884), [], ([], 21)), ((54, [lq 0 6 0, lq 1 0 0, lq 2 1 2, lq 3 1 41, lq 4 0 42], [], gi_1107, hq_884), [], ([], 18)), ((54, [lq 0 6 0, lq 1 0 0, lq 2 1 2, lq 3 1 41, lq 4 0 45], [], gi_1108, hq_884), [], ([], 15)), ((54, [lq 0 6 0, lq 1 0 0, lq 2 1 2, lq 3 1 41, lq 4 0 48], [], gi_1109, hq_884), [], ([], 12)), ((54, [lq 0 6 0, lq 1 0 0, lq 2 1 2, lq 3 1 41, lq 4 0 51], [], gi_1110, hq_884), [], ([], 9)), ((54, [lq 0 6 0, lq 1 0 0, lq 2 1 2, lq 3 1 41, lq 4 0 54], [], gi_1111, hq_884), [], ([], 6)), ((54, [lq 0 6 0, lq 1 0 0, lq 2 1 2, lq 3 1 41, lq 4 0 57], [], gi_1112, hq_884), [], ([], 3)), ((54, [lq 0 6 0, lq 1 0 0, lq 2 1 2, lq 3 1 41, lq 4 0 60], [], gi_1113, hq_884), [], ([], 0))]
noncomputable def cu_1753 : List CUT2 := cu_1753_0 ++ (cu_1753_1)
theorem ch_1753 : staG tb_X11_wrongSeen 1 bt_RX11 [] ct_1753 [] [] cu_1753 44 con_1753 = true := by decide +kernel
theorem cc_1753_0 : cu_1753_0.all (cutG tb_X11_wrongSeen 1 bt_RX11 [] ct_1753 [] [] cu_1753 44 con_1753) = true := by decide +kernel
theorem cc_1753_1 : cu_1753_1.all (cutG tb_X11_wrongSeen 1 bt_RX11 [] ct_1753 [] [] cu_1753 44 con_1753) = true := by decide +kernel
theorem cto_1753 (l : Launch) : CTOK2 l RX11 vwCl gTbl ct_1753 := ct2_cons (vl_1691 l) ck_RX11_414_1691 (ct2_cons (vl_647 l) ck_RX11_139_647 (ct2_cons (vl_1692 l) ck_RX11_420_1692 (ct2_cons (vl_1750 l) ck_RX11_473_1750 (ct2_cons (vl_1747 l) ck_RX11_473_1747 (ct2_cons (vl_1744 l) ck_RX11_473_1744 (ct2_cons (vl_1741 l) ck_RX11_473_1741 (ct2_cons (vl_1738 l) ck_RX11_473_1738 (ct2_cons (vl_1735 l) ck_RX11_473_1735 (ct2_cons (vl_1732 l) ck_RX11_473_1732 (ct2_cons (vl_1729 l) ck_RX11_473_1729 (ct2_cons (vl_1726 l) ck_RX11_473_1726 (ct2_cons (vl_1723 l) ck_RX11_473_1723 (ct2_cons (vl_1720 l) ck_RX11_473_1720 (ct2_cons (vl_1717 l) ck_RX11_473_1717 (ct2_cons (vl_1714 l) ck_RX11_473_1714 (ct2_cons (vl_1711 l) ck_RX11_473_1711 (ct2_cons (vl_1708 l) ck_RX11_473_1708 (ct2_cons (vl_1705 l) ck_RX11_473_1705 (ct2_cons (vl_1702 l) ck_RX11_473_1702 (ct2_cons (vl_1699 l) ck_RX11_473_1699 (ct2_cons (vl_1696 l) ck_RX11_473_1696 (ct2_cons (vl_1693 l) ck_RX11_473_1693 (ct2_cons (vl_1502 l) ck_RX11_476_1502 (ct2_cons (vl_1751 l) ck_RX11_473_1751 (ct2_cons (vl_1748 l) ck_RX11_473_1748 (ct2_cons (vl_1745 l) ck_RX11_473_1745 (ct2_cons (vl_1742 l) ck_RX11_473_1742 (ct2_cons (vl_1739 l) ck_RX11_473_1739 (ct2_cons (vl_1736 l) ck_RX11_473_1736 (ct2_cons (vl_1733 l) ck_RX11_473_1733 (ct2_cons (vl_1730 l) ck_RX11_473_1730 (ct2_cons (vl_1727 l) ck_RX11_473_1727 (ct2_cons (vl_1724 l) ck_RX11_473_1724 (ct2_cons (vl_1721 l) ck_RX11_473_1721 (ct2_cons (vl_1718 l) ck_RX11_473_1718 (ct2_cons (vl_1715 l) ck_RX11_473_1715 (ct2_cons (vl_1712 l) ck_RX11_473_1712 (ct2_cons (vl_1709 l) ck_RX11_473_1709 (ct2_cons (vl_1706 l) ck_RX11_473_1706 (ct2_cons (vl_1703 l) ck_RX11_473_1703 (ct2_cons (vl_1700 l) ck_RX11_473_1700 (ct2_cons (vl_1697 l) ck_RX11_473_1697 (ct2_cons (vl_1694 l) ck_RX11_473_1694 (ct2_cons (vl_1504 l) ck_RX11_476_1504 (ct2_cons (vl_1752 l) ck_RX11_473_1752 (ct2_cons (vl_1749 l) ck_RX11_473_1749 (ct2_cons (vl_1746 l) ck_RX11_473_1746 (ct2_cons (vl_1743 l) ck_RX11_473_1743 (ct2_cons (vl_1740 l) ck_RX11_473_1740 (ct2_cons (vl_1737 l) ck_RX11_473_1737 (ct2_cons (vl_1734 l) ck_RX11_473_1734 (ct2_cons (vl_1731 l) ck_RX11_473_1731 (ct2_cons (vl_1728 l) ck_RX11_473_1728 (ct2_cons (vl_1725 l) ck_RX11_473_1725 (ct2_cons (vl_1722 l) ck_RX11_473_1722 (ct2_cons (vl_1719 l) ck_RX11_473_1719 (ct2_cons (vl_1716 l) ck_RX11_473_1716 (ct2_cons (vl_1713 l) ck_RX11_473_1713 (ct2_cons (vl_1710 l) ck_RX11_473_1710 (ct2_cons (vl_1707 l) ck_RX11_473_1707 (ct2_cons (vl_1704 l) ck_RX11_473_1704 (ct2_cons (vl_1701 l) ck_RX11_473_1701 (ct2_cons (vl_1698 l) ck_RX11_473_1698 (ct2_cons (vl_1695 l) ck_RX11_473_1695 (ct2_cons (vl_1506 l) ck_RX11_476_1506 (ct2_nil))))))))))))))))))))))))))))))))))))))))))))))))))))))))))))))))))
theorem vl_1753 (l : Launch) : Vld2 l vwCl gTbl con_1753 := conR_ok3 gT_all (hd_1753) rfl pn_RX11 tk_X11_wrongSeen bo_RX11 xo_RX11 (cto_1753 l) ch_1753 (cut_app (cut_all cc_1753_0) (cut_all cc_1753_1))
/-- RookHusting$Slots isSlot -/
noncomputable def con_1754 : Con2 := ((yX8_isSlot, cX8_isSlot, 1, (some .boolean)), (0, 0), ([(1, 0, 0)], [((-2147483648), (-1))], [], []), [((0, 0, 0), [((-2147483648), (-1)), (0, 0)], [], [], [1])])
theorem hd_1754 : con_1754.1 = (yX8_isSlot, cX8_isSlot, 1, (some .boolean)) := rfl
noncomputable def cu_1754 : List CUT2 := []
theorem ch_1754 : staG tb_X8_isSlot 1 bt_RX8 [] ct_1497 [] [] cu_1754 6 con_1754 = true := by decide +kernel
theorem vl_1754 (l : Launch) : Vld2 l vwCl gTbl con_1754 := conR_ok3 gT_all (hd_1754) rfl pn_RX8 tk_X8_isSlot bo_RX8 xo_RX8 (cto_1497 l) ch_1754 cut_nil
/-- RookHusting wrongSeen -/
noncomputable def gi_1114 : GI := jl_n [gp_615, gp_419]
noncomputable def gi_1115 : GI := jl_n [gp_615, gp_419, jl_z 1]
noncomputable def con_1755 : Con2 := ((yX11_wrongSeen, cX11_wrongSeen, 5, (some .int)), (1, 20), ([(6, 0, 0), (1, 1, 0), (1, 2, 0)], gi_1114, hc_191, []), [((0, (-2), 0), gi_1115, hq_639, [], [1])])
theorem hd_1755 : con_1755.1 = (yX11_wrongSeen, cX11_wrongSeen, 5, (some .int)) := rfl
theorem ck_RX11_414_1754 : COK2 RX11 vwCl gTbl 414 1 con_1754 := ⟨wd_1210, wd_131, mh_X8_isSlot, .inl ⟨rfl, wd_1208, wd_1209, pd_X8_isSlot⟩⟩
noncomputable def ct_1755 : CTB2 := [(1, 414, 1, con_1754, [])]
noncomputable def cu_1755 : List CUT2 := []
theorem ch_1755 : staG tb_X11_wrongSeen 1 bt_RX11 [] ct_1755 [] [] cu_1755 7 con_1755 = true := by decide +kernel
theorem cto_1755 (l : Launch) : CTOK2 l RX11 vwCl gTbl ct_1755 := ct2_cons (vl_1754 l) ck_RX11_414_1754 (ct2_nil)
theorem vl_1755 (l : Launch) : Vld2 l vwCl gTbl con_1755 := conR_ok3 gT_all (hd_1755) rfl pn_RX11 tk_X11_wrongSeen bo_RX11 xo_RX11 (cto_1755 l) ch_1755 cut_nil
/-- RookHusting$Slots at -/
noncomputable def gi_1116 : GI := jl_n [jl_z 6, gp_95]
noncomputable def con_1756 : Con2 := ((yX8_at, cX8_at, 3, (some .long)), (0, 0), ([(6, 0, 0), (0, 3, 0), (0, 0, 0)], [(0, 0), (0, 0), (0, 0), (0, 0), (0, 0), (0, 0), (0, 4)], [.inl (8, [(6, 1, 0), (8, 4, 0), (8, 5, 0)]), ac_809], []), [((4, 6, 0), gi_1116, hq_641, [], [1])])
theorem hd_1756 : con_1756.1 = (yX8_at, cX8_at, 3, (some .long)) := rfl
noncomputable def cu_1756 : List CUT2 := []
theorem ch_1756 : staG tb_X8_at 1 bt_RX8 [] ct_1497 [] [] cu_1756 11 con_1756 = true := by decide +kernel
theorem vl_1756 (l : Launch) : Vld2 l vwCl gTbl con_1756 := conR_ok3 gT_all (hd_1756) rfl pn_RX8 tk_X8_at bo_RX8 xo_RX8 (cto_1497 l) ch_1756 cut_nil
/-- RookHusting$Slots at -/
noncomputable def gi_1117 : GI := jl_n [jl_z 6, gp_359]
noncomputable def con_1757 : Con2 := ((yX8_at, cX8_at, 3, (some .long)), (0, 0), ([(6, 0, 0), (0, 3, 0), (0, 1, 0)], [(0, 0), (0, 0), (0, 0), (0, 0), (0, 0), (0, 0), (0, 16)], [.inl (8, [(6, 1, 0), (8, 4, 0), (8, 5, 0)]), ac_810], []), [((4, 6, 0), gi_1117, hq_642, [], [1])])
theorem hd_1757 : con_1757.1 = (yX8_at, cX8_at, 3, (some .long)) := rfl
noncomputable def cu_1757 : List CUT2 := []
theorem ch_1757 : staG tb_X8_at 1 bt_RX8 [] ct_1497 [] [] cu_1757 11 con_1757 = true := by decide +kernel
theorem vl_1757 (l : Launch) : Vld2 l vwCl gTbl con_1757 := conR_ok3 gT_all (hd_1757) rfl pn_RX8 tk_X8_at bo_RX8 xo_RX8 (cto_1497 l) ch_1757 cut_nil
/-- RookHusting$Slots at -/
noncomputable def gi_1118 : GI := jl_n [jl_z 6, jl_i 0 250, jl_z 1]
noncomputable def con_1758 : Con2 := ((yX8_at, cX8_at, 3, (some .long)), (0, 0), ([(6, 0, 0), (0, 3, 0), (0, 2, 0)], [(0, 0), (0, 0), (0, 0), (0, 0), (0, 0), (0, 0), (0, 250)], [.inl (8, [(6, 1, 0), (8, 4, 0), (8, 5, 0)]), ac_811], []), [((4, 6, 0), gi_1118, hq_643, [], [1])])
theorem hd_1758 : con_1758.1 = (yX8_at, cX8_at, 3, (some .long)) := rfl
noncomputable def cu_1758 : List CUT2 := []
theorem ch_1758 : staG tb_X8_at 1 bt_RX8 [] ct_1497 [] [] cu_1758 11 con_1758 = true := by decide +kernel
theorem vl_1758 (l : Launch) : Vld2 l vwCl gTbl con_1758 := conR_ok3 gT_all (hd_1758) rfl pn_RX8 tk_X8_at bo_RX8 xo_RX8 (cto_1497 l) ch_1758 cut_nil
/-- RookHusting$Slots at -/
noncomputable def con_1759 : Con2 := ((yX8_at, cX8_at, 3, (some .long)), (0, 0), ([(6, 0, 0), (0, 3, 0), (0, 3, 0)], [(0, 0), (0, 0), (0, 0), (0, 0), (0, 0), (0, 0), (0, 4)], [.inl (8, [(6, 1, 0), (8, 4, 0), (8, 5, 0)]), ac_812], []), [((4, 6, 0), gi_1116, hq_644, [], [1])])
theorem hd_1759 : con_1759.1 = (yX8_at, cX8_at, 3, (some .long)) := rfl
noncomputable def cu_1759 : List CUT2 := []
theorem ch_1759 : staG tb_X8_at 1 bt_RX8 [] ct_1497 [] [] cu_1759 11 con_1759 = true := by decide +kernel
theorem vl_1759 (l : Launch) : Vld2 l vwCl gTbl con_1759 := conR_ok3 gT_all (hd_1759) rfl pn_RX8 tk_X8_at bo_RX8 xo_RX8 (cto_1497 l) ch_1759 cut_nil
/-- RookHusting$Slots at -/
noncomputable def con_1760 : Con2 := ((yX8_at, cX8_at, 3, (some .long)), (0, 0), ([(6, 0, 0), (0, 3, 0), (0, 4, 0)], [(0, 0), (0, 0), (0, 0), (0, 0), (0, 0), (0, 0), (0, 16)], [.inl (8, [(6, 1, 0), (8, 4, 0), (8, 5, 0)]), ac_813], []), [((4, 6, 0), gi_1117, hq_645, [], [1])])
theorem hd_1760 : con_1760.1 = (yX8_at, cX8_at, 3, (some .long)) := rfl
noncomputable def cu_1760 : List CUT2 := []
theorem ch_1760 : staG tb_X8_at 1 bt_RX8 [] ct_1497 [] [] cu_1760 11 con_1760 = true := by decide +kernel
theorem vl_1760 (l : Launch) : Vld2 l vwCl gTbl con_1760 := conR_ok3 gT_all (hd_1760) rfl pn_RX8 tk_X8_at bo_RX8 xo_RX8 (cto_1497 l) ch_1760 cut_nil
/-- RookHusting$Slots at -/
noncomputable def con_1761 : Con2 := ((yX8_at, cX8_at, 3, (some .long)), (0, 0), ([(6, 0, 0), (0, 3, 0), (0, 5, 0)], [(0, 0), (0, 0), (0, 0), (0, 0), (0, 0), (0, 0), (0, 250)], [.inl (8, [(6, 1, 0), (8, 4, 0), (8, 5, 0)]), ac_814], []), [((4, 6, 0), gi_1118, hq_646, [], [1])])
theorem hd_1761 : con_1761.1 = (yX8_at, cX8_at, 3, (some .long)) := rfl
noncomputable def cu_1761 : List CUT2 := []
theorem ch_1761 : staG tb_X8_at 1 bt_RX8 [] ct_1497 [] [] cu_1761 11 con_1761 = true := by decide +kernel
theorem vl_1761 (l : Launch) : Vld2 l vwCl gTbl con_1761 := conR_ok3 gT_all (hd_1761) rfl pn_RX8 tk_X8_at bo_RX8 xo_RX8 (cto_1497 l) ch_1761 cut_nil
/-- RookHusting$Slots at -/
noncomputable def con_1762 : Con2 := ((yX8_at, cX8_at, 3, (some .long)), (0, 0), ([(6, 0, 0), (0, 3, 0), (0, 6, 0)], [(0, 0), (0, 0), (0, 0), (0, 0), (0, 0), (0, 0), (0, 4)], [.inl (8, [(6, 1, 0), (8, 4, 0), (8, 5, 0)]), ac_815], []), [((4, 6, 0), gi_1116, hq_647, [], [1])])
theorem hd_1762 : con_1762.1 = (yX8_at, cX8_at, 3, (some .long)) := rfl
noncomputable def cu_1762 : List CUT2 := []
theorem ch_1762 : staG tb_X8_at 1 bt_RX8 [] ct_1497 [] [] cu_1762 11 con_1762 = true := by decide +kernel
theorem vl_1762 (l : Launch) : Vld2 l vwCl gTbl con_1762 := conR_ok3 gT_all (hd_1762) rfl pn_RX8 tk_X8_at bo_RX8 xo_RX8 (cto_1497 l) ch_1762 cut_nil
/-- RookHusting$Slots at -/
noncomputable def con_1763 : Con2 := ((yX8_at, cX8_at, 3, (some .long)), (0, 0), ([(6, 0, 0), (0, 3, 0), (0, 7, 0)], [(0, 0), (0, 0), (0, 0), (0, 0), (0, 0), (0, 0), (0, 16)], [.inl (8, [(6, 1, 0), (8, 4, 0), (8, 5, 0)]), ac_816], []), [((4, 6, 0), gi_1117, hq_648, [], [1])])
theorem hd_1763 : con_1763.1 = (yX8_at, cX8_at, 3, (some .long)) := rfl
noncomputable def cu_1763 : List CUT2 := []
theorem ch_1763 : staG tb_X8_at 1 bt_RX8 [] ct_1497 [] [] cu_1763 11 con_1763 = true := by decide +kernel
theorem vl_1763 (l : Launch) : Vld2 l vwCl gTbl con_1763 := conR_ok3 gT_all (hd_1763) rfl pn_RX8 tk_X8_at bo_RX8 xo_RX8 (cto_1497 l) ch_1763 cut_nil
/-- RookHusting$Slots at -/
noncomputable def con_1764 : Con2 := ((yX8_at, cX8_at, 3, (some .long)), (0, 0), ([(6, 0, 0), (0, 3, 0), (0, 8, 0)], [(0, 0), (0, 0), (0, 0), (0, 0), (0, 0), (0, 0), (0, 250)], [.inl (8, [(6, 1, 0), (8, 4, 0), (8, 5, 0)]), ac_817], []), [((4, 6, 0), gi_1118, hq_649, [], [1])])
theorem hd_1764 : con_1764.1 = (yX8_at, cX8_at, 3, (some .long)) := rfl
noncomputable def cu_1764 : List CUT2 := []
theorem ch_1764 : staG tb_X8_at 1 bt_RX8 [] ct_1497 [] [] cu_1764 11 con_1764 = true := by decide +kernel
theorem vl_1764 (l : Launch) : Vld2 l vwCl gTbl con_1764 := conR_ok3 gT_all (hd_1764) rfl pn_RX8 tk_X8_at bo_RX8 xo_RX8 (cto_1497 l) ch_1764 cut_nil
/-- RookHusting isAsSeen -/
noncomputable def gi_1119 : GI := jl_n [gp_617, jl_z 9]
noncomputable def ac_1053 : AC := .inl (11, jl_n [vp_12, jl_8 11 4, jl_6 5 1, jl_8 18 6])
noncomputable def ac_1054 : AC := .inr (1, jl_n [js_1 25 4])
noncomputable def ac_1055 : AC := .inr (2, jl_n [js_5 180 9223372036854775807 9223372036854775807, js_4 85 60])
noncomputable def ac_1056 : AC := .inl (3, jl_n [jl_8 86 1, jl_6 6 1, jl_8 94 7])
noncomputable def hc_196 : List AC := [ac_1053, .inl (8, [(6, 3, 0), (8, 19, 0), (6, 2, 0)]), ac_1054, ac_1055, ac_1056, am_0]
noncomputable def gi_1120 : GI := jl_n [gp_617, jl_z 10]
noncomputable def hq_885 : HP := [(false, ac_1053), (false, .inl (8, [(6, 3, 0), (8, 19, 0), (6, 2, 0)])), (false, ac_1054), (false, ac_1055), (false, ac_1056), (false, am_0)]
noncomputable def con_1765 : Con2 := ((yX11_isAsSeen, cX11_isAsSeen, 4, (some .boolean)), (1, 22), ([(6, 0, 0), (0, 3, 0)], gi_1119, hc_196, []), [((0, 0, 0), gi_1120, hq_885, [], [1]), ((0, 1, 0), gi_1120, hq_885, [], [1])])
theorem hd_1765 : con_1765.1 = (yX11_isAsSeen, cX11_isAsSeen, 4, (some .boolean)) := rfl
theorem ck_RX11_473_1758 : COK2 RX11 vwCl gTbl 473 0 con_1758 := ⟨wd_1218, wd_131, mh_X8_at, .inr (.inr ⟨rfl, wd_1215, wd_1216, wd_1217, ⟨_, rfl, pd_X8_at⟩, 8, _, TX8, 3, rfl, rfl⟩)⟩
theorem ck_RX11_473_1761 : COK2 RX11 vwCl gTbl 473 0 con_1761 := ⟨wd_1218, wd_131, mh_X8_at, .inr (.inr ⟨rfl, wd_1215, wd_1216, wd_1217, ⟨_, rfl, pd_X8_at⟩, 8, _, TX8, 3, rfl, rfl⟩)⟩
theorem ck_RX11_473_1764 : COK2 RX11 vwCl gTbl 473 0 con_1764 := ⟨wd_1218, wd_131, mh_X8_at, .inr (.inr ⟨rfl, wd_1215, wd_1216, wd_1217, ⟨_, rfl, pd_X8_at⟩, 8, _, TX8, 3, rfl, rfl⟩)⟩
theorem ck_RX11_473_1757 : COK2 RX11 vwCl gTbl 473 0 con_1757 := ⟨wd_1218, wd_131, mh_X8_at, .inr (.inr ⟨rfl, wd_1215, wd_1216, wd_1217, ⟨_, rfl, pd_X8_at⟩, 8, _, TX8, 3, rfl, rfl⟩)⟩
theorem ck_RX11_473_1760 : COK2 RX11 vwCl gTbl 473 0 con_1760 := ⟨wd_1218, wd_131, mh_X8_at, .inr (.inr ⟨rfl, wd_1215, wd_1216, wd_1217, ⟨_, rfl, pd_X8_at⟩, 8, _, TX8, 3, rfl, rfl⟩)⟩
theorem ck_RX11_473_1763 : COK2 RX11 vwCl gTbl 473 0 con_1763 := ⟨wd_1218, wd_131, mh_X8_at, .inr (.inr ⟨rfl, wd_1215, wd_1216, wd_1217, ⟨_, rfl, pd_X8_at⟩, 8, _, TX8, 3, rfl, rfl⟩)⟩
theorem ck_RX11_473_1756 : COK2 RX11 vwCl gTbl 473 0 con_1756 := ⟨wd_1218, wd_131, mh_X8_at, .inr (.inr ⟨rfl, wd_1215, wd_1216, wd_1217, ⟨_, rfl, pd_X8_at⟩, 8, _, TX8, 3, rfl, rfl⟩)⟩
theorem ck_RX11_473_1759 : COK2 RX11 vwCl gTbl 473 0 con_1759 := ⟨wd_1218, wd_131, mh_X8_at, .inr (.inr ⟨rfl, wd_1215, wd_1216, wd_1217, ⟨_, rfl, pd_X8_at⟩, 8, _, TX8, 3, rfl, rfl⟩)⟩
theorem ck_RX11_473_1762 : COK2 RX11 vwCl gTbl 473 0 con_1762 := ⟨wd_1218, wd_131, mh_X8_at, .inr (.inr ⟨rfl, wd_1215, wd_1216, wd_1217, ⟨_, rfl, pd_X8_at⟩, 8, _, TX8, 3, rfl, rfl⟩)⟩
noncomputable def ct_1765 : CTB2 := [(21, 473, 0, con_1762, [1, 3]), (21, 473, 0, con_1759, [1, 3]), (21, 473, 0, con_1756, [1, 3]), (36, 473, 0, con_1763, [1, 3]), (36, 473, 0, con_1760, [1, 3]), (36, 473, 0, con_1757, [1, 3]), (60, 473, 0, con_1764, [1, 3]), (60, 473, 0, con_1761, [1, 3]), (60, 473, 0, con_1758, [1, 3])]
noncomputable def gi_1121 : GI := jl_n [gp_617, jl_z 12]
noncomputable def gi_1122 : GI := jl_n [gp_617, gp_618]
noncomputable def cu_1765 : List CUT2 := [((2, [lq 0 6 0, lq 1 0 3, lq 2 0 0], [], gi_1121, hq_885), [], ([], 9)), ((2, [lq 0 6 0, lq 1 0 3, lq 2 0 3, lq 3 1 97], [], gi_1122, hq_885), [], ([], 6)), ((2, [lq 0 6 0, lq 1 0 3, lq 2 0 6, lq 3 1 97], [], gi_1122, hq_885), [], ([], 3)), ((2, [lq 0 6 0, lq 1 0 3, lq 2 0 9, lq 3 1 97], [], gi_1122, hq_885), [], ([], 0))]
theorem ch_1765 : staG tb_X11_isAsSeen 1 bt_RX11 [] ct_1765 [] [] cu_1765 44 con_1765 = true := by decide +kernel
theorem cc_1765 : cu_1765.all (cutG tb_X11_isAsSeen 1 bt_RX11 [] ct_1765 [] [] cu_1765 44 con_1765) = true := by decide +kernel
theorem cto_1765 (l : Launch) : CTOK2 l RX11 vwCl gTbl ct_1765 := ct2_cons (vl_1762 l) ck_RX11_473_1762 (ct2_cons (vl_1759 l) ck_RX11_473_1759 (ct2_cons (vl_1756 l) ck_RX11_473_1756 (ct2_cons (vl_1763 l) ck_RX11_473_1763 (ct2_cons (vl_1760 l) ck_RX11_473_1760 (ct2_cons (vl_1757 l) ck_RX11_473_1757 (ct2_cons (vl_1764 l) ck_RX11_473_1764 (ct2_cons (vl_1761 l) ck_RX11_473_1761 (ct2_cons (vl_1758 l) ck_RX11_473_1758 (ct2_nil)))))))))
theorem vl_1765 (l : Launch) : Vld2 l vwCl gTbl con_1765 := conR_ok3 gT_all (hd_1765) rfl pn_RX11 tk_X11_isAsSeen bo_RX11 xo_RX11 (cto_1765 l) ch_1765 (cut_all cc_1765)
/-- RookHusting$Guesses keep -/
noncomputable def gi_1123 : GI := jl_n [jl_z 3, gp_381]
noncomputable def hc_197 : List AC := [.inl (2, [(1, 3, 0), (8, 4, 0), (8, 5, 0), (6, 2, 0)]), am_0, am_16]
noncomputable def gi_1124 : GI := jl_n [jl_z 3, gp_381, gp_381]
noncomputable def hq_886 : HP := [(true, .inl (2, [(1, 7, 0), (8, 4, 0), (8, 5, 0), (6, 2, 0)])), (false, am_0), (true, am_16)]
noncomputable def con_1766 : Con2 := ((yX2_keep, cX2_keep, 3, none), (1, 18), ([(6, 0, 0), (0, 5, 0), (6, 1, 0)], gi_1123, hc_197, []), [((9, 0, 0), gi_1124, hq_886, [], [1, 1, 1, 1])])
theorem hd_1766 : con_1766.1 = (yX2_keep, cX2_keep, 3, none) := rfl
noncomputable def ct_1766 : CTB2 := []
noncomputable def cu_1766 : List CUT2 := []
theorem ch_1766 : staG tb_X2_keep 1 bt_RX2 [] ct_1766 [] [] cu_1766 20 con_1766 = true := by decide +kernel
theorem cto_1766 (l : Launch) : CTOK2 l RX2 vwCl gTbl ct_1766 := ct2_nil
theorem vl_1766 (l : Launch) : Vld2 l vwCl gTbl con_1766 := conR_ok3 gT_all (hd_1766) rfl pn_RX2 tk_X2_keep bo_RX2 xo_RX2 (cto_1766 l) ch_1766 cut_nil
/-- RookHusting$Guesses keep -/
noncomputable def gi_1125 : GI := jl_n [gp_151, gp_381]
noncomputable def gi_1126 : GI := jl_n [gp_151, gp_381, gp_381]
noncomputable def con_1771 : Con2 := ((yX2_keep, cX2_keep, 3, none), (1, 18), ([(6, 0, 0), (1, 1, 0), (6, 1, 0)], gi_1125, hc_197, []), [((9, 0, 0), gi_1126, hq_886, [], [1, 1, 1, 1])])
theorem hd_1771 : con_1771.1 = (yX2_keep, cX2_keep, 3, none) := rfl
noncomputable def cu_1771 : List CUT2 := []
theorem ch_1771 : staG tb_X2_keep 1 bt_RX2 [] ct_1766 [] [] cu_1771 20 con_1771 = true := by decide +kernel
theorem vl_1771 (l : Launch) : Vld2 l vwCl gTbl con_1771 := conR_ok3 gT_all (hd_1771) rfl pn_RX2 tk_X2_keep bo_RX2 xo_RX2 (cto_1766 l) ch_1771 cut_nil
/-- RookHusting guessAll -/
noncomputable def gi_1127 : GI := jl_n [gp_621, gp_483]
noncomputable def ac_1057 : AC := .inl (11, jl_n [vp_141, jl_6 41 1, vp_70, vp_132, vp_142, jl_6 28 1, jl_8 16 1, vp_100])
noncomputable def ac_1058 : AC := .inl (4, jl_n [vp_123, vp_74, jl_8 41 2, jl_6 10 1])
noncomputable def ac_1059 : AC := .inl (3, jl_n [vp_77, jl_1 117 2])
noncomputable def ac_1060 : AC := .inl (2, jl_n [jl_1 118 1, jl_8 120 2, jl_6 44 1])
noncomputable def ac_1061 : AC := .inl (3, jl_n [vp_135, jl_1 134 2])
noncomputable def ac_1062 : AC := .inr (1, jl_n [js_1 141 4])
noncomputable def ac_1063 : AC := .inr (2, jl_n [js_5 180 9223372036854775807 9223372036854775807, js_4 201 60])
noncomputable def hc_198 : List AC := [ac_1057, .inl (9, [(6, 3, 0), (6, 11, 0)]), .inl (7, [(6, 4, 0), (6, 5, 0), (6, 6, 0), (1, 24, 0)]), ac_1058, am_7, am_1, am_1, am_1, .inl (1, [(6, 3, 0), (8, 43, 0)]), am_4, am_6, .inl (0, [(1, 44, 0), (6, 12, 0), (6, 13, 0), (6, 14, 0)]), ac_642, am_11, ac_643, ac_1059, am_2, am_0, am_10, am_0, am_1, am_0, am_2, am_9, am_0, am_0, am_12, ac_1060, .inl (7, [(6, 29, 0), (6, 30, 0), (6, 31, 0), (1, 124, 0)]), am_7, am_1, am_1, ac_1061, am_0, am_0, am_1, am_0, am_0, am_0, am_12, .inl (8, [(6, 42, 0), (8, 135, 0), (6, 41, 0)]), ac_1062, ac_1063, am_16]
noncomputable def gi_1128 : GI := jl_n [gp_621, gp_483, gp_622]
noncomputable def ac_1064 : AC := .inl (11, jl_n [vp_141, jl_6 41 1, vp_70, vp_132, vp_142, jl_6 28 1, jl_8 16 1, jl_c 1, jl_8 19 2])
noncomputable def ac_1065 : AC := .inl (3, jl_n [vp_77, jl_1 230 2])
noncomputable def ac_1066 : AC := .inl (2, jl_n [jl_1 231 1, jl_8 120 2, jl_6 44 1])
noncomputable def ac_1067 : AC := .inl (3, jl_n [vp_135, jl_1 247 2])
noncomputable def hq_887 : HP := [(true, ac_1064), (false, .inl (9, [(6, 3, 0), (6, 11, 0)])), (true, .inl (7, [(6, 4, 0), (6, 5, 0), (6, 6, 0), (1, 220, 0)])), (false, ac_1058), (true, am_7), (true, am_1), (true, am_1), (false, am_1), (false, .inl (1, [(6, 3, 0), (8, 43, 0)])), (false, am_4), (false, am_6), (false, .inl (0, [(1, 44, 0), (6, 12, 0), (6, 13, 0), (6, 14, 0)])), (false, ac_642), (false, am_11), (false, ac_643), (true, ac_1065), (false, am_2), (true, am_0), (false, am_10), (true, am_0), (true, am_1), (true, am_0), (false, am_2), (false, am_9), (true, am_0), (true, am_0), (true, am_12), (true, ac_1066), (true, .inl (7, [(6, 29, 0), (6, 30, 0), (6, 31, 0), (1, 237, 0)])), (true, am_7), (true, am_1), (true, am_1), (true, ac_1067), (true, am_0), (true, am_0), (true, am_1), (true, am_0), (true, am_0), (true, am_0), (true, am_12), (false, .inl (8, [(6, 42, 0), (8, 135, 0), (6, 41, 0)])), (false, ac_1062), (false, ac_1063), (true, am_16)]
noncomputable def con_1772 : Con2 := ((yX11_guessAll, cX11_guessAll, 4, none), (6, 151), ([(6, 0, 0), (0, 3, 0), (1, 2, 0)], gi_1127, hc_198, rq_6), [((9, 0, 0), gi_1128, hq_887, [], tg_1)])
theorem hd_1772 : con_1772.1 = (yX11_guessAll, cX11_guessAll, 4, none) := rfl
theorem ck_RX11_486_1771 : COK2 RX11 vwCl gTbl 486 0 con_1771 := ⟨wd_1234, wd_136, mh_X2_keep, .inr (.inr ⟨rfl, wd_1231, wd_1232, wd_1233, ⟨_, rfl, pd_X2_keep⟩, 2, _, TX2, 4, rfl, rfl⟩)⟩
theorem ck_RX11_486_1766 : COK2 RX11 vwCl gTbl 486 0 con_1766 := ⟨wd_1234, wd_136, mh_X2_keep, .inr (.inr ⟨rfl, wd_1231, wd_1232, wd_1233, ⟨_, rfl, pd_X2_keep⟩, 2, _, TX2, 4, rfl, rfl⟩)⟩
theorem ck_RX11_483_1765 : COK2 RX11 vwCl gTbl 483 0 con_1765 := ⟨wd_1230, wd_125, mh_X11_isAsSeen, .inr (.inr ⟨rfl, wd_1227, wd_1229, wd_43, ⟨_, rfl, pd_X11_isAsSeen⟩, 11, _, TX11, 16, rfl, rfl⟩)⟩
theorem ck_RX11_480_869 : COK2 RX11 vwCl gTbl 480 0 con_869 := ⟨wd_862, wd_133, mh_X7_placeMan, .inr (.inr ⟨rfl, wd_1226, wd_860, wd_861, ⟨_, rfl, pd_X7_placeMan⟩, 7, _, TX7, 4, rfl, rfl⟩)⟩
noncomputable def ct_1772 : CTB2 := [(1, 208, 0, con_929, [0, 1, 2, 3, 4, 5, 6, 7, 8, 9, 10, 11, 12, 13, 14, 15, 16, 17, 18, 19, 20, 21, 22, 23, 24, 25, 26]), (36, 332, 0, con_1456, [28, 2, 29, 4, 30, 5, 31, 6]), (45, 480, 0, con_869, [28, 29]), (73, 372, 0, con_928, [32, 3, 28, 16, 33, 18, 34, 30, 35, 29, 36, 22, 23, 37, 38, 39, 31]), (78, 483, 0, con_1765, [0, 40, 41, 42, 32, 33]), (105, 486, 0, con_1766, [27, 33, 43]), (105, 486, 0, con_1771, [27, 33, 43])]
noncomputable def gi_1129 : GI := jl_n [gp_621, gp_483, gp_623]
noncomputable def ac_1068 : AC := .inl (3, jl_n [vp_77, jl_1 234 2])
noncomputable def ac_1069 : AC := .inl (2, jl_n [jl_1 235 1, jl_8 120 2, jl_6 44 1])
noncomputable def ac_1070 : AC := .inl (3, jl_n [vp_135, jl_1 251 2])
noncomputable def hq_888 : HP := [(true, ac_1064), (false, .inl (9, [(6, 3, 0), (6, 11, 0)])), (true, .inl (7, [(6, 4, 0), (6, 5, 0), (6, 6, 0), (1, 224, 0)])), (false, ac_1058), (true, am_7), (true, am_1), (true, am_1), (false, am_1), (false, .inl (1, [(6, 3, 0), (8, 43, 0)])), (false, am_4), (false, am_6), (false, .inl (0, [(1, 44, 0), (6, 12, 0), (6, 13, 0), (6, 14, 0)])), (false, ac_642), (false, am_11), (false, ac_643), (true, ac_1068), (false, am_2), (true, am_0), (false, am_10), (true, am_0), (true, am_1), (true, am_0), (false, am_2), (false, am_9), (true, am_0), (true, am_0), (true, am_12), (true, ac_1069), (true, .inl (7, [(6, 29, 0), (6, 30, 0), (6, 31, 0), (1, 241, 0)])), (true, am_7), (true, am_1), (true, am_1), (true, ac_1070), (true, am_0), (true, am_0), (true, am_1), (true, am_0), (true, am_0), (true, am_0), (true, am_12), (false, .inl (8, [(6, 42, 0), (8, 135, 0), (6, 41, 0)])), (false, ac_1062), (false, ac_1063), (true, am_16)]
noncomputable def cu_1772 : List CUT2 := [((14, [lq 0 6 0, lq 1 0 3, lq 2 1 2, lq 3 1 204], [], gi_1129, hq_888), rq_6, ([(204, (-1))], 5))]
theorem ch_1772 : staG tb_X11_guessAll 1 bt_RX11 [] ct_1772 [] [] cu_1772 48 con_1772 = true := by decide +kernel
theorem cc_1772 : cu_1772.all (cutG tb_X11_guessAll 1 bt_RX11 [] ct_1772 [] [] cu_1772 48 con_1772) = true := by decide +kernel
theorem cto_1772 (l : Launch) : CTOK2 l RX11 vwCl gTbl ct_1772 := ct2_cons (vl_929 l) ck_RX11_208_929 (ct2_cons (vl_1456 l) ck_RX11_332_1456 (ct2_cons (vl_869 l) ck_RX11_480_869 (ct2_cons (vl_928 l) ck_RX11_372_928 (ct2_cons (vl_1765 l) ck_RX11_483_1765 (ct2_cons (vl_1766 l) ck_RX11_486_1766 (ct2_cons (vl_1771 l) ck_RX11_486_1771 (ct2_nil)))))))
theorem vl_1772 (l : Launch) : Vld2 l vwCl gTbl con_1772 := conR_ok3 gT_all (hd_1772) rfl pn_RX11 tk_X11_guessAll bo_RX11 xo_RX11 (cto_1772 l) ch_1772 (cut_all cc_1772)
/-- RookHusting$Slots at -/
noncomputable def con_1773 : Con2 := ((yX8_at, cX8_at, 3, (some .long)), (0, 0), ([(6, 0, 0), (0, 3, 0), (0, 9, 0)], [(0, 0), (0, 0), (0, 0), (0, 0), (0, 0), (0, 0), (0, 4)], [.inl (8, [(6, 1, 0), (8, 4, 0), (8, 5, 0)]), ac_818], []), [((4, 6, 0), gi_1116, hq_650, [], [1])])
theorem hd_1773 : con_1773.1 = (yX8_at, cX8_at, 3, (some .long)) := rfl
noncomputable def cu_1773 : List CUT2 := []
theorem ch_1773 : staG tb_X8_at 1 bt_RX8 [] ct_1497 [] [] cu_1773 11 con_1773 = true := by decide +kernel
theorem vl_1773 (l : Launch) : Vld2 l vwCl gTbl con_1773 := conR_ok3 gT_all (hd_1773) rfl pn_RX8 tk_X8_at bo_RX8 xo_RX8 (cto_1497 l) ch_1773 cut_nil
/-- RookHusting$Slots at -/
noncomputable def con_1774 : Con2 := ((yX8_at, cX8_at, 3, (some .long)), (0, 0), ([(6, 0, 0), (0, 3, 0), (0, 10, 0)], [(0, 0), (0, 0), (0, 0), (0, 0), (0, 0), (0, 0), (0, 16)], [.inl (8, [(6, 1, 0), (8, 4, 0), (8, 5, 0)]), ac_819], []), [((4, 6, 0), gi_1117, hq_651, [], [1])])
theorem hd_1774 : con_1774.1 = (yX8_at, cX8_at, 3, (some .long)) := rfl
noncomputable def cu_1774 : List CUT2 := []
theorem ch_1774 : staG tb_X8_at 1 bt_RX8 [] ct_1497 [] [] cu_1774 11 con_1774 = true := by decide +kernel
theorem vl_1774 (l : Launch) : Vld2 l vwCl gTbl con_1774 := conR_ok3 gT_all (hd_1774) rfl pn_RX8 tk_X8_at bo_RX8 xo_RX8 (cto_1497 l) ch_1774 cut_nil
/-- RookHusting$Slots at -/
noncomputable def con_1775 : Con2 := ((yX8_at, cX8_at, 3, (some .long)), (0, 0), ([(6, 0, 0), (0, 3, 0), (0, 11, 0)], [(0, 0), (0, 0), (0, 0), (0, 0), (0, 0), (0, 0), (0, 250)], [.inl (8, [(6, 1, 0), (8, 4, 0), (8, 5, 0)]), ac_820], []), [((4, 6, 0), gi_1118, hq_652, [], [1])])
theorem hd_1775 : con_1775.1 = (yX8_at, cX8_at, 3, (some .long)) := rfl
noncomputable def cu_1775 : List CUT2 := []
theorem ch_1775 : staG tb_X8_at 1 bt_RX8 [] ct_1497 [] [] cu_1775 11 con_1775 = true := by decide +kernel
theorem vl_1775 (l : Launch) : Vld2 l vwCl gTbl con_1775 := conR_ok3 gT_all (hd_1775) rfl pn_RX8 tk_X8_at bo_RX8 xo_RX8 (cto_1497 l) ch_1775 cut_nil
/-- RookHusting$Slots at -/
noncomputable def con_1776 : Con2 := ((yX8_at, cX8_at, 3, (some .long)), (0, 0), ([(6, 0, 0), (0, 3, 0), (0, 12, 0)], [(0, 0), (0, 0), (0, 0), (0, 0), (0, 0), (0, 0), (0, 4)], [.inl (8, [(6, 1, 0), (8, 4, 0), (8, 5, 0)]), ac_821], []), [((4, 6, 0), gi_1116, hq_653, [], [1])])
theorem hd_1776 : con_1776.1 = (yX8_at, cX8_at, 3, (some .long)) := rfl
noncomputable def cu_1776 : List CUT2 := []
theorem ch_1776 : staG tb_X8_at 1 bt_RX8 [] ct_1497 [] [] cu_1776 11 con_1776 = true := by decide +kernel
theorem vl_1776 (l : Launch) : Vld2 l vwCl gTbl con_1776 := conR_ok3 gT_all (hd_1776) rfl pn_RX8 tk_X8_at bo_RX8 xo_RX8 (cto_1497 l) ch_1776 cut_nil
/-- RookHusting$Slots at -/
noncomputable def con_1777 : Con2 := ((yX8_at, cX8_at, 3, (some .long)), (0, 0), ([(6, 0, 0), (0, 3, 0), (0, 13, 0)], [(0, 0), (0, 0), (0, 0), (0, 0), (0, 0), (0, 0), (0, 16)], [.inl (8, [(6, 1, 0), (8, 4, 0), (8, 5, 0)]), ac_822], []), [((4, 6, 0), gi_1117, hq_654, [], [1])])
theorem hd_1777 : con_1777.1 = (yX8_at, cX8_at, 3, (some .long)) := rfl
noncomputable def cu_1777 : List CUT2 := []
theorem ch_1777 : staG tb_X8_at 1 bt_RX8 [] ct_1497 [] [] cu_1777 11 con_1777 = true := by decide +kernel
theorem vl_1777 (l : Launch) : Vld2 l vwCl gTbl con_1777 := conR_ok3 gT_all (hd_1777) rfl pn_RX8 tk_X8_at bo_RX8 xo_RX8 (cto_1497 l) ch_1777 cut_nil
/-- RookHusting$Slots at -/
noncomputable def con_1778 : Con2 := ((yX8_at, cX8_at, 3, (some .long)), (0, 0), ([(6, 0, 0), (0, 3, 0), (0, 14, 0)], [(0, 0), (0, 0), (0, 0), (0, 0), (0, 0), (0, 0), (0, 250)], [.inl (8, [(6, 1, 0), (8, 4, 0), (8, 5, 0)]), ac_823], []), [((4, 6, 0), gi_1118, hq_655, [], [1])])
theorem hd_1778 : con_1778.1 = (yX8_at, cX8_at, 3, (some .long)) := rfl
noncomputable def cu_1778 : List CUT2 := []
theorem ch_1778 : staG tb_X8_at 1 bt_RX8 [] ct_1497 [] [] cu_1778 11 con_1778 = true := by decide +kernel
theorem vl_1778 (l : Launch) : Vld2 l vwCl gTbl con_1778 := conR_ok3 gT_all (hd_1778) rfl pn_RX8 tk_X8_at bo_RX8 xo_RX8 (cto_1497 l) ch_1778 cut_nil
/-- RookHusting$Slots at -/
noncomputable def con_1779 : Con2 := ((yX8_at, cX8_at, 3, (some .long)), (0, 0), ([(6, 0, 0), (0, 3, 0), (0, 15, 0)], [(0, 0), (0, 0), (0, 0), (0, 0), (0, 0), (0, 0), (0, 4)], [.inl (8, [(6, 1, 0), (8, 4, 0), (8, 5, 0)]), ac_824], []), [((4, 6, 0), gi_1116, hq_656, [], [1])])
theorem hd_1779 : con_1779.1 = (yX8_at, cX8_at, 3, (some .long)) := rfl
noncomputable def cu_1779 : List CUT2 := []
theorem ch_1779 : staG tb_X8_at 1 bt_RX8 [] ct_1497 [] [] cu_1779 11 con_1779 = true := by decide +kernel
theorem vl_1779 (l : Launch) : Vld2 l vwCl gTbl con_1779 := conR_ok3 gT_all (hd_1779) rfl pn_RX8 tk_X8_at bo_RX8 xo_RX8 (cto_1497 l) ch_1779 cut_nil
/-- RookHusting$Slots at -/
noncomputable def con_1780 : Con2 := ((yX8_at, cX8_at, 3, (some .long)), (0, 0), ([(6, 0, 0), (0, 3, 0), (0, 16, 0)], [(0, 0), (0, 0), (0, 0), (0, 0), (0, 0), (0, 0), (0, 16)], [.inl (8, [(6, 1, 0), (8, 4, 0), (8, 5, 0)]), ac_825], []), [((4, 6, 0), gi_1117, hq_657, [], [1])])
theorem hd_1780 : con_1780.1 = (yX8_at, cX8_at, 3, (some .long)) := rfl
noncomputable def cu_1780 : List CUT2 := []
theorem ch_1780 : staG tb_X8_at 1 bt_RX8 [] ct_1497 [] [] cu_1780 11 con_1780 = true := by decide +kernel
theorem vl_1780 (l : Launch) : Vld2 l vwCl gTbl con_1780 := conR_ok3 gT_all (hd_1780) rfl pn_RX8 tk_X8_at bo_RX8 xo_RX8 (cto_1497 l) ch_1780 cut_nil
/-- RookHusting$Slots at -/
noncomputable def con_1781 : Con2 := ((yX8_at, cX8_at, 3, (some .long)), (0, 0), ([(6, 0, 0), (0, 3, 0), (0, 17, 0)], [(0, 0), (0, 0), (0, 0), (0, 0), (0, 0), (0, 0), (0, 250)], [.inl (8, [(6, 1, 0), (8, 4, 0), (8, 5, 0)]), ac_826], []), [((4, 6, 0), gi_1118, hq_658, [], [1])])
theorem hd_1781 : con_1781.1 = (yX8_at, cX8_at, 3, (some .long)) := rfl
noncomputable def cu_1781 : List CUT2 := []
theorem ch_1781 : staG tb_X8_at 1 bt_RX8 [] ct_1497 [] [] cu_1781 11 con_1781 = true := by decide +kernel
theorem vl_1781 (l : Launch) : Vld2 l vwCl gTbl con_1781 := conR_ok3 gT_all (hd_1781) rfl pn_RX8 tk_X8_at bo_RX8 xo_RX8 (cto_1497 l) ch_1781 cut_nil
/-- RookHusting$Slots at -/
noncomputable def con_1782 : Con2 := ((yX8_at, cX8_at, 3, (some .long)), (0, 0), ([(6, 0, 0), (0, 3, 0), (0, 18, 0)], [(0, 0), (0, 0), (0, 0), (0, 0), (0, 0), (0, 0), (0, 4)], [.inl (8, [(6, 1, 0), (8, 4, 0), (8, 5, 0)]), ac_827], []), [((4, 6, 0), gi_1116, hq_659, [], [1])])
theorem hd_1782 : con_1782.1 = (yX8_at, cX8_at, 3, (some .long)) := rfl
noncomputable def cu_1782 : List CUT2 := []
theorem ch_1782 : staG tb_X8_at 1 bt_RX8 [] ct_1497 [] [] cu_1782 11 con_1782 = true := by decide +kernel
theorem vl_1782 (l : Launch) : Vld2 l vwCl gTbl con_1782 := conR_ok3 gT_all (hd_1782) rfl pn_RX8 tk_X8_at bo_RX8 xo_RX8 (cto_1497 l) ch_1782 cut_nil
/-- RookHusting$Slots at -/
noncomputable def con_1783 : Con2 := ((yX8_at, cX8_at, 3, (some .long)), (0, 0), ([(6, 0, 0), (0, 3, 0), (0, 19, 0)], [(0, 0), (0, 0), (0, 0), (0, 0), (0, 0), (0, 0), (0, 16)], [.inl (8, [(6, 1, 0), (8, 4, 0), (8, 5, 0)]), ac_828], []), [((4, 6, 0), gi_1117, hq_660, [], [1])])
theorem hd_1783 : con_1783.1 = (yX8_at, cX8_at, 3, (some .long)) := rfl
noncomputable def cu_1783 : List CUT2 := []
theorem ch_1783 : staG tb_X8_at 1 bt_RX8 [] ct_1497 [] [] cu_1783 11 con_1783 = true := by decide +kernel
theorem vl_1783 (l : Launch) : Vld2 l vwCl gTbl con_1783 := conR_ok3 gT_all (hd_1783) rfl pn_RX8 tk_X8_at bo_RX8 xo_RX8 (cto_1497 l) ch_1783 cut_nil
/-- RookHusting$Slots at -/
noncomputable def con_1784 : Con2 := ((yX8_at, cX8_at, 3, (some .long)), (0, 0), ([(6, 0, 0), (0, 3, 0), (0, 20, 0)], [(0, 0), (0, 0), (0, 0), (0, 0), (0, 0), (0, 0), (0, 250)], [.inl (8, [(6, 1, 0), (8, 4, 0), (8, 5, 0)]), ac_829], []), [((4, 6, 0), gi_1118, hq_661, [], [1])])
theorem hd_1784 : con_1784.1 = (yX8_at, cX8_at, 3, (some .long)) := rfl
noncomputable def cu_1784 : List CUT2 := []
theorem ch_1784 : staG tb_X8_at 1 bt_RX8 [] ct_1497 [] [] cu_1784 11 con_1784 = true := by decide +kernel
theorem vl_1784 (l : Launch) : Vld2 l vwCl gTbl con_1784 := conR_ok3 gT_all (hd_1784) rfl pn_RX8 tk_X8_at bo_RX8 xo_RX8 (cto_1497 l) ch_1784 cut_nil
/-- RookHusting$Slots at -/
noncomputable def con_1785 : Con2 := ((yX8_at, cX8_at, 3, (some .long)), (0, 0), ([(6, 0, 0), (0, 3, 0), (0, 21, 0)], [(0, 0), (0, 0), (0, 0), (0, 0), (0, 0), (0, 0), (0, 4)], [.inl (8, [(6, 1, 0), (8, 4, 0), (8, 5, 0)]), ac_830], []), [((4, 6, 0), gi_1116, hq_662, [], [1])])
theorem hd_1785 : con_1785.1 = (yX8_at, cX8_at, 3, (some .long)) := rfl
noncomputable def cu_1785 : List CUT2 := []
theorem ch_1785 : staG tb_X8_at 1 bt_RX8 [] ct_1497 [] [] cu_1785 11 con_1785 = true := by decide +kernel
theorem vl_1785 (l : Launch) : Vld2 l vwCl gTbl con_1785 := conR_ok3 gT_all (hd_1785) rfl pn_RX8 tk_X8_at bo_RX8 xo_RX8 (cto_1497 l) ch_1785 cut_nil
/-- RookHusting$Slots at -/
noncomputable def con_1786 : Con2 := ((yX8_at, cX8_at, 3, (some .long)), (0, 0), ([(6, 0, 0), (0, 3, 0), (0, 22, 0)], [(0, 0), (0, 0), (0, 0), (0, 0), (0, 0), (0, 0), (0, 16)], [.inl (8, [(6, 1, 0), (8, 4, 0), (8, 5, 0)]), ac_831], []), [((4, 6, 0), gi_1117, hq_663, [], [1])])
theorem hd_1786 : con_1786.1 = (yX8_at, cX8_at, 3, (some .long)) := rfl
noncomputable def cu_1786 : List CUT2 := []
theorem ch_1786 : staG tb_X8_at 1 bt_RX8 [] ct_1497 [] [] cu_1786 11 con_1786 = true := by decide +kernel
theorem vl_1786 (l : Launch) : Vld2 l vwCl gTbl con_1786 := conR_ok3 gT_all (hd_1786) rfl pn_RX8 tk_X8_at bo_RX8 xo_RX8 (cto_1497 l) ch_1786 cut_nil
/-- RookHusting$Slots at -/
noncomputable def con_1787 : Con2 := ((yX8_at, cX8_at, 3, (some .long)), (0, 0), ([(6, 0, 0), (0, 3, 0), (0, 23, 0)], [(0, 0), (0, 0), (0, 0), (0, 0), (0, 0), (0, 0), (0, 250)], [.inl (8, [(6, 1, 0), (8, 4, 0), (8, 5, 0)]), ac_832], []), [((4, 6, 0), gi_1118, hq_664, [], [1])])
theorem hd_1787 : con_1787.1 = (yX8_at, cX8_at, 3, (some .long)) := rfl
noncomputable def cu_1787 : List CUT2 := []
theorem ch_1787 : staG tb_X8_at 1 bt_RX8 [] ct_1497 [] [] cu_1787 11 con_1787 = true := by decide +kernel
theorem vl_1787 (l : Launch) : Vld2 l vwCl gTbl con_1787 := conR_ok3 gT_all (hd_1787) rfl pn_RX8 tk_X8_at bo_RX8 xo_RX8 (cto_1497 l) ch_1787 cut_nil
/-- RookHusting$Slots at -/
noncomputable def con_1788 : Con2 := ((yX8_at, cX8_at, 3, (some .long)), (0, 0), ([(6, 0, 0), (0, 3, 0), (0, 24, 0)], [(0, 0), (0, 0), (0, 0), (0, 0), (0, 0), (0, 0), (0, 4)], [.inl (8, [(6, 1, 0), (8, 4, 0), (8, 5, 0)]), ac_833], []), [((4, 6, 0), gi_1116, hq_665, [], [1])])
theorem hd_1788 : con_1788.1 = (yX8_at, cX8_at, 3, (some .long)) := rfl
noncomputable def cu_1788 : List CUT2 := []
theorem ch_1788 : staG tb_X8_at 1 bt_RX8 [] ct_1497 [] [] cu_1788 11 con_1788 = true := by decide +kernel
theorem vl_1788 (l : Launch) : Vld2 l vwCl gTbl con_1788 := conR_ok3 gT_all (hd_1788) rfl pn_RX8 tk_X8_at bo_RX8 xo_RX8 (cto_1497 l) ch_1788 cut_nil
/-- RookHusting$Slots at -/
noncomputable def con_1789 : Con2 := ((yX8_at, cX8_at, 3, (some .long)), (0, 0), ([(6, 0, 0), (0, 3, 0), (0, 25, 0)], [(0, 0), (0, 0), (0, 0), (0, 0), (0, 0), (0, 0), (0, 16)], [.inl (8, [(6, 1, 0), (8, 4, 0), (8, 5, 0)]), ac_834], []), [((4, 6, 0), gi_1117, hq_666, [], [1])])
theorem hd_1789 : con_1789.1 = (yX8_at, cX8_at, 3, (some .long)) := rfl
noncomputable def cu_1789 : List CUT2 := []
theorem ch_1789 : staG tb_X8_at 1 bt_RX8 [] ct_1497 [] [] cu_1789 11 con_1789 = true := by decide +kernel
theorem vl_1789 (l : Launch) : Vld2 l vwCl gTbl con_1789 := conR_ok3 gT_all (hd_1789) rfl pn_RX8 tk_X8_at bo_RX8 xo_RX8 (cto_1497 l) ch_1789 cut_nil
/-- RookHusting$Slots at -/
noncomputable def con_1790 : Con2 := ((yX8_at, cX8_at, 3, (some .long)), (0, 0), ([(6, 0, 0), (0, 3, 0), (0, 26, 0)], [(0, 0), (0, 0), (0, 0), (0, 0), (0, 0), (0, 0), (0, 250)], [.inl (8, [(6, 1, 0), (8, 4, 0), (8, 5, 0)]), ac_835], []), [((4, 6, 0), gi_1118, hq_667, [], [1])])
theorem hd_1790 : con_1790.1 = (yX8_at, cX8_at, 3, (some .long)) := rfl
noncomputable def cu_1790 : List CUT2 := []
theorem ch_1790 : staG tb_X8_at 1 bt_RX8 [] ct_1497 [] [] cu_1790 11 con_1790 = true := by decide +kernel
theorem vl_1790 (l : Launch) : Vld2 l vwCl gTbl con_1790 := conR_ok3 gT_all (hd_1790) rfl pn_RX8 tk_X8_at bo_RX8 xo_RX8 (cto_1497 l) ch_1790 cut_nil
/-- RookHusting$Slots at -/
noncomputable def con_1791 : Con2 := ((yX8_at, cX8_at, 3, (some .long)), (0, 0), ([(6, 0, 0), (0, 3, 0), (0, 27, 0)], [(0, 0), (0, 0), (0, 0), (0, 0), (0, 0), (0, 0), (0, 4)], [.inl (8, [(6, 1, 0), (8, 4, 0), (8, 5, 0)]), ac_836], []), [((4, 6, 0), gi_1116, hq_668, [], [1])])
theorem hd_1791 : con_1791.1 = (yX8_at, cX8_at, 3, (some .long)) := rfl
noncomputable def cu_1791 : List CUT2 := []
theorem ch_1791 : staG tb_X8_at 1 bt_RX8 [] ct_1497 [] [] cu_1791 11 con_1791 = true := by decide +kernel
theorem vl_1791 (l : Launch) : Vld2 l vwCl gTbl con_1791 := conR_ok3 gT_all (hd_1791) rfl pn_RX8 tk_X8_at bo_RX8 xo_RX8 (cto_1497 l) ch_1791 cut_nil
/-- RookHusting$Slots at -/
noncomputable def con_1792 : Con2 := ((yX8_at, cX8_at, 3, (some .long)), (0, 0), ([(6, 0, 0), (0, 3, 0), (0, 28, 0)], [(0, 0), (0, 0), (0, 0), (0, 0), (0, 0), (0, 0), (0, 16)], [.inl (8, [(6, 1, 0), (8, 4, 0), (8, 5, 0)]), ac_837], []), [((4, 6, 0), gi_1117, hq_669, [], [1])])
theorem hd_1792 : con_1792.1 = (yX8_at, cX8_at, 3, (some .long)) := rfl
noncomputable def cu_1792 : List CUT2 := []
theorem ch_1792 : staG tb_X8_at 1 bt_RX8 [] ct_1497 [] [] cu_1792 11 con_1792 = true := by decide +kernel
theorem vl_1792 (l : Launch) : Vld2 l vwCl gTbl con_1792 := conR_ok3 gT_all (hd_1792) rfl pn_RX8 tk_X8_at bo_RX8 xo_RX8 (cto_1497 l) ch_1792 cut_nil
/-- RookHusting$Slots at -/
noncomputable def con_1793 : Con2 := ((yX8_at, cX8_at, 3, (some .long)), (0, 0), ([(6, 0, 0), (0, 3, 0), (0, 29, 0)], [(0, 0), (0, 0), (0, 0), (0, 0), (0, 0), (0, 0), (0, 250)], [.inl (8, [(6, 1, 0), (8, 4, 0), (8, 5, 0)]), ac_838], []), [((4, 6, 0), gi_1118, hq_670, [], [1])])
theorem hd_1793 : con_1793.1 = (yX8_at, cX8_at, 3, (some .long)) := rfl
noncomputable def cu_1793 : List CUT2 := []
theorem ch_1793 : staG tb_X8_at 1 bt_RX8 [] ct_1497 [] [] cu_1793 11 con_1793 = true := by decide +kernel
theorem vl_1793 (l : Launch) : Vld2 l vwCl gTbl con_1793 := conR_ok3 gT_all (hd_1793) rfl pn_RX8 tk_X8_at bo_RX8 xo_RX8 (cto_1497 l) ch_1793 cut_nil
/-- RookHusting$Slots at -/
noncomputable def con_1794 : Con2 := ((yX8_at, cX8_at, 3, (some .long)), (0, 0), ([(6, 0, 0), (0, 3, 0), (0, 30, 0)], [(0, 0), (0, 0), (0, 0), (0, 0), (0, 0), (0, 0), (0, 4)], [.inl (8, [(6, 1, 0), (8, 4, 0), (8, 5, 0)]), ac_839], []), [((4, 6, 0), gi_1116, hq_671, [], [1])])
theorem hd_1794 : con_1794.1 = (yX8_at, cX8_at, 3, (some .long)) := rfl
noncomputable def cu_1794 : List CUT2 := []
theorem ch_1794 : staG tb_X8_at 1 bt_RX8 [] ct_1497 [] [] cu_1794 11 con_1794 = true := by decide +kernel
theorem vl_1794 (l : Launch) : Vld2 l vwCl gTbl con_1794 := conR_ok3 gT_all (hd_1794) rfl pn_RX8 tk_X8_at bo_RX8 xo_RX8 (cto_1497 l) ch_1794 cut_nil
/-- RookHusting$Slots at -/
noncomputable def con_1795 : Con2 := ((yX8_at, cX8_at, 3, (some .long)), (0, 0), ([(6, 0, 0), (0, 3, 0), (0, 31, 0)], [(0, 0), (0, 0), (0, 0), (0, 0), (0, 0), (0, 0), (0, 16)], [.inl (8, [(6, 1, 0), (8, 4, 0), (8, 5, 0)]), ac_840], []), [((4, 6, 0), gi_1117, hq_672, [], [1])])
theorem hd_1795 : con_1795.1 = (yX8_at, cX8_at, 3, (some .long)) := rfl
noncomputable def cu_1795 : List CUT2 := []
theorem ch_1795 : staG tb_X8_at 1 bt_RX8 [] ct_1497 [] [] cu_1795 11 con_1795 = true := by decide +kernel
theorem vl_1795 (l : Launch) : Vld2 l vwCl gTbl con_1795 := conR_ok3 gT_all (hd_1795) rfl pn_RX8 tk_X8_at bo_RX8 xo_RX8 (cto_1497 l) ch_1795 cut_nil
/-- RookHusting$Slots at -/
noncomputable def con_1796 : Con2 := ((yX8_at, cX8_at, 3, (some .long)), (0, 0), ([(6, 0, 0), (0, 3, 0), (0, 32, 0)], [(0, 0), (0, 0), (0, 0), (0, 0), (0, 0), (0, 0), (0, 250)], [.inl (8, [(6, 1, 0), (8, 4, 0), (8, 5, 0)]), ac_841], []), [((4, 6, 0), gi_1118, hq_673, [], [1])])
theorem hd_1796 : con_1796.1 = (yX8_at, cX8_at, 3, (some .long)) := rfl
noncomputable def cu_1796 : List CUT2 := []
theorem ch_1796 : staG tb_X8_at 1 bt_RX8 [] ct_1497 [] [] cu_1796 11 con_1796 = true := by decide +kernel
theorem vl_1796 (l : Launch) : Vld2 l vwCl gTbl con_1796 := conR_ok3 gT_all (hd_1796) rfl pn_RX8 tk_X8_at bo_RX8 xo_RX8 (cto_1497 l) ch_1796 cut_nil
/-- RookHusting$Slots at -/
noncomputable def con_1797 : Con2 := ((yX8_at, cX8_at, 3, (some .long)), (0, 0), ([(6, 0, 0), (0, 3, 0), (0, 33, 0)], [(0, 0), (0, 0), (0, 0), (0, 0), (0, 0), (0, 0), (0, 4)], [.inl (8, [(6, 1, 0), (8, 4, 0), (8, 5, 0)]), ac_842], []), [((4, 6, 0), gi_1116, hq_674, [], [1])])
theorem hd_1797 : con_1797.1 = (yX8_at, cX8_at, 3, (some .long)) := rfl
noncomputable def cu_1797 : List CUT2 := []
theorem ch_1797 : staG tb_X8_at 1 bt_RX8 [] ct_1497 [] [] cu_1797 11 con_1797 = true := by decide +kernel
theorem vl_1797 (l : Launch) : Vld2 l vwCl gTbl con_1797 := conR_ok3 gT_all (hd_1797) rfl pn_RX8 tk_X8_at bo_RX8 xo_RX8 (cto_1497 l) ch_1797 cut_nil
/-- RookHusting$Slots at -/
noncomputable def con_1798 : Con2 := ((yX8_at, cX8_at, 3, (some .long)), (0, 0), ([(6, 0, 0), (0, 3, 0), (0, 34, 0)], [(0, 0), (0, 0), (0, 0), (0, 0), (0, 0), (0, 0), (0, 16)], [.inl (8, [(6, 1, 0), (8, 4, 0), (8, 5, 0)]), ac_843], []), [((4, 6, 0), gi_1117, hq_675, [], [1])])
theorem hd_1798 : con_1798.1 = (yX8_at, cX8_at, 3, (some .long)) := rfl
noncomputable def cu_1798 : List CUT2 := []
theorem ch_1798 : staG tb_X8_at 1 bt_RX8 [] ct_1497 [] [] cu_1798 11 con_1798 = true := by decide +kernel
theorem vl_1798 (l : Launch) : Vld2 l vwCl gTbl con_1798 := conR_ok3 gT_all (hd_1798) rfl pn_RX8 tk_X8_at bo_RX8 xo_RX8 (cto_1497 l) ch_1798 cut_nil
/-- RookHusting$Slots at -/
noncomputable def con_1799 : Con2 := ((yX8_at, cX8_at, 3, (some .long)), (0, 0), ([(6, 0, 0), (0, 3, 0), (0, 35, 0)], [(0, 0), (0, 0), (0, 0), (0, 0), (0, 0), (0, 0), (0, 250)], [.inl (8, [(6, 1, 0), (8, 4, 0), (8, 5, 0)]), ac_844], []), [((4, 6, 0), gi_1118, hq_676, [], [1])])
theorem hd_1799 : con_1799.1 = (yX8_at, cX8_at, 3, (some .long)) := rfl
noncomputable def cu_1799 : List CUT2 := []
theorem ch_1799 : staG tb_X8_at 1 bt_RX8 [] ct_1497 [] [] cu_1799 11 con_1799 = true := by decide +kernel
theorem vl_1799 (l : Launch) : Vld2 l vwCl gTbl con_1799 := conR_ok3 gT_all (hd_1799) rfl pn_RX8 tk_X8_at bo_RX8 xo_RX8 (cto_1497 l) ch_1799 cut_nil
/-- RookHusting$Slots at -/
noncomputable def con_1800 : Con2 := ((yX8_at, cX8_at, 3, (some .long)), (0, 0), ([(6, 0, 0), (0, 3, 0), (0, 36, 0)], [(0, 0), (0, 0), (0, 0), (0, 0), (0, 0), (0, 0), (0, 4)], [.inl (8, [(6, 1, 0), (8, 4, 0), (8, 5, 0)]), ac_845], []), [((4, 6, 0), gi_1116, hq_677, [], [1])])
theorem hd_1800 : con_1800.1 = (yX8_at, cX8_at, 3, (some .long)) := rfl
noncomputable def cu_1800 : List CUT2 := []
theorem ch_1800 : staG tb_X8_at 1 bt_RX8 [] ct_1497 [] [] cu_1800 11 con_1800 = true := by decide +kernel
theorem vl_1800 (l : Launch) : Vld2 l vwCl gTbl con_1800 := conR_ok3 gT_all (hd_1800) rfl pn_RX8 tk_X8_at bo_RX8 xo_RX8 (cto_1497 l) ch_1800 cut_nil
/-- RookHusting$Slots at -/
noncomputable def con_1801 : Con2 := ((yX8_at, cX8_at, 3, (some .long)), (0, 0), ([(6, 0, 0), (0, 3, 0), (0, 37, 0)], [(0, 0), (0, 0), (0, 0), (0, 0), (0, 0), (0, 0), (0, 16)], [.inl (8, [(6, 1, 0), (8, 4, 0), (8, 5, 0)]), ac_846], []), [((4, 6, 0), gi_1117, hq_678, [], [1])])
theorem hd_1801 : con_1801.1 = (yX8_at, cX8_at, 3, (some .long)) := rfl
noncomputable def cu_1801 : List CUT2 := []
theorem ch_1801 : staG tb_X8_at 1 bt_RX8 [] ct_1497 [] [] cu_1801 11 con_1801 = true := by decide +kernel
theorem vl_1801 (l : Launch) : Vld2 l vwCl gTbl con_1801 := conR_ok3 gT_all (hd_1801) rfl pn_RX8 tk_X8_at bo_RX8 xo_RX8 (cto_1497 l) ch_1801 cut_nil
/-- RookHusting$Slots at -/
noncomputable def con_1802 : Con2 := ((yX8_at, cX8_at, 3, (some .long)), (0, 0), ([(6, 0, 0), (0, 3, 0), (0, 38, 0)], [(0, 0), (0, 0), (0, 0), (0, 0), (0, 0), (0, 0), (0, 250)], [.inl (8, [(6, 1, 0), (8, 4, 0), (8, 5, 0)]), ac_847], []), [((4, 6, 0), gi_1118, hq_679, [], [1])])
theorem hd_1802 : con_1802.1 = (yX8_at, cX8_at, 3, (some .long)) := rfl
noncomputable def cu_1802 : List CUT2 := []
theorem ch_1802 : staG tb_X8_at 1 bt_RX8 [] ct_1497 [] [] cu_1802 11 con_1802 = true := by decide +kernel
theorem vl_1802 (l : Launch) : Vld2 l vwCl gTbl con_1802 := conR_ok3 gT_all (hd_1802) rfl pn_RX8 tk_X8_at bo_RX8 xo_RX8 (cto_1497 l) ch_1802 cut_nil
/-- RookHusting$Slots at -/
noncomputable def con_1803 : Con2 := ((yX8_at, cX8_at, 3, (some .long)), (0, 0), ([(6, 0, 0), (0, 3, 0), (0, 39, 0)], [(0, 0), (0, 0), (0, 0), (0, 0), (0, 0), (0, 0), (0, 4)], [.inl (8, [(6, 1, 0), (8, 4, 0), (8, 5, 0)]), ac_848], []), [((4, 6, 0), gi_1116, hq_680, [], [1])])
theorem hd_1803 : con_1803.1 = (yX8_at, cX8_at, 3, (some .long)) := rfl
noncomputable def cu_1803 : List CUT2 := []
theorem ch_1803 : staG tb_X8_at 1 bt_RX8 [] ct_1497 [] [] cu_1803 11 con_1803 = true := by decide +kernel
theorem vl_1803 (l : Launch) : Vld2 l vwCl gTbl con_1803 := conR_ok3 gT_all (hd_1803) rfl pn_RX8 tk_X8_at bo_RX8 xo_RX8 (cto_1497 l) ch_1803 cut_nil
/-- RookHusting$Slots at -/
noncomputable def con_1804 : Con2 := ((yX8_at, cX8_at, 3, (some .long)), (0, 0), ([(6, 0, 0), (0, 3, 0), (0, 40, 0)], [(0, 0), (0, 0), (0, 0), (0, 0), (0, 0), (0, 0), (0, 16)], [.inl (8, [(6, 1, 0), (8, 4, 0), (8, 5, 0)]), ac_849], []), [((4, 6, 0), gi_1117, hq_681, [], [1])])
theorem hd_1804 : con_1804.1 = (yX8_at, cX8_at, 3, (some .long)) := rfl
noncomputable def cu_1804 : List CUT2 := []
theorem ch_1804 : staG tb_X8_at 1 bt_RX8 [] ct_1497 [] [] cu_1804 11 con_1804 = true := by decide +kernel
theorem vl_1804 (l : Launch) : Vld2 l vwCl gTbl con_1804 := conR_ok3 gT_all (hd_1804) rfl pn_RX8 tk_X8_at bo_RX8 xo_RX8 (cto_1497 l) ch_1804 cut_nil
/-- RookHusting$Slots at -/
noncomputable def con_1805 : Con2 := ((yX8_at, cX8_at, 3, (some .long)), (0, 0), ([(6, 0, 0), (0, 3, 0), (0, 41, 0)], [(0, 0), (0, 0), (0, 0), (0, 0), (0, 0), (0, 0), (0, 250)], [.inl (8, [(6, 1, 0), (8, 4, 0), (8, 5, 0)]), ac_850], []), [((4, 6, 0), gi_1118, hq_682, [], [1])])
theorem hd_1805 : con_1805.1 = (yX8_at, cX8_at, 3, (some .long)) := rfl
noncomputable def cu_1805 : List CUT2 := []
theorem ch_1805 : staG tb_X8_at 1 bt_RX8 [] ct_1497 [] [] cu_1805 11 con_1805 = true := by decide +kernel
theorem vl_1805 (l : Launch) : Vld2 l vwCl gTbl con_1805 := conR_ok3 gT_all (hd_1805) rfl pn_RX8 tk_X8_at bo_RX8 xo_RX8 (cto_1497 l) ch_1805 cut_nil
/-- RookHusting$Slots at -/
noncomputable def con_1806 : Con2 := ((yX8_at, cX8_at, 3, (some .long)), (0, 0), ([(6, 0, 0), (0, 3, 0), (0, 42, 0)], [(0, 0), (0, 0), (0, 0), (0, 0), (0, 0), (0, 0), (0, 4)], [.inl (8, [(6, 1, 0), (8, 4, 0), (8, 5, 0)]), ac_851], []), [((4, 6, 0), gi_1116, hq_683, [], [1])])
theorem hd_1806 : con_1806.1 = (yX8_at, cX8_at, 3, (some .long)) := rfl
noncomputable def cu_1806 : List CUT2 := []
theorem ch_1806 : staG tb_X8_at 1 bt_RX8 [] ct_1497 [] [] cu_1806 11 con_1806 = true := by decide +kernel
theorem vl_1806 (l : Launch) : Vld2 l vwCl gTbl con_1806 := conR_ok3 gT_all (hd_1806) rfl pn_RX8 tk_X8_at bo_RX8 xo_RX8 (cto_1497 l) ch_1806 cut_nil
/-- RookHusting$Slots at -/
noncomputable def con_1807 : Con2 := ((yX8_at, cX8_at, 3, (some .long)), (0, 0), ([(6, 0, 0), (0, 3, 0), (0, 43, 0)], [(0, 0), (0, 0), (0, 0), (0, 0), (0, 0), (0, 0), (0, 16)], [.inl (8, [(6, 1, 0), (8, 4, 0), (8, 5, 0)]), ac_852], []), [((4, 6, 0), gi_1117, hq_684, [], [1])])
theorem hd_1807 : con_1807.1 = (yX8_at, cX8_at, 3, (some .long)) := rfl
noncomputable def cu_1807 : List CUT2 := []
theorem ch_1807 : staG tb_X8_at 1 bt_RX8 [] ct_1497 [] [] cu_1807 11 con_1807 = true := by decide +kernel
theorem vl_1807 (l : Launch) : Vld2 l vwCl gTbl con_1807 := conR_ok3 gT_all (hd_1807) rfl pn_RX8 tk_X8_at bo_RX8 xo_RX8 (cto_1497 l) ch_1807 cut_nil
/-- RookHusting$Slots at -/
noncomputable def con_1808 : Con2 := ((yX8_at, cX8_at, 3, (some .long)), (0, 0), ([(6, 0, 0), (0, 3, 0), (0, 44, 0)], [(0, 0), (0, 0), (0, 0), (0, 0), (0, 0), (0, 0), (0, 250)], [.inl (8, [(6, 1, 0), (8, 4, 0), (8, 5, 0)]), ac_853], []), [((4, 6, 0), gi_1118, hq_685, [], [1])])
theorem hd_1808 : con_1808.1 = (yX8_at, cX8_at, 3, (some .long)) := rfl
noncomputable def cu_1808 : List CUT2 := []
theorem ch_1808 : staG tb_X8_at 1 bt_RX8 [] ct_1497 [] [] cu_1808 11 con_1808 = true := by decide +kernel
theorem vl_1808 (l : Launch) : Vld2 l vwCl gTbl con_1808 := conR_ok3 gT_all (hd_1808) rfl pn_RX8 tk_X8_at bo_RX8 xo_RX8 (cto_1497 l) ch_1808 cut_nil
/-- RookHusting$Slots at -/
noncomputable def con_1809 : Con2 := ((yX8_at, cX8_at, 3, (some .long)), (0, 0), ([(6, 0, 0), (0, 3, 0), (0, 45, 0)], [(0, 0), (0, 0), (0, 0), (0, 0), (0, 0), (0, 0), (0, 4)], [.inl (8, [(6, 1, 0), (8, 4, 0), (8, 5, 0)]), ac_854], []), [((4, 6, 0), gi_1116, hq_686, [], [1])])
theorem hd_1809 : con_1809.1 = (yX8_at, cX8_at, 3, (some .long)) := rfl
noncomputable def cu_1809 : List CUT2 := []
theorem ch_1809 : staG tb_X8_at 1 bt_RX8 [] ct_1497 [] [] cu_1809 11 con_1809 = true := by decide +kernel
theorem vl_1809 (l : Launch) : Vld2 l vwCl gTbl con_1809 := conR_ok3 gT_all (hd_1809) rfl pn_RX8 tk_X8_at bo_RX8 xo_RX8 (cto_1497 l) ch_1809 cut_nil
/-- RookHusting$Slots at -/
noncomputable def con_1810 : Con2 := ((yX8_at, cX8_at, 3, (some .long)), (0, 0), ([(6, 0, 0), (0, 3, 0), (0, 46, 0)], [(0, 0), (0, 0), (0, 0), (0, 0), (0, 0), (0, 0), (0, 16)], [.inl (8, [(6, 1, 0), (8, 4, 0), (8, 5, 0)]), ac_855], []), [((4, 6, 0), gi_1117, hq_687, [], [1])])
theorem hd_1810 : con_1810.1 = (yX8_at, cX8_at, 3, (some .long)) := rfl
noncomputable def cu_1810 : List CUT2 := []
theorem ch_1810 : staG tb_X8_at 1 bt_RX8 [] ct_1497 [] [] cu_1810 11 con_1810 = true := by decide +kernel
theorem vl_1810 (l : Launch) : Vld2 l vwCl gTbl con_1810 := conR_ok3 gT_all (hd_1810) rfl pn_RX8 tk_X8_at bo_RX8 xo_RX8 (cto_1497 l) ch_1810 cut_nil
/-- RookHusting$Slots at -/
noncomputable def con_1811 : Con2 := ((yX8_at, cX8_at, 3, (some .long)), (0, 0), ([(6, 0, 0), (0, 3, 0), (0, 47, 0)], [(0, 0), (0, 0), (0, 0), (0, 0), (0, 0), (0, 0), (0, 250)], [.inl (8, [(6, 1, 0), (8, 4, 0), (8, 5, 0)]), ac_856], []), [((4, 6, 0), gi_1118, hq_688, [], [1])])
theorem hd_1811 : con_1811.1 = (yX8_at, cX8_at, 3, (some .long)) := rfl
noncomputable def cu_1811 : List CUT2 := []
theorem ch_1811 : staG tb_X8_at 1 bt_RX8 [] ct_1497 [] [] cu_1811 11 con_1811 = true := by decide +kernel
theorem vl_1811 (l : Launch) : Vld2 l vwCl gTbl con_1811 := conR_ok3 gT_all (hd_1811) rfl pn_RX8 tk_X8_at bo_RX8 xo_RX8 (cto_1497 l) ch_1811 cut_nil
/-- RookHusting$Slots at -/
noncomputable def con_1812 : Con2 := ((yX8_at, cX8_at, 3, (some .long)), (0, 0), ([(6, 0, 0), (0, 3, 0), (0, 48, 0)], [(0, 0), (0, 0), (0, 0), (0, 0), (0, 0), (0, 0), (0, 4)], [.inl (8, [(6, 1, 0), (8, 4, 0), (8, 5, 0)]), ac_857], []), [((4, 6, 0), gi_1116, hq_689, [], [1])])
theorem hd_1812 : con_1812.1 = (yX8_at, cX8_at, 3, (some .long)) := rfl
noncomputable def cu_1812 : List CUT2 := []
theorem ch_1812 : staG tb_X8_at 1 bt_RX8 [] ct_1497 [] [] cu_1812 11 con_1812 = true := by decide +kernel
theorem vl_1812 (l : Launch) : Vld2 l vwCl gTbl con_1812 := conR_ok3 gT_all (hd_1812) rfl pn_RX8 tk_X8_at bo_RX8 xo_RX8 (cto_1497 l) ch_1812 cut_nil
/-- RookHusting$Slots at -/
noncomputable def con_1813 : Con2 := ((yX8_at, cX8_at, 3, (some .long)), (0, 0), ([(6, 0, 0), (0, 3, 0), (0, 49, 0)], [(0, 0), (0, 0), (0, 0), (0, 0), (0, 0), (0, 0), (0, 16)], [.inl (8, [(6, 1, 0), (8, 4, 0), (8, 5, 0)]), ac_858], []), [((4, 6, 0), gi_1117, hq_690, [], [1])])
theorem hd_1813 : con_1813.1 = (yX8_at, cX8_at, 3, (some .long)) := rfl
noncomputable def cu_1813 : List CUT2 := []
theorem ch_1813 : staG tb_X8_at 1 bt_RX8 [] ct_1497 [] [] cu_1813 11 con_1813 = true := by decide +kernel
theorem vl_1813 (l : Launch) : Vld2 l vwCl gTbl con_1813 := conR_ok3 gT_all (hd_1813) rfl pn_RX8 tk_X8_at bo_RX8 xo_RX8 (cto_1497 l) ch_1813 cut_nil
