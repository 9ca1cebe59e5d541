/-! ===== contracts, 26 ===== -/
/-- RookHustingModel bold -/
noncomputable def con_1200 : Con2 := ((yX12_bold, cX12_bold, 4, (some .int)), (10, 229), ([(6, 0, 0), (1, 1, 0)], gi_508, hc_148, []), [((1, 70, 0), gi_772, hq_567, [], [1, 1, 1, 1, 1, 1, 1, 1, 1, 1, 1, 1, 1, 1, 1, 1, 1, 1, 1, 1, 1, 1, 1, 1, 1, 1, 1, 1, 1, 1, 1, 1, 1, 1, 1, 1, 1, 1, 1, 1, 1, 1, 1, 1, 1, 1])])
theorem hd_1200 : con_1200.1 = (yX12_bold, cX12_bold, 4, (some .int)) := rfl
noncomputable def ct_1200 : CTB2 := [(2, 384, 0, con_1142, [0, 1, 2, 3, 4, 5, 6, 7, 8, 9, 10, 11, 12]), (17, 103, 0, con_1100, [0, 1])]
noncomputable def gi_833 : GI := jl_n [jl_z 1, jl_i 0 4, jl_z 17, jl_i 0 128, jl_z 3, jl_r 2 (jl_t), jl_r 2 (jl_m 0 4), jl_z 20, jl_i 0 16, jl_i 0 3, jl_i 0 10, jl_i 1 5, jl_i 0 8, jl_i 0 5, jl_i 0 7, jl_i 0 30, jl_i 0 2147483647, jl_z 16, jl_t, jl_i 0 16, jl_z 45]
noncomputable def cu_1200 : List CUT2 := [((15, [(0, (6, 0, 0)), (1, (1, 1, 0)), (2, (1, 72, 0)), (3, (1, 73, 0))], [], gi_833, hq_567), [], ([(73, (-1))], 16))]
theorem ch_1200 : staG tb_X12_bold 1 bt_RX12 [] ct_1200 [] [] cu_1200 23 con_1200 = true := by decide +kernel
theorem cc_1200 : cu_1200.all (cutG tb_X12_bold 1 bt_RX12 [] ct_1200 [] [] cu_1200 23 con_1200) = true := by decide +kernel
theorem cto_1200 (l : Launch) : CTOK2 l RX12 vwCl gTbl ct_1200 := ct2_cons (vl_1142 l) ck_RX12_384_1142 (ct2_cons (vl_1100 l) ck_RX12_103_1100 (ct2_nil))
theorem vl_1200 (l : Launch) : Vld2 l vwCl gTbl con_1200 := conR_ok3 gT_all (hd_1200) rfl pn_RX12 tk_X12_bold bo_RX12 xo_RX12 (cto_1200 l) ch_1200 (cut_all cc_1200)
/-- RookHusting$Harvest mostRooks -/
noncomputable def ac_691 : AC := .inl (3, jl_n [jl_8 3 1, jl_6 2 1, jl_8 10 6, jl_1 11 1])
noncomputable def gi_834 : GI := jl_n [jl_z 1, jl_i 0 4, jl_z 8, jl_i 0 16, jl_i 0 2147483647]
noncomputable def hq_603 : HP := [(false, ac_691), (false, .inr (1, [(85, (2, (-2147483648), 2147483647))]))]
noncomputable def con_1201 : Con2 := ((yX3_mostRooks, cX3_mostRooks, 4, (some .int)), (1, 13), ([(6, 0, 0), (1, 1, 0)], gi_788, [ac_691, .inr (1, [(85, (2, (-2147483648), 2147483647))])], []), [((1, 11, 0), gi_834, hq_603, [], [1])])
theorem hd_1201 : con_1201.1 = (yX3_mostRooks, cX3_mostRooks, 4, (some .int)) := rfl
noncomputable def ct_1201 : CTB2 := []
noncomputable def gi_835 : GI := jl_n [jl_z 1, jl_i 0 4, jl_z 8, jl_i 0 16, jl_z 2, jl_i 0 2147483647, jl_i 0 17]
noncomputable def cu_1201 : List CUT2 := [((4, [(0, (6, 0, 0)), (1, (1, 1, 0)), (2, (1, 13, 0)), (3, (1, 14, 0))], [], gi_835, hq_603), [], ([(14, (-1))], 17))]
theorem ch_1201 : staG tb_X3_mostRooks 1 bt_RX3 [] ct_1201 [] [] cu_1201 20 con_1201 = true := by decide +kernel
theorem cc_1201 : cu_1201.all (cutG tb_X3_mostRooks 1 bt_RX3 [] ct_1201 [] [] cu_1201 20 con_1201) = true := by decide +kernel
theorem cto_1201 (l : Launch) : CTOK2 l RX3 vwCl gTbl ct_1201 := ct2_nil
theorem vl_1201 (l : Launch) : Vld2 l vwCl gTbl con_1201 := conR_ok3 gT_all (hd_1201) rfl pn_RX3 tk_X3_mostRooks bo_RX3 xo_RX3 (cto_1201 l) ch_1201 (cut_all cc_1201)
/-- RookHusting most -/
noncomputable def gi_836 : GI := jl_n [jl_z 1, jl_t, jl_z 13, jl_i 0 1, jl_z 5, jl_i 0 16, jl_i 0 3, jl_z 1, jl_i 0 5, jl_z 1, jl_i 0 5, jl_i 0 7, jl_z 12, jl_t, jl_z 2, jl_i 0 30, jl_z 3, jl_r 30 (jl_i 0 1), jl_r 30 (jl_m 0 15), jl_z 7, jl_i 0 5, jl_i 0 16, jl_m 1 2147483647, jl_z 13, jl_i 0 1, jl_z 5, jl_t, jl_z 7, jl_i 0 5, jl_i 0 16]
noncomputable def con_1202 : Con2 := ((yX11_most, cX11_most, 2, (some .int)), (6, 151), ([(6, 0, 0), (1, 1, 0)], gi_494, hc_104, rq_3), [((1, 116, 0), gi_836, hq_498, [], [1, 1, 1, 1, 1, 1, 1, 1, 1, 1, 1, 1, 1, 1, 1, 1, 1, 1, 1, 1, 1, 1, 1, 1, 1, 1, 1, 1, 1, 1])])
theorem hd_1202 : con_1202.1 = (yX11_most, cX11_most, 2, (some .int)) := rfl
theorem ck_RX11_311_1201 : COK2 RX11 vwCl gTbl 311 0 con_1201 := ⟨wd_1132, wd_134, mh_X3_mostRooks, .inr (.inr ⟨rfl, wd_1129, wd_1130, wd_1131, ⟨_, rfl, pd_X3_mostRooks⟩, 3, _, TX3, 9, rfl, rfl⟩)⟩
noncomputable def ct_1202 : CTB2 := [(2, 139, 0, con_643, [0, 1, 2]), (12, 208, 0, con_900, [0, 1, 3, 2, 4, 5, 6, 7, 8, 9, 10, 11, 12, 13, 14, 15, 16, 17, 18, 19, 20, 21, 22, 23, 24, 25, 26]), (20, 311, 0, con_1201, [15, 17])]
noncomputable def cu_1202 : List CUT2 := []
theorem ch_1202 : staG tb_X11_most 1 bt_RX11 [] ct_1202 [] [] cu_1202 13 con_1202 = true := by decide +kernel
theorem cto_1202 (l : Launch) : CTOK2 l RX11 vwCl gTbl ct_1202 := ct2_cons (vl_643 l) ck_RX11_139_643 (ct2_cons (vl_900 l) ck_RX11_208_900 (ct2_cons (vl_1201 l) ck_RX11_311_1201 (ct2_nil)))
theorem vl_1202 (l : Launch) : Vld2 l vwCl gTbl con_1202 := conR_ok3 gT_all (hd_1202) rfl pn_RX11 tk_X11_most bo_RX11 xo_RX11 (cto_1202 l) ch_1202 cut_nil
/-- RookHustingModel most -/
noncomputable def gi_837 : GI := jl_n [jl_z 1, jl_t, jl_z 17, jl_i 0 128, jl_z 3, jl_r 2 (jl_t), jl_r 2 (jl_m 0 4), jl_z 20, jl_i 0 16, jl_i 0 3, jl_i 0 10, jl_i 0 5, jl_i 0 8, jl_i 0 5, jl_i 0 7, jl_i 0 30, jl_i 0 2147483647, jl_z 14, jl_m 1 2147483647, jl_z 45]
noncomputable def con_1203 : Con2 := ((yX12_most, cX12_most, 4, (some .int)), (10, 229), ([(6, 0, 0), (1, 1, 0)], gi_508, hc_148, []), [((1, 70, 0), gi_837, hq_567, [], [1, 1, 1, 1, 1, 1, 1, 1, 1, 1, 1, 1, 1, 1, 1, 1, 1, 1, 1, 1, 1, 1, 1, 1, 1, 1, 1, 1, 1, 1, 1, 1, 1, 1, 1, 1, 1, 1, 1, 1, 1, 1, 1, 1, 1, 1])])
theorem hd_1203 : con_1203.1 = (yX12_most, cX12_most, 4, (some .int)) := rfl
noncomputable def ct_1203 : CTB2 := [(2, 384, 0, con_1142, [0, 1, 2, 3, 4, 5, 6, 7, 8, 9, 10, 11, 12]), (17, 103, 0, con_1100, [0, 1])]
noncomputable def gi_838 : GI := jl_n [jl_z 1, jl_i 0 4, jl_z 17, jl_i 0 128, jl_z 3, jl_r 2 (jl_t), jl_r 2 (jl_m 0 4), jl_z 20, jl_i 0 16, jl_i 0 3, jl_i 0 10, jl_i 1 5, jl_i 0 8, jl_i 0 5, jl_i 0 7, jl_i 0 30, jl_i 0 2147483647, jl_z 16, jl_i 0 2147483647, jl_i 0 17, jl_z 45]
noncomputable def cu_1203 : List CUT2 := [((15, [(0, (6, 0, 0)), (1, (1, 1, 0)), (2, (1, 72, 0)), (3, (1, 73, 0))], [], gi_838, hq_567), [], ([(73, (-1))], 17))]
theorem ch_1203 : staG tb_X12_most 1 bt_RX12 [] ct_1203 [] [] cu_1203 20 con_1203 = true := by decide +kernel
theorem cc_1203 : cu_1203.all (cutG tb_X12_most 1 bt_RX12 [] ct_1203 [] [] cu_1203 20 con_1203) = true := by decide +kernel
theorem cto_1203 (l : Launch) : CTOK2 l RX12 vwCl gTbl ct_1203 := ct2_cons (vl_1142 l) ck_RX12_384_1142 (ct2_cons (vl_1100 l) ck_RX12_103_1100 (ct2_nil))
theorem vl_1203 (l : Launch) : Vld2 l vwCl gTbl con_1203 := conR_ok3 gT_all (hd_1203) rfl pn_RX12 tk_X12_most bo_RX12 xo_RX12 (cto_1203 l) ch_1203 (cut_all cc_1203)
/-- RookHusting$Harvest sumOf -/
noncomputable def ac_692 : AC := .inl (3, jl_n [jl_8 7 4, jl_6 2 1, jl_8 10 2, jl_1 11 1, jl_8 12 1])
noncomputable def hq_604 : HP := [(false, ac_692), (false, .inr (1, [(85, (2, (-2147483648), 2147483647))]))]
noncomputable def con_1204 : Con2 := ((yX3_sumOf, cX3_sumOf, 5, (some .int)), (0, 0), ([(6, 0, 0), (6, 1, 0), (1, 2, 0)], gi_799, [ac_692, .inr (1, [(85, (2, (-2147483648), 2147483647))])], []), [((1, 12, 0), gi_800, hq_604, [], [1])])
theorem hd_1204 : con_1204.1 = (yX3_sumOf, cX3_sumOf, 5, (some .int)) := rfl
noncomputable def ct_1204 : CTB2 := []
noncomputable def cu_1204 : List CUT2 := [((5, [(0, (6, 0, 0)), (1, (6, 1, 0)), (2, (1, 2, 0)), (3, (1, 15, 0)), (4, (1, 16, 0))], [], gi_801, hq_604), [], ([(16, (-1))], 5))]
theorem ch_1204 : staG tb_X3_sumOf 1 bt_RX3 [] ct_1204 [] [] cu_1204 19 con_1204 = true := by decide +kernel
theorem cc_1204 : cu_1204.all (cutG tb_X3_sumOf 1 bt_RX3 [] ct_1204 [] [] cu_1204 19 con_1204) = true := by decide +kernel
theorem cto_1204 (l : Launch) : CTOK2 l RX3 vwCl gTbl ct_1204 := ct2_nil
theorem vl_1204 (l : Launch) : Vld2 l vwCl gTbl con_1204 := conR_ok3 gT_all (hd_1204) rfl pn_RX3 tk_X3_sumOf bo_RX3 xo_RX3 (cto_1204 l) ch_1204 (cut_all cc_1204)
/-- RookHusting sumNow -/
noncomputable def gi_839 : GI := jl_n [jl_z 2, jl_i 0 15, jl_z 13, jl_i 0 1, jl_z 7, jl_t, jl_z 1, jl_i 0 16, jl_i 0 3, jl_z 1, jl_i 0 5, jl_z 1, jl_i 0 5, jl_i 0 7, jl_z 11, jl_i 0 30, jl_z 3, jl_r 30 (jl_i 0 1), jl_r 30 (jl_m 0 15), jl_z 7, jl_i 0 5, jl_i 0 16]
noncomputable def ac_693 : AC := .inl (4, jl_n [jl_8 26 1, jl_1 28 2, jl_8 29 1, jl_1 30 1, jl_8 31 1, jl_1 33 2, jl_6 20 1, jl_6 18 1, jl_6 9 1, jl_6 25 2, jl_6 12 1, jl_8 41 2, jl_6 11 1])
noncomputable def ac_694 : AC := .inl (3, jl_n [jl_6 23 1, jl_6 19 1, jl_6 21 1, jl_6 26 1, jl_6 2 1, jl_6 27 1, jl_6 22 1, jl_1 117 2])
noncomputable def hc_173 : List AC := [ac_640, .inr (1, [(85, (2, (-2147483648), 2147483647))]), .inl (9, [(6, 4, 0), (6, 12, 0)]), .inl (7, [(6, 5, 0), (6, 6, 0), (6, 7, 0), (1, 24, 0)]), ac_693, .inr (1, [(5, (2, (-1), 4))]), .inr (1, [(5, (2, (-2147483648), 2147483647))]), .inr (1, [(5, (2, (-2147483648), 2147483647))]), .inr (1, [(5, (2, (-2147483648), 2147483647))]), .inl (1, [(6, 4, 0), (8, 43, 0)]), .inr (1, [(35, (2, (-2147483648), 2147483647))]), .inr (1, [(7, (2, 0, 9))]), .inl (0, [(1, 44, 0), (6, 13, 0), (6, 14, 0), (6, 15, 0)]), ac_642, .inr (1, [(30, (2, 0, 4))]), ac_643, ac_694, .inr (1, [(5, (2, 0, 40))]), .inr (1, [(85, (2, (-2147483648), 2147483647))]), .inr (1, [(5, (2, 0, 300))]), .inr (1, [(85, (2, (-2147483648), 2147483647))]), .inr (1, [(5, (2, (-2147483648), 2147483647))]), .inr (1, [(85, (2, (-2147483648), 2147483647))]), .inr (1, [(5, (2, 0, 40))]), .inr (1, [(5, (2, 0, 9))]), .inr (1, [(85, (2, (-2147483648), 2147483647))]), .inr (1, [(85, (2, (-1), 4))])]
noncomputable def gi_840 : GI := jl_n [jl_z 2, jl_i 0 15, jl_z 13, jl_i 0 1, jl_z 7, jl_t, jl_z 1, jl_i 0 16, jl_i 0 3, jl_z 1, jl_i 0 5, jl_z 1, jl_i 0 5, jl_i 0 7, jl_z 11, jl_i 0 30, jl_z 3, jl_r 30 (jl_i 0 1), jl_r 30 (jl_m 0 15), jl_z 7, jl_i 0 5, jl_i 0 16, jl_t, jl_z 19, jl_t, jl_z 7, jl_i 0 5, jl_i 0 16]
noncomputable def ac_695 : AC := .inl (3, jl_n [jl_6 23 1, jl_6 19 1, jl_6 21 1, jl_6 26 1, jl_6 2 1, jl_6 27 1, jl_6 22 1, jl_1 147 2])
noncomputable def hq_605 : HP := [(true, ac_645), (true, .inr (1, [(85, (2, (-2147483648), 2147483647))])), (false, .inl (9, [(6, 4, 0), (6, 12, 0)])), (true, .inl (7, [(6, 5, 0), (6, 6, 0), (6, 7, 0), (1, 137, 0)])), (false, ac_693), (true, .inr (1, [(5, (2, (-1), 4))])), (true, .inr (1, [(5, (2, (-2147483648), 2147483647))])), (true, .inr (1, [(5, (2, (-2147483648), 2147483647))])), (false, .inr (1, [(5, (2, (-2147483648), 2147483647))])), (false, .inl (1, [(6, 4, 0), (8, 43, 0)])), (false, .inr (1, [(35, (2, (-2147483648), 2147483647))])), (false, .inr (1, [(7, (2, 0, 9))])), (false, .inl (0, [(1, 44, 0), (6, 13, 0), (6, 14, 0), (6, 15, 0)])), (false, ac_642), (false, .inr (1, [(30, (2, 0, 4))])), (false, ac_643), (true, ac_695), (false, .inr (1, [(5, (2, 0, 40))])), (true, .inr (1, [(85, (2, (-2147483648), 2147483647))])), (false, .inr (1, [(5, (2, 0, 300))])), (true, .inr (1, [(85, (2, (-2147483648), 2147483647))])), (true, .inr (1, [(5, (2, (-2147483648), 2147483647))])), (true, .inr (1, [(85, (2, (-2147483648), 2147483647))])), (false, .inr (1, [(5, (2, 0, 40))])), (false, .inr (1, [(5, (2, 0, 9))])), (true, .inr (1, [(85, (2, (-2147483648), 2147483647))])), (true, .inr (1, [(85, (2, (-1), 4))]))]
noncomputable def con_1205 : Con2 := ((yX11_sumNow, cX11_sumNow, 3, (some .int)), (6, 151), ([(6, 0, 0), (6, 1, 0), (1, 2, 0)], gi_839, hc_173, rq_6), [((1, 117, 0), gi_840, hq_605, [], [1, 1, 1, 1, 1, 1, 1, 1, 1, 1, 1, 1, 1, 1, 1, 1, 1, 1, 1, 1, 1, 1, 1, 1, 1, 1, 1, 1, 1, 1])])
theorem hd_1205 : con_1205.1 = (yX11_sumNow, cX11_sumNow, 3, (some .int)) := rfl
theorem ck_RX11_300_1204 : COK2 RX11 vwCl gTbl 300 0 con_1204 := ⟨wd_1055, wd_134, mh_X3_sumOf, .inr (.inr ⟨rfl, wd_1052, wd_1053, wd_1054, ⟨_, rfl, pd_X3_sumOf⟩, 3, _, TX3, 9, rfl, rfl⟩)⟩
noncomputable def ct_1205 : CTB2 := [(1, 208, 0, con_900, [0, 2, 3, 4, 5, 6, 7, 8, 9, 10, 11, 12, 13, 14, 15, 16, 17, 18, 19, 20, 21, 22, 23, 24, 25, 1, 26]), (10, 300, 0, con_1204, [16, 1])]
noncomputable def cu_1205 : List CUT2 := []
theorem ch_1205 : staG tb_X11_sumNow 1 bt_RX11 [] ct_1205 [] [] cu_1205 10 con_1205 = true := by decide +kernel
theorem cto_1205 (l : Launch) : CTOK2 l RX11 vwCl gTbl ct_1205 := ct2_cons (vl_900 l) ck_RX11_208_900 (ct2_cons (vl_1204 l) ck_RX11_300_1204 (ct2_nil))
theorem vl_1205 (l : Launch) : Vld2 l vwCl gTbl con_1205 := conR_ok3 gT_all (hd_1205) rfl pn_RX11 tk_X11_sumNow bo_RX11 xo_RX11 (cto_1205 l) ch_1205 cut_nil
/-- RookHusting flown -/
noncomputable def ac_696 : AC := .inl (4, jl_n [jl_8 21 1, jl_1 23 2, jl_8 24 1, jl_1 25 1, jl_8 26 1, jl_1 28 2, jl_6 20 1, jl_6 18 1, jl_6 10 1, jl_6 25 2, jl_6 13 1, jl_8 36 2, jl_6 12 1])
noncomputable def ac_697 : AC := .inl (3, jl_n [jl_6 23 1, jl_6 19 1, jl_6 21 1, jl_6 26 1, jl_6 5 1, jl_6 27 1, jl_6 22 1, jl_1 46 2])
noncomputable def hc_174 : List AC := [ac_647, .inl (9, [(6, 2, 0), (6, 13, 0)]), ac_696, ac_697, .inr (1, [(85, (2, (-2147483648), 2147483647))]), .inl (7, [(6, 6, 0), (6, 7, 0), (6, 8, 0), (1, 49, 0)]), .inr (1, [(5, (2, (-1), 4))]), .inr (1, [(5, (2, (-2147483648), 2147483647))]), .inr (1, [(5, (2, (-2147483648), 2147483647))]), .inr (1, [(5, (2, (-2147483648), 2147483647))]), .inl (1, [(6, 2, 0), (8, 51, 0)]), .inr (1, [(35, (2, (-2147483648), 2147483647))]), .inr (1, [(7, (2, 0, 9))]), .inl (0, [(1, 52, 0), (6, 14, 0), (6, 15, 0), (6, 16, 0)]), ac_650, .inr (1, [(30, (2, 0, 4))]), ac_651, .inr (1, [(5, (2, 0, 40))]), .inr (1, [(85, (2, (-2147483648), 2147483647))]), .inr (1, [(5, (2, 0, 300))]), .inr (1, [(85, (2, (-2147483648), 2147483647))]), .inr (1, [(5, (2, (-2147483648), 2147483647))]), .inr (1, [(85, (2, (-2147483648), 2147483647))]), .inr (1, [(5, (2, 0, 40))]), .inr (1, [(5, (2, 0, 9))]), .inr (1, [(85, (2, (-2147483648), 2147483647))]), .inr (1, [(85, (2, (-1), 4))])]
noncomputable def ac_698 : AC := .inl (3, jl_n [jl_6 23 1, jl_6 19 1, jl_6 21 1, jl_6 26 1, jl_6 5 1, jl_6 27 1, jl_6 22 1, jl_1 142 2])
noncomputable def hq_606 : HP := [(true, ac_652), (false, .inl (9, [(6, 2, 0), (6, 13, 0)])), (false, ac_696), (true, ac_698), (true, .inr (1, [(85, (2, (-2147483648), 2147483647))])), (true, .inl (7, [(6, 6, 0), (6, 7, 0), (6, 8, 0), (1, 145, 0)])), (true, .inr (1, [(5, (2, (-1), 4))])), (true, .inr (1, [(5, (2, (-2147483648), 2147483647))])), (true, .inr (1, [(5, (2, (-2147483648), 2147483647))])), (false, .inr (1, [(5, (2, (-2147483648), 2147483647))])), (false, .inl (1, [(6, 2, 0), (8, 51, 0)])), (false, .inr (1, [(35, (2, (-2147483648), 2147483647))])), (false, .inr (1, [(7, (2, 0, 9))])), (false, .inl (0, [(1, 52, 0), (6, 14, 0), (6, 15, 0), (6, 16, 0)])), (false, ac_650), (false, .inr (1, [(30, (2, 0, 4))])), (false, ac_651), (false, .inr (1, [(5, (2, 0, 40))])), (true, .inr (1, [(85, (2, (-2147483648), 2147483647))])), (false, .inr (1, [(5, (2, 0, 300))])), (true, .inr (1, [(85, (2, (-2147483648), 2147483647))])), (true, .inr (1, [(5, (2, (-2147483648), 2147483647))])), (true, .inr (1, [(85, (2, (-2147483648), 2147483647))])), (false, .inr (1, [(5, (2, 0, 40))])), (false, .inr (1, [(5, (2, 0, 9))])), (true, .inr (1, [(85, (2, (-2147483648), 2147483647))])), (true, .inr (1, [(85, (2, (-1), 4))]))]
noncomputable def con_1206 : Con2 := ((yX11_flown, cX11_flown, 2, (some .int)), (7, 173), ([(6, 0, 0), (1, 1, 0)], gi_783, hc_174, rq_7), [((1, 116, 0), gi_825, hq_606, [], [1, 1, 1, 1, 1, 1, 1, 1, 1, 1, 1, 1, 1, 1, 1, 1, 1, 1, 1, 1, 1, 1, 1, 1, 1, 1, 1, 1, 1, 1])])
theorem hd_1206 : con_1206.1 = (yX11_flown, cX11_flown, 2, (some .int)) := rfl
theorem ck_RX11_281_1205 : COK2 RX11 vwCl gTbl 281 0 con_1205 := ⟨wd_1051, wd_125, mh_X11_sumNow, .inr (.inr ⟨rfl, wd_1048, wd_1050, wd_34, ⟨_, rfl, pd_X11_sumNow⟩, 11, _, TX11, 16, rfl, rfl⟩)⟩
noncomputable def ct_1206 : CTB2 := [(2, 272, 0, con_1120, [0, 1, 2]), (17, 281, 0, con_1205, [0, 4, 1, 5, 2, 6, 7, 8, 9, 10, 11, 12, 13, 14, 15, 16, 3, 17, 18, 19, 20, 21, 22, 23, 24, 25, 26])]
noncomputable def cu_1206 : List CUT2 := []
theorem ch_1206 : staG tb_X11_flown 1 bt_RX11 [] ct_1206 [] [] cu_1206 14 con_1206 = true := by decide +kernel
theorem cto_1206 (l : Launch) : CTOK2 l RX11 vwCl gTbl ct_1206 := ct2_cons (vl_1120 l) ck_RX11_272_1120 (ct2_cons (vl_1205 l) ck_RX11_281_1205 (ct2_nil))
theorem vl_1206 (l : Launch) : Vld2 l vwCl gTbl con_1206 := conR_ok3 gT_all (hd_1206) rfl pn_RX11 tk_X11_flown bo_RX11 xo_RX11 (cto_1206 l) ch_1206 cut_nil
/-- RookHustingModel flown -/
noncomputable def con_1207 : Con2 := ((yX12_flown, cX12_flown, 2, (some .int)), (10, 229), ([(6, 0, 0), (1, 1, 0)], gi_508, hc_148, []), [((1, 70, 0), gi_772, hq_567, [], [1, 1, 1, 1, 1, 1, 1, 1, 1, 1, 1, 1, 1, 1, 1, 1, 1, 1, 1, 1, 1, 1, 1, 1, 1, 1, 1, 1, 1, 1, 1, 1, 1, 1, 1, 1, 1, 1, 1, 1, 1, 1, 1, 1, 1, 1])])
theorem hd_1207 : con_1207.1 = (yX12_flown, cX12_flown, 2, (some .int)) := rfl
noncomputable def ct_1207 : CTB2 := [(2, 381, 0, con_1125, [0, 1, 2, 3, 4, 5, 6, 7, 8, 9, 10, 11, 12])]
noncomputable def cu_1207 : List CUT2 := []
theorem ch_1207 : staG tb_X12_flown 1 bt_RX12 [] ct_1207 [] [] cu_1207 12 con_1207 = true := by decide +kernel
theorem cto_1207 (l : Launch) : CTOK2 l RX12 vwCl gTbl ct_1207 := ct2_cons (vl_1125 l) ck_RX12_381_1125 (ct2_nil)
theorem vl_1207 (l : Launch) : Vld2 l vwCl gTbl con_1207 := conR_ok3 gT_all (hd_1207) rfl pn_RX12 tk_X12_flown bo_RX12 xo_RX12 (cto_1207 l) ch_1207 cut_nil
/-- RookHusting$Harvest fieldOfMost -/
noncomputable def con_1208 : Con2 := ((yX3_fieldOfMost, cX3_fieldOfMost, 5, (some .int)), (0, 0), ([(6, 0, 0), (6, 1, 0), (1, 2, 0)], gi_762, [ac_639, .inr (1, [(85, (2, (-2147483648), 2147483647))])], []), [((1, 12, 0), gi_773, hq_578, [], [1])])
theorem hd_1208 : con_1208.1 = (yX3_fieldOfMost, cX3_fieldOfMost, 5, (some .int)) := rfl
noncomputable def ct_1208 : CTB2 := []
noncomputable def cu_1208 : List CUT2 := [((5, [(0, (6, 0, 0)), (1, (6, 1, 0)), (2, (1, 2, 0)), (3, (1, 15, 0)), (4, (1, 16, 0))], [], gi_774, hq_578), [], ([(16, (-1))], 5))]
theorem ch_1208 : staG tb_X3_fieldOfMost 1 bt_RX3 [] ct_1208 [] [] cu_1208 29 con_1208 = true := by decide +kernel
theorem cc_1208 : cu_1208.all (cutG tb_X3_fieldOfMost 1 bt_RX3 [] ct_1208 [] [] cu_1208 29 con_1208) = true := by decide +kernel
theorem cto_1208 (l : Launch) : CTOK2 l RX3 vwCl gTbl ct_1208 := ct2_nil
theorem vl_1208 (l : Launch) : Vld2 l vwCl gTbl con_1208 := conR_ok3 gT_all (hd_1208) rfl pn_RX3 tk_X3_fieldOfMost bo_RX3 xo_RX3 (cto_1208 l) ch_1208 (cut_all cc_1208)
/-- RookHusting mostNow -/
noncomputable def con_1209 : Con2 := ((yX11_mostNow, cX11_mostNow, 3, (some .int)), (6, 151), ([(6, 0, 0), (6, 1, 0), (1, 2, 0)], gi_765, hc_158, rq_6), [((1, 117, 0), gi_775, hq_579, [], [1, 1, 1, 1, 1, 1, 1, 1, 1, 1, 1, 1, 1, 1, 1, 1, 1, 1, 1, 1, 1, 1, 1, 1, 1, 1, 1, 1, 1, 1])])
theorem hd_1209 : con_1209.1 = (yX11_mostNow, cX11_mostNow, 3, (some .int)) := rfl
theorem ck_RX11_464_1208 : COK2 RX11 vwCl gTbl 464 0 con_1208 := ⟨wd_1067, wd_134, mh_X3_fieldOfMost, .inr (.inr ⟨rfl, wd_1064, wd_1065, wd_1066, ⟨_, rfl, pd_X3_fieldOfMost⟩, 3, _, TX3, 9, rfl, rfl⟩)⟩
noncomputable def ct_1209 : CTB2 := [(1, 208, 0, con_900, [0, 2, 3, 4, 5, 6, 7, 8, 9, 10, 11, 12, 13, 14, 15, 16, 17, 18, 19, 1, 20, 21, 22, 23, 24, 25, 26]), (10, 464, 0, con_1208, [16, 1])]
noncomputable def cu_1209 : List CUT2 := []
theorem ch_1209 : staG tb_X11_mostNow 1 bt_RX11 [] ct_1209 [] [] cu_1209 10 con_1209 = true := by decide +kernel
theorem cto_1209 (l : Launch) : CTOK2 l RX11 vwCl gTbl ct_1209 := ct2_cons (vl_900 l) ck_RX11_208_900 (ct2_cons (vl_1208 l) ck_RX11_464_1208 (ct2_nil))
theorem vl_1209 (l : Launch) : Vld2 l vwCl gTbl con_1209 := conR_ok3 gT_all (hd_1209) rfl pn_RX11 tk_X11_mostNow bo_RX11 xo_RX11 (cto_1209 l) ch_1209 cut_nil
/-- RookHusting richest -/
noncomputable def con_1210 : Con2 := ((yX11_richest, cX11_richest, 2, (some .int)), (7, 173), ([(6, 0, 0), (1, 1, 0)], gi_767, hc_159, rq_7), [((1, 116, 0), gi_776, hq_580, [], [1, 1, 1, 1, 1, 1, 1, 1, 1, 1, 1, 1, 1, 1, 1, 1, 1, 1, 1, 1, 1, 1, 1, 1, 1, 1, 1, 1, 1, 1])])
theorem hd_1210 : con_1210.1 = (yX11_richest, cX11_richest, 2, (some .int)) := rfl
theorem ck_RX11_285_1209 : COK2 RX11 vwCl gTbl 285 0 con_1209 := ⟨wd_1063, wd_125, mh_X11_mostNow, .inr (.inr ⟨rfl, wd_1060, wd_1062, wd_35, ⟨_, rfl, pd_X11_mostNow⟩, 11, _, TX11, 16, rfl, rfl⟩)⟩
noncomputable def ct_1210 : CTB2 := [(2, 260, 0, con_1097, [0, 1, 2]), (17, 285, 0, con_1209, [0, 4, 1, 5, 2, 6, 7, 8, 9, 10, 11, 12, 13, 14, 15, 16, 3, 17, 18, 19, 20, 21, 22, 23, 24, 25, 26])]
noncomputable def cu_1210 : List CUT2 := []
theorem ch_1210 : staG tb_X11_richest 1 bt_RX11 [] ct_1210 [] [] cu_1210 14 con_1210 = true := by decide +kernel
theorem cto_1210 (l : Launch) : CTOK2 l RX11 vwCl gTbl ct_1210 := ct2_cons (vl_1097 l) ck_RX11_260_1097 (ct2_cons (vl_1209 l) ck_RX11_285_1209 (ct2_nil))
theorem vl_1210 (l : Launch) : Vld2 l vwCl gTbl con_1210 := conR_ok3 gT_all (hd_1210) rfl pn_RX11 tk_X11_richest bo_RX11 xo_RX11 (cto_1210 l) ch_1210 cut_nil
/-- RookHustingModel richest -/
noncomputable def con_1211 : Con2 := ((yX12_richest, cX12_richest, 4, (some .int)), (10, 229), ([(6, 0, 0), (1, 1, 0)], gi_508, hc_148, []), [((1, 70, 0), gi_509, hq_567, [], [1, 1, 1, 1, 1, 1, 1, 1, 1, 1, 1, 1, 1, 1, 1, 1, 1, 1, 1, 1, 1, 1, 1, 1, 1, 1, 1, 1, 1, 1, 1, 1, 1, 1, 1, 1, 1, 1, 1, 1, 1, 1, 1, 1, 1, 1])])
theorem hd_1211 : con_1211.1 = (yX12_richest, cX12_richest, 4, (some .int)) := rfl
noncomputable def ct_1211 : CTB2 := [(2, 378, 0, con_1112, [0, 1, 2, 3, 4, 5, 6, 7, 8, 9, 10, 11, 12]), (17, 106, 0, con_646, [0, 1])]
noncomputable def cu_1211 : List CUT2 := [((15, [(0, (6, 0, 0)), (1, (1, 1, 0)), (2, (1, 72, 0)), (3, (1, 73, 0))], [], gi_777, hq_567), [], ([(73, (-1))], 5))]
theorem ch_1211 : staG tb_X12_richest 1 bt_RX12 [] ct_1211 [] [] cu_1211 31 con_1211 = true := by decide +kernel
theorem cc_1211 : cu_1211.all (cutG tb_X12_richest 1 bt_RX12 [] ct_1211 [] [] cu_1211 31 con_1211) = true := by decide +kernel
theorem cto_1211 (l : Launch) : CTOK2 l RX12 vwCl gTbl ct_1211 := ct2_cons (vl_1112 l) ck_RX12_378_1112 (ct2_cons (vl_646 l) ck_RX12_106_646 (ct2_nil))
theorem vl_1211 (l : Launch) : Vld2 l vwCl gTbl con_1211 := conR_ok3 gT_all (hd_1211) rfl pn_RX12 tk_X12_richest bo_RX12 xo_RX12 (cto_1211 l) ch_1211 (cut_all cc_1211)
/-- RookHusting$Scene copyFrom -/
noncomputable def gi_841 : GI := jl_n [jl_z 5, jl_t, jl_z 3, jl_t]
noncomputable def hc_175 : List AC := [.inl (7, [(6, 2, 0), (6, 4, 0), (6, 6, 0), (1, 5, 0)]), .inl (7, [(6, 3, 0), (6, 5, 0), (6, 7, 0), (1, 9, 0)]), .inr (1, [(5, (2, (-1), 4))]), .inr (1, [(5, (2, (-1), 4))]), .inr (1, [(5, (2, (-2147483648), 2147483647))]), .inr (1, [(5, (2, (-2147483648), 2147483647))]), .inr (1, [(5, (2, (-2147483648), 2147483647))]), .inr (1, [(5, (2, (-2147483648), 2147483647))])]
noncomputable def gi_842 : GI := jl_n [jl_z 5, jl_t, jl_z 3, jl_t, jl_z 4]
noncomputable def hq_607 : HP := [(true, .inl (7, [(6, 2, 0), (6, 4, 0), (6, 6, 0), (1, 9, 0)])), (false, .inl (7, [(6, 3, 0), (6, 5, 0), (6, 7, 0), (1, 9, 0)])), (true, .inr (1, [(5, (2, (-1), 4))])), (false, .inr (1, [(5, (2, (-1), 4))])), (true, .inr (1, [(5, (2, (-2147483648), 2147483647))])), (false, .inr (1, [(5, (2, (-2147483648), 2147483647))])), (true, .inr (1, [(5, (2, (-2147483648), 2147483647))])), (false, .inr (1, [(5, (2, (-2147483648), 2147483647))]))]
noncomputable def con_1212 : Con2 := ((yX7_copyFrom, cX7_copyFrom, 2, none), (1, 18), ([(6, 0, 0), (6, 1, 0)], gi_841, hc_175, []), [((9, 0, 0), gi_842, hq_607, [], [1, 1, 1, 1])])
theorem hd_1212 : con_1212.1 = (yX7_copyFrom, cX7_copyFrom, 2, none) := rfl
noncomputable def ct_1212 : CTB2 := []
noncomputable def cu_1212 : List CUT2 := []
theorem ch_1212 : staG tb_X7_copyFrom 1 bt_RX7 [] ct_1212 [] [] cu_1212 31 con_1212 = true := by decide +kernel
theorem cto_1212 (l : Launch) : CTOK2 l RX7 vwCl gTbl ct_1212 := ct2_nil
theorem vl_1212 (l : Launch) : Vld2 l vwCl gTbl con_1212 := conR_ok3 gT_all (hd_1212) rfl pn_RX7 tk_X7_copyFrom bo_RX7 xo_RX7 (cto_1212 l) ch_1212 cut_nil
/-- RookHusting$PutSearch weighRow -/
noncomputable def gi_843 : GI := jl_n [jl_z 1, jl_i 0 63, jl_z 1, jl_r 3 (jl_t), jl_z 5, jl_i 0 16, jl_z 2, jl_i 0 5, jl_z 19, jl_i 0 5, jl_i 0 16, jl_z 3, jl_t]
noncomputable def ac_699 : AC := .inl (5, jl_n [jl_6 19 1, jl_1 6 3, jl_8 7 1, jl_6 2 1, jl_6 4 1, jl_6 3 1])
noncomputable def ac_700 : AC := .inl (4, jl_n [jl_8 11 1, jl_1 12 1, jl_8 14 2, jl_1 15 1, jl_8 18 3, jl_6 7 1, jl_6 5 1, jl_8 21 1, jl_6 14 2, jl_8 27 4])
noncomputable def ac_701 : AC := .inl (3, jl_n [jl_6 12 1, jl_6 6 1, jl_6 8 1, jl_6 17 3, jl_6 10 1, jl_1 36 2])
noncomputable def hc_176 : List AC := [ac_699, ac_700, ac_701, .inl (7, [(6, 10, 0), (6, 8, 0), (6, 17, 0), (1, 39, 0)]), .inr (1, [(5, (2, 0, 40))]), .inr (1, [(85, (2, (-2147483648), 2147483647))]), .inr (1, [(5, (2, 0, 300))]), .inr (1, [(85, (2, (-2147483648), 2147483647))]), .inr (1, [(5, (2, (-2147483648), 2147483647))]), .inr (1, [(5, (2, (-2147483648), 2147483647))]), .inr (1, [(5, (2, (-1), 4))]), .inr (1, [(85, (2, (-2147483648), 2147483647))]), .inr (1, [(5, (2, 0, 40))]), .inr (1, [(5, (2, 0, 9))]), .inr (1, [(85, (2, (-2147483648), 2147483647))]), .inr (1, [(85, (2, (-2147483648), 2147483647))]), .inr (1, [(85, (2, (-1), 4))]), .inr (1, [(5, (2, (-2147483648), 2147483647))]), .inr (1, [(5, (2, (-1), 4))])]
noncomputable def gi_844 : GI := jl_n [jl_z 1, jl_i 0 63, jl_z 1, jl_r 3 (jl_t), jl_z 5, jl_i 0 16, jl_z 2, jl_i 0 5, jl_z 19, jl_i 0 5, jl_i 0 16, jl_z 3, jl_t, jl_z 1, jl_r 3 (jl_t), jl_z 11, jl_i 0 5, jl_z 1]
noncomputable def ac_702 : AC := .inl (5, jl_n [jl_6 19 1, jl_1 44 3, jl_8 7 1, jl_6 2 1, jl_6 4 1, jl_6 3 1])
noncomputable def ac_703 : AC := .inl (3, jl_n [jl_6 12 1, jl_6 6 1, jl_6 8 1, jl_6 17 3, jl_6 10 1, jl_1 56 1, jl_1 12 1])
noncomputable def hq_608 : HP := [(true, ac_702), (false, ac_700), (true, ac_703), (false, .inl (7, [(6, 10, 0), (6, 8, 0), (6, 17, 0), (1, 39, 0)])), (false, .inr (1, [(5, (2, 0, 40))])), (true, .inr (1, [(85, (2, (-2147483648), 2147483647))])), (false, .inr (1, [(5, (2, 0, 300))])), (true, .inr (1, [(85, (2, (-2147483648), 2147483647))])), (false, .inr (1, [(5, (2, (-2147483648), 2147483647))])), (true, .inr (1, [(5, (2, (-2147483648), 2147483647))])), (false, .inr (1, [(5, (2, (-1), 4))])), (true, .inr (1, [(85, (2, (-2147483648), 2147483647))])), (false, .inr (1, [(5, (2, 0, 40))])), (false, .inr (1, [(5, (2, 0, 9))])), (true, .inr (1, [(85, (2, (-2147483648), 2147483647))])), (true, .inr (1, [(85, (2, (-2147483648), 2147483647))])), (true, .inr (1, [(85, (2, (-1), 4))])), (false, .inr (1, [(5, (2, (-2147483648), 2147483647))])), (true, .inr (1, [(5, (2, (-1), 4))]))]
noncomputable def con_1213 : Con2 := ((yX5_weighRow, cX5_weighRow, 3, none), (3, 74), ([(6, 0, 0), (1, 1, 0)], gi_843, hc_176, []), [((9, 0, 0), gi_844, hq_608, [], [1, 1, 1, 1, 1, 1, 1, 1, 1, 1, 1, 1, 1, 1, 1, 1, 1])])
theorem hd_1213 : con_1213.1 = (yX5_weighRow, cX5_weighRow, 3, none) := rfl
theorem ck_RX5_85_1130 : COK2 RX5 vwCl gTbl 85 0 con_1130 := ⟨wd_1055, wd_134, mh_X3_sumOf, .inr (.inr ⟨rfl, wd_1159, wd_1053, wd_1054, ⟨_, rfl, pd_X3_sumOf⟩, 3, _, TX3, 9, rfl, rfl⟩)⟩
theorem ck_RX5_77_899 : COK2 RX5 vwCl gTbl 77 0 con_899 := ⟨wd_870, wd_134, mh_X3_passDays, .inr (.inr ⟨rfl, wd_1158, wd_868, wd_869, ⟨_, rfl, pd_X3_passDays⟩, 3, _, TX3, 9, rfl, rfl⟩)⟩
noncomputable def ct_1213 : CTB2 := [(19, 77, 0, con_899, [2, 1, 3, 4, 5, 6, 7, 8, 9, 10, 11, 12, 13, 14, 15, 16, 17]), (40, 85, 0, con_1130, [2, 7])]
noncomputable def cu_1213 : List CUT2 := []
theorem ch_1213 : staG tb_X5_weighRow 1 bt_RX5 [] ct_1213 [] [] cu_1213 46 con_1213 = true := by decide +kernel
theorem cto_1213 (l : Launch) : CTOK2 l RX5 vwCl gTbl ct_1213 := ct2_cons (vl_899 l) ck_RX5_77_899 (ct2_cons (vl_1130 l) ck_RX5_85_1130 (ct2_nil))
theorem vl_1213 (l : Launch) : Vld2 l vwCl gTbl con_1213 := conR_ok3 gT_all (hd_1213) rfl pn_RX5 tk_X5_weighRow bo_RX5 xo_RX5 (cto_1213 l) ch_1213 cut_nil
/-- RookHusting$PutSearch fillFrom -/
noncomputable def gi_845 : GI := jl_n [jl_z 2, jl_t, jl_z 1, jl_r 3 (jl_t), jl_z 5, jl_i 0 16, jl_z 2, jl_i 0 5, jl_z 1, jl_i 0 5, jl_z 17, jl_i 0 5, jl_i 0 16, jl_z 3, jl_t]
noncomputable def ac_704 : AC := .inl (5, jl_n [jl_6 19 1, jl_1 7 3, jl_8 8 1, jl_6 2 1, jl_6 4 1, jl_6 3 1])
noncomputable def ac_705 : AC := .inl (4, jl_n [jl_8 12 1, jl_1 13 1, jl_8 15 2, jl_1 16 1, jl_8 17 1, jl_1 18 1, jl_8 19 1, jl_6 7 1, jl_6 5 1, jl_8 22 1, jl_6 14 2, jl_8 28 4])
noncomputable def ac_706 : AC := .inl (3, jl_n [jl_6 12 1, jl_6 6 1, jl_6 8 1, jl_6 17 3, jl_6 10 1, jl_1 37 2])
noncomputable def hc_177 : List AC := [ac_704, ac_705, ac_706, .inl (7, [(6, 10, 0), (6, 8, 0), (6, 17, 0), (1, 40, 0)]), .inr (1, [(5, (2, 0, 40))]), .inr (1, [(85, (2, (-2147483648), 2147483647))]), .inr (1, [(5, (2, 0, 300))]), .inr (1, [(85, (2, (-2147483648), 2147483647))]), .inr (1, [(5, (2, (-2147483648), 2147483647))]), .inr (1, [(5, (2, (-2147483648), 2147483647))]), .inr (1, [(5, (2, (-1), 4))]), .inr (1, [(85, (2, (-2147483648), 2147483647))]), .inr (1, [(5, (2, 0, 40))]), .inr (1, [(5, (2, 0, 9))]), .inr (1, [(85, (2, (-2147483648), 2147483647))]), .inr (1, [(85, (2, (-2147483648), 2147483647))]), .inr (1, [(85, (2, (-1), 4))]), .inr (1, [(5, (2, (-2147483648), 2147483647))]), .inr (1, [(5, (2, (-1), 4))])]
noncomputable def gi_846 : GI := jl_n [jl_z 2, jl_t, jl_z 1, jl_r 3 (jl_t), jl_z 5, jl_i 0 16, jl_z 2, jl_i 0 5, jl_z 1, jl_i 0 5, jl_z 17, jl_i 0 5, jl_i 0 16, jl_z 3, jl_t, jl_z 1, jl_r 3 (jl_t), jl_z 11, jl_i 0 5, jl_z 1]
noncomputable def ac_707 : AC := .inl (5, jl_n [jl_6 19 1, jl_1 45 3, jl_8 8 1, jl_6 2 1, jl_6 4 1, jl_6 3 1])
noncomputable def ac_708 : AC := .inl (3, jl_n [jl_6 12 1, jl_6 6 1, jl_6 8 1, jl_6 17 3, jl_6 10 1, jl_1 57 1, jl_1 13 1])
noncomputable def hq_609 : HP := [(true, ac_707), (false, ac_705), (true, ac_708), (false, .inl (7, [(6, 10, 0), (6, 8, 0), (6, 17, 0), (1, 40, 0)])), (false, .inr (1, [(5, (2, 0, 40))])), (true, .inr (1, [(85, (2, (-2147483648), 2147483647))])), (false, .inr (1, [(5, (2, 0, 300))])), (true, .inr (1, [(85, (2, (-2147483648), 2147483647))])), (false, .inr (1, [(5, (2, (-2147483648), 2147483647))])), (true, .inr (1, [(5, (2, (-2147483648), 2147483647))])), (false, .inr (1, [(5, (2, (-1), 4))])), (true, .inr (1, [(85, (2, (-2147483648), 2147483647))])), (false, .inr (1, [(5, (2, 0, 40))])), (false, .inr (1, [(5, (2, 0, 9))])), (true, .inr (1, [(85, (2, (-2147483648), 2147483647))])), (true, .inr (1, [(85, (2, (-2147483648), 2147483647))])), (true, .inr (1, [(85, (2, (-1), 4))])), (false, .inr (1, [(5, (2, (-2147483648), 2147483647))])), (true, .inr (1, [(5, (2, (-1), 4))]))]
noncomputable def con_1214 : Con2 := ((yX5_fillFrom, cX5_fillFrom, 4, none), (4, 96), ([(6, 0, 0), (0, 5, 0), (1, 2, 0)], gi_845, hc_177, []), [((9, 0, 0), gi_846, hq_609, [], [1, 1, 1, 1, 1, 1, 1, 1, 1, 1, 1, 1, 1, 1, 1, 1, 1])])
theorem hd_1214 : con_1214.1 = (yX5_fillFrom, cX5_fillFrom, 4, none) := rfl
theorem ck_RX5_62_1213 : COK2 RX5 vwCl gTbl 62 0 con_1213 := ⟨wd_1157, wd_135, mh_X5_weighRow, .inr (.inr ⟨rfl, wd_1154, wd_1156, wd_38, ⟨_, rfl, pd_X5_weighRow⟩, 5, _, TX5, 8, rfl, rfl⟩)⟩
theorem ck_RX5_56_670 : COK2 RX5 vwCl gTbl 56 1 con_670 := ⟨wd_806, wd_144, mh_J_bitCount, .inl ⟨rfl, wd_1153, wd_805, pd_J_bitCount⟩⟩
noncomputable def ct_1214 : CTB2 := [(18, 56, 1, con_670, []), (21, 62, 0, con_1213, [0, 1, 2, 3, 4, 5, 6, 7, 8, 9, 10, 11, 12, 13, 14, 15, 16, 17, 18])]
noncomputable def cu_1214 : List CUT2 := []
theorem ch_1214 : staG tb_X5_fillFrom 1 bt_RX5 [] ct_1214 [] [] cu_1214 12 con_1214 = true := by decide +kernel
theorem cto_1214 (l : Launch) : CTOK2 l RX5 vwCl gTbl ct_1214 := ct2_cons (vl_670 l) ck_RX5_56_670 (ct2_cons (vl_1213 l) ck_RX5_62_1213 (ct2_nil))
theorem vl_1214 (l : Launch) : Vld2 l vwCl gTbl con_1214 := conR_ok3 gT_all (hd_1214) rfl pn_RX5 tk_X5_fillFrom bo_RX5 xo_RX5 (cto_1214 l) ch_1214 cut_nil
/-- RookHusting$PutSearch fillFrom -/
noncomputable def hq_610 : HP := [(true, ac_707), (false, ac_705), (true, ac_708), (false, .inl (7, [(6, 10, 0), (6, 8, 0), (6, 17, 0), (1, 40, 0)])), (false, .inr (1, [(5, (2, 0, 40))])), (true, .inr (1, [(85, (2, (-2147483648), 2147483647))])), (false, .inr (1, [(5, (2, 0, 300))])), (true, .inr (1, [(85, (2, (-2147483648), 2147483647))])), (false, .inr (1, [(5, (2, (-2147483648), 2147483647))])), (true, .inr (1, [(5, (2, (-2147483648), 2147483647))])), (true, .inr (1, [(5, (2, (-1), 4))])), (true, .inr (1, [(85, (2, (-2147483648), 2147483647))])), (false, .inr (1, [(5, (2, 0, 40))])), (false, .inr (1, [(5, (2, 0, 9))])), (true, .inr (1, [(85, (2, (-2147483648), 2147483647))])), (true, .inr (1, [(85, (2, (-2147483648), 2147483647))])), (true, .inr (1, [(85, (2, (-1), 4))])), (false, .inr (1, [(5, (2, (-2147483648), 2147483647))])), (true, .inr (1, [(5, (2, (-1), 4))]))]
noncomputable def con_1215 : Con2 := ((yX5_fillFrom, cX5_fillFrom, 4, none), (5, 119), ([(6, 0, 0), (0, 4, 0), (1, 2, 0)], gi_845, hc_177, []), [((9, 0, 0), gi_846, hq_610, [], [1, 1, 1, 1, 1, 1, 1, 1, 1, 1, 1, 1, 1, 1, 1, 1, 1])])
theorem hd_1215 : con_1215.1 = (yX5_fillFrom, cX5_fillFrom, 4, none) := rfl
theorem ck_RX5_47_1214 : COK2 RX5 vwCl gTbl 47 0 con_1214 := ⟨wd_1152, wd_135, mh_X5_fillFrom, .inr (.inr ⟨rfl, wd_1149, wd_1151, wd_37, ⟨_, rfl, pd_X5_fillFrom⟩, 5, _, TX5, 8, rfl, rfl⟩)⟩
theorem ck_RX5_70_46 : COK2 RX5 vwCl gTbl 70 2 con_46 := ⟨wd_682, wd_125, mh_X11_hasBit, .inr (.inl ⟨rfl, by decide +kernel, wd_681, pd_X11_hasBit⟩)⟩
noncomputable def ct_1215 : CTB2 := [(18, 56, 1, con_670, []), (21, 62, 0, con_1213, [0, 1, 2, 3, 4, 5, 6, 7, 8, 9, 10, 11, 12, 13, 14, 15, 16, 17, 18]), (40, 47, 0, con_1214, [0, 1, 2, 3, 4, 5, 6, 7, 8, 9, 10, 11, 12, 13, 14, 15, 16, 17, 18]), (58, 70, 2, con_46, []), (83, 47, 0, con_1214, [0, 1, 2, 3, 4, 5, 6, 7, 8, 9, 10, 11, 12, 13, 14, 15, 16, 17, 18])]
noncomputable def gi_847 : GI := jl_n [jl_z 2, jl_t, jl_z 1, jl_r 3 (jl_t), jl_z 5, jl_i 0 16, jl_z 2, jl_i 5 5, jl_z 1, jl_i 0 5, jl_z 17, jl_i 0 5, jl_i 0 16, jl_z 3, jl_t, jl_z 3, jl_i 0 5, jl_z 1, jl_r 3 (jl_t), jl_z 11, jl_i 0 5, jl_z 1]
noncomputable def ac_709 : AC := .inl (5, jl_n [jl_6 19 1, jl_1 49 3, jl_8 8 1, jl_6 2 1, jl_6 4 1, jl_6 3 1])
noncomputable def ac_710 : AC := .inl (3, jl_n [jl_6 12 1, jl_6 6 1, jl_6 8 1, jl_6 17 3, jl_6 10 1, jl_1 61 1, jl_1 13 1])
noncomputable def hq_611 : HP := [(true, ac_709), (false, ac_705), (true, ac_710), (false, .inl (7, [(6, 10, 0), (6, 8, 0), (6, 17, 0), (1, 40, 0)])), (false, .inr (1, [(5, (2, 0, 40))])), (true, .inr (1, [(85, (2, (-2147483648), 2147483647))])), (false, .inr (1, [(5, (2, 0, 300))])), (true, .inr (1, [(85, (2, (-2147483648), 2147483647))])), (false, .inr (1, [(5, (2, (-2147483648), 2147483647))])), (true, .inr (1, [(5, (2, (-2147483648), 2147483647))])), (true, .inr (1, [(5, (2, (-1), 4))])), (true, .inr (1, [(85, (2, (-2147483648), 2147483647))])), (false, .inr (1, [(5, (2, 0, 40))])), (false, .inr (1, [(5, (2, 0, 9))])), (true, .inr (1, [(85, (2, (-2147483648), 2147483647))])), (true, .inr (1, [(85, (2, (-2147483648), 2147483647))])), (true, .inr (1, [(85, (2, (-1), 4))])), (false, .inr (1, [(5, (2, (-2147483648), 2147483647))])), (true, .inr (1, [(5, (2, (-1), 4))]))]
noncomputable def cu_1215 : List CUT2 := [((45, [(0, (6, 0, 0)), (1, (0, 4, 0)), (2, (1, 2, 0)), (3, (1, 44, 0))], [], gi_847, hq_611), [], ([(44, (-1))], 5))]
theorem ch_1215 : staG tb_X5_fillFrom 1 bt_RX5 [] ct_1215 [] [] cu_1215 30 con_1215 = true := by decide +kernel
theorem cc_1215 : cu_1215.all (cutG tb_X5_fillFrom 1 bt_RX5 [] ct_1215 [] [] cu_1215 30 con_1215) = true := by decide +kernel
theorem cto_1215 (l : Launch) : CTOK2 l RX5 vwCl gTbl ct_1215 := ct2_cons (vl_670 l) ck_RX5_56_670 (ct2_cons (vl_1213 l) ck_RX5_62_1213 (ct2_cons (vl_1214 l) ck_RX5_47_1214 (ct2_cons (vl_46 l) ck_RX5_70_46 (ct2_cons (vl_1214 l) ck_RX5_47_1214 (ct2_nil)))))
theorem vl_1215 (l : Launch) : Vld2 l vwCl gTbl con_1215 := conR_ok3 gT_all (hd_1215) rfl pn_RX5 tk_X5_fillFrom bo_RX5 xo_RX5 (cto_1215 l) ch_1215 (cut_all cc_1215)
/-- RookHusting$PutSearch fillFrom -/
noncomputable def con_1216 : Con2 := ((yX5_fillFrom, cX5_fillFrom, 4, none), (6, 142), ([(6, 0, 0), (0, 3, 0), (1, 2, 0)], gi_845, hc_177, []), [((9, 0, 0), gi_846, hq_610, [], [1, 1, 1, 1, 1, 1, 1, 1, 1, 1, 1, 1, 1, 1, 1, 1, 1])])
theorem hd_1216 : con_1216.1 = (yX5_fillFrom, cX5_fillFrom, 4, none) := rfl
theorem ck_RX5_47_1215 : COK2 RX5 vwCl gTbl 47 0 con_1215 := ⟨wd_1152, wd_135, mh_X5_fillFrom, .inr (.inr ⟨rfl, wd_1149, wd_1151, wd_37, ⟨_, rfl, pd_X5_fillFrom⟩, 5, _, TX5, 8, rfl, rfl⟩)⟩
noncomputable def ct_1216 : CTB2 := [(18, 56, 1, con_670, []), (21, 62, 0, con_1213, [0, 1, 2, 3, 4, 5, 6, 7, 8, 9, 10, 11, 12, 13, 14, 15, 16, 17, 18]), (40, 47, 0, con_1215, [0, 1, 2, 3, 4, 5, 6, 7, 8, 9, 10, 11, 12, 13, 14, 15, 16, 17, 18]), (58, 70, 2, con_46, []), (83, 47, 0, con_1215, [0, 1, 2, 3, 4, 5, 6, 7, 8, 9, 10, 11, 12, 13, 14, 15, 16, 17, 18])]
noncomputable def gi_848 : GI := jl_n [jl_z 2, jl_t, jl_z 1, jl_r 3 (jl_t), jl_z 5, jl_i 0 16, jl_z 2, jl_i 4 5, jl_z 1, jl_i 0 5, jl_z 17, jl_i 0 5, jl_i 0 16, jl_z 3, jl_t, jl_z 3, jl_i 0 5, jl_z 1, jl_r 3 (jl_t), jl_z 11, jl_i 0 5, jl_z 1]
noncomputable def cu_1216 : List CUT2 := [((45, [(0, (6, 0, 0)), (1, (0, 3, 0)), (2, (1, 2, 0)), (3, (1, 44, 0))], [], gi_848, hq_611), [], ([(44, (-1))], 5))]
theorem ch_1216 : staG tb_X5_fillFrom 1 bt_RX5 [] ct_1216 [] [] cu_1216 30 con_1216 = true := by decide +kernel
theorem cc_1216 : cu_1216.all (cutG tb_X5_fillFrom 1 bt_RX5 [] ct_1216 [] [] cu_1216 30 con_1216) = true := by decide +kernel
theorem cto_1216 (l : Launch) : CTOK2 l RX5 vwCl gTbl ct_1216 := ct2_cons (vl_670 l) ck_RX5_56_670 (ct2_cons (vl_1213 l) ck_RX5_62_1213 (ct2_cons (vl_1215 l) ck_RX5_47_1215 (ct2_cons (vl_46 l) ck_RX5_70_46 (ct2_cons (vl_1215 l) ck_RX5_47_1215 (ct2_nil)))))
theorem vl_1216 (l : Launch) : Vld2 l vwCl gTbl con_1216 := conR_ok3 gT_all (hd_1216) rfl pn_RX5 tk_X5_fillFrom bo_RX5 xo_RX5 (cto_1216 l) ch_1216 (cut_all cc_1216)
/-- RookHusting$PutSearch fillFrom -/
noncomputable def con_1217 : Con2 := ((yX5_fillFrom, cX5_fillFrom, 4, none), (7, 165), ([(6, 0, 0), (0, 2, 0), (1, 2, 0)], gi_845, hc_177, []), [((9, 0, 0), gi_846, hq_610, [], [1, 1, 1, 1, 1, 1, 1, 1, 1, 1, 1, 1, 1, 1, 1, 1, 1])])
theorem hd_1217 : con_1217.1 = (yX5_fillFrom, cX5_fillFrom, 4, none) := rfl
theorem ck_RX5_47_1216 : COK2 RX5 vwCl gTbl 47 0 con_1216 := ⟨wd_1152, wd_135, mh_X5_fillFrom, .inr (.inr ⟨rfl, wd_1149, wd_1151, wd_37, ⟨_, rfl, pd_X5_fillFrom⟩, 5, _, TX5, 8, rfl, rfl⟩)⟩
noncomputable def ct_1217 : CTB2 := [(18, 56, 1, con_670, []), (21, 62, 0, con_1213, [0, 1, 2, 3, 4, 5, 6, 7, 8, 9, 10, 11, 12, 13, 14, 15, 16, 17, 18]), (40, 47, 0, con_1216, [0, 1, 2, 3, 4, 5, 6, 7, 8, 9, 10, 11, 12, 13, 14, 15, 16, 17, 18]), (58, 70, 2, con_46, []), (83, 47, 0, con_1216, [0, 1, 2, 3, 4, 5, 6, 7, 8, 9, 10, 11, 12, 13, 14, 15, 16, 17, 18])]
noncomputable def gi_849 : GI := jl_n [jl_z 2, jl_t, jl_z 1, jl_r 3 (jl_t), jl_z 5, jl_i 0 16, jl_z 2, jl_i 3 5, jl_z 1, jl_i 0 5, jl_z 17, jl_i 0 5, jl_i 0 16, jl_z 3, jl_t, jl_z 3, jl_i 0 5, jl_z 1, jl_r 3 (jl_t), jl_z 11, jl_i 0 5, jl_z 1]
noncomputable def cu_1217 : List CUT2 := [((45, [(0, (6, 0, 0)), (1, (0, 2, 0)), (2, (1, 2, 0)), (3, (1, 44, 0))], [], gi_849, hq_611), [], ([(44, (-1))], 5))]
theorem ch_1217 : staG tb_X5_fillFrom 1 bt_RX5 [] ct_1217 [] [] cu_1217 30 con_1217 = true := by decide +kernel
theorem cc_1217 : cu_1217.all (cutG tb_X5_fillFrom 1 bt_RX5 [] ct_1217 [] [] cu_1217 30 con_1217) = true := by decide +kernel
theorem cto_1217 (l : Launch) : CTOK2 l RX5 vwCl gTbl ct_1217 := ct2_cons (vl_670 l) ck_RX5_56_670 (ct2_cons (vl_1213 l) ck_RX5_62_1213 (ct2_cons (vl_1216 l) ck_RX5_47_1216 (ct2_cons (vl_46 l) ck_RX5_70_46 (ct2_cons (vl_1216 l) ck_RX5_47_1216 (ct2_nil)))))
theorem vl_1217 (l : Launch) : Vld2 l vwCl gTbl con_1217 := conR_ok3 gT_all (hd_1217) rfl pn_RX5 tk_X5_fillFrom bo_RX5 xo_RX5 (cto_1217 l) ch_1217 (cut_all cc_1217)
/-- RookHusting$PutSearch fillFrom -/
noncomputable def con_1218 : Con2 := ((yX5_fillFrom, cX5_fillFrom, 4, none), (8, 188), ([(6, 0, 0), (0, 1, 0), (1, 2, 0)], gi_845, hc_177, []), [((9, 0, 0), gi_846, hq_610, [], [1, 1, 1, 1, 1, 1, 1, 1, 1, 1, 1, 1, 1, 1, 1, 1, 1])])
theorem hd_1218 : con_1218.1 = (yX5_fillFrom, cX5_fillFrom, 4, none) := rfl
theorem ck_RX5_47_1217 : COK2 RX5 vwCl gTbl 47 0 con_1217 := ⟨wd_1152, wd_135, mh_X5_fillFrom, .inr (.inr ⟨rfl, wd_1149, wd_1151, wd_37, ⟨_, rfl, pd_X5_fillFrom⟩, 5, _, TX5, 8, rfl, rfl⟩)⟩
noncomputable def ct_1218 : CTB2 := [(18, 56, 1, con_670, []), (21, 62, 0, con_1213, [0, 1, 2, 3, 4, 5, 6, 7, 8, 9, 10, 11, 12, 13, 14, 15, 16, 17, 18]), (40, 47, 0, con_1217, [0, 1, 2, 3, 4, 5, 6, 7, 8, 9, 10, 11, 12, 13, 14, 15, 16, 17, 18]), (58, 70, 2, con_46, []), (83, 47, 0, con_1217, [0, 1, 2, 3, 4, 5, 6, 7, 8, 9, 10, 11, 12, 13, 14, 15, 16, 17, 18])]
noncomputable def gi_850 : GI := jl_n [jl_z 2, jl_t, jl_z 1, jl_r 3 (jl_t), jl_z 5, jl_i 0 16, jl_z 2, jl_i 2 5, jl_z 1, jl_i 0 5, jl_z 17, jl_i 0 5, jl_i 0 16, jl_z 3, jl_t, jl_z 3, jl_i 0 5, jl_z 1, jl_r 3 (jl_t), jl_z 11, jl_i 0 5, jl_z 1]
noncomputable def cu_1218 : List CUT2 := [((45, [(0, (6, 0, 0)), (1, (0, 1, 0)), (2, (1, 2, 0)), (3, (1, 44, 0))], [], gi_850, hq_611), [], ([(44, (-1))], 5))]
theorem ch_1218 : staG tb_X5_fillFrom 1 bt_RX5 [] ct_1218 [] [] cu_1218 30 con_1218 = true := by decide +kernel
theorem cc_1218 : cu_1218.all (cutG tb_X5_fillFrom 1 bt_RX5 [] ct_1218 [] [] cu_1218 30 con_1218) = true := by decide +kernel
theorem cto_1218 (l : Launch) : CTOK2 l RX5 vwCl gTbl ct_1218 := ct2_cons (vl_670 l) ck_RX5_56_670 (ct2_cons (vl_1213 l) ck_RX5_62_1213 (ct2_cons (vl_1217 l) ck_RX5_47_1217 (ct2_cons (vl_46 l) ck_RX5_70_46 (ct2_cons (vl_1217 l) ck_RX5_47_1217 (ct2_nil)))))
theorem vl_1218 (l : Launch) : Vld2 l vwCl gTbl con_1218 := conR_ok3 gT_all (hd_1218) rfl pn_RX5 tk_X5_fillFrom bo_RX5 xo_RX5 (cto_1218 l) ch_1218 (cut_all cc_1218)
/-- RookHusting$PutSearch fillFrom -/
noncomputable def con_1219 : Con2 := ((yX5_fillFrom, cX5_fillFrom, 4, none), (9, 211), ([(6, 0, 0), (0, 0, 0), (1, 2, 0)], gi_845, hc_177, []), [((9, 0, 0), gi_846, hq_610, [], [1, 1, 1, 1, 1, 1, 1, 1, 1, 1, 1, 1, 1, 1, 1, 1, 1])])
theorem hd_1219 : con_1219.1 = (yX5_fillFrom, cX5_fillFrom, 4, none) := rfl
theorem ck_RX5_47_1218 : COK2 RX5 vwCl gTbl 47 0 con_1218 := ⟨wd_1152, wd_135, mh_X5_fillFrom, .inr (.inr ⟨rfl, wd_1149, wd_1151, wd_37, ⟨_, rfl, pd_X5_fillFrom⟩, 5, _, TX5, 8, rfl, rfl⟩)⟩
noncomputable def ct_1219 : CTB2 := [(18, 56, 1, con_670, []), (21, 62, 0, con_1213, [0, 1, 2, 3, 4, 5, 6, 7, 8, 9, 10, 11, 12, 13, 14, 15, 16, 17, 18]), (40, 47, 0, con_1218, [0, 1, 2, 3, 4, 5, 6, 7, 8, 9, 10, 11, 12, 13, 14, 15, 16, 17, 18]), (58, 70, 2, con_46, []), (83, 47, 0, con_1218, [0, 1, 2, 3, 4, 5, 6, 7, 8, 9, 10, 11, 12, 13, 14, 15, 16, 17, 18])]
noncomputable def gi_851 : GI := jl_n [jl_z 2, jl_t, jl_z 1, jl_r 3 (jl_t), jl_z 5, jl_i 0 16, jl_z 2, jl_i 1 5, jl_z 1, jl_i 0 5, jl_z 17, jl_i 0 5, jl_i 0 16, jl_z 3, jl_t, jl_z 3, jl_i 0 5, jl_z 1, jl_r 3 (jl_t), jl_z 11, jl_i 0 5, jl_z 1]
noncomputable def cu_1219 : List CUT2 := [((45, [(0, (6, 0, 0)), (1, (0, 0, 0)), (2, (1, 2, 0)), (3, (1, 44, 0))], [], gi_851, hq_611), [], ([(44, (-1))], 5))]
theorem ch_1219 : staG tb_X5_fillFrom 1 bt_RX5 [] ct_1219 [] [] cu_1219 30 con_1219 = true := by decide +kernel
theorem cc_1219 : cu_1219.all (cutG tb_X5_fillFrom 1 bt_RX5 [] ct_1219 [] [] cu_1219 30 con_1219) = true := by decide +kernel
theorem cto_1219 (l : Launch) : CTOK2 l RX5 vwCl gTbl ct_1219 := ct2_cons (vl_670 l) ck_RX5_56_670 (ct2_cons (vl_1213 l) ck_RX5_62_1213 (ct2_cons (vl_1218 l) ck_RX5_47_1218 (ct2_cons (vl_46 l) ck_RX5_70_46 (ct2_cons (vl_1218 l) ck_RX5_47_1218 (ct2_nil)))))
theorem vl_1219 (l : Launch) : Vld2 l vwCl gTbl con_1219 := conR_ok3 gT_all (hd_1219) rfl pn_RX5 tk_X5_fillFrom bo_RX5 xo_RX5 (cto_1219 l) ch_1219 (cut_all cc_1219)
/-- RookHusting$PutSearch searchFrom -/
noncomputable def gi_852 : GI := jl_n [jl_z 3, jl_r 3 (jl_t), jl_i 0 1, jl_z 6, jl_t, jl_z 3, jl_t, jl_z 1, jl_i 0 16, jl_z 2, jl_i 0 5, jl_z 1, jl_i 0 5, jl_z 17, jl_i 0 5, jl_i 0 16]
noncomputable def ac_711 : AC := .inl (5, jl_n [jl_6 23 1, jl_1 7 4, jl_6 10 1, jl_6 3 1, jl_6 11 1])
noncomputable def ac_712 : AC := .inl (4, jl_n [jl_8 19 1, jl_1 20 1, jl_8 22 2, jl_1 23 1, jl_8 24 1, jl_1 25 1, jl_8 26 1, jl_6 14 1, jl_6 12 1, jl_8 29 1, jl_6 19 2, jl_8 35 4])
noncomputable def ac_713 : AC := .inl (3, jl_n [jl_6 17 1, jl_6 13 1, jl_6 15 1, jl_6 22 3, jl_6 16 1, jl_1 44 2])
noncomputable def hc_178 : List AC := [ac_711, .inl (7, [(6, 4, 0), (6, 6, 0), (6, 8, 0), (1, 13, 0)]), .inl (7, [(6, 3, 0), (6, 5, 0), (6, 7, 0), (1, 17, 0)]), .inr (1, [(5, (2, (-1), 4))]), .inr (1, [(5, (2, (-1), 4))]), .inr (1, [(5, (2, (-2147483648), 2147483647))]), .inr (1, [(5, (2, (-2147483648), 2147483647))]), .inr (1, [(5, (2, (-2147483648), 2147483647))]), .inr (1, [(5, (2, (-2147483648), 2147483647))]), ac_712, ac_713, .inr (1, [(5, (2, 0, 40))]), .inr (1, [(85, (2, (-2147483648), 2147483647))]), .inr (1, [(5, (2, 0, 300))]), .inr (1, [(85, (2, (-2147483648), 2147483647))]), .inr (1, [(5, (2, (-2147483648), 2147483647))]), .inr (1, [(85, (2, (-2147483648), 2147483647))]), .inr (1, [(5, (2, 0, 40))]), .inr (1, [(5, (2, 0, 9))]), .inr (1, [(85, (2, (-2147483648), 2147483647))]), .inr (1, [(85, (2, (-2147483648), 2147483647))]), .inr (1, [(85, (2, (-1), 4))]), .inr (1, [(5, (2, (-1), 4))])]
noncomputable def gi_853 : GI := jl_n [jl_z 3, jl_r 3 (jl_t), jl_i 0 1, jl_z 6, jl_t, jl_z 3, jl_t, jl_z 1, jl_i 0 16, jl_z 2, jl_i 0 5, jl_z 1, jl_i 0 5, jl_z 17, jl_i 0 5, jl_i 0 16, jl_z 1, jl_r 3 (jl_t), jl_z 7, jl_t, jl_z 7, jl_i 0 5, jl_i 0 16]
noncomputable def ac_714 : AC := .inl (5, jl_n [jl_6 23 1, jl_1 48 3, jl_c 1, jl_6 10 1, jl_6 3 1, jl_6 11 1])
noncomputable def ac_715 : AC := .inl (3, jl_n [jl_6 17 1, jl_6 13 1, jl_6 15 1, jl_6 22 3, jl_6 16 1, jl_1 65 2])
noncomputable def hq_612 : HP := [(true, ac_714), (false, .inl (7, [(6, 4, 0), (6, 6, 0), (6, 8, 0), (1, 13, 0)])), (true, .inl (7, [(6, 3, 0), (6, 5, 0), (6, 7, 0), (1, 55, 0)])), (true, .inr (1, [(5, (2, (-1), 4))])), (false, .inr (1, [(5, (2, (-1), 4))])), (true, .inr (1, [(5, (2, (-2147483648), 2147483647))])), (false, .inr (1, [(5, (2, (-2147483648), 2147483647))])), (true, .inr (1, [(5, (2, (-2147483648), 2147483647))])), (false, .inr (1, [(5, (2, (-2147483648), 2147483647))])), (false, ac_712), (true, ac_715), (false, .inr (1, [(5, (2, 0, 40))])), (true, .inr (1, [(85, (2, (-2147483648), 2147483647))])), (false, .inr (1, [(5, (2, 0, 300))])), (true, .inr (1, [(85, (2, (-2147483648), 2147483647))])), (true, .inr (1, [(5, (2, (-2147483648), 2147483647))])), (true, .inr (1, [(85, (2, (-2147483648), 2147483647))])), (false, .inr (1, [(5, (2, 0, 40))])), (false, .inr (1, [(5, (2, 0, 9))])), (true, .inr (1, [(85, (2, (-2147483648), 2147483647))])), (true, .inr (1, [(85, (2, (-2147483648), 2147483647))])), (true, .inr (1, [(85, (2, (-1), 4))])), (true, .inr (1, [(5, (2, (-1), 4))]))]
noncomputable def con_1220 : Con2 := ((yX5_searchFrom, cX5_searchFrom, 2, none), (10, 234), ([(6, 0, 0), (6, 1, 0)], gi_852, hc_178, []), [((9, 0, 0), gi_853, hq_612, [], [1, 1, 1, 1, 1, 1, 1, 1, 1, 1, 1, 1, 1, 1, 1, 1, 1, 1, 1, 1, 1])])
theorem hd_1220 : con_1220.1 = (yX5_searchFrom, cX5_searchFrom, 2, none) := rfl
theorem ck_RX5_47_1219 : COK2 RX5 vwCl gTbl 47 0 con_1219 := ⟨wd_1152, wd_135, mh_X5_fillFrom, .inr (.inr ⟨rfl, wd_1149, wd_1151, wd_37, ⟨_, rfl, pd_X5_fillFrom⟩, 5, _, TX5, 8, rfl, rfl⟩)⟩
theorem ck_RX5_31_1212 : COK2 RX5 vwCl gTbl 31 0 con_1212 := ⟨wd_1148, wd_133, mh_X7_copyFrom, .inr (.inr ⟨rfl, wd_1145, wd_1146, wd_1147, ⟨_, rfl, pd_X7_copyFrom⟩, 7, _, TX7, 4, rfl, rfl⟩)⟩
noncomputable def ct_1220 : CTB2 := [(13, 31, 0, con_1212, [2, 1, 3, 4, 5, 6, 7, 8]), (34, 47, 0, con_1219, [0, 9, 10, 2, 11, 12, 13, 14, 5, 15, 3, 16, 17, 18, 19, 20, 21, 7, 22])]
noncomputable def cu_1220 : List CUT2 := []
theorem ch_1220 : staG tb_X5_searchFrom 1 bt_RX5 [] ct_1220 [] [] cu_1220 26 con_1220 = true := by decide +kernel
theorem cto_1220 (l : Launch) : CTOK2 l RX5 vwCl gTbl ct_1220 := ct2_cons (vl_1212 l) ck_RX5_31_1212 (ct2_cons (vl_1219 l) ck_RX5_47_1219 (ct2_nil))
theorem vl_1220 (l : Launch) : Vld2 l vwCl gTbl con_1220 := conR_ok3 gT_all (hd_1220) rfl pn_RX5 tk_X5_searchFrom bo_RX5 xo_RX5 (cto_1220 l) ch_1220 cut_nil
/-- RookHusting best -/
noncomputable def gi_854 : GI := jl_n [jl_z 14, jl_i 0 1, jl_z 4, jl_t, jl_i 0 16, jl_i 0 3, jl_z 1, jl_i 0 5, jl_z 1, jl_i 0 5, jl_i 0 7, jl_z 12, jl_t, jl_z 2, jl_i 0 30, jl_z 3, jl_r 30 (jl_i 0 1), jl_r 30 (jl_m 0 15), jl_z 7, jl_i 0 5, jl_i 0 16, jl_z 1, jl_r 3 (jl_t), jl_i 0 1, jl_z 6, jl_t, jl_z 7, jl_i 0 5, jl_i 0 16]
noncomputable def ac_716 : AC := .inl (11, jl_n [jl_8 3 2, jl_6 2 1, jl_8 6 2, jl_6 9 1, jl_6 4 1, jl_6 29 1, jl_6 16 1, jl_6 33 1, jl_6 28 1, jl_8 14 2, jl_1 15 1, jl_8 17 2])
noncomputable def ac_717 : AC := .inl (5, jl_n [jl_6 41 1, jl_1 120 4, jl_6 3 1, jl_6 29 1, jl_6 33 1])
noncomputable def ac_718 : AC := .inl (3, jl_n [jl_6 37 1, jl_6 35 2, jl_6 40 3, jl_6 36 1, jl_1 136 2])
noncomputable def hc_179 : List AC := [ac_716, .inl (9, [(6, 2, 0), (6, 11, 0)]), ac_671, .inl (7, [(6, 4, 0), (6, 5, 0), (6, 6, 0), (1, 39, 0)]), .inr (1, [(5, (2, (-1), 4))]), .inr (1, [(5, (2, (-2147483648), 2147483647))]), .inr (1, [(5, (2, (-2147483648), 2147483647))]), .inr (1, [(5, (2, (-2147483648), 2147483647))]), .inl (1, [(6, 2, 0), (8, 41, 0)]), .inr (1, [(35, (2, (-2147483648), 2147483647))]), .inr (1, [(7, (2, 0, 9))]), .inl (0, [(1, 42, 0), (6, 12, 0), (6, 13, 0), (6, 14, 0)]), ac_508, .inr (1, [(30, (2, 0, 4))]), ac_509, ac_510, .inr (1, [(5, (2, 0, 40))]), .inr (1, [(85, (2, (-2147483648), 2147483647))]), .inr (1, [(5, (2, 0, 300))]), .inr (1, [(85, (2, (-2147483648), 2147483647))]), .inr (1, [(5, (2, (-2147483648), 2147483647))]), .inr (1, [(85, (2, (-2147483648), 2147483647))]), .inr (1, [(5, (2, 0, 40))]), .inr (1, [(5, (2, 0, 9))]), .inr (1, [(85, (2, (-2147483648), 2147483647))]), .inr (1, [(85, (2, (-2147483648), 2147483647))]), .inr (1, [(85, (2, (-1), 4))]), ac_717, .inl (7, [(6, 29, 0), (6, 30, 0), (6, 31, 0), (1, 126, 0)]), .inr (1, [(5, (2, (-1), 4))]), .inr (1, [(5, (2, (-2147483648), 2147483647))]), .inr (1, [(5, (2, (-2147483648), 2147483647))]), ac_718, .inr (1, [(85, (2, (-2147483648), 2147483647))]), .inr (1, [(85, (2, (-2147483648), 2147483647))]), .inr (1, [(5, (2, (-2147483648), 2147483647))]), .inr (1, [(85, (2, (-2147483648), 2147483647))]), .inr (1, [(85, (2, (-2147483648), 2147483647))]), .inr (1, [(85, (2, (-2147483648), 2147483647))]), .inr (1, [(85, (2, (-1), 4))]), .inr (1, [(5, (2, (-1), 4))])]
noncomputable def gi_855 : GI := jl_n [jl_z 14, jl_i 0 1, jl_z 4, jl_t, jl_i 0 16, jl_i 0 3, jl_z 1, jl_i 0 5, jl_z 1, jl_i 0 5, jl_i 0 7, jl_z 12, jl_t, jl_z 2, jl_i 0 30, jl_z 3, jl_r 30 (jl_i 0 1), jl_r 30 (jl_m 0 15), jl_z 7, jl_i 0 5, jl_i 0 16, jl_z 1, jl_r 3 (jl_t), jl_i 0 1, jl_z 6, jl_t, jl_z 7, jl_i 0 5, jl_i 0 16, jl_t, jl_z 13, jl_i 0 1, jl_z 5, jl_t, jl_z 7, jl_i 0 5, jl_i 0 16, jl_z 1, jl_r 3 (jl_t), jl_i 0 1, jl_z 6, jl_t, jl_z 7, jl_i 0 5, jl_i 0 16]
noncomputable def ac_719 : AC := .inl (11, jl_n [jl_8 3 2, jl_6 2 1, jl_8 6 2, jl_6 9 1, jl_6 4 1, jl_6 29 1, jl_6 16 1, jl_6 33 1, jl_6 28 1, jl_8 14 2, jl_1 151 1, jl_8 17 2])
noncomputable def ac_720 : AC := .inl (3, jl_n [jl_6 22 1, jl_6 18 1, jl_6 20 1, jl_6 27 3, jl_6 21 1, jl_1 166 2])
noncomputable def ac_721 : AC := .inl (5, jl_n [jl_6 41 1, jl_1 171 4, jl_6 3 1, jl_6 29 1, jl_6 33 1])
noncomputable def ac_722 : AC := .inl (3, jl_n [jl_6 37 1, jl_6 35 2, jl_6 40 3, jl_6 36 1, jl_1 187 2])
noncomputable def hq_613 : HP := [(true, ac_719), (false, .inl (9, [(6, 2, 0), (6, 11, 0)])), (false, ac_671), (true, .inl (7, [(6, 4, 0), (6, 5, 0), (6, 6, 0), (1, 156, 0)])), (true, .inr (1, [(5, (2, (-1), 4))])), (true, .inr (1, [(5, (2, (-2147483648), 2147483647))])), (true, .inr (1, [(5, (2, (-2147483648), 2147483647))])), (false, .inr (1, [(5, (2, (-2147483648), 2147483647))])), (false, .inl (1, [(6, 2, 0), (8, 41, 0)])), (false, .inr (1, [(35, (2, (-2147483648), 2147483647))])), (false, .inr (1, [(7, (2, 0, 9))])), (false, .inl (0, [(1, 42, 0), (6, 12, 0), (6, 13, 0), (6, 14, 0)])), (false, ac_508), (false, .inr (1, [(30, (2, 0, 4))])), (false, ac_509), (true, ac_720), (false, .inr (1, [(5, (2, 0, 40))])), (true, .inr (1, [(85, (2, (-2147483648), 2147483647))])), (false, .inr (1, [(5, (2, 0, 300))])), (true, .inr (1, [(85, (2, (-2147483648), 2147483647))])), (true, .inr (1, [(5, (2, (-2147483648), 2147483647))])), (true, .inr (1, [(85, (2, (-2147483648), 2147483647))])), (false, .inr (1, [(5, (2, 0, 40))])), (false, .inr (1, [(5, (2, 0, 9))])), (true, .inr (1, [(85, (2, (-2147483648), 2147483647))])), (true, .inr (1, [(85, (2, (-2147483648), 2147483647))])), (true, .inr (1, [(85, (2, (-1), 4))])), (true, ac_721), (true, .inl (7, [(6, 29, 0), (6, 30, 0), (6, 31, 0), (1, 177, 0)])), (true, .inr (1, [(5, (2, (-1), 4))])), (true, .inr (1, [(5, (2, (-2147483648), 2147483647))])), (true, .inr (1, [(5, (2, (-2147483648), 2147483647))])), (true, ac_722), (true, .inr (1, [(85, (2, (-2147483648), 2147483647))])), (true, .inr (1, [(85, (2, (-2147483648), 2147483647))])), (true, .inr (1, [(5, (2, (-2147483648), 2147483647))])), (true, .inr (1, [(85, (2, (-2147483648), 2147483647))])), (true, .inr (1, [(85, (2, (-2147483648), 2147483647))])), (true, .inr (1, [(85, (2, (-2147483648), 2147483647))])), (true, .inr (1, [(85, (2, (-1), 4))])), (true, .inr (1, [(5, (2, (-1), 4))]))]
noncomputable def con_1221 : Con2 := ((yX11_best, cX11_best, 1, (some .int)), (11, 255), ([(6, 0, 0)], gi_854, hc_179, rq_2), [((1, 136, 0), gi_855, hq_613, [], [1, 1, 1, 1, 1, 1, 1, 1, 1, 1, 1, 1, 1, 1, 1, 1, 1, 1, 1, 1, 1, 1, 1, 1, 1, 1, 1, 1, 1, 1, 1, 1, 1, 1, 1, 1, 1, 1, 1, 1, 1, 1, 1, 1, 1, 1, 1, 1, 1, 1, 1])])
theorem hd_1221 : con_1221.1 = (yX11_best, cX11_best, 1, (some .int)) := rfl
theorem ck_RX11_317_1220 : COK2 RX11 vwCl gTbl 317 0 con_1220 := ⟨wd_1144, wd_135, mh_X5_searchFrom, .inr (.inr ⟨rfl, wd_1141, wd_1142, wd_1143, ⟨_, rfl, pd_X5_searchFrom⟩, 5, _, TX5, 8, rfl, rfl⟩)⟩
noncomputable def ct_1221 : CTB2 := [(1, 219, 0, con_667, [0, 1, 2]), (11, 208, 0, con_900, [0, 1, 3, 2, 4, 5, 6, 7, 8, 9, 10, 11, 12, 13, 14, 15, 16, 17, 18, 19, 20, 21, 22, 23, 24, 25, 26]), (22, 317, 0, con_1220, [27, 3, 28, 29, 4, 30, 5, 31, 6, 2, 32, 16, 33, 18, 34, 35, 36, 22, 23, 37, 38, 39, 40])]
noncomputable def cu_1221 : List CUT2 := []
theorem ch_1221 : staG tb_X11_best 1 bt_RX11 [] ct_1221 [] [] cu_1221 16 con_1221 = true := by decide +kernel
theorem cto_1221 (l : Launch) : CTOK2 l RX11 vwCl gTbl ct_1221 := ct2_cons (vl_667 l) ck_RX11_219_667 (ct2_cons (vl_900 l) ck_RX11_208_900 (ct2_cons (vl_1220 l) ck_RX11_317_1220 (ct2_nil)))
theorem vl_1221 (l : Launch) : Vld2 l vwCl gTbl con_1221 := conR_ok3 gT_all (hd_1221) rfl pn_RX11 tk_X11_best bo_RX11 xo_RX11 (cto_1221 l) ch_1221 cut_nil
/-- RookHustingModel menIn -/
noncomputable def ac_723 : AC := .inl (12, jl_n [jl_8 2 1, jl_6 2 1, jl_8 20 17, jl_6 3 1, jl_8 46 25])
noncomputable def gi_856 : GI := jl_n [jl_z 46, jl_i 0 16, jl_i 0 3, jl_i 0 10, jl_i 0 5, jl_i 0 8, jl_i 0 5, jl_i 0 7, jl_i 0 30, jl_i 0 2147483647, jl_z 14, jl_m 0 16]
noncomputable def hq_614 : HP := [(false, ac_723), (false, ac_436), (false, .inr (1, [(5, (2, (-1), 4))]))]
noncomputable def con_1222 : Con2 := ((yX12_menIn, cX12_menIn, 3, (some .int)), (1, 22), ([(6, 0, 0)], gi_299, [ac_723, ac_436, .inr (1, [(5, (2, (-1), 4))])], []), [((1, 69, 0), gi_856, hq_614, [], [1])])
theorem hd_1222 : con_1222.1 = (yX12_menIn, cX12_menIn, 3, (some .int)) := rfl
noncomputable def ct_1222 : CTB2 := [(6, 106, 0, con_646, [0, 1]), (32, 199, 1, con_390, []), (59, 252, 1, con_678, [])]
noncomputable def gi_857 : GI := jl_n [jl_z 46, jl_i 0 16, jl_i 0 3, jl_i 0 10, jl_i 0 5, jl_i 0 8, jl_i 0 5, jl_i 0 7, jl_i 0 30, jl_i 0 2147483647, jl_z 15, jl_t, jl_i 0 5]
noncomputable def cu_1222 : List CUT2 := [((4, [(0, (6, 0, 0)), (1, (1, 70, 0)), (2, (1, 71, 0))], [], gi_857, hq_614), [], ([(71, (-1))], 5))]
theorem ch_1222 : staG tb_X12_menIn 1 bt_RX12 [] ct_1222 [] [] cu_1222 32 con_1222 = true := by decide +kernel
theorem cc_1222 : cu_1222.all (cutG tb_X12_menIn 1 bt_RX12 [] ct_1222 [] [] cu_1222 32 con_1222) = true := by decide +kernel
theorem cto_1222 (l : Launch) : CTOK2 l RX12 vwCl gTbl ct_1222 := ct2_cons (vl_646 l) ck_RX12_106_646 (ct2_cons (vl_390 l) ck_RX12_199_390 (ct2_cons (vl_678 l) ck_RX12_252_678 (ct2_nil)))
theorem vl_1222 (l : Launch) : Vld2 l vwCl gTbl con_1222 := conR_ok3 gT_all (hd_1222) rfl pn_RX12 tk_X12_menIn bo_RX12 xo_RX12 (cto_1222 l) ch_1222 (cut_all cc_1222)
/-- RookHustingModel allLast -/
noncomputable def ac_724 : AC := .inl (12, jl_n [jl_8 2 1, jl_6 2 1, jl_8 28 25, jl_6 3 1, jl_8 46 17])
noncomputable def hc_180 : List AC := [ac_724, ac_436, .inr (1, [(85, (2, (-2147483648), 2147483647))])]
noncomputable def hq_615 : HP := [(false, ac_724), (false, ac_436), (false, .inr (1, [(85, (2, (-2147483648), 2147483647))]))]
noncomputable def con_1223 : Con2 := ((yX12_allLast, cX12_allLast, 1, (some .int)), (2, 43), ([(6, 0, 0)], gi_299, hc_180, []), [((1, 69, 0), gi_554, hq_615, [], [1])])
theorem hd_1223 : con_1223.1 = (yX12_allLast, cX12_allLast, 1, (some .int)) := rfl
noncomputable def ct_1223 : CTB2 := [(2, 103, 0, con_1100, [0, 1]), (5, 375, 0, con_1133, [0, 1, 2])]
noncomputable def cu_1223 : List CUT2 := []
theorem ch_1223 : staG tb_X12_allLast 1 bt_RX12 [] ct_1223 [] [] cu_1223 7 con_1223 = true := by decide +kernel
theorem cto_1223 (l : Launch) : CTOK2 l RX12 vwCl gTbl ct_1223 := ct2_cons (vl_1100 l) ck_RX12_103_1100 (ct2_cons (vl_1133 l) ck_RX12_375_1133 (ct2_nil))
theorem vl_1223 (l : Launch) : Vld2 l vwCl gTbl con_1223 := conR_ok3 gT_all (hd_1223) rfl pn_RX12 tk_X12_allLast bo_RX12 xo_RX12 (cto_1223 l) ch_1223 cut_nil
/-- RookHustingModel tryRow -/
noncomputable def gi_858 : GI := jl_n [jl_z 22, jl_r 2 (jl_t), jl_r 2 (jl_m 0 4), jl_z 7, jl_r 3 (jl_t), jl_z 10, jl_i 0 16, jl_i 0 3, jl_i 0 10, jl_i 0 5, jl_i 0 8, jl_i 0 5, jl_i 0 7, jl_i 0 30, jl_i 0 2147483647, jl_z 14]
noncomputable def ac_725 : AC := .inl (12, jl_n [jl_8 2 1, jl_6 2 1, jl_8 20 17, jl_6 3 1, jl_6 6 1, jl_1 26 4, jl_6 7 1, jl_6 5 1, jl_6 4 1, jl_6 10 2, jl_6 8 1, jl_6 11 1, jl_1 36 3, jl_8 46 10])
noncomputable def hc_181 : List AC := [ac_725, ac_436, .inr (1, [(5, (2, (-1), 4))]), .inr (1, [(85, (2, (-2147483648), 2147483647))]), .inr (1, [(85, (2, (-2147483648), 2147483647))]), .inr (1, [(5, (2, (-2147483648), 2147483647))]), .inr (1, [(85, (2, (-2147483648), 2147483647))]), .inr (1, [(16, (2, (-2147483648), 2147483647))]), .inr (1, [(80, (2, (-2147483648), 2147483647))]), .inr (1, [(80, (2, (-1), 4))]), .inr (1, [(5, (2, (-1), 4))])]
noncomputable def gi_859 : GI := jl_n [jl_z 22, jl_r 2 (jl_t), jl_r 2 (jl_m 0 4), jl_z 7, jl_r 3 (jl_t), jl_z 10, jl_i 0 16, jl_i 0 3, jl_i 0 10, jl_i 0 5, jl_i 0 8, jl_i 0 5, jl_i 0 7, jl_i 0 30, jl_i 0 2147483647, jl_z 46, jl_r 3 (jl_t), jl_z 10]
noncomputable def ac_726 : AC := .inl (12, jl_n [jl_8 2 1, jl_6 2 1, jl_8 20 17, jl_6 3 1, jl_6 6 1, jl_1 26 4, jl_6 7 1, jl_6 5 1, jl_6 4 1, jl_6 10 2, jl_6 8 1, jl_6 11 1, jl_1 104 3, jl_8 46 10])
noncomputable def hq_616 : HP := [(true, ac_726), (false, ac_436), (false, .inr (1, [(5, (2, (-1), 4))])), (true, .inr (1, [(85, (2, (-2147483648), 2147483647))])), (true, .inr (1, [(85, (2, (-2147483648), 2147483647))])), (false, .inr (1, [(5, (2, (-2147483648), 2147483647))])), (true, .inr (1, [(85, (2, (-2147483648), 2147483647))])), (true, .inr (1, [(16, (2, (-2147483648), 2147483647))])), (true, .inr (1, [(80, (2, (-2147483648), 2147483647))])), (true, .inr (1, [(80, (2, (-1), 4))])), (true, .inr (1, [(5, (2, (-1), 4))]))]
noncomputable def con_1224 : Con2 := ((yX12_tryRow, cX12_tryRow, 4, none), (4, 97), ([(6, 0, 0)], gi_858, hc_181, []), [((9, 0, 0), gi_859, hq_616, [], [1, 1, 1, 1, 1, 1, 1, 1, 1, 1, 1, 1, 1, 1, 1, 1, 1, 1, 1, 1, 1, 1, 1, 1, 1, 1, 1, 1, 1, 1, 1, 1, 1, 1, 1, 1, 1, 1, 1, 1, 1, 1, 1, 1, 1])])
theorem hd_1224 : con_1224.1 = (yX12_tryRow, cX12_tryRow, 4, none) := rfl
theorem ck_RX12_390_1223 : COK2 RX12 vwCl gTbl 390 0 con_1223 := ⟨wd_2006, wd_137, mh_X12_allLast, .inr (.inr ⟨rfl, wd_2003, wd_2005, wd_109, ⟨_, rfl, pd_X12_allLast⟩, 12, _, TX12, 45, rfl, rfl⟩)⟩
theorem ck_RX12_387_1222 : COK2 RX12 vwCl gTbl 387 0 con_1222 := ⟨wd_2002, wd_137, mh_X12_menIn, .inr (.inr ⟨rfl, wd_1999, wd_2001, wd_108, ⟨_, rfl, pd_X12_menIn⟩, 12, _, TX12, 45, rfl, rfl⟩)⟩
noncomputable def ct_1224 : CTB2 := [(1, 387, 0, con_1222, [0, 1, 2]), (12, 363, 0, con_1108, [0, 1, 3, 4, 2, 5, 6, 7, 8, 9]), (16, 390, 0, con_1223, [0, 1, 3])]
noncomputable def gi_860 : GI := jl_n [jl_z 22, jl_r 2 (jl_t), jl_r 2 (jl_m 0 4), jl_z 7, jl_m 2147483647 2147483646, jl_r 2 (jl_t), jl_z 10, jl_i 0 16, jl_i 0 3, jl_i 0 10, jl_i 0 5, jl_i 0 8, jl_i 0 5, jl_i 0 7, jl_i 0 30, jl_i 0 2147483647, jl_z 15, jl_i 0 16, jl_m 2147483646 2147483647, jl_i 0 5, jl_z 45]
noncomputable def ac_727 : AC := .inl (12, jl_n [jl_8 2 1, jl_6 2 1, jl_8 20 17, jl_6 3 1, jl_6 6 1, jl_1 26 4, jl_6 7 1, jl_6 5 1, jl_6 4 1, jl_6 10 2, jl_6 8 1, jl_6 11 1, jl_1 34 1, jl_c 0, jl_c 1000000000, jl_8 46 10])
noncomputable def hq_617 : HP := [(true, ac_727), (false, ac_436), (false, .inr (1, [(5, (2, (-1), 4))])), (true, .inr (1, [(85, (2, (-2147483648), 2147483647))])), (true, .inr (1, [(85, (2, (-2147483648), 2147483647))])), (false, .inr (1, [(5, (2, (-2147483648), 2147483647))])), (true, .inr (1, [(85, (2, (-2147483648), 2147483647))])), (true, .inr (1, [(16, (2, (-2147483648), 2147483647))])), (true, .inr (1, [(80, (2, (-2147483648), 2147483647))])), (true, .inr (1, [(80, (2, (-1), 4))])), (true, .inr (1, [(5, (2, (-1), 4))]))]
noncomputable def cu_1224 : List CUT2 := [((42, [(0, (6, 0, 0)), (1, (1, 70, 0)), (2, (1, 71, 0)), (3, (1, 72, 0))], [], gi_860, hq_617), [], ([(72, (-1))], 5))]
theorem ch_1224 : staG tb_X12_tryRow 1 bt_RX12 [] ct_1224 [] [] cu_1224 46 con_1224 = true := by decide +kernel
theorem cc_1224 : cu_1224.all (cutG tb_X12_tryRow 1 bt_RX12 [] ct_1224 [] [] cu_1224 46 con_1224) = true := by decide +kernel
theorem cto_1224 (l : Launch) : CTOK2 l RX12 vwCl gTbl ct_1224 := ct2_cons (vl_1222 l) ck_RX12_387_1222 (ct2_cons (vl_1108 l) ck_RX12_363_1108 (ct2_cons (vl_1223 l) ck_RX12_390_1223 (ct2_nil)))
theorem vl_1224 (l : Launch) : Vld2 l vwCl gTbl con_1224 := conR_ok3 gT_all (hd_1224) rfl pn_RX12 tk_X12_tryRow bo_RX12 xo_RX12 (cto_1224 l) ch_1224 (cut_all cc_1224)
/-- RookHustingModel fields -/
noncomputable def gi_861 : GI := jl_n [jl_z 46, jl_i 0 16, jl_i 0 3, jl_i 0 10, jl_z 1, jl_i 0 8, jl_i 0 5, jl_i 0 7, jl_i 0 30, jl_i 0 2147483647, jl_z 14]
noncomputable def ac_728 : AC := .inr (1, jl_n [js_1 49 3, jl_x (1, (0, 5, 0)), js_1 55 5, js_2 10 0 300, js_2 16 0 4, js_2 10 0 40, js_2 1 0 9, js_2 1 0 5, js_2 5 0 4, js_2 1 0 9, js_2 1 0 5, js_2 5 0 4, js_2 1 0 9, js_2 1 0 5, js_2 5 0 4, js_2 1 0 9, js_2 1 0 5, js_2 5 0 4, js_2 1 0 9, js_2 1 0 5, js_2 5 0 4, js_2 1 0 9, js_2 1 0 5, js_2 5 0 4, js_2 1 0 9, js_2 1 0 5, js_2 5 0 4, jl_x (30, (12, 0, 0))])
noncomputable def gi_862 : GI := jl_n [jl_z 46, jl_i 0 16, jl_i 0 3, jl_i 0 10, jl_z 1, jl_i 0 8, jl_i 0 5, jl_i 0 7, jl_i 0 30, jl_i 0 2147483647, jl_z 15]
noncomputable def con_1225 : Con2 := ((yX12_fields, cX12_fields, 1, (some .int)), (0, 0), ([(6, 0, 0)], gi_861, [ac_435, ac_728], []), [((0, 5, 0), gi_862, [(false, ac_435), (false, ac_728)], [], [1])])
theorem hd_1225 : con_1225.1 = (yX12_fields, cX12_fields, 1, (some .int)) := rfl
noncomputable def ct_1225 : CTB2 := []
noncomputable def cu_1225 : List CUT2 := []
theorem ch_1225 : staG tb_X12_fields 1 bt_RX12 [] ct_1225 [] [] cu_1225 7 con_1225 = true := by decide +kernel
theorem cto_1225 (l : Launch) : CTOK2 l RX12 vwCl gTbl ct_1225 := ct2_nil
theorem vl_1225 (l : Launch) : Vld2 l vwCl gTbl con_1225 := conR_ok3 gT_all (hd_1225) rfl pn_RX12 tk_X12_fields bo_RX12 xo_RX12 (cto_1225 l) ch_1225 cut_nil
/-- RookHustingModel fields -/
noncomputable def ac_729 : AC := .inr (1, jl_n [js_1 49 3, jl_x (1, (0, 4, 0)), js_1 55 5, js_2 10 0 300, js_2 16 0 4, js_2 10 0 40, js_2 1 0 9, js_2 1 0 5, js_2 5 0 4, js_2 1 0 9, js_2 1 0 5, js_2 5 0 4, js_2 1 0 9, js_2 1 0 5, js_2 5 0 4, js_2 1 0 9, js_2 1 0 5, js_2 5 0 4, js_2 1 0 9, js_2 1 0 5, js_2 5 0 4, js_2 1 0 9, js_2 1 0 5, js_2 5 0 4, js_2 1 0 9, js_2 1 0 5, js_2 5 0 4, jl_x (30, (12, 0, 0))])
noncomputable def con_1226 : Con2 := ((yX12_fields, cX12_fields, 1, (some .int)), (0, 0), ([(6, 0, 0)], gi_861, [ac_435, ac_729], []), [((0, 4, 0), gi_862, [(false, ac_435), (false, ac_729)], [], [1])])
theorem hd_1226 : con_1226.1 = (yX12_fields, cX12_fields, 1, (some .int)) := rfl
noncomputable def ct_1226 : CTB2 := []
noncomputable def cu_1226 : List CUT2 := []
theorem ch_1226 : staG tb_X12_fields 1 bt_RX12 [] ct_1226 [] [] cu_1226 7 con_1226 = true := by decide +kernel
theorem cto_1226 (l : Launch) : CTOK2 l RX12 vwCl gTbl ct_1226 := ct2_nil
theorem vl_1226 (l : Launch) : Vld2 l vwCl gTbl con_1226 := conR_ok3 gT_all (hd_1226) rfl pn_RX12 tk_X12_fields bo_RX12 xo_RX12 (cto_1226 l) ch_1226 cut_nil
/-- RookHustingModel fields -/
noncomputable def ac_730 : AC := .inr (1, jl_n [js_1 49 3, jl_x (1, (0, 3, 0)), js_1 55 5, js_2 10 0 300, js_2 16 0 4, js_2 10 0 40, js_2 1 0 9, js_2 1 0 5, js_2 5 0 4, js_2 1 0 9, js_2 1 0 5, js_2 5 0 4, js_2 1 0 9, js_2 1 0 5, js_2 5 0 4, js_2 1 0 9, js_2 1 0 5, js_2 5 0 4, js_2 1 0 9, js_2 1 0 5, js_2 5 0 4, js_2 1 0 9, js_2 1 0 5, js_2 5 0 4, js_2 1 0 9, js_2 1 0 5, js_2 5 0 4, jl_x (30, (12, 0, 0))])
noncomputable def con_1227 : Con2 := ((yX12_fields, cX12_fields, 1, (some .int)), (0, 0), ([(6, 0, 0)], gi_861, [ac_435, ac_730], []), [((0, 3, 0), gi_862, [(false, ac_435), (false, ac_730)], [], [1])])
theorem hd_1227 : con_1227.1 = (yX12_fields, cX12_fields, 1, (some .int)) := rfl
noncomputable def ct_1227 : CTB2 := []
noncomputable def cu_1227 : List CUT2 := []
theorem ch_1227 : staG tb_X12_fields 1 bt_RX12 [] ct_1227 [] [] cu_1227 7 con_1227 = true := by decide +kernel
theorem cto_1227 (l : Launch) : CTOK2 l RX12 vwCl gTbl ct_1227 := ct2_nil
theorem vl_1227 (l : Launch) : Vld2 l vwCl gTbl con_1227 := conR_ok3 gT_all (hd_1227) rfl pn_RX12 tk_X12_fields bo_RX12 xo_RX12 (cto_1227 l) ch_1227 cut_nil
/-- RookHustingModel fields -/
noncomputable def ac_731 : AC := .inr (1, jl_n [js_1 49 3, jl_x (1, (0, 2, 0)), js_1 55 5, js_2 10 0 300, js_2 16 0 4, js_2 10 0 40, js_2 1 0 9, js_2 1 0 5, js_2 5 0 4, js_2 1 0 9, js_2 1 0 5, js_2 5 0 4, js_2 1 0 9, js_2 1 0 5, js_2 5 0 4, js_2 1 0 9, js_2 1 0 5, js_2 5 0 4, js_2 1 0 9, js_2 1 0 5, js_2 5 0 4, js_2 1 0 9, js_2 1 0 5, js_2 5 0 4, js_2 1 0 9, js_2 1 0 5, js_2 5 0 4, jl_x (30, (12, 0, 0))])
noncomputable def con_1228 : Con2 := ((yX12_fields, cX12_fields, 1, (some .int)), (0, 0), ([(6, 0, 0)], gi_861, [ac_435, ac_731], []), [((0, 2, 0), gi_862, [(false, ac_435), (false, ac_731)], [], [1])])
theorem hd_1228 : con_1228.1 = (yX12_fields, cX12_fields, 1, (some .int)) := rfl
noncomputable def ct_1228 : CTB2 := []
noncomputable def cu_1228 : List CUT2 := []
theorem ch_1228 : staG tb_X12_fields 1 bt_RX12 [] ct_1228 [] [] cu_1228 7 con_1228 = true := by decide +kernel
theorem cto_1228 (l : Launch) : CTOK2 l RX12 vwCl gTbl ct_1228 := ct2_nil
theorem vl_1228 (l : Launch) : Vld2 l vwCl gTbl con_1228 := conR_ok3 gT_all (hd_1228) rfl pn_RX12 tk_X12_fields bo_RX12 xo_RX12 (cto_1228 l) ch_1228 cut_nil
/-- RookHustingModel fields -/
noncomputable def ac_732 : AC := .inr (1, jl_n [js_1 49 3, jl_x (1, (0, 1, 0)), js_1 55 5, js_2 10 0 300, js_2 16 0 4, js_2 10 0 40, js_2 1 0 9, js_2 1 0 5, js_2 5 0 4, js_2 1 0 9, js_2 1 0 5, js_2 5 0 4, js_2 1 0 9, js_2 1 0 5, js_2 5 0 4, js_2 1 0 9, js_2 1 0 5, js_2 5 0 4, js_2 1 0 9, js_2 1 0 5, js_2 5 0 4, js_2 1 0 9, js_2 1 0 5, js_2 5 0 4, js_2 1 0 9, js_2 1 0 5, js_2 5 0 4, jl_x (30, (12, 0, 0))])
noncomputable def con_1229 : Con2 := ((yX12_fields, cX12_fields, 1, (some .int)), (0, 0), ([(6, 0, 0)], gi_861, [ac_435, ac_732], []), [((0, 1, 0), gi_862, [(false, ac_435), (false, ac_732)], [], [1])])
theorem hd_1229 : con_1229.1 = (yX12_fields, cX12_fields, 1, (some .int)) := rfl
noncomputable def ct_1229 : CTB2 := []
noncomputable def cu_1229 : List CUT2 := []
theorem ch_1229 : staG tb_X12_fields 1 bt_RX12 [] ct_1229 [] [] cu_1229 7 con_1229 = true := by decide +kernel
theorem cto_1229 (l : Launch) : CTOK2 l RX12 vwCl gTbl ct_1229 := ct2_nil
theorem vl_1229 (l : Launch) : Vld2 l vwCl gTbl con_1229 := conR_ok3 gT_all (hd_1229) rfl pn_RX12 tk_X12_fields bo_RX12 xo_RX12 (cto_1229 l) ch_1229 cut_nil
/-- RookHustingModel fields -/
noncomputable def ac_733 : AC := .inr (1, jl_n [js_1 49 3, jl_x (1, (0, 0, 0)), js_1 55 5, js_2 10 0 300, js_2 16 0 4, js_2 10 0 40, js_2 1 0 9, js_2 1 0 5, js_2 5 0 4, js_2 1 0 9, js_2 1 0 5, js_2 5 0 4, js_2 1 0 9, js_2 1 0 5, js_2 5 0 4, js_2 1 0 9, js_2 1 0 5, js_2 5 0 4, js_2 1 0 9, js_2 1 0 5, js_2 5 0 4, js_2 1 0 9, js_2 1 0 5, js_2 5 0 4, js_2 1 0 9, js_2 1 0 5, js_2 5 0 4, jl_x (30, (12, 0, 0))])
noncomputable def con_1230 : Con2 := ((yX12_fields, cX12_fields, 1, (some .int)), (0, 0), ([(6, 0, 0)], gi_861, [ac_435, ac_733], []), [((0, 0, 0), gi_862, [(false, ac_435), (false, ac_733)], [], [1])])
theorem hd_1230 : con_1230.1 = (yX12_fields, cX12_fields, 1, (some .int)) := rfl
noncomputable def ct_1230 : CTB2 := []
noncomputable def cu_1230 : List CUT2 := []
theorem ch_1230 : staG tb_X12_fields 1 bt_RX12 [] ct_1230 [] [] cu_1230 7 con_1230 = true := by decide +kernel
theorem cto_1230 (l : Launch) : CTOK2 l RX12 vwCl gTbl ct_1230 := ct2_nil
theorem vl_1230 (l : Launch) : Vld2 l vwCl gTbl con_1230 := conR_ok3 gT_all (hd_1230) rfl pn_RX12 tk_X12_fields bo_RX12 xo_RX12 (cto_1230 l) ch_1230 cut_nil
/-- RookHustingModel nextRow -/
noncomputable def gi_863 : GI := jl_n [jl_z 46, jl_i 0 16, jl_i 0 3, jl_i 0 10, jl_i 0 5, jl_i 0 8, jl_i 0 5, jl_i 0 7, jl_i 0 30, jl_i 0 2147483647, jl_z 14, jl_r 5 (jl_m 0 4)]
noncomputable def ac_734 : AC := .inr (1, jl_n [js_1 74 5])
noncomputable def gi_864 : GI := jl_n [jl_z 46, jl_i 0 16, jl_i 0 3, jl_i 0 10, jl_z 1, jl_i 0 8, jl_i 0 5, jl_i 0 7, jl_i 0 30, jl_i 0 2147483647, jl_z 14, jl_r 5 (jl_m 0 4), jl_z 1]
noncomputable def gi_865 : GI := jl_n [jl_z 46, jl_i 0 16, jl_i 0 3, jl_i 0 10, jl_i 1 1, jl_i 0 8, jl_i 0 5, jl_i 0 7, jl_i 0 30, jl_i 0 2147483647, jl_z 14, jl_r 5 (jl_m 0 4), jl_z 6]
noncomputable def ac_735 : AC := .inr (1, jl_n [jl_x (1, (0, (-1), 0)), js_1 74 4])
noncomputable def gi_866 : GI := jl_n [jl_z 46, jl_i 0 16, jl_i 0 3, jl_i 0 10, jl_i 2 2, jl_i 0 8, jl_i 0 5, jl_i 0 7, jl_i 0 30, jl_i 0 2147483647, jl_z 14, jl_r 5 (jl_m 0 4), jl_z 6]
noncomputable def ac_736 : AC := .inr (1, jl_n [jl_x (1, (0, (-1), 0)), jl_x (1, (0, (-1), 0)), js_1 74 3])
noncomputable def gi_867 : GI := jl_n [jl_z 46, jl_i 0 16, jl_i 0 3, jl_i 0 10, jl_i 3 3, jl_i 0 8, jl_i 0 5, jl_i 0 7, jl_i 0 30, jl_i 0 2147483647, jl_z 14, jl_r 5 (jl_m 0 4), jl_z 6]
noncomputable def ac_737 : AC := .inr (1, jl_n [jl_x (1, (0, (-1), 0)), jl_x (1, (0, (-1), 0)), jl_x (1, (0, (-1), 0)), js_1 74 2])
noncomputable def gi_868 : GI := jl_n [jl_z 46, jl_i 0 16, jl_i 0 3, jl_i 0 10, jl_i 4 4, jl_i 0 8, jl_i 0 5, jl_i 0 7, jl_i 0 30, jl_i 0 2147483647, jl_z 14, jl_r 5 (jl_m 0 4), jl_z 6]
noncomputable def ac_738 : AC := .inr (1, jl_n [jl_x (1, (0, (-1), 0)), jl_x (1, (0, (-1), 0)), jl_x (1, (0, (-1), 0)), jl_x (1, (0, (-1), 0)), js_1 74 1])
noncomputable def gi_869 : GI := jl_n [jl_z 46, jl_i 0 16, jl_i 0 3, jl_i 0 10, jl_i 5 5, jl_i 0 8, jl_i 0 5, jl_i 0 7, jl_i 0 30, jl_i 0 2147483647, jl_z 14, jl_r 5 (jl_m 0 4), jl_z 6]
noncomputable def ac_739 : AC := .inr (1, jl_n [jl_x (1, (0, (-1), 0)), jl_x (1, (0, (-1), 0)), jl_x (1, (0, (-1), 0)), jl_x (1, (0, (-1), 0)), jl_x (1, (0, (-1), 0))])
noncomputable def gi_870 : GI := jl_n [jl_z 46, jl_i 0 16, jl_i 0 3, jl_i 0 10, jl_i 1 1, jl_i 0 8, jl_i 1 5, jl_i 0 7, jl_i 0 30, jl_i 0 2147483647, jl_z 14, jl_m 0 3, jl_r 4 (jl_m 0 4), jl_z 6]
noncomputable def ac_740 : AC := .inr (1, jl_n [jl_x (1, (1, 69, 1)), js_1 74 4])
noncomputable def gi_871 : GI := jl_n [jl_z 46, jl_i 0 16, jl_i 0 3, jl_i 0 10, jl_i 2 2, jl_i 0 8, jl_i 1 5, jl_i 0 7, jl_i 0 30, jl_i 0 2147483647, jl_z 14, jl_m 0 3, jl_r 4 (jl_m 0 4), jl_z 6]
noncomputable def ac_741 : AC := .inr (1, jl_n [jl_x (1, (1, 69, 1)), jl_x (1, (0, (-1), 0)), js_1 74 3])
noncomputable def gi_872 : GI := jl_n [jl_z 46, jl_i 0 16, jl_i 0 3, jl_i 0 10, jl_i 3 3, jl_i 0 8, jl_i 1 5, jl_i 0 7, jl_i 0 30, jl_i 0 2147483647, jl_z 14, jl_m 0 3, jl_r 4 (jl_m 0 4), jl_z 6]
noncomputable def ac_742 : AC := .inr (1, jl_n [jl_x (1, (1, 69, 1)), jl_x (1, (0, (-1), 0)), jl_x (1, (0, (-1), 0)), js_1 74 2])
noncomputable def gi_873 : GI := jl_n [jl_z 46, jl_i 0 16, jl_i 0 3, jl_i 0 10, jl_i 4 4, jl_i 0 8, jl_i 1 5, jl_i 0 7, jl_i 0 30, jl_i 0 2147483647, jl_z 14, jl_m 0 3, jl_r 4 (jl_m 0 4), jl_z 6]
noncomputable def ac_743 : AC := .inr (1, jl_n [jl_x (1, (1, 69, 1)), jl_x (1, (0, (-1), 0)), jl_x (1, (0, (-1), 0)), jl_x (1, (0, (-1), 0)), js_1 74 1])
noncomputable def gi_874 : GI := jl_n [jl_z 46, jl_i 0 16, jl_i 0 3, jl_i 0 10, jl_i 5 5, jl_i 0 8, jl_i 1 5, jl_i 0 7, jl_i 0 30, jl_i 0 2147483647, jl_z 14, jl_m 0 3, jl_r 4 (jl_m 0 4), jl_z 6]
noncomputable def ac_744 : AC := .inr (1, jl_n [jl_x (1, (1, 69, 1)), jl_x (1, (0, (-1), 0)), jl_x (1, (0, (-1), 0)), jl_x (1, (0, (-1), 0)), jl_x (1, (0, (-1), 0))])
noncomputable def gi_875 : GI := jl_n [jl_z 46, jl_i 0 16, jl_i 0 3, jl_i 0 10, jl_i 2 2, jl_i 0 8, jl_i 1 5, jl_i 0 7, jl_i 0 30, jl_i 0 2147483647, jl_z 14, jl_m 0 4, jl_m 0 3, jl_r 3 (jl_m 0 4), jl_z 6]
noncomputable def ac_745 : AC := .inr (1, jl_n [js_1 70 1, jl_x (1, (1, 70, 1)), js_1 74 3])
noncomputable def gi_876 : GI := jl_n [jl_z 46, jl_i 0 16, jl_i 0 3, jl_i 0 10, jl_i 3 3, jl_i 0 8, jl_i 1 5, jl_i 0 7, jl_i 0 30, jl_i 0 2147483647, jl_z 14, jl_m 0 4, jl_m 0 3, jl_r 3 (jl_m 0 4), jl_z 6]
noncomputable def ac_746 : AC := .inr (1, jl_n [js_1 70 1, jl_x (1, (1, 70, 1)), jl_x (1, (0, (-1), 0)), js_1 74 2])
noncomputable def gi_877 : GI := jl_n [jl_z 46, jl_i 0 16, jl_i 0 3, jl_i 0 10, jl_i 4 4, jl_i 0 8, jl_i 1 5, jl_i 0 7, jl_i 0 30, jl_i 0 2147483647, jl_z 14, jl_m 0 4, jl_m 0 3, jl_r 3 (jl_m 0 4), jl_z 6]
noncomputable def ac_747 : AC := .inr (1, jl_n [js_1 70 1, jl_x (1, (1, 70, 1)), jl_x (1, (0, (-1), 0)), jl_x (1, (0, (-1), 0)), js_1 74 1])
noncomputable def gi_878 : GI := jl_n [jl_z 46, jl_i 0 16, jl_i 0 3, jl_i 0 10, jl_i 5 5, jl_i 0 8, jl_i 1 5, jl_i 0 7, jl_i 0 30, jl_i 0 2147483647, jl_z 14, jl_m 0 4, jl_m 0 3, jl_r 3 (jl_m 0 4), jl_z 6]
noncomputable def ac_748 : AC := .inr (1, jl_n [js_1 70 1, jl_x (1, (1, 70, 1)), jl_x (1, (0, (-1), 0)), jl_x (1, (0, (-1), 0)), jl_x (1, (0, (-1), 0))])
noncomputable def gi_879 : GI := jl_n [jl_z 46, jl_i 0 16, jl_i 0 3, jl_i 0 10, jl_i 3 3, jl_i 0 8, jl_i 1 5, jl_i 0 7, jl_i 0 30, jl_i 0 2147483647, jl_z 14, jl_r 2 (jl_m 0 4), jl_m 0 3, jl_r 2 (jl_m 0 4), jl_z 6]
noncomputable def ac_749 : AC := .inr (1, jl_n [js_1 71 2, jl_x (1, (1, 71, 1)), js_1 74 2])
noncomputable def gi_880 : GI := jl_n [jl_z 46, jl_i 0 16, jl_i 0 3, jl_i 0 10, jl_i 4 4, jl_i 0 8, jl_i 1 5, jl_i 0 7, jl_i 0 30, jl_i 0 2147483647, jl_z 14, jl_r 2 (jl_m 0 4), jl_m 0 3, jl_r 2 (jl_m 0 4), jl_z 6]
noncomputable def ac_750 : AC := .inr (1, jl_n [js_1 71 2, jl_x (1, (1, 71, 1)), jl_x (1, (0, (-1), 0)), js_1 74 1])
noncomputable def gi_881 : GI := jl_n [jl_z 46, jl_i 0 16, jl_i 0 3, jl_i 0 10, jl_i 5 5, jl_i 0 8, jl_i 1 5, jl_i 0 7, jl_i 0 30, jl_i 0 2147483647, jl_z 14, jl_r 2 (jl_m 0 4), jl_m 0 3, jl_r 2 (jl_m 0 4), jl_z 6]
noncomputable def ac_751 : AC := .inr (1, jl_n [js_1 71 2, jl_x (1, (1, 71, 1)), jl_x (1, (0, (-1), 0)), jl_x (1, (0, (-1), 0))])
noncomputable def gi_882 : GI := jl_n [jl_z 46, jl_i 0 16, jl_i 0 3, jl_i 0 10, jl_i 4 4, jl_i 0 8, jl_i 1 5, jl_i 0 7, jl_i 0 30, jl_i 0 2147483647, jl_z 14, jl_r 3 (jl_m 0 4), jl_m 0 3, jl_m 0 4, jl_z 6]
noncomputable def ac_752 : AC := .inr (1, jl_n [js_1 72 3, jl_x (1, (1, 72, 1)), js_1 74 1])
noncomputable def gi_883 : GI := jl_n [jl_z 46, jl_i 0 16, jl_i 0 3, jl_i 0 10, jl_i 5 5, jl_i 0 8, jl_i 1 5, jl_i 0 7, jl_i 0 30, jl_i 0 2147483647, jl_z 14, jl_r 3 (jl_m 0 4), jl_m 0 3, jl_m 0 4, jl_z 6]
noncomputable def ac_753 : AC := .inr (1, jl_n [js_1 72 3, jl_x (1, (1, 72, 1)), jl_x (1, (0, (-1), 0))])
noncomputable def gi_884 : GI := jl_n [jl_z 46, jl_i 0 16, jl_i 0 3, jl_i 0 10, jl_i 5 5, jl_i 0 8, jl_i 1 5, jl_i 0 7, jl_i 0 30, jl_i 0 2147483647, jl_z 14, jl_r 4 (jl_m 0 4), jl_m 0 3, jl_z 6]
noncomputable def ac_754 : AC := .inr (1, jl_n [js_1 73 4, jl_x (1, (1, 73, 1))])
noncomputable def con_1231 : Con2 := ((yX12_nextRow, cX12_nextRow, 2, (some .boolean)), (1, 20), ([(6, 0, 0)], gi_863, [ac_723, ac_436, ac_734], []), [((0, 0, 0), gi_864, [(false, ac_723), (false, ac_436), (false, ac_734)], [], [1]), ((0, 0, 0), gi_865, [(false, ac_723), (false, ac_436), (true, ac_735)], [], [1, 1, 1, 1, 1, 1]), ((0, 0, 0), gi_866, [(false, ac_723), (false, ac_436), (true, ac_736)], [], [1, 1, 1, 1, 1, 1]), ((0, 0, 0), gi_867, [(false, ac_723), (false, ac_436), (true, ac_737)], [], [1, 1, 1, 1, 1, 1]), ((0, 0, 0), gi_868, [(false, ac_723), (false, ac_436), (true, ac_738)], [], [1, 1, 1, 1, 1, 1]), ((0, 0, 0), gi_869, [(false, ac_723), (false, ac_436), (true, ac_739)], [], [1, 1, 1, 1, 1, 1]), ((0, 1, 0), gi_870, [(false, ac_723), (false, ac_436), (true, ac_740)], [], [1, 1, 1, 1, 1, 1]), ((0, 1, 0), gi_871, [(false, ac_723), (false, ac_436), (true, ac_741)], [], [1, 1, 1, 1, 1, 1]), ((0, 1, 0), gi_872, [(false, ac_723), (false, ac_436), (true, ac_742)], [], [1, 1, 1, 1, 1, 1]), ((0, 1, 0), gi_873, [(false, ac_723), (false, ac_436), (true, ac_743)], [], [1, 1, 1, 1, 1, 1]), ((0, 1, 0), gi_874, [(false, ac_723), (false, ac_436), (true, ac_744)], [], [1, 1, 1, 1, 1, 1]), ((0, 1, 0), gi_875, [(false, ac_723), (false, ac_436), (true, ac_745)], [], [1, 1, 1, 1, 1, 1]), ((0, 1, 0), gi_876, [(false, ac_723), (false, ac_436), (true, ac_746)], [], [1, 1, 1, 1, 1, 1]), ((0, 1, 0), gi_877, [(false, ac_723), (false, ac_436), (true, ac_747)], [], [1, 1, 1, 1, 1, 1]), ((0, 1, 0), gi_878, [(false, ac_723), (false, ac_436), (true, ac_748)], [], [1, 1, 1, 1, 1, 1]), ((0, 1, 0), gi_879, [(false, ac_723), (false, ac_436), (true, ac_749)], [], [1, 1, 1, 1, 1, 1]), ((0, 1, 0), gi_880, [(false, ac_723), (false, ac_436), (true, ac_750)], [], [1, 1, 1, 1, 1, 1]), ((0, 1, 0), gi_881, [(false, ac_723), (false, ac_436), (true, ac_751)], [], [1, 1, 1, 1, 1, 1]), ((0, 1, 0), gi_882, [(false, ac_723), (false, ac_436), (true, ac_752)], [], [1, 1, 1, 1, 1, 1]), ((0, 1, 0), gi_883, [(false, ac_723), (false, ac_436), (true, ac_753)], [], [1, 1, 1, 1, 1, 1]), ((0, 1, 0), gi_884, [(false, ac_723), (false, ac_436), (true, ac_754)], [], [1, 1, 1, 1, 1, 1])])
theorem hd_1231 : con_1231.1 = (yX12_nextRow, cX12_nextRow, 2, (some .boolean)) := rfl
theorem ck_RX12_106_1230 : COK2 RX12 vwCl gTbl 106 0 con_1230 := ⟨wd_1660, wd_137, mh_X12_fields, .inr (.inr ⟨rfl, wd_1657, wd_1659, wd_67, ⟨_, rfl, pd_X12_fields⟩, 12, _, TX12, 45, rfl, rfl⟩)⟩
theorem ck_RX12_106_1229 : COK2 RX12 vwCl gTbl 106 0 con_1229 := ⟨wd_1660, wd_137, mh_X12_fields, .inr (.inr ⟨rfl, wd_1657, wd_1659, wd_67, ⟨_, rfl, pd_X12_fields⟩, 12, _, TX12, 45, rfl, rfl⟩)⟩
theorem ck_RX12_106_1228 : COK2 RX12 vwCl gTbl 106 0 con_1228 := ⟨wd_1660, wd_137, mh_X12_fields, .inr (.inr ⟨rfl, wd_1657, wd_1659, wd_67, ⟨_, rfl, pd_X12_fields⟩, 12, _, TX12, 45, rfl, rfl⟩)⟩
theorem ck_RX12_106_1227 : COK2 RX12 vwCl gTbl 106 0 con_1227 := ⟨wd_1660, wd_137, mh_X12_fields, .inr (.inr ⟨rfl, wd_1657, wd_1659, wd_67, ⟨_, rfl, pd_X12_fields⟩, 12, _, TX12, 45, rfl, rfl⟩)⟩
theorem ck_RX12_106_1226 : COK2 RX12 vwCl gTbl 106 0 con_1226 := ⟨wd_1660, wd_137, mh_X12_fields, .inr (.inr ⟨rfl, wd_1657, wd_1659, wd_67, ⟨_, rfl, pd_X12_fields⟩, 12, _, TX12, 45, rfl, rfl⟩)⟩
theorem ck_RX12_106_1225 : COK2 RX12 vwCl gTbl 106 0 con_1225 := ⟨wd_1660, wd_137, mh_X12_fields, .inr (.inr ⟨rfl, wd_1657, wd_1659, wd_67, ⟨_, rfl, pd_X12_fields⟩, 12, _, TX12, 45, rfl, rfl⟩)⟩
noncomputable def ct_1231 : CTB2 := [(1, 106, 0, con_1225, [0, 1]), (1, 106, 0, con_1226, [0, 1]), (1, 106, 0, con_1227, [0, 1]), (1, 106, 0, con_1228, [0, 1]), (1, 106, 0, con_1229, [0, 1]), (1, 106, 0, con_1230, [0, 1]), (18, 95, 0, con_655, [0, 1])]
noncomputable def cu_1231 : List CUT2 := []
theorem ch_1231 : staG tb_X12_nextRow 1 bt_RX12 [] ct_1231 [(0, [(1, (2, 1, 3), 0, 0)])] [] cu_1231 101 con_1231 = true := by decide +kernel
theorem cto_1231 (l : Launch) : CTOK2 l RX12 vwCl gTbl ct_1231 := ct2_cons (vl_1225 l) ck_RX12_106_1225 (ct2_cons (vl_1226 l) ck_RX12_106_1226 (ct2_cons (vl_1227 l) ck_RX12_106_1227 (ct2_cons (vl_1228 l) ck_RX12_106_1228 (ct2_cons (vl_1229 l) ck_RX12_106_1229 (ct2_cons (vl_1230 l) ck_RX12_106_1230 (ct2_cons (vl_655 l) ck_RX12_95_655 (ct2_nil)))))))
theorem vl_1231 (l : Launch) : Vld2 l vwCl gTbl con_1231 := conR_ok3 gT_all (hd_1231) rfl pn_RX12 tk_X12_nextRow bo_RX12 xo_RX12 (cto_1231 l) ch_1231 cut_nil
/-- RookHustingModel asksRows -/
noncomputable def gi_885 : GI := jl_n [jl_z 18, jl_i 0 128, jl_z 3, jl_r 2 (jl_t), jl_r 2 (jl_m 0 4), jl_z 7, jl_r 3 (jl_t), jl_z 10, jl_i 0 16, jl_i 0 3, jl_i 0 10, jl_i 0 5, jl_i 0 8, jl_i 0 5, jl_i 0 7, jl_i 0 30, jl_i 0 2147483647, jl_z 14, jl_r 5 (jl_m 0 4)]
noncomputable def ac_755 : AC := .inl (12, jl_n [jl_8 2 1, jl_6 2 1, jl_8 16 13, jl_6 4 1, jl_6 3 1, jl_1 19 1, jl_6 7 3, jl_1 26 4, jl_6 10 1, jl_6 9 1, jl_6 8 1, jl_6 13 2, jl_6 11 1, jl_6 14 1, jl_1 36 3, jl_8 46 10])
noncomputable def hc_182 : List AC := [ac_755, ac_436, .inr (1, [(7, (2, 0, 5))]), .inr (1, [(35, (2, 0, 4))]), .inr (1, [(5, (2, (-1), 4))]), ac_734, .inr (1, [(5, (2, (-2147483648), 2147483647))]), .inr (1, [(85, (2, (-2147483648), 2147483647))]), .inr (1, [(85, (2, (-2147483648), 2147483647))]), .inr (1, [(85, (2, (-2147483648), 2147483647))]), .inr (1, [(16, (2, (-2147483648), 2147483647))]), .inr (1, [(80, (2, (-2147483648), 2147483647))]), .inr (1, [(80, (2, (-1), 4))]), .inr (1, [(5, (2, (-1), 4))])]
noncomputable def gi_886 : GI := jl_n [jl_z 18, jl_i 0 128, jl_z 3, jl_r 2 (jl_t), jl_r 2 (jl_m 0 4), jl_z 7, jl_r 3 (jl_t), jl_z 10, jl_i 0 16, jl_i 0 3, jl_i 0 10, jl_i 0 5, jl_i 0 8, jl_i 0 5, jl_i 0 7, jl_i 0 30, jl_z 15, jl_r 5 (jl_m 0 4), jl_z 1]
noncomputable def hq_618 : HP := [(false, ac_755), (false, ac_436), (false, .inr (1, [(7, (2, 0, 5))])), (false, .inr (1, [(35, (2, 0, 4))])), (false, .inr (1, [(5, (2, (-1), 4))])), (false, ac_734), (false, .inr (1, [(5, (2, (-2147483648), 2147483647))])), (false, .inr (1, [(85, (2, (-2147483648), 2147483647))])), (false, .inr (1, [(85, (2, (-2147483648), 2147483647))])), (false, .inr (1, [(85, (2, (-2147483648), 2147483647))])), (false, .inr (1, [(16, (2, (-2147483648), 2147483647))])), (false, .inr (1, [(80, (2, (-2147483648), 2147483647))])), (false, .inr (1, [(80, (2, (-1), 4))])), (false, .inr (1, [(5, (2, (-1), 4))]))]
noncomputable def gi_887 : GI := jl_n [jl_z 18, jl_i 0 128, jl_z 3, jl_r 2 (jl_t), jl_r 2 (jl_m 0 4), jl_z 7, jl_r 3 (jl_t), jl_z 10, jl_i 0 16, jl_i 0 3, jl_i 0 10, jl_i 0 5, jl_i 0 8, jl_i 0 5, jl_i 0 7, jl_i 0 30, jl_i 1 2147483647, jl_z 14, jl_r 5 (jl_m 0 4), jl_z 33, jl_r 3 (jl_t), jl_z 10, jl_r 5 (jl_m 0 4)]
noncomputable def ac_756 : AC := .inl (12, jl_n [jl_8 2 1, jl_6 2 1, jl_8 16 13, jl_6 4 1, jl_6 3 1, jl_c 0, jl_6 7 3, jl_c 0, jl_c 0, jl_x (0, (-1), 0), jl_x (0, (-1), 0), jl_6 10 1, jl_6 9 1, jl_6 8 1, jl_6 13 2, jl_6 11 1, jl_6 14 1, jl_1 110 3, jl_8 46 10])
noncomputable def ac_757 : AC := .inr (1, jl_n [js_1 125 5])
noncomputable def hq_619 : HP := [(true, ac_756), (false, ac_436), (true, .inr (1, [(7, (2, 0, 5))])), (true, .inr (1, [(35, (2, 0, 4))])), (true, .inr (1, [(5, (2, (-1), 4))])), (true, ac_757), (true, .inr (1, [(5, (2, (-2147483648), 2147483647))])), (true, .inr (1, [(85, (2, (-2147483648), 2147483647))])), (true, .inr (1, [(85, (2, (-2147483648), 2147483647))])), (true, .inr (1, [(85, (2, (-2147483648), 2147483647))])), (true, .inr (1, [(16, (2, (-2147483648), 2147483647))])), (true, .inr (1, [(80, (2, (-2147483648), 2147483647))])), (true, .inr (1, [(80, (2, (-1), 4))])), (true, .inr (1, [(5, (2, (-1), 4))]))]
noncomputable def con_1232 : Con2 := ((yX12_asksRows, cX12_asksRows, 2, (some .boolean)), (8, 188), ([(6, 0, 0)], gi_885, hc_182, []), [((0, 0, 0), gi_886, hq_618, [], [1]), ((0, 1, 0), gi_887, hq_619, [], [1, 1, 1, 1, 1, 1, 1, 1, 1, 1, 1, 1, 1, 1, 1, 1, 1, 1, 1, 1, 1, 1, 1, 1, 1, 1, 1, 1, 1, 1, 1, 1, 1, 1, 1, 1, 1, 1, 1, 1, 1, 1, 1, 1, 1, 1, 1, 1, 1, 1, 1])])
theorem hd_1232 : con_1232.1 = (yX12_asksRows, cX12_asksRows, 2, (some .boolean)) := rfl
theorem ck_RX12_405_1231 : COK2 RX12 vwCl gTbl 405 0 con_1231 := ⟨wd_2010, wd_137, mh_X12_nextRow, .inr (.inr ⟨rfl, wd_2007, wd_2009, wd_110, ⟨_, rfl, pd_X12_nextRow⟩, 12, _, TX12, 45, rfl, rfl⟩)⟩
theorem ck_RX12_402_1224 : COK2 RX12 vwCl gTbl 402 0 con_1224 := ⟨wd_1998, wd_137, mh_X12_tryRow, .inr (.inr ⟨rfl, wd_1995, wd_1997, wd_107, ⟨_, rfl, pd_X12_tryRow⟩, 12, _, TX12, 45, rfl, rfl⟩)⟩
noncomputable def ct_1232 : CTB2 := [(1, 99, 0, con_673, [0, 1]), (10, 345, 0, con_905, [0, 1, 2, 3, 4, 5, 6]), (45, 402, 0, con_1224, [0, 1, 5, 7, 8, 6, 9, 10, 11, 12, 13]), (49, 405, 0, con_1231, [0, 1, 5])]
noncomputable def gi_888 : GI := jl_n [jl_z 18, jl_i 0 128, jl_z 3, jl_r 2 (jl_t), jl_r 2 (jl_m 0 4), jl_z 7, jl_r 3 (jl_t), jl_z 10, jl_i 0 16, jl_i 0 3, jl_i 0 10, jl_i 0 5, jl_i 0 8, jl_i 0 5, jl_i 0 7, jl_i 0 30, jl_i 1 2147483647, jl_z 14, jl_r 5 (jl_m 0 4), jl_z 34, jl_r 3 (jl_t), jl_z 10, jl_r 5 (jl_m 0 4)]
noncomputable def ac_758 : AC := .inl (12, jl_n [jl_8 2 1, jl_6 2 1, jl_8 16 13, jl_6 4 1, jl_6 3 1, jl_c 0, jl_6 7 3, jl_c 0, jl_c 0, jl_x (0, (-1), 0), jl_x (0, (-1), 0), jl_6 10 1, jl_6 9 1, jl_6 8 1, jl_6 13 2, jl_6 11 1, jl_6 14 1, jl_1 111 3, jl_8 46 10])
noncomputable def ac_759 : AC := .inr (1, jl_n [js_1 126 5])
noncomputable def hq_620 : HP := [(true, ac_758), (false, ac_436), (true, .inr (1, [(7, (2, 0, 5))])), (true, .inr (1, [(35, (2, 0, 4))])), (true, .inr (1, [(5, (2, (-1), 4))])), (true, ac_759), (true, .inr (1, [(5, (2, (-2147483648), 2147483647))])), (true, .inr (1, [(85, (2, (-2147483648), 2147483647))])), (true, .inr (1, [(85, (2, (-2147483648), 2147483647))])), (true, .inr (1, [(85, (2, (-2147483648), 2147483647))])), (true, .inr (1, [(16, (2, (-2147483648), 2147483647))])), (true, .inr (1, [(80, (2, (-2147483648), 2147483647))])), (true, .inr (1, [(80, (2, (-1), 4))])), (true, .inr (1, [(5, (2, (-1), 4))]))]
noncomputable def cu_1232 : List CUT2 := [((40, [(0, (6, 0, 0)), (1, (0, 1, 0))], [], gi_888, hq_620), [], ([(121, (-1296)), (122, (-216)), (123, (-36)), (124, (-6)), (125, (-1))], 10000)), ((40, [(0, (6, 0, 0)), (1, (0, 0, 0))], [], gi_888, hq_620), [], ([], 0))]
theorem ch_1232 : staG tb_X12_asksRows 1 bt_RX12 [] ct_1232 [] [] cu_1232 68 con_1232 = true := by decide +kernel
theorem cc_1232 : cu_1232.all (cutG tb_X12_asksRows 1 bt_RX12 [] ct_1232 [] [] cu_1232 68 con_1232) = true := by decide +kernel
theorem cto_1232 (l : Launch) : CTOK2 l RX12 vwCl gTbl ct_1232 := ct2_cons (vl_673 l) ck_RX12_99_673 (ct2_cons (vl_905 l) ck_RX12_345_905 (ct2_cons (vl_1224 l) ck_RX12_402_1224 (ct2_cons (vl_1231 l) ck_RX12_405_1231 (ct2_nil))))
theorem vl_1232 (l : Launch) : Vld2 l vwCl gTbl con_1232 := conR_ok3 gT_all (hd_1232) rfl pn_RX12 tk_X12_asksRows bo_RX12 xo_RX12 (cto_1232 l) ch_1232 (cut_all cc_1232)
/-- RookHustingModel best -/
noncomputable def gi_889 : GI := jl_n [jl_z 18, jl_i 0 128, jl_z 3, jl_r 2 (jl_t), jl_r 2 (jl_m 0 4), jl_z 7, jl_r 3 (jl_t), jl_z 10, jl_i 0 16, jl_i 0 3, jl_i 0 10, jl_i 0 5, jl_i 0 8, jl_i 0 5, jl_i 0 7, jl_i 0 30, jl_i 0 2147483647, jl_z 14]
noncomputable def hc_183 : List AC := [ac_755, ac_436, .inr (1, [(7, (2, 0, 5))]), .inr (1, [(35, (2, 0, 4))]), .inr (1, [(5, (2, (-1), 4))]), .inr (1, [(5, (2, (-1), 4))]), .inr (1, [(5, (2, (-2147483648), 2147483647))]), .inr (1, [(85, (2, (-2147483648), 2147483647))]), .inr (1, [(85, (2, (-2147483648), 2147483647))]), .inr (1, [(85, (2, (-2147483648), 2147483647))]), .inr (1, [(16, (2, (-2147483648), 2147483647))]), .inr (1, [(80, (2, (-2147483648), 2147483647))]), .inr (1, [(80, (2, (-1), 4))]), .inr (1, [(5, (2, (-1), 4))])]
noncomputable def gi_890 : GI := jl_n [jl_z 18, jl_i 0 128, jl_z 3, jl_r 2 (jl_t), jl_r 2 (jl_m 0 4), jl_z 7, jl_r 3 (jl_t), jl_z 10, jl_i 0 16, jl_i 0 3, jl_i 0 10, jl_i 0 5, jl_i 0 8, jl_i 0 5, jl_i 0 7, jl_i 0 30, jl_i 0 2147483647, jl_z 14, jl_t, jl_z 17, jl_i 0 128, jl_z 3, jl_r 2 (jl_t), jl_r 2 (jl_m 0 4), jl_z 7, jl_r 3 (jl_t), jl_z 10]
noncomputable def ac_760 : AC := .inl (12, jl_n [jl_8 2 1, jl_6 2 1, jl_8 16 13, jl_6 4 1, jl_6 3 1, jl_1 88 1, jl_6 7 3, jl_1 95 4, jl_6 10 1, jl_6 9 1, jl_6 8 1, jl_6 13 2, jl_6 11 1, jl_6 14 1, jl_1 105 3, jl_8 46 10])
noncomputable def hq_621 : HP := [(true, ac_760), (false, ac_436), (true, .inr (1, [(7, (2, 0, 5))])), (true, .inr (1, [(35, (2, 0, 4))])), (true, .inr (1, [(5, (2, (-1), 4))])), (true, .inr (1, [(5, (2, (-1), 4))])), (true, .inr (1, [(5, (2, (-2147483648), 2147483647))])), (true, .inr (1, [(85, (2, (-2147483648), 2147483647))])), (true, .inr (1, [(85, (2, (-2147483648), 2147483647))])), (true, .inr (1, [(85, (2, (-2147483648), 2147483647))])), (true, .inr (1, [(16, (2, (-2147483648), 2147483647))])), (true, .inr (1, [(80, (2, (-2147483648), 2147483647))])), (true, .inr (1, [(80, (2, (-1), 4))])), (true, .inr (1, [(5, (2, (-1), 4))]))]
noncomputable def con_1233 : Con2 := ((yX12_best, cX12_best, 1, (some .int)), (9, 209), ([(6, 0, 0)], gi_889, hc_183, []), [((1, 69, 0), gi_890, hq_621, [], [1, 1, 1, 1, 1, 1, 1, 1, 1, 1, 1, 1, 1, 1, 1, 1, 1, 1, 1, 1, 1, 1, 1, 1, 1, 1, 1, 1, 1, 1, 1, 1, 1, 1, 1, 1, 1, 1, 1, 1, 1, 1, 1, 1, 1, 1])])
theorem hd_1233 : con_1233.1 = (yX12_best, cX12_best, 1, (some .int)) := rfl
theorem ck_RX12_408_1232 : COK2 RX12 vwCl gTbl 408 0 con_1232 := ⟨wd_1994, wd_137, mh_X12_asksRows, .inr (.inr ⟨rfl, wd_1991, wd_1993, wd_106, ⟨_, rfl, pd_X12_asksRows⟩, 12, _, TX12, 45, rfl, rfl⟩)⟩
noncomputable def ct_1233 : CTB2 := [(1, 408, 0, con_1232, [0, 1, 2, 3, 4, 5, 6, 7, 8, 9, 10, 11, 12, 13])]
noncomputable def cu_1233 : List CUT2 := []
theorem ch_1233 : staG tb_X12_best 1 bt_RX12 [] ct_1233 [] [] cu_1233 9 con_1233 = true := by decide +kernel
theorem cto_1233 (l : Launch) : CTOK2 l RX12 vwCl gTbl ct_1233 := ct2_cons (vl_1232 l) ck_RX12_408_1232 (ct2_nil)
theorem vl_1233 (l : Launch) : Vld2 l vwCl gTbl con_1233 := conR_ok3 gT_all (hd_1233) rfl pn_RX12 tk_X12_best bo_RX12 xo_RX12 (cto_1233 l) ch_1233 cut_nil
/-- RookHusting put -/
noncomputable def gi_891 : GI := jl_n [jl_z 1, jl_t, jl_z 13, jl_i 0 1, jl_z 5, jl_i 0 16, jl_i 0 3, jl_z 1, jl_i 0 5, jl_z 1, jl_i 0 5, jl_i 0 7, jl_z 12, jl_t, jl_z 2, jl_i 0 30, jl_z 3, jl_r 30 (jl_i 0 1), jl_r 30 (jl_m 0 15), jl_z 7, jl_i 0 5, jl_i 0 16, jl_z 1, jl_r 3 (jl_t), jl_i 0 1, jl_z 6, jl_t, jl_z 7, jl_i 0 5, jl_i 0 16]
noncomputable def ac_761 : AC := .inl (11, jl_n [jl_8 4 2, jl_6 2 1, jl_8 7 2, jl_6 9 1, jl_6 4 1, jl_6 29 1, jl_6 16 1, jl_6 33 1, jl_6 28 1, jl_8 15 2, jl_1 16 1, jl_8 18 2])
noncomputable def ac_762 : AC := .inl (5, jl_n [jl_6 41 1, jl_1 121 4, jl_6 3 1, jl_6 29 1, jl_6 33 1])
noncomputable def ac_763 : AC := .inl (3, jl_n [jl_6 37 1, jl_6 35 2, jl_6 40 3, jl_6 36 1, jl_1 137 2])
noncomputable def hc_184 : List AC := [ac_761, .inl (9, [(6, 2, 0), (6, 11, 0)]), ac_514, .inl (7, [(6, 4, 0), (6, 5, 0), (6, 6, 0), (1, 40, 0)]), .inr (1, [(5, (2, (-1), 4))]), .inr (1, [(5, (2, (-2147483648), 2147483647))]), .inr (1, [(5, (2, (-2147483648), 2147483647))]), .inr (1, [(5, (2, (-2147483648), 2147483647))]), .inl (1, [(6, 2, 0), (8, 42, 0)]), .inr (1, [(35, (2, (-2147483648), 2147483647))]), .inr (1, [(7, (2, 0, 9))]), .inl (0, [(1, 43, 0), (6, 12, 0), (6, 13, 0), (6, 14, 0)]), ac_515, .inr (1, [(30, (2, 0, 4))]), ac_516, ac_517, .inr (1, [(5, (2, 0, 40))]), .inr (1, [(85, (2, (-2147483648), 2147483647))]), .inr (1, [(5, (2, 0, 300))]), .inr (1, [(85, (2, (-2147483648), 2147483647))]), .inr (1, [(5, (2, (-2147483648), 2147483647))]), .inr (1, [(85, (2, (-2147483648), 2147483647))]), .inr (1, [(5, (2, 0, 40))]), .inr (1, [(5, (2, 0, 9))]), .inr (1, [(85, (2, (-2147483648), 2147483647))]), .inr (1, [(85, (2, (-2147483648), 2147483647))]), .inr (1, [(85, (2, (-1), 4))]), ac_762, .inl (7, [(6, 29, 0), (6, 30, 0), (6, 31, 0), (1, 127, 0)]), .inr (1, [(5, (2, (-1), 4))]), .inr (1, [(5, (2, (-2147483648), 2147483647))]), .inr (1, [(5, (2, (-2147483648), 2147483647))]), ac_763, .inr (1, [(85, (2, (-2147483648), 2147483647))]), .inr (1, [(85, (2, (-2147483648), 2147483647))]), .inr (1, [(5, (2, (-2147483648), 2147483647))]), .inr (1, [(85, (2, (-2147483648), 2147483647))]), .inr (1, [(85, (2, (-2147483648), 2147483647))]), .inr (1, [(85, (2, (-2147483648), 2147483647))]), .inr (1, [(85, (2, (-1), 4))]), .inr (1, [(5, (2, (-1), 4))])]
noncomputable def gi_892 : GI := jl_n [jl_z 1, jl_t, jl_z 13, jl_i 0 1, jl_z 5, jl_i 0 16, jl_i 0 3, jl_z 1, jl_i 0 5, jl_z 1, jl_i 0 5, jl_i 0 7, jl_z 12, jl_t, jl_z 2, jl_i 0 30, jl_z 3, jl_r 30 (jl_i 0 1), jl_r 30 (jl_m 0 15), jl_z 7, jl_i 0 5, jl_i 0 16, jl_z 1, jl_r 3 (jl_t), jl_i 0 1, jl_z 6, jl_t, jl_z 7, jl_i 0 5, jl_i 0 16, jl_m 1 4, jl_z 13, jl_i 0 1, jl_z 5, jl_t, jl_z 7, jl_i 0 5, jl_i 0 16, jl_z 1, jl_r 3 (jl_t), jl_i 0 1, jl_z 6, jl_t, jl_z 7, jl_i 0 5, jl_i 0 16]
noncomputable def ac_764 : AC := .inl (11, jl_n [jl_8 4 2, jl_6 2 1, jl_8 7 2, jl_6 9 1, jl_6 4 1, jl_6 29 1, jl_6 16 1, jl_6 33 1, jl_6 28 1, jl_8 15 2, jl_1 152 1, jl_8 18 2])
noncomputable def ac_765 : AC := .inl (3, jl_n [jl_6 22 1, jl_6 18 1, jl_6 20 1, jl_6 27 3, jl_6 21 1, jl_1 167 2])
noncomputable def ac_766 : AC := .inl (5, jl_n [jl_6 41 1, jl_1 172 4, jl_6 3 1, jl_6 29 1, jl_6 33 1])
noncomputable def ac_767 : AC := .inl (3, jl_n [jl_6 37 1, jl_6 35 2, jl_6 40 3, jl_6 36 1, jl_1 188 2])
noncomputable def hq_622 : HP := [(true, ac_764), (false, .inl (9, [(6, 2, 0), (6, 11, 0)])), (false, ac_514), (true, .inl (7, [(6, 4, 0), (6, 5, 0), (6, 6, 0), (1, 157, 0)])), (true, .inr (1, [(5, (2, (-1), 4))])), (true, .inr (1, [(5, (2, (-2147483648), 2147483647))])), (true, .inr (1, [(5, (2, (-2147483648), 2147483647))])), (false, .inr (1, [(5, (2, (-2147483648), 2147483647))])), (false, .inl (1, [(6, 2, 0), (8, 42, 0)])), (false, .inr (1, [(35, (2, (-2147483648), 2147483647))])), (false, .inr (1, [(7, (2, 0, 9))])), (false, .inl (0, [(1, 43, 0), (6, 12, 0), (6, 13, 0), (6, 14, 0)])), (false, ac_515), (false, .inr (1, [(30, (2, 0, 4))])), (false, ac_516), (true, ac_765), (false, .inr (1, [(5, (2, 0, 40))])), (true, .inr (1, [(85, (2, (-2147483648), 2147483647))])), (false, .inr (1, [(5, (2, 0, 300))])), (true, .inr (1, [(85, (2, (-2147483648), 2147483647))])), (true, .inr (1, [(5, (2, (-2147483648), 2147483647))])), (true, .inr (1, [(85, (2, (-2147483648), 2147483647))])), (false, .inr (1, [(5, (2, 0, 40))])), (false, .inr (1, [(5, (2, 0, 9))])), (true, .inr (1, [(85, (2, (-2147483648), 2147483647))])), (true, .inr (1, [(85, (2, (-2147483648), 2147483647))])), (true, .inr (1, [(85, (2, (-1), 4))])), (true, ac_766), (true, .inl (7, [(6, 29, 0), (6, 30, 0), (6, 31, 0), (1, 178, 0)])), (true, .inr (1, [(5, (2, (-1), 4))])), (true, .inr (1, [(5, (2, (-2147483648), 2147483647))])), (true, .inr (1, [(5, (2, (-2147483648), 2147483647))])), (true, ac_767), (true, .inr (1, [(85, (2, (-2147483648), 2147483647))])), (true, .inr (1, [(85, (2, (-2147483648), 2147483647))])), (true, .inr (1, [(5, (2, (-2147483648), 2147483647))])), (true, .inr (1, [(85, (2, (-2147483648), 2147483647))])), (true, .inr (1, [(85, (2, (-2147483648), 2147483647))])), (true, .inr (1, [(85, (2, (-2147483648), 2147483647))])), (true, .inr (1, [(85, (2, (-1), 4))])), (true, .inr (1, [(5, (2, (-1), 4))]))]
noncomputable def con_1234 : Con2 := ((yX11_put, cX11_put, 2, (some .int)), (11, 255), ([(6, 0, 0), (1, 1, 0)], gi_891, hc_184, rq_3), [((1, 137, 0), gi_892, hq_622, [], [1, 1, 1, 1, 1, 1, 1, 1, 1, 1, 1, 1, 1, 1, 1, 1, 1, 1, 1, 1, 1, 1, 1, 1, 1, 1, 1, 1, 1, 1, 1, 1, 1, 1, 1, 1, 1, 1, 1, 1, 1, 1, 1, 1, 1, 1, 1, 1, 1, 1, 1])])
theorem hd_1234 : con_1234.1 = (yX11_put, cX11_put, 2, (some .int)) := rfl
noncomputable def ct_1234 : CTB2 := [(2, 139, 0, con_643, [0, 1, 2]), (12, 208, 0, con_900, [0, 1, 3, 2, 4, 5, 6, 7, 8, 9, 10, 11, 12, 13, 14, 15, 16, 17, 18, 19, 20, 21, 22, 23, 24, 25, 26]), (23, 317, 0, con_1220, [27, 3, 28, 29, 4, 30, 5, 31, 6, 2, 32, 16, 33, 18, 34, 35, 36, 22, 23, 37, 38, 39, 40])]
noncomputable def cu_1234 : List CUT2 := []
theorem ch_1234 : staG tb_X11_put 1 bt_RX11 [] ct_1234 [] [] cu_1234 19 con_1234 = true := by decide +kernel
theorem cto_1234 (l : Launch) : CTOK2 l RX11 vwCl gTbl ct_1234 := ct2_cons (vl_643 l) ck_RX11_139_643 (ct2_cons (vl_900 l) ck_RX11_208_900 (ct2_cons (vl_1220 l) ck_RX11_317_1220 (ct2_nil)))
theorem vl_1234 (l : Launch) : Vld2 l vwCl gTbl con_1234 := conR_ok3 gT_all (hd_1234) rfl pn_RX11 tk_X11_put bo_RX11 xo_RX11 (cto_1234 l) ch_1234 cut_nil
/-- RookHustingModel put -/
noncomputable def gi_893 : GI := jl_n [jl_z 1, jl_t, jl_z 17, jl_i 0 128, jl_z 3, jl_r 2 (jl_t), jl_r 2 (jl_m 0 4), jl_z 7, jl_r 3 (jl_t), jl_z 10, jl_i 0 16, jl_i 0 3, jl_i 0 10, jl_i 0 5, jl_i 0 8, jl_i 0 5, jl_i 0 7, jl_i 0 30, jl_i 0 2147483647, jl_z 14]
noncomputable def ac_768 : AC := .inl (12, jl_n [jl_8 3 1, jl_6 2 1, jl_8 17 13, jl_6 4 1, jl_6 3 1, jl_1 20 1, jl_6 7 3, jl_1 27 4, jl_6 10 1, jl_6 9 1, jl_6 8 1, jl_6 13 2, jl_6 11 1, jl_6 14 1, jl_1 37 3, jl_8 47 10])
noncomputable def hc_185 : List AC := [ac_768, ac_438, .inr (1, [(7, (2, 0, 5))]), .inr (1, [(35, (2, 0, 4))]), .inr (1, [(5, (2, (-1), 4))]), .inr (1, [(5, (2, (-1), 4))]), .inr (1, [(5, (2, (-2147483648), 2147483647))]), .inr (1, [(85, (2, (-2147483648), 2147483647))]), .inr (1, [(85, (2, (-2147483648), 2147483647))]), .inr (1, [(85, (2, (-2147483648), 2147483647))]), .inr (1, [(16, (2, (-2147483648), 2147483647))]), .inr (1, [(80, (2, (-2147483648), 2147483647))]), .inr (1, [(80, (2, (-1), 4))]), .inr (1, [(5, (2, (-1), 4))])]
noncomputable def gi_894 : GI := jl_n [jl_z 1, jl_t, jl_z 17, jl_i 0 128, jl_z 3, jl_r 2 (jl_t), jl_r 2 (jl_m 0 4), jl_z 7, jl_r 3 (jl_t), jl_z 10, jl_i 0 16, jl_i 0 3, jl_i 0 10, jl_i 0 5, jl_i 0 8, jl_i 0 5, jl_i 0 7, jl_i 0 30, jl_i 0 2147483647, jl_z 14, jl_m 1 4, jl_z 17, jl_i 0 128, jl_z 3, jl_r 2 (jl_t), jl_r 2 (jl_m 0 4), jl_z 7, jl_r 3 (jl_t), jl_z 10]
noncomputable def ac_769 : AC := .inl (12, jl_n [jl_8 3 1, jl_6 2 1, jl_8 17 13, jl_6 4 1, jl_6 3 1, jl_1 89 1, jl_6 7 3, jl_1 96 4, jl_6 10 1, jl_6 9 1, jl_6 8 1, jl_6 13 2, jl_6 11 1, jl_6 14 1, jl_1 106 3, jl_8 47 10])
noncomputable def hq_623 : HP := [(true, ac_769), (false, ac_438), (true, .inr (1, [(7, (2, 0, 5))])), (true, .inr (1, [(35, (2, 0, 4))])), (true, .inr (1, [(5, (2, (-1), 4))])), (true, .inr (1, [(5, (2, (-1), 4))])), (true, .inr (1, [(5, (2, (-2147483648), 2147483647))])), (true, .inr (1, [(85, (2, (-2147483648), 2147483647))])), (true, .inr (1, [(85, (2, (-2147483648), 2147483647))])), (true, .inr (1, [(85, (2, (-2147483648), 2147483647))])), (true, .inr (1, [(16, (2, (-2147483648), 2147483647))])), (true, .inr (1, [(80, (2, (-2147483648), 2147483647))])), (true, .inr (1, [(80, (2, (-1), 4))])), (true, .inr (1, [(5, (2, (-1), 4))]))]
noncomputable def con_1235 : Con2 := ((yX12_put, cX12_put, 2, (some .int)), (9, 209), ([(6, 0, 0), (1, 1, 0)], gi_893, hc_185, []), [((1, 70, 0), gi_894, hq_623, [], [1, 1, 1, 1, 1, 1, 1, 1, 1, 1, 1, 1, 1, 1, 1, 1, 1, 1, 1, 1, 1, 1, 1, 1, 1, 1, 1, 1, 1, 1, 1, 1, 1, 1, 1, 1, 1, 1, 1, 1, 1, 1, 1, 1, 1, 1])])
theorem hd_1235 : con_1235.1 = (yX12_put, cX12_put, 2, (some .int)) := rfl
noncomputable def ct_1235 : CTB2 := [(3, 109, 0, con_647, [0, 1]), (10, 408, 0, con_1232, [0, 1, 2, 3, 4, 5, 6, 7, 8, 9, 10, 11, 12, 13])]
noncomputable def cu_1235 : List CUT2 := []
theorem ch_1235 : staG tb_X12_put 1 bt_RX12 [] ct_1235 [] [] cu_1235 16 con_1235 = true := by decide +kernel
theorem cto_1235 (l : Launch) : CTOK2 l RX12 vwCl gTbl ct_1235 := ct2_cons (vl_647 l) ck_RX12_109_647 (ct2_cons (vl_1232 l) ck_RX12_408_1232 (ct2_nil))
theorem vl_1235 (l : Launch) : Vld2 l vwCl gTbl con_1235 := conR_ok3 gT_all (hd_1235) rfl pn_RX12 tk_X12_put bo_RX12 xo_RX12 (cto_1235 l) ch_1235 cut_nil
/-- RookHusting ways -/
noncomputable def con_1236 : Con2 := ((yX11_ways, cX11_ways, 1, (some .int)), (11, 255), ([(6, 0, 0)], gi_854, hc_179, rq_2), [((1, 136, 0), gi_855, hq_613, [], [1, 1, 1, 1, 1, 1, 1, 1, 1, 1, 1, 1, 1, 1, 1, 1, 1, 1, 1, 1, 1, 1, 1, 1, 1, 1, 1, 1, 1, 1, 1, 1, 1, 1, 1, 1, 1, 1, 1, 1, 1, 1, 1, 1, 1, 1, 1, 1, 1, 1, 1])])
theorem hd_1236 : con_1236.1 = (yX11_ways, cX11_ways, 1, (some .int)) := rfl
noncomputable def ct_1236 : CTB2 := [(1, 219, 0, con_667, [0, 1, 2]), (11, 208, 0, con_900, [0, 1, 3, 2, 4, 5, 6, 7, 8, 9, 10, 11, 12, 13, 14, 15, 16, 17, 18, 19, 20, 21, 22, 23, 24, 25, 26]), (22, 317, 0, con_1220, [27, 3, 28, 29, 4, 30, 5, 31, 6, 2, 32, 16, 33, 18, 34, 35, 36, 22, 23, 37, 38, 39, 40])]
noncomputable def cu_1236 : List CUT2 := []
theorem ch_1236 : staG tb_X11_ways 1 bt_RX11 [] ct_1236 [] [] cu_1236 16 con_1236 = true := by decide +kernel
theorem cto_1236 (l : Launch) : CTOK2 l RX11 vwCl gTbl ct_1236 := ct2_cons (vl_667 l) ck_RX11_219_667 (ct2_cons (vl_900 l) ck_RX11_208_900 (ct2_cons (vl_1220 l) ck_RX11_317_1220 (ct2_nil)))
theorem vl_1236 (l : Launch) : Vld2 l vwCl gTbl con_1236 := conR_ok3 gT_all (hd_1236) rfl pn_RX11 tk_X11_ways bo_RX11 xo_RX11 (cto_1236 l) ch_1236 cut_nil
/-- RookHustingModel ways -/
noncomputable def con_1237 : Con2 := ((yX12_ways, cX12_ways, 1, (some .int)), (9, 209), ([(6, 0, 0)], gi_889, hc_183, []), [((1, 69, 0), gi_890, hq_621, [], [1, 1, 1, 1, 1, 1, 1, 1, 1, 1, 1, 1, 1, 1, 1, 1, 1, 1, 1, 1, 1, 1, 1, 1, 1, 1, 1, 1, 1, 1, 1, 1, 1, 1, 1, 1, 1, 1, 1, 1, 1, 1, 1, 1, 1, 1])])
theorem hd_1237 : con_1237.1 = (yX12_ways, cX12_ways, 1, (some .int)) := rfl
noncomputable def ct_1237 : CTB2 := [(1, 408, 0, con_1232, [0, 1, 2, 3, 4, 5, 6, 7, 8, 9, 10, 11, 12, 13])]
noncomputable def cu_1237 : List CUT2 := []
theorem ch_1237 : staG tb_X12_ways 1 bt_RX12 [] ct_1237 [] [] cu_1237 9 con_1237 = true := by decide +kernel
theorem cto_1237 (l : Launch) : CTOK2 l RX12 vwCl gTbl ct_1237 := ct2_cons (vl_1232 l) ck_RX12_408_1232 (ct2_nil)
theorem vl_1237 (l : Launch) : Vld2 l vwCl gTbl con_1237 := conR_ok3 gT_all (hd_1237) rfl pn_RX12 tk_X12_ways bo_RX12 xo_RX12 (cto_1237 l) ch_1237 cut_nil
/-- RookHusting fewest -/
noncomputable def con_1238 : Con2 := ((yX11_fewest, cX11_fewest, 1, (some .int)), (11, 255), ([(6, 0, 0)], gi_854, hc_179, rq_2), [((1, 136, 0), gi_855, hq_613, [], [1, 1, 1, 1, 1, 1, 1, 1, 1, 1, 1, 1, 1, 1, 1, 1, 1, 1, 1, 1, 1, 1, 1, 1, 1, 1, 1, 1, 1, 1, 1, 1, 1, 1, 1, 1, 1, 1, 1, 1, 1, 1, 1, 1, 1, 1, 1, 1, 1, 1, 1])])
theorem hd_1238 : con_1238.1 = (yX11_fewest, cX11_fewest, 1, (some .int)) := rfl
noncomputable def ct_1238 : CTB2 := [(1, 219, 0, con_667, [0, 1, 2]), (11, 208, 0, con_900, [0, 1, 3, 2, 4, 5, 6, 7, 8, 9, 10, 11, 12, 13, 14, 15, 16, 17, 18, 19, 20, 21, 22, 23, 24, 25, 26]), (22, 317, 0, con_1220, [27, 3, 28, 29, 4, 30, 5, 31, 6, 2, 32, 16, 33, 18, 34, 35, 36, 22, 23, 37, 38, 39, 40])]
noncomputable def cu_1238 : List CUT2 := []
theorem ch_1238 : staG tb_X11_fewest 1 bt_RX11 [] ct_1238 [] [] cu_1238 16 con_1238 = true := by decide +kernel
theorem cto_1238 (l : Launch) : CTOK2 l RX11 vwCl gTbl ct_1238 := ct2_cons (vl_667 l) ck_RX11_219_667 (ct2_cons (vl_900 l) ck_RX11_208_900 (ct2_cons (vl_1220 l) ck_RX11_317_1220 (ct2_nil)))
theorem vl_1238 (l : Launch) : Vld2 l vwCl gTbl con_1238 := conR_ok3 gT_all (hd_1238) rfl pn_RX11 tk_X11_fewest bo_RX11 xo_RX11 (cto_1238 l) ch_1238 cut_nil
/-- RookHustingModel fewest -/
noncomputable def con_1239 : Con2 := ((yX12_fewest, cX12_fewest, 1, (some .int)), (9, 209), ([(6, 0, 0)], gi_889, hc_183, []), [((1, 69, 0), gi_890, hq_621, [], [1, 1, 1, 1, 1, 1, 1, 1, 1, 1, 1, 1, 1, 1, 1, 1, 1, 1, 1, 1, 1, 1, 1, 1, 1, 1, 1, 1, 1, 1, 1, 1, 1, 1, 1, 1, 1, 1, 1, 1, 1, 1, 1, 1, 1, 1])])
theorem hd_1239 : con_1239.1 = (yX12_fewest, cX12_fewest, 1, (some .int)) := rfl
noncomputable def ct_1239 : CTB2 := [(1, 408, 0, con_1232, [0, 1, 2, 3, 4, 5, 6, 7, 8, 9, 10, 11, 12, 13])]
noncomputable def cu_1239 : List CUT2 := []
theorem ch_1239 : staG tb_X12_fewest 1 bt_RX12 [] ct_1239 [] [] cu_1239 9 con_1239 = true := by decide +kernel
theorem cto_1239 (l : Launch) : CTOK2 l RX12 vwCl gTbl ct_1239 := ct2_cons (vl_1232 l) ck_RX12_408_1232 (ct2_nil)
theorem vl_1239 (l : Launch) : Vld2 l vwCl gTbl con_1239 := conR_ok3 gT_all (hd_1239) rfl pn_RX12 tk_X12_fewest bo_RX12 xo_RX12 (cto_1239 l) ch_1239 cut_nil
/-- RookHusting$Acts playOn -/
noncomputable def hq_624 : HP := [(false, .inl (0, [(1, 3, 0), (6, 2, 0), (6, 3, 0), (6, 5, 0)])), (false, .inl (7, [(6, 6, 0), (6, 4, 0), (8, 9, 0), (8, 10, 0)])), (false, ac_494), (false, .inr (1, [(30, (2, 0, 4))])), (true, .inr (1, [(5, (2, (-2147483648), 2147483647))])), (false, ac_495), (false, .inr (1, [(5, (2, (-1), 4))]))]
noncomputable def con_1240 : Con2 := ((yX0_playOn, cX0_playOn, 4, none), (0, 0), ([(6, 0, 0), (6, 1, 0), (0, 0, 0)], gi_439, hc_98, rq_1), [((9, 0, 0), gi_439, hq_624, [], [])])
theorem hd_1240 : con_1240.1 = (yX0_playOn, cX0_playOn, 4, none) := rfl
noncomputable def ct_1240 : CTB2 := []
noncomputable def cu_1240_0 : List CUT2 := [((2, [(0, (6, 0, 0)), (1, (6, 1, 0)), (2, (0, 0, 0)), (3, (0, 0, 0))], [], gi_440, hq_489), rq_1, ([], 30)), ((2, [(0, (6, 0, 0)), (1, (6, 1, 0)), (2, (0, 0, 0)), (3, (0, 1, 0))], [], gi_441, hq_624), rq_1, ([], 29)), ((2, [(0, (6, 0, 0)), (1, (6, 1, 0)), (2, (0, 0, 0)), (3, (0, 2, 0))], [], gi_442, hq_624), rq_1, ([], 28)), ((2, [(0, (6, 0, 0)), (1, (6, 1, 0)), (2, (0, 0, 0)), (3, (0, 3, 0))], [], gi_443, hq_624), rq_1, ([], 27)), ((2, [(0, (6, 0, 0)), (1, (6, 1, 0)), (2, (0, 0, 0)), (3, (0, 4, 0))], [], gi_444, hq_624), rq_1, ([], 26)), ((2, [(0, (6, 0, 0)), (1, (6, 1, 0)), (2, (0, 0, 0)), (3, (0, 5, 0))], [], gi_445, hq_624), rq_1, ([], 25)), ((2, [(0, (6, 0, 0)), (1, (6, 1, 0)), (2, (0, 0, 0)), (3, (0, 6, 0))], [], gi_446, hq_624), rq_1, ([], 24)), ((2, [(0, (6, 0, 0)), (1, (6, 1, 0)), (2, (0, 0, 0)), (3, (0, 7, 0))], [], gi_447, hq_624), rq_1, ([], 23)), ((2, [(0, (6, 0, 0)), (1, (6, 1, 0)), (2, (0, 0, 0)), (3, (0, 8, 0))], [], gi_448, hq_624), rq_1, ([], 22)), ((2, [(0, (6, 0, 0)), (1, (6, 1, 0)), (2, (0, 0, 0)), (3, (0, 9, 0))], [], gi_449, hq_624), rq_1, ([], 21)), ((2, [(0, (6, 0, 0)), (1, (6, 1, 0)), (2, (0, 0, 0)), (3, (0, 10, 0))], [], gi_450, hq_624), rq_1, ([], 20)), ((2, [(0, (6, 0, 0)), (1, (6, 1, 0)), (2, (0, 0, 0)), (3, (0, 11, 0))], [], gi_451, hq_624), rq_1, ([], 19)), ((2, [(0, (6, 0, 0)), (1, (6, 1, 0)), (2, (0, 0, 0)), (3, (0, 12, 0))], [], gi_452, hq_624), rq_1, ([], 18)), ((2, [(0, (6, 0, 0)), (1, (6, 1, 0)), (2, (0, 0, 0)), (3, (0, 13, 0))], [], gi_453, hq_624), rq_1, ([], 17)), ((2, [(0, (6, 0, 0)), (1, (6, 1, 0)), (2, (0, 0, 0)), (3, (0, 14, 0))], [], gi_454, hq_624), rq_1, ([], 16)), ((2, [(0, (6, 0, 0)), (1, (6, 1, 0)), (2, (0, 0, 0)), (3, (0, 15, 0))], [], gi_455, hq_624), rq_1, ([], 15)), ((2, [(0, (6, 0, 0)), (1, (6, 1, 0)), (2, (0, 0, 0)), (3, (0, 16, 0))], [], gi_456, hq_624), rq_1, ([], 14)), ((2, [(0, (6, 0, 0)), (1, (6, 1, 0)), (2, (0, 0, 0)), (3, (0, 17, 0))], [], gi_457, hq_624), rq_1, ([], 13)), ((2, [(0, (6, 0, 0)), (1, (6, 1, 0)), (2, (0, 0, 0)), (3, (0, 18, 0))], [], gi_458, hq_624), rq_1, ([], 12)), ((2, [(0, (6, 0, 0)), (1, (6, 1, 0)), (2, (0, 0, 0)), (3, (0, 19, 0))], [], gi_459, hq_624), rq_1, ([], 11)), ((2, [(0, (6, 0, 0)), (1, (6, 1, 0)), (2, (0, 0, 0)), (3, (0, 20, 0))], [], gi_460, hq_624), rq_1, ([], 10)), ((2, [(0, (6, 0, 0)), (1, (6, 1, 0)), (2, (0, 0, 0)), (3, (0, 21, 0))], [], gi_461, hq_624), rq_1, ([], 9)), ((2, [(0, (6, 0, 0)), (1, (6, 1, 0)), (2, (0, 0, 0)), (3, (0, 22, 0))], [], gi_462, hq_624), rq_1, ([], 8)), ((2, [(0, (6, 0, 0)), (1, (6, 1, 0)), (2, (0, 0, 0)), (3, (0, 23, 0))], [], gi_463, hq_624), rq_1, ([], 7)), ((2, [(0, (6, 0, 0)), (1, (6, 1, 0)), (2, (0, 0, 0)), (3, (0, 24, 0))], [], gi_464, hq_624), rq_1, ([], 6))]
noncomputable def cu_1240_1 : List CUT2 := [((2, [(0, (6, 0, 0)), (1, (6, 1, 0)), (2, (0, 0, 0)), (3, (0, 25, 0))], [], gi_465, hq_624), rq_1, ([], 5)), ((2, [(0, (6, 0, 0)), (1, (6, 1, 0)), (2, (0, 0, 0)), (3, (0, 26, 0))], [], gi_466, hq_624), rq_1, ([], 4)), ((2, [(0, (6, 0, 0)), (1, (6, 1, 0)), (2, (0, 0, 0)), (3, (0, 27, 0))], [], gi_467, hq_624), rq_1, ([], 3)), ((2, [(0, (6, 0, 0)), (1, (6, 1, 0)), (2, (0, 0, 0)), (3, (0, 28, 0))], [], gi_468, hq_624), rq_1, ([], 2)), ((2, [(0, (6, 0, 0)), (1, (6, 1, 0)), (2, (0, 0, 0)), (3, (0, 29, 0))], [], gi_469, hq_624), rq_1, ([], 1)), ((2, [(0, (6, 0, 0)), (1, (6, 1, 0)), (2, (0, 0, 0)), (3, (0, 30, 0))], [], gi_470, hq_624), rq_1, ([], 0))]
noncomputable def cu_1240 : List CUT2 := cu_1240_0 ++ (cu_1240_1)
theorem ch_1240 : staG tb_X0_playOn 1 bt_RX0 [] ct_1240 [(62, [(0, (0, 0, 0), (-1), 4)])] [] cu_1240 32 con_1240 = true := by decide +kernel
theorem cc_1240_0 : cu_1240_0.all (cutG tb_X0_playOn 1 bt_RX0 [] ct_1240 [(62, [(0, (0, 0, 0), (-1), 4)])] [] cu_1240 32 con_1240) = true := by decide +kernel
theorem cc_1240_1 : cu_1240_1.all (cutG tb_X0_playOn 1 bt_RX0 [] ct_1240 [(62, [(0, (0, 0, 0), (-1), 4)])] [] cu_1240 32 con_1240) = true := by decide +kernel
theorem cto_1240 (l : Launch) : CTOK2 l RX0 vwCl gTbl ct_1240 := ct2_nil
theorem vl_1240 (l : Launch) : Vld2 l vwCl gTbl con_1240 := conR_ok3 gT_all (hd_1240) rfl pn_RX0 tk_X0_playOn bo_RX0 xo_RX0 (cto_1240 l) ch_1240 (cut_app (cut_all cc_1240_0) (cut_all cc_1240_1))
/-- RookHusting leftOnTrial -/
noncomputable def gi_895 : GI := jl_n [jl_z 20, jl_i 0 16, jl_z 2, jl_i 0 5, jl_z 19, jl_i 0 5, jl_i 0 16, jl_z 3, jl_t]
noncomputable def ac_770 : AC := .inl (11, jl_n [jl_8 3 2, jl_6 2 1, jl_8 8 4, jl_6 5 1, jl_8 10 1, jl_6 4 1, jl_8 17 6])
noncomputable def ac_771 : AC := .inl (4, jl_n [jl_8 20 1, jl_1 21 1, jl_8 23 2, jl_1 24 1, jl_8 27 3, jl_6 8 1, jl_6 6 1, jl_8 30 1, jl_6 15 2, jl_8 36 4])
noncomputable def ac_772 : AC := .inl (3, jl_n [jl_6 13 1, jl_6 7 1, jl_6 9 1, jl_6 18 3, jl_6 11 1, jl_1 45 2])
noncomputable def hc_186 : List AC := [ac_770, .inl (9, [(6, 2, 0), (8, 18, 0)]), ac_771, ac_772, .inl (7, [(6, 11, 0), (6, 9, 0), (6, 18, 0), (1, 48, 0)]), .inr (1, [(5, (2, 0, 40))]), .inr (1, [(85, (2, (-2147483648), 2147483647))]), .inr (1, [(5, (2, 0, 300))]), .inr (1, [(85, (2, (-2147483648), 2147483647))]), .inr (1, [(5, (2, (-2147483648), 2147483647))]), .inr (1, [(5, (2, (-2147483648), 2147483647))]), .inr (1, [(5, (2, (-1), 4))]), .inr (1, [(85, (2, (-2147483648), 2147483647))]), .inr (1, [(5, (2, 0, 40))]), .inr (1, [(5, (2, 0, 9))]), .inr (1, [(85, (2, (-2147483648), 2147483647))]), .inr (1, [(85, (2, (-2147483648), 2147483647))]), .inr (1, [(85, (2, (-1), 4))]), .inr (1, [(5, (2, (-2147483648), 2147483647))])]
noncomputable def gi_896 : GI := jl_n [jl_z 20, jl_i 0 16, jl_z 2, jl_i 0 5, jl_z 19, jl_i 0 5, jl_i 0 16, jl_z 3, jl_r 2 (jl_t), jl_z 7, jl_i 0 5, jl_z 1]
noncomputable def ac_773 : AC := .inl (3, jl_n [jl_6 13 1, jl_6 7 1, jl_6 9 1, jl_6 18 3, jl_6 11 1, jl_1 58 1, jl_1 21 1])
noncomputable def hq_625 : HP := [(false, ac_770), (false, .inl (9, [(6, 2, 0), (8, 18, 0)])), (false, ac_771), (true, ac_773), (false, .inl (7, [(6, 11, 0), (6, 9, 0), (6, 18, 0), (1, 48, 0)])), (false, .inr (1, [(5, (2, 0, 40))])), (true, .inr (1, [(85, (2, (-2147483648), 2147483647))])), (false, .inr (1, [(5, (2, 0, 300))])), (true, .inr (1, [(85, (2, (-2147483648), 2147483647))])), (false, .inr (1, [(5, (2, (-2147483648), 2147483647))])), (true, .inr (1, [(5, (2, (-2147483648), 2147483647))])), (false, .inr (1, [(5, (2, (-1), 4))])), (true, .inr (1, [(85, (2, (-2147483648), 2147483647))])), (false, .inr (1, [(5, (2, 0, 40))])), (false, .inr (1, [(5, (2, 0, 9))])), (true, .inr (1, [(85, (2, (-2147483648), 2147483647))])), (true, .inr (1, [(85, (2, (-2147483648), 2147483647))])), (true, .inr (1, [(85, (2, (-1), 4))])), (false, .inr (1, [(5, (2, (-2147483648), 2147483647))]))]
noncomputable def con_1241 : Con2 := ((yX11_leftOnTrial, cX11_leftOnTrial, 1, (some .int)), (3, 74), ([(6, 0, 0)], gi_895, hc_186, []), [((1, 49, 0), gi_896, hq_625, [], [1, 1, 1, 1, 1, 1, 1, 1, 1, 1])])
theorem hd_1241 : con_1241.1 = (yX11_leftOnTrial, cX11_leftOnTrial, 1, (some .int)) := rfl
noncomputable def ct_1241 : CTB2 := [(25, 372, 0, con_899, [3, 2, 4, 5, 6, 7, 8, 9, 10, 11, 12, 13, 14, 15, 16, 17, 18]), (49, 300, 0, con_1130, [3, 8])]
noncomputable def cu_1241 : List CUT2 := []
theorem ch_1241 : staG tb_X11_leftOnTrial 1 bt_RX11 [] ct_1241 [] [] cu_1241 25 con_1241 = true := by decide +kernel
theorem cto_1241 (l : Launch) : CTOK2 l RX11 vwCl gTbl ct_1241 := ct2_cons (vl_899 l) ck_RX11_372_899 (ct2_cons (vl_1130 l) ck_RX11_300_1130 (ct2_nil))
theorem vl_1241 (l : Launch) : Vld2 l vwCl gTbl con_1241 := conR_ok3 gT_all (hd_1241) rfl pn_RX11 tk_X11_leftOnTrial bo_RX11 xo_RX11 (cto_1241 l) ch_1241 cut_nil
/-- RookHusting leftByLaw -/
noncomputable def gi_897 : GI := jl_n [jl_z 1, jl_i 0 3, jl_z 21, jl_t, jl_z 1, jl_i 0 16, jl_z 2, jl_i 0 5, jl_z 1, jl_i 0 5, jl_i 0 7, jl_z 11, jl_i 0 30, jl_z 3, jl_r 30 (jl_i 0 1), jl_r 30 (jl_m 0 15), jl_z 7, jl_i 0 5, jl_i 0 16]
noncomputable def ac_774 : AC := .inl (11, jl_n [jl_8 4 2, jl_6 2 1, jl_8 7 2, jl_6 9 1, jl_8 9 1, jl_6 3 1, jl_8 11 1, jl_6 16 1, jl_8 18 6])
noncomputable def ac_775 : AC := .inl (4, jl_n [jl_8 25 1, jl_1 26 1, jl_8 28 2, jl_1 29 1, jl_8 30 1, jl_1 32 2, jl_6 19 1, jl_6 17 1, jl_6 8 1, jl_6 24 2, jl_6 11 1, jl_8 40 2, jl_6 10 1])
noncomputable def hc_187 : List AC := [ac_774, .inl (9, [(6, 3, 0), (6, 11, 0)]), .inl (7, [(6, 4, 0), (6, 5, 0), (6, 6, 0), (1, 23, 0)]), ac_775, .inr (1, [(5, (2, (-1), 4))]), .inr (1, [(5, (2, (-2147483648), 2147483647))]), .inr (1, [(5, (2, (-2147483648), 2147483647))]), .inr (1, [(5, (2, (-2147483648), 2147483647))]), .inl (1, [(6, 3, 0), (8, 42, 0)]), .inr (1, [(35, (2, (-2147483648), 2147483647))]), .inr (1, [(7, (2, 0, 9))]), .inl (0, [(1, 43, 0), (6, 12, 0), (6, 13, 0), (6, 14, 0)]), ac_515, .inr (1, [(30, (2, 0, 4))]), ac_516, ac_517, .inr (1, [(5, (2, 0, 40))]), .inr (1, [(85, (2, (-2147483648), 2147483647))]), .inr (1, [(5, (2, 0, 300))]), .inr (1, [(85, (2, (-2147483648), 2147483647))]), .inr (1, [(5, (2, (-2147483648), 2147483647))]), .inr (1, [(85, (2, (-2147483648), 2147483647))]), .inr (1, [(5, (2, 0, 40))]), .inr (1, [(5, (2, 0, 9))]), .inr (1, [(85, (2, (-2147483648), 2147483647))]), .inr (1, [(85, (2, (-2147483648), 2147483647))]), .inr (1, [(85, (2, (-1), 4))])]
noncomputable def gi_898 : GI := jl_n [jl_z 1, jl_i 0 3, jl_z 21, jl_t, jl_z 1, jl_i 0 16, jl_z 2, jl_i 0 5, jl_z 1, jl_i 0 5, jl_i 0 7, jl_z 11, jl_i 0 30, jl_z 3, jl_r 30 (jl_i 0 1), jl_r 30 (jl_m 0 15), jl_z 7, jl_i 0 5, jl_i 0 16, jl_t, jl_z 11, jl_i 0 5, jl_z 1]
noncomputable def ac_776 : AC := .inl (3, jl_n [jl_6 22 1, jl_6 18 1, jl_6 20 1, jl_6 27 3, jl_6 21 1, jl_1 129 1, jl_1 26 1])
noncomputable def hq_626 : HP := [(false, ac_774), (false, .inl (9, [(6, 3, 0), (6, 11, 0)])), (true, .inl (7, [(6, 4, 0), (6, 5, 0), (6, 6, 0), (0, 0, 0)])), (false, ac_775), (true, .inr (1, [(5, (2, (-1), 4))])), (true, .inr (1, [(5, (2, (-2147483648), 2147483647))])), (true, .inr (1, [(5, (2, (-2147483648), 2147483647))])), (false, .inr (1, [(5, (2, (-2147483648), 2147483647))])), (false, .inl (1, [(6, 3, 0), (8, 42, 0)])), (false, .inr (1, [(35, (2, (-2147483648), 2147483647))])), (false, .inr (1, [(7, (2, 0, 9))])), (false, .inl (0, [(1, 43, 0), (6, 12, 0), (6, 13, 0), (6, 14, 0)])), (false, ac_515), (false, .inr (1, [(30, (2, 0, 4))])), (false, ac_516), (true, ac_776), (false, .inr (1, [(5, (2, 0, 40))])), (true, .inr (1, [(85, (2, (-2147483648), 2147483647))])), (false, .inr (1, [(5, (2, 0, 300))])), (true, .inr (1, [(85, (2, (-2147483648), 2147483647))])), (true, .inr (1, [(5, (2, (-2147483648), 2147483647))])), (true, .inr (1, [(85, (2, (-2147483648), 2147483647))])), (false, .inr (1, [(5, (2, 0, 40))])), (false, .inr (1, [(5, (2, 0, 9))])), (true, .inr (1, [(85, (2, (-2147483648), 2147483647))])), (true, .inr (1, [(85, (2, (-2147483648), 2147483647))])), (true, .inr (1, [(85, (2, (-1), 4))]))]
noncomputable def con_1242 : Con2 := ((yX11_leftByLaw, cX11_leftByLaw, 2, (some .int)), (5, 131), ([(6, 0, 0), (1, 1, 0)], gi_897, hc_187, rq_3), [((1, 116, 0), gi_898, hq_626, [], [1, 1, 1, 1, 1, 1, 1, 1, 1, 1, 1, 1, 1, 1])])
theorem hd_1242 : con_1242.1 = (yX11_leftByLaw, cX11_leftByLaw, 2, (some .int)) := rfl
theorem ck_RX11_337_1241 : COK2 RX11 vwCl gTbl 337 0 con_1241 := ⟨wd_1186, wd_125, mh_X11_leftOnTrial, .inr (.inr ⟨rfl, wd_1183, wd_1185, wd_40, ⟨_, rfl, pd_X11_leftOnTrial⟩, 11, _, TX11, 16, rfl, rfl⟩)⟩
theorem ck_RX11_460_1240 : COK2 RX11 vwCl gTbl 460 0 con_1240 := ⟨wd_858, wd_130, mh_X0_playOn, .inr (.inr ⟨rfl, wd_855, wd_856, wd_857, ⟨_, rfl, pd_X0_playOn⟩, 0, _, TX0, 4, rfl, rfl⟩)⟩
noncomputable def ct_1242 : CTB2 := [(11, 458, 0, con_857, [2, 3, 4, 5, 6, 7]), (26, 204, 0, con_853, [8, 4, 3, 9, 10]), (41, 460, 0, con_1240, [11, 2, 12, 13, 5, 14, 4]), (45, 337, 0, con_1241, [0, 1, 3, 15, 2, 16, 17, 18, 19, 5, 20, 4, 21, 22, 23, 24, 25, 26, 6])]
noncomputable def cu_1242 : List CUT2 := []
theorem ch_1242 : staG tb_X11_leftByLaw 1 bt_RX11 [] ct_1242 [] [] cu_1242 25 con_1242 = true := by decide +kernel
theorem cto_1242 (l : Launch) : CTOK2 l RX11 vwCl gTbl ct_1242 := ct2_cons (vl_857 l) ck_RX11_458_857 (ct2_cons (vl_853 l) ck_RX11_204_853 (ct2_cons (vl_1240 l) ck_RX11_460_1240 (ct2_cons (vl_1241 l) ck_RX11_337_1241 (ct2_nil))))
theorem vl_1242 (l : Launch) : Vld2 l vwCl gTbl con_1242 := conR_ok3 gT_all (hd_1242) rfl pn_RX11 tk_X11_leftByLaw bo_RX11 xo_RX11 (cto_1242 l) ch_1242 cut_nil
/-- RookHusting by -/
noncomputable def gi_899 : GI := jl_n [jl_z 1, jl_t, jl_z 18, jl_t, jl_i 0 16, jl_z 2, jl_i 0 5, jl_z 1, jl_i 0 5, jl_i 0 7, jl_z 12, jl_t, jl_z 2, jl_i 0 30, jl_z 3, jl_r 30 (jl_i 0 1), jl_r 30 (jl_m 0 15), jl_z 7, jl_i 0 5, jl_i 0 16]
noncomputable def ac_777 : AC := .inl (11, jl_n [jl_8 4 2, jl_6 2 1, jl_8 7 2, jl_6 9 1, jl_8 9 1, jl_6 4 1, jl_8 11 1, jl_6 16 1, jl_8 18 6])
noncomputable def ac_778 : AC := .inl (4, jl_n [jl_1 22 2, jl_8 24 2, jl_1 25 1, jl_8 26 1, jl_1 28 2, jl_6 19 1, jl_6 17 1, jl_6 8 1, jl_6 24 2, jl_6 11 1, jl_8 36 2, jl_6 10 1])
noncomputable def hc_188 : List AC := [ac_777, .inl (9, [(6, 2, 0), (6, 11, 0)]), ac_778, .inl (7, [(6, 4, 0), (6, 5, 0), (6, 6, 0), (1, 40, 0)]), .inr (1, [(5, (2, (-1), 4))]), .inr (1, [(5, (2, (-2147483648), 2147483647))]), .inr (1, [(5, (2, (-2147483648), 2147483647))]), .inr (1, [(5, (2, (-2147483648), 2147483647))]), .inl (1, [(6, 2, 0), (8, 42, 0)]), .inr (1, [(35, (2, (-2147483648), 2147483647))]), .inr (1, [(7, (2, 0, 9))]), .inl (0, [(1, 43, 0), (6, 12, 0), (6, 13, 0), (6, 14, 0)]), ac_515, .inr (1, [(30, (2, 0, 4))]), ac_516, ac_517, .inr (1, [(5, (2, 0, 40))]), .inr (1, [(85, (2, (-2147483648), 2147483647))]), .inr (1, [(5, (2, 0, 300))]), .inr (1, [(85, (2, (-2147483648), 2147483647))]), .inr (1, [(5, (2, (-2147483648), 2147483647))]), .inr (1, [(85, (2, (-2147483648), 2147483647))]), .inr (1, [(5, (2, 0, 40))]), .inr (1, [(5, (2, 0, 9))]), .inr (1, [(85, (2, (-2147483648), 2147483647))]), .inr (1, [(85, (2, (-2147483648), 2147483647))]), .inr (1, [(85, (2, (-1), 4))])]
noncomputable def gi_900 : GI := jl_n [jl_z 1, jl_t, jl_z 18, jl_t, jl_i 0 16, jl_z 2, jl_i 0 5, jl_z 1, jl_i 0 5, jl_i 0 7, jl_z 12, jl_t, jl_z 2, jl_i 0 30, jl_z 3, jl_r 30 (jl_i 0 1), jl_r 30 (jl_m 0 15), jl_z 7, jl_i 0 5, jl_i 0 16, jl_t, jl_z 3, jl_t, jl_z 7, jl_i 0 5, jl_i 0 16]
noncomputable def ac_779 : AC := .inl (3, jl_n [jl_6 22 1, jl_6 18 1, jl_6 20 1, jl_6 27 3, jl_6 21 1, jl_1 130 2])
noncomputable def hq_627 : HP := [(false, ac_777), (false, .inl (9, [(6, 2, 0), (6, 11, 0)])), (false, ac_778), (true, .inl (7, [(6, 4, 0), (6, 5, 0), (6, 6, 0), (1, 120, 0)])), (true, .inr (1, [(5, (2, (-1), 4))])), (true, .inr (1, [(5, (2, (-2147483648), 2147483647))])), (true, .inr (1, [(5, (2, (-2147483648), 2147483647))])), (false, .inr (1, [(5, (2, (-2147483648), 2147483647))])), (false, .inl (1, [(6, 2, 0), (8, 42, 0)])), (false, .inr (1, [(35, (2, (-2147483648), 2147483647))])), (false, .inr (1, [(7, (2, 0, 9))])), (false, .inl (0, [(1, 43, 0), (6, 12, 0), (6, 13, 0), (6, 14, 0)])), (false, ac_515), (false, .inr (1, [(30, (2, 0, 4))])), (false, ac_516), (true, ac_779), (false, .inr (1, [(5, (2, 0, 40))])), (true, .inr (1, [(85, (2, (-2147483648), 2147483647))])), (false, .inr (1, [(5, (2, 0, 300))])), (true, .inr (1, [(85, (2, (-2147483648), 2147483647))])), (true, .inr (1, [(5, (2, (-2147483648), 2147483647))])), (true, .inr (1, [(85, (2, (-2147483648), 2147483647))])), (false, .inr (1, [(5, (2, 0, 40))])), (false, .inr (1, [(5, (2, 0, 9))])), (true, .inr (1, [(85, (2, (-2147483648), 2147483647))])), (true, .inr (1, [(85, (2, (-2147483648), 2147483647))])), (true, .inr (1, [(85, (2, (-1), 4))]))]
noncomputable def con_1243 : Con2 := ((yX11_by, cX11_by, 2, (some .int)), (6, 152), ([(6, 0, 0), (1, 1, 0)], gi_899, hc_188, rq_3), [((1, 116, 0), gi_900, hq_627, [], [1, 1, 1, 1, 1, 1, 1, 1, 1, 1, 1, 1, 1, 1])])
theorem hd_1243 : con_1243.1 = (yX11_by, cX11_by, 2, (some .int)) := rfl
theorem ck_RX11_329_1242 : COK2 RX11 vwCl gTbl 329 0 con_1242 := ⟨wd_1182, wd_125, mh_X11_leftByLaw, .inr (.inr ⟨rfl, wd_1179, wd_1181, wd_39, ⟨_, rfl, pd_X11_leftByLaw⟩, 11, _, TX11, 16, rfl, rfl⟩)⟩
noncomputable def ct_1243 : CTB2 := [(1, 219, 0, con_667, [0, 1, 2]), (8, 180, 1, con_669, []), (16, 329, 0, con_1242, [0, 1, 3, 2, 4, 5, 6, 7, 8, 9, 10, 11, 12, 13, 14, 15, 16, 17, 18, 19, 20, 21, 22, 23, 24, 25, 26])]
noncomputable def cu_1243 : List CUT2 := []
theorem ch_1243 : staG tb_X11_by 1 bt_RX11 [] ct_1243 [] [] cu_1243 13 con_1243 = true := by decide +kernel
theorem cto_1243 (l : Launch) : CTOK2 l RX11 vwCl gTbl ct_1243 := ct2_cons (vl_667 l) ck_RX11_219_667 (ct2_cons (vl_669 l) ck_RX11_180_669 (ct2_cons (vl_1242 l) ck_RX11_329_1242 (ct2_nil)))
theorem vl_1243 (l : Launch) : Vld2 l vwCl gTbl con_1243 := conR_ok3 gT_all (hd_1243) rfl pn_RX11 tk_X11_by bo_RX11 xo_RX11 (cto_1243 l) ch_1243 cut_nil
/-- RookHustingModel leftBy -/
noncomputable def gi_901 : GI := jl_n [jl_z 1, jl_i 0 3, jl_z 17, jl_i 0 128, jl_z 3, jl_r 2 (jl_t), jl_r 2 (jl_m 0 4), jl_z 20, jl_i 0 16, jl_i 0 3, jl_i 0 10, jl_i 0 5, jl_i 0 8, jl_i 0 5, jl_i 0 7, jl_i 0 30, jl_i 0 2147483647, jl_z 14, jl_t, jl_z 45]
noncomputable def con_1244 : Con2 := ((yX12_leftBy, cX12_leftBy, 2, (some .int)), (7, 166), ([(6, 0, 0), (1, 1, 0)], gi_500, hc_148, []), [((1, 70, 0), gi_901, hq_567, [], [1, 1, 1, 1, 1, 1, 1, 1, 1, 1, 1, 1, 1, 1, 1, 1, 1, 1, 1, 1, 1, 1, 1, 1, 1, 1, 1, 1, 1, 1, 1, 1, 1, 1, 1, 1, 1, 1, 1, 1, 1, 1, 1, 1, 1, 1])])
theorem hd_1244 : con_1244.1 = (yX12_leftBy, cX12_leftBy, 2, (some .int)) := rfl
noncomputable def ct_1244 : CTB2 := [(2, 338, 0, con_903, [0, 1, 2, 3, 4, 5, 6]), (6, 363, 0, con_1108, [0, 1, 7, 8, 5, 6, 9, 10, 11, 12]), (10, 390, 0, con_1223, [0, 1, 7])]
noncomputable def cu_1244 : List CUT2 := []
theorem ch_1244 : staG tb_X12_leftBy 1 bt_RX12 [] ct_1244 [] [] cu_1244 10 con_1244 = true := by decide +kernel
theorem cto_1244 (l : Launch) : CTOK2 l RX12 vwCl gTbl ct_1244 := ct2_cons (vl_903 l) ck_RX12_338_903 (ct2_cons (vl_1108 l) ck_RX12_363_1108 (ct2_cons (vl_1223 l) ck_RX12_390_1223 (ct2_nil)))
theorem vl_1244 (l : Launch) : Vld2 l vwCl gTbl con_1244 := conR_ok3 gT_all (hd_1244) rfl pn_RX12 tk_X12_leftBy bo_RX12 xo_RX12 (cto_1244 l) ch_1244 cut_nil
/-- RookHustingModel by -/
noncomputable def gi_902 : GI := jl_n [jl_z 1, jl_t, jl_z 17, jl_i 0 128, jl_z 3, jl_r 2 (jl_t), jl_r 2 (jl_m 0 4), jl_z 20, jl_i 0 16, jl_i 0 3, jl_i 0 10, jl_i 0 5, jl_i 0 8, jl_i 0 5, jl_i 0 7, jl_i 0 30, jl_i 0 2147483647, jl_z 14, jl_t, jl_z 17, jl_i 0 128, jl_z 3, jl_r 2 (jl_t), jl_r 2 (jl_m 0 4), jl_z 20]
noncomputable def ac_780 : AC := .inl (12, jl_n [jl_8 3 1, jl_6 2 1, jl_8 17 13, jl_6 4 1, jl_6 3 1, jl_1 89 1, jl_6 7 3, jl_1 96 4, jl_6 10 1, jl_6 9 1, jl_6 8 1, jl_6 13 2, jl_6 11 1, jl_8 47 14])
noncomputable def hq_628 : HP := [(true, ac_780), (false, ac_438), (true, .inr (1, [(7, (2, 0, 5))])), (true, .inr (1, [(35, (2, 0, 4))])), (true, .inr (1, [(5, (2, (-1), 4))])), (true, .inr (1, [(5, (2, (-1), 4))])), (true, .inr (1, [(5, (2, (-2147483648), 2147483647))])), (true, .inr (1, [(85, (2, (-2147483648), 2147483647))])), (true, .inr (1, [(85, (2, (-2147483648), 2147483647))])), (true, .inr (1, [(85, (2, (-2147483648), 2147483647))])), (true, .inr (1, [(16, (2, (-2147483648), 2147483647))])), (true, .inr (1, [(80, (2, (-2147483648), 2147483647))])), (true, .inr (1, [(80, (2, (-1), 4))]))]
noncomputable def con_1245 : Con2 := ((yX12_by, cX12_by, 2, (some .int)), (8, 187), ([(6, 0, 0), (1, 1, 0)], gi_508, hc_148, []), [((1, 70, 0), gi_902, hq_628, [], [1, 1, 1, 1, 1, 1, 1, 1, 1, 1, 1, 1, 1, 1, 1, 1, 1, 1, 1, 1, 1, 1, 1, 1, 1, 1, 1, 1, 1, 1, 1, 1, 1, 1, 1, 1, 1, 1, 1, 1, 1, 1, 1, 1, 1, 1])])
theorem hd_1245 : con_1245.1 = (yX12_by, cX12_by, 2, (some .int)) := rfl
theorem ck_RX12_411_1244 : COK2 RX12 vwCl gTbl 411 0 con_1244 := ⟨wd_2030, wd_137, mh_X12_leftBy, .inr (.inr ⟨rfl, wd_2027, wd_2029, wd_111, ⟨_, rfl, pd_X12_leftBy⟩, 12, _, TX12, 45, rfl, rfl⟩)⟩
noncomputable def ct_1245 : CTB2 := [(1, 99, 0, con_673, [0, 1]), (13, 91, 1, con_332, []), (21, 411, 0, con_1244, [0, 1, 2, 3, 4, 5, 6, 7, 8, 9, 10, 11, 12])]
noncomputable def cu_1245 : List CUT2 := []
theorem ch_1245 : staG tb_X12_by 1 bt_RX12 [] ct_1245 [] [] cu_1245 16 con_1245 = true := by decide +kernel
theorem cto_1245 (l : Launch) : CTOK2 l RX12 vwCl gTbl ct_1245 := ct2_cons (vl_673 l) ck_RX12_99_673 (ct2_cons (vl_332 l) ck_RX12_91_332 (ct2_cons (vl_1244 l) ck_RX12_411_1244 (ct2_nil)))
theorem vl_1245 (l : Launch) : Vld2 l vwCl gTbl con_1245 := conR_ok3 gT_all (hd_1245) rfl pn_RX12 tk_X12_by bo_RX12 xo_RX12 (cto_1245 l) ch_1245 cut_nil
/-- RookHusting law -/
noncomputable def gi_903 : GI := jl_n [jl_z 19, jl_t, jl_i 0 16, jl_z 2, jl_i 0 5, jl_z 1, jl_i 0 5, jl_i 0 7, jl_z 12, jl_t, jl_z 2, jl_i 0 30, jl_z 3, jl_r 30 (jl_i 0 1), jl_r 30 (jl_m 0 15), jl_z 7, jl_i 0 5, jl_i 0 16]
noncomputable def ac_781 : AC := .inl (11, jl_n [jl_8 3 2, jl_6 2 1, jl_8 6 2, jl_6 9 1, jl_8 8 1, jl_6 4 1, jl_8 10 1, jl_6 16 1, jl_8 17 6])
noncomputable def ac_782 : AC := .inl (4, jl_n [jl_1 21 2, jl_8 23 2, jl_1 24 1, jl_8 25 1, jl_1 27 2, jl_6 19 1, jl_6 17 1, jl_6 8 1, jl_6 24 2, jl_6 11 1, jl_8 35 2, jl_6 10 1])
noncomputable def hc_189 : List AC := [ac_781, .inl (9, [(6, 2, 0), (6, 11, 0)]), ac_782, .inl (7, [(6, 4, 0), (6, 5, 0), (6, 6, 0), (1, 39, 0)]), .inr (1, [(5, (2, (-1), 4))]), .inr (1, [(5, (2, (-2147483648), 2147483647))]), .inr (1, [(5, (2, (-2147483648), 2147483647))]), .inr (1, [(5, (2, (-2147483648), 2147483647))]), .inl (1, [(6, 2, 0), (8, 41, 0)]), .inr (1, [(35, (2, (-2147483648), 2147483647))]), .inr (1, [(7, (2, 0, 9))]), .inl (0, [(1, 42, 0), (6, 12, 0), (6, 13, 0), (6, 14, 0)]), ac_508, .inr (1, [(30, (2, 0, 4))]), ac_509, ac_510, .inr (1, [(5, (2, 0, 40))]), .inr (1, [(85, (2, (-2147483648), 2147483647))]), .inr (1, [(5, (2, 0, 300))]), .inr (1, [(85, (2, (-2147483648), 2147483647))]), .inr (1, [(5, (2, (-2147483648), 2147483647))]), .inr (1, [(85, (2, (-2147483648), 2147483647))]), .inr (1, [(5, (2, 0, 40))]), .inr (1, [(5, (2, 0, 9))]), .inr (1, [(85, (2, (-2147483648), 2147483647))]), .inr (1, [(85, (2, (-2147483648), 2147483647))]), .inr (1, [(85, (2, (-1), 4))])]
noncomputable def gi_904 : GI := jl_n [jl_z 19, jl_t, jl_i 0 16, jl_z 2, jl_i 0 5, jl_z 1, jl_i 0 5, jl_i 0 7, jl_z 12, jl_t, jl_z 2, jl_i 0 30, jl_z 3, jl_r 30 (jl_i 0 1), jl_r 30 (jl_m 0 15), jl_z 7, jl_i 0 5, jl_i 0 16, jl_m 1 3, jl_z 3, jl_t, jl_z 7, jl_i 0 5, jl_i 0 16]
noncomputable def ac_783 : AC := .inl (3, jl_n [jl_6 22 1, jl_6 18 1, jl_6 20 1, jl_6 27 3, jl_6 21 1, jl_1 129 2])
noncomputable def hq_629 : HP := [(false, ac_781), (false, .inl (9, [(6, 2, 0), (6, 11, 0)])), (false, ac_782), (true, .inl (7, [(6, 4, 0), (6, 5, 0), (6, 6, 0), (1, 119, 0)])), (true, .inr (1, [(5, (2, (-1), 4))])), (true, .inr (1, [(5, (2, (-2147483648), 2147483647))])), (true, .inr (1, [(5, (2, (-2147483648), 2147483647))])), (false, .inr (1, [(5, (2, (-2147483648), 2147483647))])), (false, .inl (1, [(6, 2, 0), (8, 41, 0)])), (false, .inr (1, [(35, (2, (-2147483648), 2147483647))])), (false, .inr (1, [(7, (2, 0, 9))])), (false, .inl (0, [(1, 42, 0), (6, 12, 0), (6, 13, 0), (6, 14, 0)])), (false, ac_508), (false, .inr (1, [(30, (2, 0, 4))])), (false, ac_509), (true, ac_783), (false, .inr (1, [(5, (2, 0, 40))])), (true, .inr (1, [(85, (2, (-2147483648), 2147483647))])), (false, .inr (1, [(5, (2, 0, 300))])), (true, .inr (1, [(85, (2, (-2147483648), 2147483647))])), (true, .inr (1, [(5, (2, (-2147483648), 2147483647))])), (true, .inr (1, [(85, (2, (-2147483648), 2147483647))])), (false, .inr (1, [(5, (2, 0, 40))])), (false, .inr (1, [(5, (2, 0, 9))])), (true, .inr (1, [(85, (2, (-2147483648), 2147483647))])), (true, .inr (1, [(85, (2, (-2147483648), 2147483647))])), (true, .inr (1, [(85, (2, (-1), 4))]))]
noncomputable def con_1246 : Con2 := ((yX11_law, cX11_law, 5, (some .int)), (6, 152), ([(6, 0, 0)], gi_903, hc_189, rq_2), [((1, 115, 0), gi_904, hq_629, [], [1, 1, 1, 1, 1, 1, 1, 1, 1, 1, 1, 1, 1, 1])])
theorem hd_1246 : con_1246.1 = (yX11_law, cX11_law, 5, (some .int)) := rfl
noncomputable def ct_1246 : CTB2 := [(1, 219, 0, con_667, [0, 1, 2]), (14, 329, 0, con_1242, [0, 1, 3, 2, 4, 5, 6, 7, 8, 9, 10, 11, 12, 13, 14, 15, 16, 17, 18, 19, 20, 21, 22, 23, 24, 25, 26]), (27, 329, 0, con_1242, [0, 1, 3, 2, 4, 5, 6, 7, 8, 9, 10, 11, 12, 13, 14, 15, 16, 17, 18, 19, 20, 21, 22, 23, 24, 25, 26])]
noncomputable def gi_905 : GI := jl_n [jl_z 19, jl_i 1 2147483647, jl_i 0 16, jl_z 2, jl_i 0 5, jl_z 1, jl_i 0 5, jl_i 0 7, jl_z 12, jl_t, jl_z 2, jl_i 0 30, jl_z 3, jl_r 30 (jl_i 0 1), jl_r 30 (jl_m 0 15), jl_z 7, jl_i 0 5, jl_i 0 16, jl_z 1, jl_i 0 3, jl_t, jl_i 1 4, jl_z 11, jl_i 0 5, jl_z 1]
noncomputable def ac_784 : AC := .inl (3, jl_n [jl_6 22 1, jl_6 18 1, jl_6 20 1, jl_6 27 3, jl_6 21 1, jl_1 131 1, jl_1 21 1])
noncomputable def hq_630 : HP := [(false, ac_781), (false, .inl (9, [(6, 2, 0), (6, 11, 0)])), (false, ac_782), (true, .inl (7, [(6, 4, 0), (6, 5, 0), (6, 6, 0), (0, 0, 0)])), (true, .inr (1, [(5, (2, (-1), 4))])), (true, .inr (1, [(5, (2, (-2147483648), 2147483647))])), (true, .inr (1, [(5, (2, (-2147483648), 2147483647))])), (false, .inr (1, [(5, (2, (-2147483648), 2147483647))])), (false, .inl (1, [(6, 2, 0), (8, 41, 0)])), (false, .inr (1, [(35, (2, (-2147483648), 2147483647))])), (false, .inr (1, [(7, (2, 0, 9))])), (false, .inl (0, [(1, 42, 0), (6, 12, 0), (6, 13, 0), (6, 14, 0)])), (false, ac_508), (false, .inr (1, [(30, (2, 0, 4))])), (false, ac_509), (true, ac_784), (false, .inr (1, [(5, (2, 0, 40))])), (true, .inr (1, [(85, (2, (-2147483648), 2147483647))])), (false, .inr (1, [(5, (2, 0, 300))])), (true, .inr (1, [(85, (2, (-2147483648), 2147483647))])), (true, .inr (1, [(5, (2, (-2147483648), 2147483647))])), (true, .inr (1, [(85, (2, (-2147483648), 2147483647))])), (false, .inr (1, [(5, (2, 0, 40))])), (false, .inr (1, [(5, (2, 0, 9))])), (true, .inr (1, [(85, (2, (-2147483648), 2147483647))])), (true, .inr (1, [(85, (2, (-2147483648), 2147483647))])), (true, .inr (1, [(85, (2, (-1), 4))]))]
noncomputable def cu_1246 : List CUT2 := [((20, [(0, (6, 0, 0)), (1, (1, 116, 0)), (2, (1, 117, 0)), (3, (1, 118, 0))], [], gi_905, hq_630), rq_2, ([(118, (-1))], 4))]
theorem ch_1246 : staG tb_X11_law 1 bt_RX11 [] ct_1246 [] [] cu_1246 19 con_1246 = true := by decide +kernel
theorem cc_1246 : cu_1246.all (cutG tb_X11_law 1 bt_RX11 [] ct_1246 [] [] cu_1246 19 con_1246) = true := by decide +kernel
theorem cto_1246 (l : Launch) : CTOK2 l RX11 vwCl gTbl ct_1246 := ct2_cons (vl_667 l) ck_RX11_219_667 (ct2_cons (vl_1242 l) ck_RX11_329_1242 (ct2_cons (vl_1242 l) ck_RX11_329_1242 (ct2_nil)))
theorem vl_1246 (l : Launch) : Vld2 l vwCl gTbl con_1246 := conR_ok3 gT_all (hd_1246) rfl pn_RX11 tk_X11_law bo_RX11 xo_RX11 (cto_1246 l) ch_1246 (cut_all cc_1246)
/-- RookHustingModel law -/
noncomputable def gi_906 : GI := jl_n [jl_z 18, jl_i 0 128, jl_z 3, jl_r 2 (jl_t), jl_r 2 (jl_m 0 4), jl_z 20, jl_i 0 16, jl_i 0 3, jl_i 0 10, jl_i 0 5, jl_i 0 8, jl_i 0 5, jl_i 0 7, jl_i 0 30, jl_i 0 2147483647, jl_z 14, jl_m 1 3, jl_z 17, jl_i 0 128, jl_z 3, jl_r 2 (jl_t), jl_r 2 (jl_m 0 4), jl_z 20]
noncomputable def ac_785 : AC := .inl (12, jl_n [jl_8 2 1, jl_6 2 1, jl_8 16 13, jl_6 4 1, jl_6 3 1, jl_1 88 1, jl_6 7 3, jl_1 95 4, jl_6 10 1, jl_6 9 1, jl_6 8 1, jl_6 13 2, jl_6 11 1, jl_8 46 14])
noncomputable def hq_631 : HP := [(true, ac_785), (false, ac_436), (true, .inr (1, [(7, (2, 0, 5))])), (true, .inr (1, [(35, (2, 0, 4))])), (true, .inr (1, [(5, (2, (-1), 4))])), (true, .inr (1, [(5, (2, (-1), 4))])), (true, .inr (1, [(5, (2, (-2147483648), 2147483647))])), (true, .inr (1, [(85, (2, (-2147483648), 2147483647))])), (true, .inr (1, [(85, (2, (-2147483648), 2147483647))])), (true, .inr (1, [(85, (2, (-2147483648), 2147483647))])), (true, .inr (1, [(16, (2, (-2147483648), 2147483647))])), (true, .inr (1, [(80, (2, (-2147483648), 2147483647))])), (true, .inr (1, [(80, (2, (-1), 4))]))]
noncomputable def con_1247 : Con2 := ((yX12_law, cX12_law, 3, (some .int)), (8, 187), ([(6, 0, 0)], gi_505, hc_147, []), [((1, 69, 0), gi_906, hq_631, [], [1, 1, 1, 1, 1, 1, 1, 1, 1, 1, 1, 1, 1, 1, 1, 1, 1, 1, 1, 1, 1, 1, 1, 1, 1, 1, 1, 1, 1, 1, 1, 1, 1, 1, 1, 1, 1, 1, 1, 1, 1, 1, 1, 1, 1, 1])])
theorem hd_1247 : con_1247.1 = (yX12_law, cX12_law, 3, (some .int)) := rfl
noncomputable def ct_1247 : CTB2 := [(1, 99, 0, con_673, [0, 1]), (21, 411, 0, con_1244, [0, 1, 2, 3, 4, 5, 6, 7, 8, 9, 10, 11, 12]), (26, 411, 0, con_1244, [0, 1, 2, 3, 4, 5, 6, 7, 8, 9, 10, 11, 12])]
noncomputable def gi_907 : GI := jl_n [jl_z 18, jl_i 0 128, jl_z 3, jl_r 2 (jl_t), jl_r 2 (jl_m 0 4), jl_z 20, jl_i 0 16, jl_i 0 3, jl_i 0 10, jl_i 0 5, jl_i 0 8, jl_i 0 5, jl_i 0 7, jl_i 0 30, jl_i 1 2147483647, jl_z 15, jl_i 0 3, jl_i 1 4, jl_z 17, jl_i 0 128, jl_z 3, jl_r 2 (jl_t), jl_r 2 (jl_m 0 4), jl_z 20]
noncomputable def ac_786 : AC := .inl (12, jl_n [jl_8 2 1, jl_6 2 1, jl_8 16 13, jl_6 4 1, jl_6 3 1, jl_1 90 1, jl_6 7 3, jl_1 97 4, jl_6 10 1, jl_6 9 1, jl_6 8 1, jl_6 13 2, jl_6 11 1, jl_8 46 14])
noncomputable def hq_632 : HP := [(true, ac_786), (false, ac_436), (true, .inr (1, [(7, (2, 0, 5))])), (true, .inr (1, [(35, (2, 0, 4))])), (true, .inr (1, [(5, (2, (-1), 4))])), (true, .inr (1, [(5, (2, (-1), 4))])), (true, .inr (1, [(5, (2, (-2147483648), 2147483647))])), (true, .inr (1, [(85, (2, (-2147483648), 2147483647))])), (true, .inr (1, [(85, (2, (-2147483648), 2147483647))])), (true, .inr (1, [(85, (2, (-2147483648), 2147483647))])), (true, .inr (1, [(16, (2, (-2147483648), 2147483647))])), (true, .inr (1, [(80, (2, (-2147483648), 2147483647))])), (true, .inr (1, [(80, (2, (-1), 4))]))]
noncomputable def cu_1247 : List CUT2 := [((14, [(0, (6, 0, 0)), (1, (1, 70, 0)), (2, (1, 71, 0))], [], gi_907, hq_632), [], ([(71, (-1))], 4))]
theorem ch_1247 : staG tb_X12_law 1 bt_RX12 [] ct_1247 [] [] cu_1247 18 con_1247 = true := by decide +kernel
theorem cc_1247 : cu_1247.all (cutG tb_X12_law 1 bt_RX12 [] ct_1247 [] [] cu_1247 18 con_1247) = true := by decide +kernel
theorem cto_1247 (l : Launch) : CTOK2 l RX12 vwCl gTbl ct_1247 := ct2_cons (vl_673 l) ck_RX12_99_673 (ct2_cons (vl_1244 l) ck_RX12_411_1244 (ct2_cons (vl_1244 l) ck_RX12_411_1244 (ct2_nil)))
theorem vl_1247 (l : Launch) : Vld2 l vwCl gTbl con_1247 := conR_ok3 gT_all (hd_1247) rfl pn_RX12 tk_X12_law bo_RX12 xo_RX12 (cto_1247 l) ch_1247 (cut_all cc_1247)
/-- RookHusting speech -/
noncomputable def gi_908 : GI := jl_n [jl_z 14, jl_i 0 1, jl_z 4, jl_t, jl_i 0 16, jl_i 0 3, jl_z 1, jl_i 0 5, jl_z 1, jl_i 0 5, jl_i 0 7, jl_z 16, jl_i 0 5, jl_i 0 16, jl_z 3, jl_t, jl_z 2, jl_i 0 30, jl_z 3, jl_r 30 (jl_i 0 1), jl_r 30 (jl_m 0 15), jl_z 3, jl_t, jl_z 7, jl_i 0 5, jl_i 0 16]
noncomputable def ac_787 : AC := .inl (11, jl_n [jl_8 3 2, jl_6 2 1, jl_8 6 2, jl_6 11 1, jl_6 6 1, jl_6 28 1, jl_6 4 1, jl_6 32 1, jl_8 14 3, jl_1 15 1, jl_8 17 2])
noncomputable def ac_788 : AC := .inl (4, jl_n [jl_1 22 3, jl_8 23 1, jl_1 24 1, jl_8 25 1, jl_1 27 2, jl_6 20 1, jl_6 18 1, jl_6 10 1, jl_6 24 2, jl_6 13 1, jl_8 35 2, jl_6 12 1])
noncomputable def ac_789 : AC := .inl (3, jl_n [jl_6 22 1, jl_6 19 1, jl_6 5 1, jl_6 27 3, jl_6 21 1, jl_1 45 2])
noncomputable def ac_790 : AC := .inr (1, jl_n [js_1 85 30])
noncomputable def ac_791 : AC := .inr (1, jl_n [js_1 115 30])
noncomputable def ac_792 : AC := .inl (3, jl_n [jl_6 36 1, jl_6 34 2, jl_6 39 3, jl_6 35 1, jl_1 128 2])
noncomputable def hc_190 : List AC := [ac_787, .inl (9, [(6, 2, 0), (6, 13, 0)]), ac_788, ac_789, .inr (1, [(85, (2, (-2147483648), 2147483647))]), .inl (7, [(6, 6, 0), (6, 7, 0), (6, 8, 0), (1, 48, 0)]), .inr (1, [(5, (2, (-1), 4))]), .inr (1, [(5, (2, (-2147483648), 2147483647))]), .inr (1, [(5, (2, (-2147483648), 2147483647))]), .inr (1, [(5, (2, (-2147483648), 2147483647))]), .inl (1, [(6, 2, 0), (8, 50, 0)]), .inr (1, [(35, (2, (-2147483648), 2147483647))]), .inr (1, [(7, (2, 0, 9))]), .inl (0, [(1, 51, 0), (6, 14, 0), (6, 15, 0), (6, 16, 0)]), ac_790, .inr (1, [(30, (2, 0, 4))]), ac_791, .inr (1, [(5, (2, 0, 40))]), .inr (1, [(85, (2, (-2147483648), 2147483647))]), .inr (1, [(5, (2, 0, 300))]), .inr (1, [(5, (2, (-2147483648), 2147483647))]), .inr (1, [(85, (2, (-2147483648), 2147483647))]), .inr (1, [(5, (2, 0, 40))]), .inr (1, [(5, (2, 0, 9))]), .inr (1, [(85, (2, (-2147483648), 2147483647))]), .inr (1, [(85, (2, (-2147483648), 2147483647))]), .inr (1, [(85, (2, (-1), 4))]), .inl (7, [(6, 28, 0), (6, 29, 0), (6, 30, 0), (1, 118, 0)]), .inr (1, [(5, (2, (-1), 4))]), .inr (1, [(5, (2, (-2147483648), 2147483647))]), .inr (1, [(5, (2, (-2147483648), 2147483647))]), ac_792, .inr (1, [(85, (2, (-2147483648), 2147483647))]), .inr (1, [(85, (2, (-2147483648), 2147483647))]), .inr (1, [(5, (2, (-2147483648), 2147483647))]), .inr (1, [(85, (2, (-2147483648), 2147483647))]), .inr (1, [(85, (2, (-2147483648), 2147483647))]), .inr (1, [(85, (2, (-2147483648), 2147483647))]), .inr (1, [(85, (2, (-1), 4))])]
noncomputable def rq_8 : RLs := [([(55, 12), (85, (-1))], 4), ([(56, 12), (86, (-1))], 4), ([(57, 12), (87, (-1))], 4), ([(58, 12), (88, (-1))], 4), ([(59, 12), (89, (-1))], 4), ([(60, 12), (90, (-1))], 4), ([(61, 12), (91, (-1))], 4), ([(62, 12), (92, (-1))], 4), ([(63, 12), (93, (-1))], 4), ([(64, 12), (94, (-1))], 4), ([(65, 12), (95, (-1))], 4), ([(66, 12), (96, (-1))], 4), ([(67, 12), (97, (-1))], 4), ([(68, 12), (98, (-1))], 4), ([(69, 12), (99, (-1))], 4), ([(70, 12), (100, (-1))], 4), ([(71, 12), (101, (-1))], 4), ([(72, 12), (102, (-1))], 4), ([(73, 12), (103, (-1))], 4), ([(74, 12), (104, (-1))], 4), ([(75, 12), (105, (-1))], 4), ([(76, 12), (106, (-1))], 4), ([(77, 12), (107, (-1))], 4), ([(78, 12), (108, (-1))], 4), ([(79, 12), (109, (-1))], 4), ([(80, 12), (110, (-1))], 4), ([(81, 12), (111, (-1))], 4), ([(82, 12), (112, (-1))], 4), ([(83, 12), (113, (-1))], 4), ([(84, 12), (114, (-1))], 4)]
noncomputable def gi_909 : GI := jl_n [jl_z 14, jl_i 0 1, jl_z 4, jl_t, jl_i 0 16, jl_i 0 3, jl_z 1, jl_i 0 5, jl_z 1, jl_i 0 5, jl_i 0 7, jl_z 16, jl_i 0 5, jl_i 0 16, jl_z 3, jl_t, jl_z 2, jl_i 0 30, jl_z 3, jl_r 30 (jl_i 0 1), jl_r 30 (jl_m 0 15), jl_z 3, jl_t, jl_z 7, jl_i 0 5, jl_i 0 16, jl_m 1 416, jl_z 13, jl_i 0 1, jl_z 9, jl_i 0 5, jl_i 0 16, jl_z 3, jl_t, jl_z 3, jl_t, jl_z 7, jl_i 0 5, jl_i 0 16]
noncomputable def ac_793 : AC := .inl (11, jl_n [jl_8 3 2, jl_6 2 1, jl_8 6 2, jl_6 11 1, jl_6 6 1, jl_6 28 1, jl_6 4 1, jl_6 32 1, jl_8 14 3, jl_1 143 1, jl_8 17 2])
noncomputable def ac_794 : AC := .inl (3, jl_n [jl_6 22 1, jl_6 19 1, jl_6 5 1, jl_6 27 3, jl_6 21 1, jl_1 154 2])
noncomputable def ac_795 : AC := .inl (3, jl_n [jl_6 36 1, jl_6 34 2, jl_6 39 3, jl_6 35 1, jl_1 171 2])
noncomputable def hq_633 : HP := [(true, ac_793), (false, .inl (9, [(6, 2, 0), (6, 13, 0)])), (false, ac_788), (true, ac_794), (true, .inr (1, [(85, (2, (-2147483648), 2147483647))])), (true, .inl (7, [(6, 6, 0), (6, 7, 0), (6, 8, 0), (1, 157, 0)])), (true, .inr (1, [(5, (2, (-1), 4))])), (true, .inr (1, [(5, (2, (-2147483648), 2147483647))])), (true, .inr (1, [(5, (2, (-2147483648), 2147483647))])), (false, .inr (1, [(5, (2, (-2147483648), 2147483647))])), (false, .inl (1, [(6, 2, 0), (8, 50, 0)])), (false, .inr (1, [(35, (2, (-2147483648), 2147483647))])), (false, .inr (1, [(7, (2, 0, 9))])), (false, .inl (0, [(1, 51, 0), (6, 14, 0), (6, 15, 0), (6, 16, 0)])), (false, ac_790), (false, .inr (1, [(30, (2, 0, 4))])), (false, ac_791), (false, .inr (1, [(5, (2, 0, 40))])), (true, .inr (1, [(85, (2, (-2147483648), 2147483647))])), (false, .inr (1, [(5, (2, 0, 300))])), (true, .inr (1, [(5, (2, (-2147483648), 2147483647))])), (true, .inr (1, [(85, (2, (-2147483648), 2147483647))])), (false, .inr (1, [(5, (2, 0, 40))])), (false, .inr (1, [(5, (2, 0, 9))])), (true, .inr (1, [(85, (2, (-2147483648), 2147483647))])), (true, .inr (1, [(85, (2, (-2147483648), 2147483647))])), (true, .inr (1, [(85, (2, (-1), 4))])), (true, .inl (7, [(6, 28, 0), (6, 29, 0), (6, 30, 0), (1, 161, 0)])), (true, .inr (1, [(5, (2, (-1), 4))])), (true, .inr (1, [(5, (2, (-2147483648), 2147483647))])), (true, .inr (1, [(5, (2, (-2147483648), 2147483647))])), (true, ac_795), (true, .inr (1, [(85, (2, (-2147483648), 2147483647))])), (true, .inr (1, [(85, (2, (-2147483648), 2147483647))])), (true, .inr (1, [(5, (2, (-2147483648), 2147483647))])), (true, .inr (1, [(85, (2, (-2147483648), 2147483647))])), (true, .inr (1, [(85, (2, (-2147483648), 2147483647))])), (true, .inr (1, [(85, (2, (-2147483648), 2147483647))])), (true, .inr (1, [(85, (2, (-1), 4))]))]
noncomputable def con_1248 : Con2 := ((yX11_speech, cX11_speech, 6, (some .int)), (7, 173), ([(6, 0, 0)], gi_908, hc_190, rq_8), [((1, 128, 0), gi_909, hq_633, [], [1, 1, 1, 1, 1, 1, 1, 1, 1, 1, 1, 1, 1, 1, 1, 1, 1, 1, 1, 1, 1, 1, 1, 1, 1, 1, 1, 1, 1, 1, 1, 1, 1, 1, 1, 1, 1, 1, 1, 1, 1, 1, 1])])
theorem hd_1248 : con_1248.1 = (yX11_speech, cX11_speech, 6, (some .int)) := rfl
theorem ck_RX11_332_1212 : COK2 RX11 vwCl gTbl 332 0 con_1212 := ⟨wd_1148, wd_133, mh_X7_copyFrom, .inr (.inr ⟨rfl, wd_1195, wd_1146, wd_1147, ⟨_, rfl, pd_X7_copyFrom⟩, 7, _, TX7, 4, rfl, rfl⟩)⟩
noncomputable def ct_1248 : CTB2 := [(1, 219, 0, con_667, [0, 1, 2]), (30, 281, 0, con_1131, [0, 4, 1, 5, 2, 6, 7, 8, 9, 10, 11, 12, 13, 14, 15, 16, 3, 17, 18, 19, 20, 21, 22, 23, 24, 25, 26]), (76, 332, 0, con_1212, [27, 5, 28, 6, 29, 7, 30, 8]), (96, 337, 0, con_1241, [0, 1, 2, 31, 27, 17, 32, 19, 33, 29, 34, 28, 35, 22, 23, 36, 37, 38, 30])]
noncomputable def gi_910 : GI := jl_n [jl_z 14, jl_i 0 1, jl_z 4, jl_i 1 2147483647, jl_i 0 16, jl_i 0 3, jl_z 1, jl_i 0 5, jl_z 1, jl_i 0 5, jl_i 0 7, jl_z 16, jl_i 0 5, jl_i 0 16, jl_z 3, jl_t, jl_z 2, jl_i 0 30, jl_z 3, jl_r 30 (jl_i 0 1), jl_r 30 (jl_m 0 15), jl_z 3, jl_t, jl_z 7, jl_i 0 5, jl_i 0 16, jl_z 1, jl_m 0 416, jl_t, jl_i 0 5, jl_z 23, jl_i 0 5, jl_i 0 16, jl_z 3, jl_t, jl_z 3, jl_t, jl_z 7, jl_i 0 5, jl_i 0 16]
noncomputable def ac_796 : AC := .inl (11, jl_n [jl_8 3 2, jl_6 2 1, jl_8 6 2, jl_6 11 1, jl_6 6 1, jl_6 28 1, jl_6 4 1, jl_6 32 1, jl_8 14 3, jl_c 1, jl_8 17 2])
noncomputable def ac_797 : AC := .inl (3, jl_n [jl_6 22 1, jl_6 19 1, jl_6 5 1, jl_6 27 3, jl_6 21 1, jl_1 157 2])
noncomputable def ac_798 : AC := .inl (3, jl_n [jl_6 36 1, jl_6 34 2, jl_6 39 3, jl_6 35 1, jl_1 174 2])
noncomputable def hq_634 : HP := [(true, ac_796), (false, .inl (9, [(6, 2, 0), (6, 13, 0)])), (false, ac_788), (true, ac_797), (true, .inr (1, [(85, (2, (-2147483648), 2147483647))])), (true, .inl (7, [(6, 6, 0), (6, 7, 0), (6, 8, 0), (1, 160, 0)])), (true, .inr (1, [(5, (2, (-1), 4))])), (true, .inr (1, [(5, (2, (-2147483648), 2147483647))])), (true, .inr (1, [(5, (2, (-2147483648), 2147483647))])), (false, .inr (1, [(5, (2, (-2147483648), 2147483647))])), (false, .inl (1, [(6, 2, 0), (8, 50, 0)])), (false, .inr (1, [(35, (2, (-2147483648), 2147483647))])), (false, .inr (1, [(7, (2, 0, 9))])), (false, .inl (0, [(1, 51, 0), (6, 14, 0), (6, 15, 0), (6, 16, 0)])), (false, ac_790), (false, .inr (1, [(30, (2, 0, 4))])), (false, ac_791), (false, .inr (1, [(5, (2, 0, 40))])), (true, .inr (1, [(85, (2, (-2147483648), 2147483647))])), (false, .inr (1, [(5, (2, 0, 300))])), (true, .inr (1, [(5, (2, (-2147483648), 2147483647))])), (true, .inr (1, [(85, (2, (-2147483648), 2147483647))])), (false, .inr (1, [(5, (2, 0, 40))])), (false, .inr (1, [(5, (2, 0, 9))])), (true, .inr (1, [(85, (2, (-2147483648), 2147483647))])), (true, .inr (1, [(85, (2, (-2147483648), 2147483647))])), (true, .inr (1, [(85, (2, (-1), 4))])), (true, .inl (7, [(6, 28, 0), (6, 29, 0), (6, 30, 0), (1, 164, 0)])), (true, .inr (1, [(5, (2, (-1), 4))])), (true, .inr (1, [(5, (2, (-2147483648), 2147483647))])), (true, .inr (1, [(5, (2, (-2147483648), 2147483647))])), (true, ac_798), (true, .inr (1, [(85, (2, (-2147483648), 2147483647))])), (true, .inr (1, [(85, (2, (-2147483648), 2147483647))])), (true, .inr (1, [(5, (2, (-2147483648), 2147483647))])), (true, .inr (1, [(85, (2, (-2147483648), 2147483647))])), (true, .inr (1, [(85, (2, (-2147483648), 2147483647))])), (true, .inr (1, [(85, (2, (-2147483648), 2147483647))])), (true, .inr (1, [(85, (2, (-1), 4))]))]
noncomputable def gi_911 : GI := jl_n [jl_z 14, jl_i 0 1, jl_z 4, jl_i 1 2147483647, jl_i 0 16, jl_i 0 3, jl_z 1, jl_i 1 5, jl_z 1, jl_i 0 5, jl_i 0 7, jl_z 16, jl_i 0 5, jl_i 0 16, jl_z 3, jl_t, jl_z 2, jl_i 0 30, jl_z 3, jl_r 30 (jl_i 0 1), jl_r 30 (jl_m 0 15), jl_z 3, jl_t, jl_z 7, jl_i 0 5, jl_i 0 16, jl_z 1, jl_m 0 416, jl_t, jl_i 0 4, jl_i 0 16, jl_z 23, jl_i 0 5, jl_i 0 16, jl_z 3, jl_t, jl_z 3, jl_t, jl_z 7, jl_i 0 5, jl_i 0 16]
noncomputable def ac_799 : AC := .inl (3, jl_n [jl_6 22 1, jl_6 19 1, jl_6 5 1, jl_6 27 3, jl_6 21 1, jl_1 158 2])
noncomputable def ac_800 : AC := .inl (3, jl_n [jl_6 36 1, jl_6 34 2, jl_6 39 3, jl_6 35 1, jl_1 175 2])
noncomputable def hq_635 : HP := [(true, ac_796), (false, .inl (9, [(6, 2, 0), (6, 13, 0)])), (false, ac_788), (true, ac_799), (true, .inr (1, [(85, (2, (-2147483648), 2147483647))])), (true, .inl (7, [(6, 6, 0), (6, 7, 0), (6, 8, 0), (1, 161, 0)])), (true, .inr (1, [(5, (2, (-1), 4))])), (true, .inr (1, [(5, (2, (-2147483648), 2147483647))])), (true, .inr (1, [(5, (2, (-2147483648), 2147483647))])), (false, .inr (1, [(5, (2, (-2147483648), 2147483647))])), (false, .inl (1, [(6, 2, 0), (8, 50, 0)])), (false, .inr (1, [(35, (2, (-2147483648), 2147483647))])), (false, .inr (1, [(7, (2, 0, 9))])), (false, .inl (0, [(1, 51, 0), (6, 14, 0), (6, 15, 0), (6, 16, 0)])), (false, ac_790), (false, .inr (1, [(30, (2, 0, 4))])), (false, ac_791), (false, .inr (1, [(5, (2, 0, 40))])), (true, .inr (1, [(85, (2, (-2147483648), 2147483647))])), (false, .inr (1, [(5, (2, 0, 300))])), (true, .inr (1, [(5, (2, (-2147483648), 2147483647))])), (true, .inr (1, [(85, (2, (-2147483648), 2147483647))])), (false, .inr (1, [(5, (2, 0, 40))])), (false, .inr (1, [(5, (2, 0, 9))])), (true, .inr (1, [(85, (2, (-2147483648), 2147483647))])), (true, .inr (1, [(85, (2, (-2147483648), 2147483647))])), (true, .inr (1, [(85, (2, (-1), 4))])), (true, .inl (7, [(6, 28, 0), (6, 29, 0), (6, 30, 0), (1, 165, 0)])), (true, .inr (1, [(5, (2, (-1), 4))])), (true, .inr (1, [(5, (2, (-2147483648), 2147483647))])), (true, .inr (1, [(5, (2, (-2147483648), 2147483647))])), (true, ac_800), (true, .inr (1, [(85, (2, (-2147483648), 2147483647))])), (true, .inr (1, [(85, (2, (-2147483648), 2147483647))])), (true, .inr (1, [(5, (2, (-2147483648), 2147483647))])), (true, .inr (1, [(85, (2, (-2147483648), 2147483647))])), (true, .inr (1, [(85, (2, (-2147483648), 2147483647))])), (true, .inr (1, [(85, (2, (-2147483648), 2147483647))])), (true, .inr (1, [(85, (2, (-1), 4))]))]
noncomputable def cu_1248 : List CUT2 := [((36, [(0, (6, 0, 0)), (1, (1, 129, 0)), (2, (1, 130, 0)), (3, (1, 131, 0))], [], gi_910, hq_634), rq_8, ([(131, (-18))], 107)), ((53, [(0, (6, 0, 0)), (1, (1, 129, 0)), (2, (1, 130, 0)), (3, (1, 131, 0)), (4, (1, 132, 0))], [], gi_911, hq_635), rq_8, ([(131, (-18)), (132, (-1))], 106))]
theorem ch_1248 : staG tb_X11_speech 1 bt_RX11 [] ct_1248 [] [] cu_1248 41 con_1248 = true := by decide +kernel
theorem cc_1248 : cu_1248.all (cutG tb_X11_speech 1 bt_RX11 [] ct_1248 [] [] cu_1248 41 con_1248) = true := by decide +kernel
theorem cto_1248 (l : Launch) : CTOK2 l RX11 vwCl gTbl ct_1248 := ct2_cons (vl_667 l) ck_RX11_219_667 (ct2_cons (vl_1131 l) ck_RX11_281_1131 (ct2_cons (vl_1212 l) ck_RX11_332_1212 (ct2_cons (vl_1241 l) ck_RX11_337_1241 (ct2_nil))))
theorem vl_1248 (l : Launch) : Vld2 l vwCl gTbl con_1248 := conR_ok3 gT_all (hd_1248) rfl pn_RX11 tk_X11_speech bo_RX11 xo_RX11 (cto_1248 l) ch_1248 (cut_all cc_1248)
/-- RookHustingModel speech -/
noncomputable def gi_912 : GI := jl_n [jl_z 18, jl_i 0 128, jl_z 3, jl_r 2 (jl_t), jl_r 2 (jl_m 0 4), jl_z 20, jl_i 0 16, jl_i 0 3, jl_i 0 10, jl_i 0 5, jl_i 0 8, jl_i 0 5, jl_i 0 7, jl_i 0 30, jl_i 0 2147483647, jl_z 14, jl_m 1 416, jl_z 45]
noncomputable def con_1249 : Con2 := ((yX12_speech, cX12_speech, 6, (some .int)), (9, 208), ([(6, 0, 0)], gi_505, hc_147, []), [((1, 69, 0), gi_912, hq_566, [], [1, 1, 1, 1, 1, 1, 1, 1, 1, 1, 1, 1, 1, 1, 1, 1, 1, 1, 1, 1, 1, 1, 1, 1, 1, 1, 1, 1, 1, 1, 1, 1, 1, 1, 1, 1, 1, 1, 1, 1, 1, 1, 1, 1, 1, 1])])
theorem hd_1249 : con_1249.1 = (yX12_speech, cX12_speech, 6, (some .int)) := rfl
noncomputable def ct_1249 : CTB2 := [(1, 366, 0, con_1109, [0, 1, 2, 3, 4, 5, 6, 7, 8, 9, 10, 11, 12]), (11, 390, 0, con_1223, [0, 1, 7]), (21, 106, 0, con_646, [0, 1]), (33, 103, 0, con_1100, [0, 1]), (61, 363, 0, con_1108, [0, 1, 7, 8, 5, 6, 9, 10, 11, 12]), (73, 390, 0, con_1223, [0, 1, 7]), (84, 390, 0, con_1223, [0, 1, 7])]
noncomputable def gi_913 : GI := jl_n [jl_z 18, jl_i 0 128, jl_z 3, jl_r 2 (jl_t), jl_r 2 (jl_m 0 4), jl_z 20, jl_i 0 16, jl_i 0 3, jl_i 0 10, jl_i 0 5, jl_i 0 8, jl_i 0 5, jl_i 0 7, jl_i 0 30, jl_i 1 2147483647, jl_z 15, jl_t, jl_m 0 416, jl_i 0 5, jl_z 45]
noncomputable def gi_914 : GI := jl_n [jl_z 18, jl_i 0 128, jl_z 3, jl_r 2 (jl_t), jl_r 2 (jl_m 0 4), jl_z 20, jl_i 0 16, jl_i 0 3, jl_i 0 10, jl_i 1 5, jl_i 0 8, jl_i 0 5, jl_i 0 7, jl_i 0 30, jl_i 1 2147483647, jl_z 15, jl_t, jl_m 0 416, jl_i 0 4, jl_i 0 16, jl_z 45]
noncomputable def cu_1249 : List CUT2 := [((19, [(0, (6, 0, 0)), (1, (1, 70, 0)), (2, (1, 71, 0)), (3, (1, 72, 0))], [], gi_913, hq_566), [], ([(72, (-18))], 107)), ((30, [(0, (6, 0, 0)), (1, (1, 70, 0)), (2, (1, 71, 0)), (3, (1, 72, 0)), (4, (1, 73, 0))], [], gi_914, hq_566), [], ([(72, (-18)), (73, (-1))], 106))]
theorem ch_1249 : staG tb_X12_speech 1 bt_RX12 [] ct_1249 [] [] cu_1249 44 con_1249 = true := by decide +kernel
theorem cc_1249 : cu_1249.all (cutG tb_X12_speech 1 bt_RX12 [] ct_1249 [] [] cu_1249 44 con_1249) = true := by decide +kernel
theorem cto_1249 (l : Launch) : CTOK2 l RX12 vwCl gTbl ct_1249 := ct2_cons (vl_1109 l) ck_RX12_366_1109 (ct2_cons (vl_1223 l) ck_RX12_390_1223 (ct2_cons (vl_646 l) ck_RX12_106_646 (ct2_cons (vl_1100 l) ck_RX12_103_1100 (ct2_cons (vl_1108 l) ck_RX12_363_1108 (ct2_cons (vl_1223 l) ck_RX12_390_1223 (ct2_cons (vl_1223 l) ck_RX12_390_1223 (ct2_nil)))))))
theorem vl_1249 (l : Launch) : Vld2 l vwCl gTbl con_1249 := conR_ok3 gT_all (hd_1249) rfl pn_RX12 tk_X12_speech bo_RX12 xo_RX12 (cto_1249 l) ch_1249 (cut_all cc_1249)
/-- RookHusting gap -/
noncomputable def gi_915 : GI := jl_n [jl_z 14, jl_i 0 1, jl_z 4, jl_t, jl_i 0 16, jl_i 0 3, jl_z 1, jl_i 0 5, jl_z 1, jl_i 0 5, jl_i 0 7, jl_z 16, jl_i 0 5, jl_i 0 16, jl_z 3, jl_t, jl_z 2, jl_i 0 30, jl_z 3, jl_r 30 (jl_i 0 1), jl_r 30 (jl_m 0 15), jl_z 3, jl_t, jl_z 7, jl_i 0 5, jl_i 0 16, jl_m 1 59, jl_z 13, jl_i 0 1, jl_z 9, jl_i 0 5, jl_i 0 16, jl_z 3, jl_t, jl_z 3, jl_t, jl_z 7, jl_i 0 5, jl_i 0 16]
noncomputable def con_1250 : Con2 := ((yX11_gap, cX11_gap, 6, (some .int)), (7, 173), ([(6, 0, 0)], gi_908, hc_190, rq_8), [((1, 128, 0), gi_915, hq_633, [], [1, 1, 1, 1, 1, 1, 1, 1, 1, 1, 1, 1, 1, 1, 1, 1, 1, 1, 1, 1, 1, 1, 1, 1, 1, 1, 1, 1, 1, 1, 1, 1, 1, 1, 1, 1, 1, 1, 1, 1, 1, 1, 1])])
theorem hd_1250 : con_1250.1 = (yX11_gap, cX11_gap, 6, (some .int)) := rfl
noncomputable def ct_1250 : CTB2 := [(1, 219, 0, con_667, [0, 1, 2]), (30, 281, 0, con_1131, [0, 4, 1, 5, 2, 6, 7, 8, 9, 10, 11, 12, 13, 14, 15, 16, 3, 17, 18, 19, 20, 21, 22, 23, 24, 25, 26]), (78, 332, 0, con_1212, [27, 5, 28, 6, 29, 7, 30, 8]), (114, 337, 0, con_1241, [0, 1, 2, 31, 27, 17, 32, 19, 33, 29, 34, 28, 35, 22, 23, 36, 37, 38, 30])]
noncomputable def gi_916 : GI := jl_n [jl_z 14, jl_i 0 1, jl_z 4, jl_i 1 2147483647, jl_i 0 16, jl_i 0 3, jl_z 1, jl_i 0 5, jl_z 1, jl_i 0 5, jl_i 0 7, jl_z 16, jl_i 0 5, jl_i 0 16, jl_z 3, jl_t, jl_z 2, jl_i 0 30, jl_z 3, jl_r 30 (jl_i 0 1), jl_r 30 (jl_m 0 15), jl_z 3, jl_t, jl_z 7, jl_i 0 5, jl_i 0 16, jl_z 1, jl_m 0 59, jl_t, jl_i 0 5, jl_z 23, jl_i 0 5, jl_i 0 16, jl_z 3, jl_t, jl_z 3, jl_t, jl_z 7, jl_i 0 5, jl_i 0 16]
noncomputable def gi_917 : GI := jl_n [jl_z 14, jl_i 0 1, jl_z 4, jl_i 1 2147483647, jl_i 0 16, jl_i 0 3, jl_z 1, jl_i 1 5, jl_z 1, jl_i 0 5, jl_i 0 7, jl_z 16, jl_i 0 5, jl_i 0 16, jl_z 3, jl_t, jl_z 2, jl_i 0 30, jl_z 3, jl_r 30 (jl_i 0 1), jl_r 30 (jl_m 0 15), jl_z 3, jl_t, jl_z 7, jl_i 0 5, jl_i 0 16, jl_z 1, jl_m 0 59, jl_t, jl_i 0 4, jl_i 1 5, jl_z 23, jl_i 0 5, jl_i 0 16, jl_z 3, jl_t, jl_z 3, jl_t, jl_z 7, jl_i 0 5, jl_i 0 16]
noncomputable def cu_1250 : List CUT2 := [((36, [(0, (6, 0, 0)), (1, (1, 129, 0)), (2, (1, 130, 0)), (3, (1, 131, 0))], [], gi_916, hq_634), rq_8, ([(131, (-6))], 35)), ((55, [(0, (6, 0, 0)), (1, (1, 129, 0)), (2, (1, 130, 0)), (3, (1, 131, 0)), (4, (1, 132, 0))], [], gi_917, hq_635), rq_8, ([(131, (-6)), (132, (-1))], 35))]
theorem ch_1250 : staG tb_X11_gap 1 bt_RX11 [] ct_1250 [] [] cu_1250 52 con_1250 = true := by decide +kernel
theorem cc_1250 : cu_1250.all (cutG tb_X11_gap 1 bt_RX11 [] ct_1250 [] [] cu_1250 52 con_1250) = true := by decide +kernel
theorem cto_1250 (l : Launch) : CTOK2 l RX11 vwCl gTbl ct_1250 := ct2_cons (vl_667 l) ck_RX11_219_667 (ct2_cons (vl_1131 l) ck_RX11_281_1131 (ct2_cons (vl_1212 l) ck_RX11_332_1212 (ct2_cons (vl_1241 l) ck_RX11_337_1241 (ct2_nil))))
theorem vl_1250 (l : Launch) : Vld2 l vwCl gTbl con_1250 := conR_ok3 gT_all (hd_1250) rfl pn_RX11 tk_X11_gap bo_RX11 xo_RX11 (cto_1250 l) ch_1250 (cut_all cc_1250)
/-- RookHustingModel fields -/
noncomputable def gi_918 : GI := jl_n [jl_z 46, jl_i 0 16, jl_i 0 3, jl_i 0 10, jl_i 1 5, jl_i 0 8, jl_i 0 5, jl_i 0 7, jl_i 0 30, jl_i 0 2147483647, jl_z 14]
noncomputable def gi_919 : GI := jl_n [jl_z 46, jl_i 0 16, jl_i 0 3, jl_i 0 10, jl_i 1 5, jl_i 0 8, jl_i 0 5, jl_i 0 7, jl_i 0 30, jl_i 0 2147483647, jl_z 15]
noncomputable def con_1251 : Con2 := ((yX12_fields, cX12_fields, 1, (some .int)), (0, 0), ([(6, 0, 0)], gi_918, [ac_435, ac_436], []), [((1, 49, 0), gi_919, [(false, ac_435), (false, ac_436)], [], [1])])
theorem hd_1251 : con_1251.1 = (yX12_fields, cX12_fields, 1, (some .int)) := rfl
noncomputable def ct_1251 : CTB2 := []
noncomputable def cu_1251 : List CUT2 := []
theorem ch_1251 : staG tb_X12_fields 1 bt_RX12 [] ct_1251 [] [] cu_1251 7 con_1251 = true := by decide +kernel
theorem cto_1251 (l : Launch) : CTOK2 l RX12 vwCl gTbl ct_1251 := ct2_nil
theorem vl_1251 (l : Launch) : Vld2 l vwCl gTbl con_1251 := conR_ok3 gT_all (hd_1251) rfl pn_RX12 tk_X12_fields bo_RX12 xo_RX12 (cto_1251 l) ch_1251 cut_nil
/-- RookHustingModel gap -/
noncomputable def gi_920 : GI := jl_n [jl_z 18, jl_i 0 128, jl_z 3, jl_r 2 (jl_t), jl_r 2 (jl_m 0 4), jl_z 20, jl_i 0 16, jl_i 0 3, jl_i 0 10, jl_i 0 5, jl_i 0 8, jl_i 0 5, jl_i 0 7, jl_i 0 30, jl_i 0 2147483647, jl_z 14, jl_m 1 59, jl_z 23, jl_r 2 (jl_m 0 4), jl_z 20]
noncomputable def ac_801 : AC := .inl (12, jl_n [jl_8 2 1, jl_6 2 1, jl_8 16 13, jl_6 4 1, jl_6 3 1, jl_c 0, jl_6 7 3, jl_c 0, jl_c 0, jl_1 95 2, jl_6 10 1, jl_6 9 1, jl_6 8 1, jl_6 13 2, jl_6 11 1, jl_8 46 14])
noncomputable def hq_636 : HP := [(true, ac_801), (false, ac_436), (true, .inr (1, [(7, (2, 0, 5))])), (true, .inr (1, [(35, (2, 0, 4))])), (true, .inr (1, [(5, (2, (-1), 4))])), (true, .inr (1, [(5, (2, (-1), 4))])), (true, .inr (1, [(5, (2, (-2147483648), 2147483647))])), (true, .inr (1, [(85, (2, (-2147483648), 2147483647))])), (true, .inr (1, [(85, (2, (-2147483648), 2147483647))])), (true, .inr (1, [(85, (2, (-2147483648), 2147483647))])), (true, .inr (1, [(16, (2, (-2147483648), 2147483647))])), (true, .inr (1, [(80, (2, (-2147483648), 2147483647))])), (true, .inr (1, [(80, (2, (-1), 4))]))]
noncomputable def con_1252 : Con2 := ((yX12_gap, cX12_gap, 5, (some .int)), (9, 208), ([(6, 0, 0)], gi_505, hc_147, []), [((1, 69, 0), gi_920, hq_636, [], [1, 1, 1, 1, 1, 1, 1, 1, 1, 1, 1, 1, 1, 1, 1, 1, 1, 1, 1, 1, 1, 1, 1, 1, 1, 1, 1, 1, 1, 1, 1, 1, 1, 1, 1, 1, 1, 1, 1, 1, 1, 1, 1, 1, 1, 1])])
theorem hd_1252 : con_1252.1 = (yX12_gap, cX12_gap, 5, (some .int)) := rfl
theorem ck_RX12_106_1251 : COK2 RX12 vwCl gTbl 106 0 con_1251 := ⟨wd_1660, wd_137, mh_X12_fields, .inr (.inr ⟨rfl, wd_1657, wd_1659, wd_67, ⟨_, rfl, pd_X12_fields⟩, 12, _, TX12, 45, rfl, rfl⟩)⟩
noncomputable def ct_1252 : CTB2 := [(1, 366, 0, con_1109, [0, 1, 2, 3, 4, 5, 6, 7, 8, 9, 10, 11, 12]), (11, 390, 0, con_1223, [0, 1, 7]), (21, 106, 0, con_646, [0, 1]), (35, 106, 0, con_1251, [0, 1]), (53, 363, 0, con_1108, [0, 1, 7, 8, 5, 6, 9, 10, 11, 12]), (57, 390, 0, con_1223, [0, 1, 7]), (68, 390, 0, con_1223, [0, 1, 7])]
noncomputable def gi_921 : GI := jl_n [jl_z 18, jl_i 0 128, jl_z 3, jl_r 2 (jl_t), jl_r 2 (jl_m 0 4), jl_z 20, jl_i 0 16, jl_i 0 3, jl_i 0 10, jl_i 0 5, jl_i 0 8, jl_i 0 5, jl_i 0 7, jl_i 0 30, jl_i 1 2147483647, jl_z 15, jl_t, jl_m 0 59, jl_i 0 5, jl_z 23, jl_r 2 (jl_m 0 4), jl_z 20]
noncomputable def ac_802 : AC := .inl (12, jl_n [jl_8 2 1, jl_6 2 1, jl_8 16 13, jl_6 4 1, jl_6 3 1, jl_c 0, jl_6 7 3, jl_c 0, jl_c 0, jl_1 98 2, jl_6 10 1, jl_6 9 1, jl_6 8 1, jl_6 13 2, jl_6 11 1, jl_8 46 14])
noncomputable def hq_637 : HP := [(true, ac_802), (false, ac_436), (true, .inr (1, [(7, (2, 0, 5))])), (true, .inr (1, [(35, (2, 0, 4))])), (true, .inr (1, [(5, (2, (-1), 4))])), (true, .inr (1, [(5, (2, (-1), 4))])), (true, .inr (1, [(5, (2, (-2147483648), 2147483647))])), (true, .inr (1, [(85, (2, (-2147483648), 2147483647))])), (true, .inr (1, [(85, (2, (-2147483648), 2147483647))])), (true, .inr (1, [(85, (2, (-2147483648), 2147483647))])), (true, .inr (1, [(16, (2, (-2147483648), 2147483647))])), (true, .inr (1, [(80, (2, (-2147483648), 2147483647))])), (true, .inr (1, [(80, (2, (-1), 4))]))]
noncomputable def gi_922 : GI := jl_n [jl_z 18, jl_i 0 128, jl_z 3, jl_r 2 (jl_t), jl_r 2 (jl_m 0 4), jl_z 20, jl_i 0 16, jl_i 0 3, jl_i 0 10, jl_i 1 5, jl_i 0 8, jl_i 0 5, jl_i 0 7, jl_i 0 30, jl_i 1 2147483647, jl_z 15, jl_t, jl_m 0 59, jl_i 0 4, jl_i 1 5, jl_z 23, jl_r 2 (jl_m 0 4), jl_z 20]
noncomputable def ac_803 : AC := .inl (12, jl_n [jl_8 2 1, jl_6 2 1, jl_8 16 13, jl_6 4 1, jl_6 3 1, jl_c 0, jl_6 7 3, jl_c 0, jl_c 0, jl_1 99 2, jl_6 10 1, jl_6 9 1, jl_6 8 1, jl_6 13 2, jl_6 11 1, jl_8 46 14])
noncomputable def hq_638 : HP := [(true, ac_803), (false, ac_436), (true, .inr (1, [(7, (2, 0, 5))])), (true, .inr (1, [(35, (2, 0, 4))])), (true, .inr (1, [(5, (2, (-1), 4))])), (true, .inr (1, [(5, (2, (-1), 4))])), (true, .inr (1, [(5, (2, (-2147483648), 2147483647))])), (true, .inr (1, [(85, (2, (-2147483648), 2147483647))])), (true, .inr (1, [(85, (2, (-2147483648), 2147483647))])), (true, .inr (1, [(85, (2, (-2147483648), 2147483647))])), (true, .inr (1, [(16, (2, (-2147483648), 2147483647))])), (true, .inr (1, [(80, (2, (-2147483648), 2147483647))])), (true, .inr (1, [(80, (2, (-1), 4))]))]
noncomputable def cu_1252 : List CUT2 := [((19, [(0, (6, 0, 0)), (1, (1, 70, 0)), (2, (1, 71, 0)), (3, (1, 72, 0))], [], gi_921, hq_637), [], ([(72, (-6))], 35)), ((32, [(0, (6, 0, 0)), (1, (1, 70, 0)), (2, (1, 71, 0)), (3, (1, 72, 0)), (4, (1, 73, 0))], [], gi_922, hq_638), [], ([(72, (-6)), (73, (-1))], 35))]
theorem ch_1252 : staG tb_X12_gap 1 bt_RX12 [] ct_1252 [] [] cu_1252 30 con_1252 = true := by decide +kernel
theorem cc_1252 : cu_1252.all (cutG tb_X12_gap 1 bt_RX12 [] ct_1252 [] [] cu_1252 30 con_1252) = true := by decide +kernel
theorem cto_1252 (l : Launch) : CTOK2 l RX12 vwCl gTbl ct_1252 := ct2_cons (vl_1109 l) ck_RX12_366_1109 (ct2_cons (vl_1223 l) ck_RX12_390_1223 (ct2_cons (vl_646 l) ck_RX12_106_646 (ct2_cons (vl_1251 l) ck_RX12_106_1251 (ct2_cons (vl_1108 l) ck_RX12_363_1108 (ct2_cons (vl_1223 l) ck_RX12_390_1223 (ct2_cons (vl_1223 l) ck_RX12_390_1223 (ct2_nil)))))))
theorem vl_1252 (l : Launch) : Vld2 l vwCl gTbl con_1252 := conR_ok3 gT_all (hd_1252) rfl pn_RX12 tk_X12_gap bo_RX12 xo_RX12 (cto_1252 l) ch_1252 (cut_all cc_1252)
/-- RookHusting$Slots isSlot -/
noncomputable def con_1253 : Con2 := ((yX8_isSlot, cX8_isSlot, 1, (some .boolean)), (0, 0), ([(1, 0, 0)], [(4, 2147483647)], [], []), [((0, 0, 0), [(4, 2147483647), (0, 0)], [], [], [1])])
theorem hd_1253 : con_1253.1 = (yX8_isSlot, cX8_isSlot, 1, (some .boolean)) := rfl
noncomputable def ct_1253 : CTB2 := []
noncomputable def cu_1253 : List CUT2 := []
theorem ch_1253 : staG tb_X8_isSlot 1 bt_RX8 [] ct_1253 [] [] cu_1253 9 con_1253 = true := by decide +kernel
theorem cto_1253 (l : Launch) : CTOK2 l RX8 vwCl gTbl ct_1253 := ct2_nil
theorem vl_1253 (l : Launch) : Vld2 l vwCl gTbl con_1253 := conR_ok3 gT_all (hd_1253) rfl pn_RX8 tk_X8_isSlot bo_RX8 xo_RX8 (cto_1253 l) ch_1253 cut_nil
/-- RookHusting wrongSeen -/
noncomputable def gi_923 : GI := jl_n [jl_z 1, jl_i 4 2147483647, jl_t, jl_z 19, jl_i 0 16, jl_z 2, jl_i 0 5, jl_z 15, jl_r 4 (jl_m 0 60)]
noncomputable def ac_804 : AC := .inl (11, jl_n [jl_8 5 2, jl_6 2 1, jl_8 7 1, jl_6 4 1, jl_8 19 11])
noncomputable def ac_805 : AC := .inl (4, jl_n [jl_8 22 1, jl_1 23 1, jl_8 25 2, jl_1 26 1, jl_8 38 12])
noncomputable def ac_806 : AC := .inr (1, jl_n [js_1 45 4])
noncomputable def ac_807 : AC := .inr (2, jl_n [js_5 240 9223372036854775807 9223372036854775807])
noncomputable def hc_191 : List AC := [ac_804, .inl (9, [(6, 2, 0), (8, 20, 0)]), ac_805, .inl (8, [(6, 5, 0), (8, 39, 0), (6, 4, 0)]), ac_806, ac_807]
noncomputable def gi_924 : GI := jl_n [jl_z 1, jl_i 4 2147483647, jl_t, jl_z 19, jl_i 0 16, jl_z 2, jl_i 0 5, jl_z 15, jl_r 4 (jl_m 0 60), jl_z 1]
noncomputable def hq_639 : HP := [(false, ac_804), (false, .inl (9, [(6, 2, 0), (8, 20, 0)])), (false, ac_805), (false, .inl (8, [(6, 5, 0), (8, 39, 0), (6, 4, 0)])), (false, ac_806), (false, ac_807)]
noncomputable def con_1254 : Con2 := ((yX11_wrongSeen, cX11_wrongSeen, 5, (some .int)), (1, 20), ([(6, 0, 0), (1, 1, 0), (1, 2, 0)], gi_923, hc_191, []), [((0, (-2), 0), gi_924, hq_639, [], [1])])
theorem hd_1254 : con_1254.1 = (yX11_wrongSeen, cX11_wrongSeen, 5, (some .int)) := rfl
theorem ck_RX11_414_1253 : COK2 RX11 vwCl gTbl 414 1 con_1253 := ⟨wd_1210, wd_131, mh_X8_isSlot, .inl ⟨rfl, wd_1208, wd_1209, pd_X8_isSlot⟩⟩
noncomputable def ct_1254 : CTB2 := [(1, 414, 1, con_1253, [])]
noncomputable def cu_1254 : List CUT2 := []
theorem ch_1254 : staG tb_X11_wrongSeen 1 bt_RX11 [] ct_1254 [] [] cu_1254 7 con_1254 = true := by decide +kernel
theorem cto_1254 (l : Launch) : CTOK2 l RX11 vwCl gTbl ct_1254 := ct2_cons (vl_1253 l) ck_RX11_414_1253 (ct2_nil)
theorem vl_1254 (l : Launch) : Vld2 l vwCl gTbl con_1254 := conR_ok3 gT_all (hd_1254) rfl pn_RX11 tk_X11_wrongSeen bo_RX11 xo_RX11 (cto_1254 l) ch_1254 cut_nil
/-- RookHusting$Slots isSlot -/
noncomputable def con_1255 : Con2 := ((yX8_isSlot, cX8_isSlot, 1, (some .boolean)), (0, 0), ([(0, 3, 0)], [(0, 0)], [], []), [((0, 1, 0), [(0, 0), (0, 0)], [], [], [1])])
theorem hd_1255 : con_1255.1 = (yX8_isSlot, cX8_isSlot, 1, (some .boolean)) := rfl
noncomputable def ct_1255 : CTB2 := []
noncomputable def cu_1255 : List CUT2 := []
theorem ch_1255 : staG tb_X8_isSlot 1 bt_RX8 [] ct_1255 [] [] cu_1255 10 con_1255 = true := by decide +kernel
theorem cto_1255 (l : Launch) : CTOK2 l RX8 vwCl gTbl ct_1255 := ct2_nil
theorem vl_1255 (l : Launch) : Vld2 l vwCl gTbl con_1255 := conR_ok3 gT_all (hd_1255) rfl pn_RX8 tk_X8_isSlot bo_RX8 xo_RX8 (cto_1255 l) ch_1255 cut_nil
/-- RookHusting$Slots hasRow -/
noncomputable def gi_925 : GI := jl_n [jl_z 5, jl_r 4 (jl_m 0 60)]
noncomputable def ac_808 : AC := .inr (1, jl_n [js_1 9 4])
noncomputable def gi_926 : GI := jl_n [jl_z 5, jl_r 3 (jl_m 0 60), jl_k 0 0, jl_z 1]
noncomputable def hq_640 : HP := [(false, .inl (8, [(8, 2, 0), (8, 3, 0), (6, 1, 0)])), (false, ac_808)]
noncomputable def gi_927 : GI := jl_n [jl_z 5, jl_r 3 (jl_m 0 60), jl_i 0 60, jl_z 1]
noncomputable def con_1256 : Con2 := ((yX8_hasRow, cX8_hasRow, 2, (some .boolean)), (0, 0), ([(6, 0, 0), (0, 3, 0)], gi_925, [.inl (8, [(8, 2, 0), (8, 3, 0), (6, 1, 0)]), ac_808], []), [((0, 0, 0), gi_926, hq_640, [], [1]), ((0, 1, 0), gi_927, hq_640, [], [1])])
theorem hd_1256 : con_1256.1 = (yX8_hasRow, cX8_hasRow, 2, (some .boolean)) := rfl
noncomputable def ct_1256 : CTB2 := []
noncomputable def cu_1256 : List CUT2 := []
theorem ch_1256 : staG tb_X8_hasRow 1 bt_RX8 [] ct_1256 [] [] cu_1256 11 con_1256 = true := by decide +kernel
theorem cto_1256 (l : Launch) : CTOK2 l RX8 vwCl gTbl ct_1256 := ct2_nil
theorem vl_1256 (l : Launch) : Vld2 l vwCl gTbl con_1256 := conR_ok3 gT_all (hd_1256) rfl pn_RX8 tk_X8_hasRow bo_RX8 xo_RX8 (cto_1256 l) ch_1256 cut_nil
/-- RookHusting$Slots at -/
noncomputable def gi_928 : GI := jl_n [jl_z 6, jl_u]
noncomputable def ac_809 : AC := .inr (2, jl_n [js_5 180 9223372036854775807 9223372036854775807, js_4 7 1, js_5 59 9223372036854775807 9223372036854775807])
noncomputable def gi_929 : GI := jl_n [jl_z 6, jl_u, jl_z 1]
noncomputable def hq_641 : HP := [(false, .inl (8, [(6, 1, 0), (8, 4, 0), (8, 5, 0)])), (false, ac_809)]
noncomputable def con_1257 : Con2 := ((yX8_at, cX8_at, 3, (some .long)), (0, 0), ([(6, 0, 0), (0, 3, 0), (0, 0, 0)], gi_928, [.inl (8, [(6, 1, 0), (8, 4, 0), (8, 5, 0)]), ac_809], []), [((4, 6, 0), gi_929, hq_641, [], [1])])
theorem hd_1257 : con_1257.1 = (yX8_at, cX8_at, 3, (some .long)) := rfl
noncomputable def ct_1257 : CTB2 := []
noncomputable def cu_1257 : List CUT2 := []
theorem ch_1257 : staG tb_X8_at 1 bt_RX8 [] ct_1257 [] [] cu_1257 11 con_1257 = true := by decide +kernel
theorem cto_1257 (l : Launch) : CTOK2 l RX8 vwCl gTbl ct_1257 := ct2_nil
theorem vl_1257 (l : Launch) : Vld2 l vwCl gTbl con_1257 := conR_ok3 gT_all (hd_1257) rfl pn_RX8 tk_X8_at bo_RX8 xo_RX8 (cto_1257 l) ch_1257 cut_nil
/-- RookHusting isBetween -/
noncomputable def gi_930 : GI := jl_n [jl_u, jl_i 0 4, jl_z 1]
noncomputable def con_1258 : Con2 := ((yX11_isBetween, cX11_isBetween, 3, (some .boolean)), (0, 0), ([(4, 0, 0), (1, 1, 0)], [((-9223372036854775808), 9223372036854775807), (0, 4)], [], []), [((0, 0, 0), gi_930, [], [], [1]), ((0, 1, 0), [(0, 4), (0, 4), (0, 0)], [], [], [1])])
theorem hd_1258 : con_1258.1 = (yX11_isBetween, cX11_isBetween, 3, (some .boolean)) := rfl
noncomputable def ct_1258 : CTB2 := []
noncomputable def cu_1258 : List CUT2 := []
theorem ch_1258 : staG tb_X11_isBetween 1 bt_RX11 [] ct_1258 [] [] cu_1258 12 con_1258 = true := by decide +kernel
theorem cto_1258 (l : Launch) : CTOK2 l RX11 vwCl gTbl ct_1258 := ct2_nil
theorem vl_1258 (l : Launch) : Vld2 l vwCl gTbl con_1258 := conR_ok3 gT_all (hd_1258) rfl pn_RX11 tk_X11_isBetween bo_RX11 xo_RX11 (cto_1258 l) ch_1258 cut_nil
/-- RookHusting$Slots at -/
noncomputable def ac_810 : AC := .inr (2, jl_n [js_5 181 9223372036854775807 9223372036854775807, js_4 7 1, js_5 58 9223372036854775807 9223372036854775807])
noncomputable def hq_642 : HP := [(false, .inl (8, [(6, 1, 0), (8, 4, 0), (8, 5, 0)])), (false, ac_810)]
noncomputable def con_1259 : Con2 := ((yX8_at, cX8_at, 3, (some .long)), (0, 0), ([(6, 0, 0), (0, 3, 0), (0, 1, 0)], gi_928, [.inl (8, [(6, 1, 0), (8, 4, 0), (8, 5, 0)]), ac_810], []), [((4, 6, 0), gi_929, hq_642, [], [1])])
theorem hd_1259 : con_1259.1 = (yX8_at, cX8_at, 3, (some .long)) := rfl
noncomputable def ct_1259 : CTB2 := []
noncomputable def cu_1259 : List CUT2 := []
theorem ch_1259 : staG tb_X8_at 1 bt_RX8 [] ct_1259 [] [] cu_1259 11 con_1259 = true := by decide +kernel
theorem cto_1259 (l : Launch) : CTOK2 l RX8 vwCl gTbl ct_1259 := ct2_nil
theorem vl_1259 (l : Launch) : Vld2 l vwCl gTbl con_1259 := conR_ok3 gT_all (hd_1259) rfl pn_RX8 tk_X8_at bo_RX8 xo_RX8 (cto_1259 l) ch_1259 cut_nil
/-- RookHusting isBetween -/
noncomputable def gi_931 : GI := jl_n [jl_u, jl_i 0 16, jl_z 1]
noncomputable def con_1260 : Con2 := ((yX11_isBetween, cX11_isBetween, 3, (some .boolean)), (0, 0), ([(4, 0, 0), (1, 1, 0)], [((-9223372036854775808), 9223372036854775807), (0, 16)], [], []), [((0, 0, 0), gi_931, [], [], [1]), ((0, 1, 0), [(0, 16), (0, 16), (0, 0)], [], [], [1])])
theorem hd_1260 : con_1260.1 = (yX11_isBetween, cX11_isBetween, 3, (some .boolean)) := rfl
noncomputable def ct_1260 : CTB2 := []
noncomputable def cu_1260 : List CUT2 := []
theorem ch_1260 : staG tb_X11_isBetween 1 bt_RX11 [] ct_1260 [] [] cu_1260 12 con_1260 = true := by decide +kernel
theorem cto_1260 (l : Launch) : CTOK2 l RX11 vwCl gTbl ct_1260 := ct2_nil
theorem vl_1260 (l : Launch) : Vld2 l vwCl gTbl con_1260 := conR_ok3 gT_all (hd_1260) rfl pn_RX11 tk_X11_isBetween bo_RX11 xo_RX11 (cto_1260 l) ch_1260 cut_nil
/-- RookHusting$Slots at -/
noncomputable def ac_811 : AC := .inr (2, jl_n [js_5 182 9223372036854775807 9223372036854775807, js_4 7 1, js_5 57 9223372036854775807 9223372036854775807])
noncomputable def hq_643 : HP := [(false, .inl (8, [(6, 1, 0), (8, 4, 0), (8, 5, 0)])), (false, ac_811)]
noncomputable def con_1261 : Con2 := ((yX8_at, cX8_at, 3, (some .long)), (0, 0), ([(6, 0, 0), (0, 3, 0), (0, 2, 0)], gi_928, [.inl (8, [(6, 1, 0), (8, 4, 0), (8, 5, 0)]), ac_811], []), [((4, 6, 0), gi_929, hq_643, [], [1])])
theorem hd_1261 : con_1261.1 = (yX8_at, cX8_at, 3, (some .long)) := rfl
noncomputable def ct_1261 : CTB2 := []
noncomputable def cu_1261 : List CUT2 := []
theorem ch_1261 : staG tb_X8_at 1 bt_RX8 [] ct_1261 [] [] cu_1261 11 con_1261 = true := by decide +kernel
theorem cto_1261 (l : Launch) : CTOK2 l RX8 vwCl gTbl ct_1261 := ct2_nil
theorem vl_1261 (l : Launch) : Vld2 l vwCl gTbl con_1261 := conR_ok3 gT_all (hd_1261) rfl pn_RX8 tk_X8_at bo_RX8 xo_RX8 (cto_1261 l) ch_1261 cut_nil
/-- RookHusting isBetween -/
noncomputable def con_1262 : Con2 := ((yX11_isBetween, cX11_isBetween, 3, (some .boolean)), (0, 0), ([(4, 0, 0), (0, 250, 0)], [((-9223372036854775808), 9223372036854775807), (0, 0)], [], []), [((0, 0, 0), gi_146, [], [], [1]), ((0, 1, 0), [(0, 250), (0, 0), (0, 0)], [], [], [1])])
theorem hd_1262 : con_1262.1 = (yX11_isBetween, cX11_isBetween, 3, (some .boolean)) := rfl
noncomputable def ct_1262 : CTB2 := []
noncomputable def cu_1262 : List CUT2 := []
theorem ch_1262 : staG tb_X11_isBetween 1 bt_RX11 [] ct_1262 [] [] cu_1262 12 con_1262 = true := by decide +kernel
theorem cto_1262 (l : Launch) : CTOK2 l RX11 vwCl gTbl ct_1262 := ct2_nil
theorem vl_1262 (l : Launch) : Vld2 l vwCl gTbl con_1262 := conR_ok3 gT_all (hd_1262) rfl pn_RX11 tk_X11_isBetween bo_RX11 xo_RX11 (cto_1262 l) ch_1262 cut_nil
/-- RookHusting$Slots at -/
noncomputable def ac_812 : AC := .inr (2, jl_n [js_5 183 9223372036854775807 9223372036854775807, js_4 7 1, js_5 56 9223372036854775807 9223372036854775807])
noncomputable def hq_644 : HP := [(false, .inl (8, [(6, 1, 0), (8, 4, 0), (8, 5, 0)])), (false, ac_812)]
noncomputable def con_1263 : Con2 := ((yX8_at, cX8_at, 3, (some .long)), (0, 0), ([(6, 0, 0), (0, 3, 0), (0, 3, 0)], gi_928, [.inl (8, [(6, 1, 0), (8, 4, 0), (8, 5, 0)]), ac_812], []), [((4, 6, 0), gi_929, hq_644, [], [1])])
theorem hd_1263 : con_1263.1 = (yX8_at, cX8_at, 3, (some .long)) := rfl
noncomputable def ct_1263 : CTB2 := []
noncomputable def cu_1263 : List CUT2 := []
theorem ch_1263 : staG tb_X8_at 1 bt_RX8 [] ct_1263 [] [] cu_1263 11 con_1263 = true := by decide +kernel
theorem cto_1263 (l : Launch) : CTOK2 l RX8 vwCl gTbl ct_1263 := ct2_nil
theorem vl_1263 (l : Launch) : Vld2 l vwCl gTbl con_1263 := conR_ok3 gT_all (hd_1263) rfl pn_RX8 tk_X8_at bo_RX8 xo_RX8 (cto_1263 l) ch_1263 cut_nil
/-- RookHusting$Slots at -/
noncomputable def ac_813 : AC := .inr (2, jl_n [js_5 184 9223372036854775807 9223372036854775807, js_4 7 1, js_5 55 9223372036854775807 9223372036854775807])
noncomputable def hq_645 : HP := [(false, .inl (8, [(6, 1, 0), (8, 4, 0), (8, 5, 0)])), (false, ac_813)]
noncomputable def con_1264 : Con2 := ((yX8_at, cX8_at, 3, (some .long)), (0, 0), ([(6, 0, 0), (0, 3, 0), (0, 4, 0)], gi_928, [.inl (8, [(6, 1, 0), (8, 4, 0), (8, 5, 0)]), ac_813], []), [((4, 6, 0), gi_929, hq_645, [], [1])])
theorem hd_1264 : con_1264.1 = (yX8_at, cX8_at, 3, (some .long)) := rfl
noncomputable def ct_1264 : CTB2 := []
noncomputable def cu_1264 : List CUT2 := []
theorem ch_1264 : staG tb_X8_at 1 bt_RX8 [] ct_1264 [] [] cu_1264 11 con_1264 = true := by decide +kernel
theorem cto_1264 (l : Launch) : CTOK2 l RX8 vwCl gTbl ct_1264 := ct2_nil
theorem vl_1264 (l : Launch) : Vld2 l vwCl gTbl con_1264 := conR_ok3 gT_all (hd_1264) rfl pn_RX8 tk_X8_at bo_RX8 xo_RX8 (cto_1264 l) ch_1264 cut_nil
/-- RookHusting$Slots at -/
noncomputable def ac_814 : AC := .inr (2, jl_n [js_5 185 9223372036854775807 9223372036854775807, js_4 7 1, js_5 54 9223372036854775807 9223372036854775807])
noncomputable def hq_646 : HP := [(false, .inl (8, [(6, 1, 0), (8, 4, 0), (8, 5, 0)])), (false, ac_814)]
noncomputable def con_1265 : Con2 := ((yX8_at, cX8_at, 3, (some .long)), (0, 0), ([(6, 0, 0), (0, 3, 0), (0, 5, 0)], gi_928, [.inl (8, [(6, 1, 0), (8, 4, 0), (8, 5, 0)]), ac_814], []), [((4, 6, 0), gi_929, hq_646, [], [1])])
theorem hd_1265 : con_1265.1 = (yX8_at, cX8_at, 3, (some .long)) := rfl
noncomputable def ct_1265 : CTB2 := []
noncomputable def cu_1265 : List CUT2 := []
theorem ch_1265 : staG tb_X8_at 1 bt_RX8 [] ct_1265 [] [] cu_1265 11 con_1265 = true := by decide +kernel
theorem cto_1265 (l : Launch) : CTOK2 l RX8 vwCl gTbl ct_1265 := ct2_nil
theorem vl_1265 (l : Launch) : Vld2 l vwCl gTbl con_1265 := conR_ok3 gT_all (hd_1265) rfl pn_RX8 tk_X8_at bo_RX8 xo_RX8 (cto_1265 l) ch_1265 cut_nil
/-- RookHusting$Slots at -/
noncomputable def ac_815 : AC := .inr (2, jl_n [js_5 186 9223372036854775807 9223372036854775807, js_4 7 1, js_5 53 9223372036854775807 9223372036854775807])
noncomputable def hq_647 : HP := [(false, .inl (8, [(6, 1, 0), (8, 4, 0), (8, 5, 0)])), (false, ac_815)]
noncomputable def con_1266 : Con2 := ((yX8_at, cX8_at, 3, (some .long)), (0, 0), ([(6, 0, 0), (0, 3, 0), (0, 6, 0)], gi_928, [.inl (8, [(6, 1, 0), (8, 4, 0), (8, 5, 0)]), ac_815], []), [((4, 6, 0), gi_929, hq_647, [], [1])])
theorem hd_1266 : con_1266.1 = (yX8_at, cX8_at, 3, (some .long)) := rfl
noncomputable def ct_1266 : CTB2 := []
noncomputable def cu_1266 : List CUT2 := []
theorem ch_1266 : staG tb_X8_at 1 bt_RX8 [] ct_1266 [] [] cu_1266 11 con_1266 = true := by decide +kernel
theorem cto_1266 (l : Launch) : CTOK2 l RX8 vwCl gTbl ct_1266 := ct2_nil
theorem vl_1266 (l : Launch) : Vld2 l vwCl gTbl con_1266 := conR_ok3 gT_all (hd_1266) rfl pn_RX8 tk_X8_at bo_RX8 xo_RX8 (cto_1266 l) ch_1266 cut_nil
/-- RookHusting$Slots at -/
noncomputable def ac_816 : AC := .inr (2, jl_n [js_5 187 9223372036854775807 9223372036854775807, js_4 7 1, js_5 52 9223372036854775807 9223372036854775807])
noncomputable def hq_648 : HP := [(false, .inl (8, [(6, 1, 0), (8, 4, 0), (8, 5, 0)])), (false, ac_816)]
noncomputable def con_1267 : Con2 := ((yX8_at, cX8_at, 3, (some .long)), (0, 0), ([(6, 0, 0), (0, 3, 0), (0, 7, 0)], gi_928, [.inl (8, [(6, 1, 0), (8, 4, 0), (8, 5, 0)]), ac_816], []), [((4, 6, 0), gi_929, hq_648, [], [1])])
theorem hd_1267 : con_1267.1 = (yX8_at, cX8_at, 3, (some .long)) := rfl
noncomputable def ct_1267 : CTB2 := []
noncomputable def cu_1267 : List CUT2 := []
theorem ch_1267 : staG tb_X8_at 1 bt_RX8 [] ct_1267 [] [] cu_1267 11 con_1267 = true := by decide +kernel
theorem cto_1267 (l : Launch) : CTOK2 l RX8 vwCl gTbl ct_1267 := ct2_nil
theorem vl_1267 (l : Launch) : Vld2 l vwCl gTbl con_1267 := conR_ok3 gT_all (hd_1267) rfl pn_RX8 tk_X8_at bo_RX8 xo_RX8 (cto_1267 l) ch_1267 cut_nil
/-- RookHusting$Slots at -/
noncomputable def ac_817 : AC := .inr (2, jl_n [js_5 188 9223372036854775807 9223372036854775807, js_4 7 1, js_5 51 9223372036854775807 9223372036854775807])
noncomputable def hq_649 : HP := [(false, .inl (8, [(6, 1, 0), (8, 4, 0), (8, 5, 0)])), (false, ac_817)]
noncomputable def con_1268 : Con2 := ((yX8_at, cX8_at, 3, (some .long)), (0, 0), ([(6, 0, 0), (0, 3, 0), (0, 8, 0)], gi_928, [.inl (8, [(6, 1, 0), (8, 4, 0), (8, 5, 0)]), ac_817], []), [((4, 6, 0), gi_929, hq_649, [], [1])])
theorem hd_1268 : con_1268.1 = (yX8_at, cX8_at, 3, (some .long)) := rfl
noncomputable def ct_1268 : CTB2 := []
noncomputable def cu_1268 : List CUT2 := []
theorem ch_1268 : staG tb_X8_at 1 bt_RX8 [] ct_1268 [] [] cu_1268 11 con_1268 = true := by decide +kernel
theorem cto_1268 (l : Launch) : CTOK2 l RX8 vwCl gTbl ct_1268 := ct2_nil
theorem vl_1268 (l : Launch) : Vld2 l vwCl gTbl con_1268 := conR_ok3 gT_all (hd_1268) rfl pn_RX8 tk_X8_at bo_RX8 xo_RX8 (cto_1268 l) ch_1268 cut_nil
/-- RookHusting$Slots at -/
noncomputable def ac_818 : AC := .inr (2, jl_n [js_5 189 9223372036854775807 9223372036854775807, js_4 7 1, js_5 50 9223372036854775807 9223372036854775807])
noncomputable def hq_650 : HP := [(false, .inl (8, [(6, 1, 0), (8, 4, 0), (8, 5, 0)])), (false, ac_818)]
noncomputable def con_1269 : Con2 := ((yX8_at, cX8_at, 3, (some .long)), (0, 0), ([(6, 0, 0), (0, 3, 0), (0, 9, 0)], gi_928, [.inl (8, [(6, 1, 0), (8, 4, 0), (8, 5, 0)]), ac_818], []), [((4, 6, 0), gi_929, hq_650, [], [1])])
theorem hd_1269 : con_1269.1 = (yX8_at, cX8_at, 3, (some .long)) := rfl
noncomputable def ct_1269 : CTB2 := []
noncomputable def cu_1269 : List CUT2 := []
theorem ch_1269 : staG tb_X8_at 1 bt_RX8 [] ct_1269 [] [] cu_1269 11 con_1269 = true := by decide +kernel
theorem cto_1269 (l : Launch) : CTOK2 l RX8 vwCl gTbl ct_1269 := ct2_nil
theorem vl_1269 (l : Launch) : Vld2 l vwCl gTbl con_1269 := conR_ok3 gT_all (hd_1269) rfl pn_RX8 tk_X8_at bo_RX8 xo_RX8 (cto_1269 l) ch_1269 cut_nil
/-- RookHusting$Slots at -/
noncomputable def ac_819 : AC := .inr (2, jl_n [js_5 190 9223372036854775807 9223372036854775807, js_4 7 1, js_5 49 9223372036854775807 9223372036854775807])
noncomputable def hq_651 : HP := [(false, .inl (8, [(6, 1, 0), (8, 4, 0), (8, 5, 0)])), (false, ac_819)]
noncomputable def con_1270 : Con2 := ((yX8_at, cX8_at, 3, (some .long)), (0, 0), ([(6, 0, 0), (0, 3, 0), (0, 10, 0)], gi_928, [.inl (8, [(6, 1, 0), (8, 4, 0), (8, 5, 0)]), ac_819], []), [((4, 6, 0), gi_929, hq_651, [], [1])])
theorem hd_1270 : con_1270.1 = (yX8_at, cX8_at, 3, (some .long)) := rfl
noncomputable def ct_1270 : CTB2 := []
noncomputable def cu_1270 : List CUT2 := []
theorem ch_1270 : staG tb_X8_at 1 bt_RX8 [] ct_1270 [] [] cu_1270 11 con_1270 = true := by decide +kernel
theorem cto_1270 (l : Launch) : CTOK2 l RX8 vwCl gTbl ct_1270 := ct2_nil
theorem vl_1270 (l : Launch) : Vld2 l vwCl gTbl con_1270 := conR_ok3 gT_all (hd_1270) rfl pn_RX8 tk_X8_at bo_RX8 xo_RX8 (cto_1270 l) ch_1270 cut_nil
/-- RookHusting$Slots at -/
noncomputable def ac_820 : AC := .inr (2, jl_n [js_5 191 9223372036854775807 9223372036854775807, js_4 7 1, js_5 48 9223372036854775807 9223372036854775807])
noncomputable def hq_652 : HP := [(false, .inl (8, [(6, 1, 0), (8, 4, 0), (8, 5, 0)])), (false, ac_820)]
noncomputable def con_1271 : Con2 := ((yX8_at, cX8_at, 3, (some .long)), (0, 0), ([(6, 0, 0), (0, 3, 0), (0, 11, 0)], gi_928, [.inl (8, [(6, 1, 0), (8, 4, 0), (8, 5, 0)]), ac_820], []), [((4, 6, 0), gi_929, hq_652, [], [1])])
theorem hd_1271 : con_1271.1 = (yX8_at, cX8_at, 3, (some .long)) := rfl
noncomputable def ct_1271 : CTB2 := []
noncomputable def cu_1271 : List CUT2 := []
theorem ch_1271 : staG tb_X8_at 1 bt_RX8 [] ct_1271 [] [] cu_1271 11 con_1271 = true := by decide +kernel
theorem cto_1271 (l : Launch) : CTOK2 l RX8 vwCl gTbl ct_1271 := ct2_nil
theorem vl_1271 (l : Launch) : Vld2 l vwCl gTbl con_1271 := conR_ok3 gT_all (hd_1271) rfl pn_RX8 tk_X8_at bo_RX8 xo_RX8 (cto_1271 l) ch_1271 cut_nil
/-- RookHusting$Slots at -/
noncomputable def ac_821 : AC := .inr (2, jl_n [js_5 192 9223372036854775807 9223372036854775807, js_4 7 1, js_5 47 9223372036854775807 9223372036854775807])
noncomputable def hq_653 : HP := [(false, .inl (8, [(6, 1, 0), (8, 4, 0), (8, 5, 0)])), (false, ac_821)]
noncomputable def con_1272 : Con2 := ((yX8_at, cX8_at, 3, (some .long)), (0, 0), ([(6, 0, 0), (0, 3, 0), (0, 12, 0)], gi_928, [.inl (8, [(6, 1, 0), (8, 4, 0), (8, 5, 0)]), ac_821], []), [((4, 6, 0), gi_929, hq_653, [], [1])])
theorem hd_1272 : con_1272.1 = (yX8_at, cX8_at, 3, (some .long)) := rfl
noncomputable def ct_1272 : CTB2 := []
noncomputable def cu_1272 : List CUT2 := []
theorem ch_1272 : staG tb_X8_at 1 bt_RX8 [] ct_1272 [] [] cu_1272 11 con_1272 = true := by decide +kernel
theorem cto_1272 (l : Launch) : CTOK2 l RX8 vwCl gTbl ct_1272 := ct2_nil
theorem vl_1272 (l : Launch) : Vld2 l vwCl gTbl con_1272 := conR_ok3 gT_all (hd_1272) rfl pn_RX8 tk_X8_at bo_RX8 xo_RX8 (cto_1272 l) ch_1272 cut_nil
/-- RookHusting$Slots at -/
noncomputable def ac_822 : AC := .inr (2, jl_n [js_5 193 9223372036854775807 9223372036854775807, js_4 7 1, js_5 46 9223372036854775807 9223372036854775807])
noncomputable def hq_654 : HP := [(false, .inl (8, [(6, 1, 0), (8, 4, 0), (8, 5, 0)])), (false, ac_822)]
noncomputable def con_1273 : Con2 := ((yX8_at, cX8_at, 3, (some .long)), (0, 0), ([(6, 0, 0), (0, 3, 0), (0, 13, 0)], gi_928, [.inl (8, [(6, 1, 0), (8, 4, 0), (8, 5, 0)]), ac_822], []), [((4, 6, 0), gi_929, hq_654, [], [1])])
theorem hd_1273 : con_1273.1 = (yX8_at, cX8_at, 3, (some .long)) := rfl
noncomputable def ct_1273 : CTB2 := []
noncomputable def cu_1273 : List CUT2 := []
theorem ch_1273 : staG tb_X8_at 1 bt_RX8 [] ct_1273 [] [] cu_1273 11 con_1273 = true := by decide +kernel
theorem cto_1273 (l : Launch) : CTOK2 l RX8 vwCl gTbl ct_1273 := ct2_nil
theorem vl_1273 (l : Launch) : Vld2 l vwCl gTbl con_1273 := conR_ok3 gT_all (hd_1273) rfl pn_RX8 tk_X8_at bo_RX8 xo_RX8 (cto_1273 l) ch_1273 cut_nil
/-- RookHusting$Slots at -/
noncomputable def ac_823 : AC := .inr (2, jl_n [js_5 194 9223372036854775807 9223372036854775807, js_4 7 1, js_5 45 9223372036854775807 9223372036854775807])
noncomputable def hq_655 : HP := [(false, .inl (8, [(6, 1, 0), (8, 4, 0), (8, 5, 0)])), (false, ac_823)]
noncomputable def con_1274 : Con2 := ((yX8_at, cX8_at, 3, (some .long)), (0, 0), ([(6, 0, 0), (0, 3, 0), (0, 14, 0)], gi_928, [.inl (8, [(6, 1, 0), (8, 4, 0), (8, 5, 0)]), ac_823], []), [((4, 6, 0), gi_929, hq_655, [], [1])])
theorem hd_1274 : con_1274.1 = (yX8_at, cX8_at, 3, (some .long)) := rfl
noncomputable def ct_1274 : CTB2 := []
noncomputable def cu_1274 : List CUT2 := []
theorem ch_1274 : staG tb_X8_at 1 bt_RX8 [] ct_1274 [] [] cu_1274 11 con_1274 = true := by decide +kernel
theorem cto_1274 (l : Launch) : CTOK2 l RX8 vwCl gTbl ct_1274 := ct2_nil
theorem vl_1274 (l : Launch) : Vld2 l vwCl gTbl con_1274 := conR_ok3 gT_all (hd_1274) rfl pn_RX8 tk_X8_at bo_RX8 xo_RX8 (cto_1274 l) ch_1274 cut_nil
/-- RookHusting$Slots at -/
noncomputable def ac_824 : AC := .inr (2, jl_n [js_5 195 9223372036854775807 9223372036854775807, js_4 7 1, js_5 44 9223372036854775807 9223372036854775807])
noncomputable def hq_656 : HP := [(false, .inl (8, [(6, 1, 0), (8, 4, 0), (8, 5, 0)])), (false, ac_824)]
noncomputable def con_1275 : Con2 := ((yX8_at, cX8_at, 3, (some .long)), (0, 0), ([(6, 0, 0), (0, 3, 0), (0, 15, 0)], gi_928, [.inl (8, [(6, 1, 0), (8, 4, 0), (8, 5, 0)]), ac_824], []), [((4, 6, 0), gi_929, hq_656, [], [1])])
theorem hd_1275 : con_1275.1 = (yX8_at, cX8_at, 3, (some .long)) := rfl
noncomputable def ct_1275 : CTB2 := []
noncomputable def cu_1275 : List CUT2 := []
theorem ch_1275 : staG tb_X8_at 1 bt_RX8 [] ct_1275 [] [] cu_1275 11 con_1275 = true := by decide +kernel
theorem cto_1275 (l : Launch) : CTOK2 l RX8 vwCl gTbl ct_1275 := ct2_nil
theorem vl_1275 (l : Launch) : Vld2 l vwCl gTbl con_1275 := conR_ok3 gT_all (hd_1275) rfl pn_RX8 tk_X8_at bo_RX8 xo_RX8 (cto_1275 l) ch_1275 cut_nil
/-- RookHusting$Slots at -/
noncomputable def ac_825 : AC := .inr (2, jl_n [js_5 196 9223372036854775807 9223372036854775807, js_4 7 1, js_5 43 9223372036854775807 9223372036854775807])
noncomputable def hq_657 : HP := [(false, .inl (8, [(6, 1, 0), (8, 4, 0), (8, 5, 0)])), (false, ac_825)]
noncomputable def con_1276 : Con2 := ((yX8_at, cX8_at, 3, (some .long)), (0, 0), ([(6, 0, 0), (0, 3, 0), (0, 16, 0)], gi_928, [.inl (8, [(6, 1, 0), (8, 4, 0), (8, 5, 0)]), ac_825], []), [((4, 6, 0), gi_929, hq_657, [], [1])])
theorem hd_1276 : con_1276.1 = (yX8_at, cX8_at, 3, (some .long)) := rfl
noncomputable def ct_1276 : CTB2 := []
noncomputable def cu_1276 : List CUT2 := []
theorem ch_1276 : staG tb_X8_at 1 bt_RX8 [] ct_1276 [] [] cu_1276 11 con_1276 = true := by decide +kernel
theorem cto_1276 (l : Launch) : CTOK2 l RX8 vwCl gTbl ct_1276 := ct2_nil
theorem vl_1276 (l : Launch) : Vld2 l vwCl gTbl con_1276 := conR_ok3 gT_all (hd_1276) rfl pn_RX8 tk_X8_at bo_RX8 xo_RX8 (cto_1276 l) ch_1276 cut_nil
/-- RookHusting$Slots at -/
noncomputable def ac_826 : AC := .inr (2, jl_n [js_5 197 9223372036854775807 9223372036854775807, js_4 7 1, js_5 42 9223372036854775807 9223372036854775807])
noncomputable def hq_658 : HP := [(false, .inl (8, [(6, 1, 0), (8, 4, 0), (8, 5, 0)])), (false, ac_826)]
noncomputable def con_1277 : Con2 := ((yX8_at, cX8_at, 3, (some .long)), (0, 0), ([(6, 0, 0), (0, 3, 0), (0, 17, 0)], gi_928, [.inl (8, [(6, 1, 0), (8, 4, 0), (8, 5, 0)]), ac_826], []), [((4, 6, 0), gi_929, hq_658, [], [1])])
theorem hd_1277 : con_1277.1 = (yX8_at, cX8_at, 3, (some .long)) := rfl
noncomputable def ct_1277 : CTB2 := []
noncomputable def cu_1277 : List CUT2 := []
theorem ch_1277 : staG tb_X8_at 1 bt_RX8 [] ct_1277 [] [] cu_1277 11 con_1277 = true := by decide +kernel
theorem cto_1277 (l : Launch) : CTOK2 l RX8 vwCl gTbl ct_1277 := ct2_nil
theorem vl_1277 (l : Launch) : Vld2 l vwCl gTbl con_1277 := conR_ok3 gT_all (hd_1277) rfl pn_RX8 tk_X8_at bo_RX8 xo_RX8 (cto_1277 l) ch_1277 cut_nil
/-- RookHusting$Slots at -/
noncomputable def ac_827 : AC := .inr (2, jl_n [js_5 198 9223372036854775807 9223372036854775807, js_4 7 1, js_5 41 9223372036854775807 9223372036854775807])
noncomputable def hq_659 : HP := [(false, .inl (8, [(6, 1, 0), (8, 4, 0), (8, 5, 0)])), (false, ac_827)]
noncomputable def con_1278 : Con2 := ((yX8_at, cX8_at, 3, (some .long)), (0, 0), ([(6, 0, 0), (0, 3, 0), (0, 18, 0)], gi_928, [.inl (8, [(6, 1, 0), (8, 4, 0), (8, 5, 0)]), ac_827], []), [((4, 6, 0), gi_929, hq_659, [], [1])])
theorem hd_1278 : con_1278.1 = (yX8_at, cX8_at, 3, (some .long)) := rfl
noncomputable def ct_1278 : CTB2 := []
noncomputable def cu_1278 : List CUT2 := []
theorem ch_1278 : staG tb_X8_at 1 bt_RX8 [] ct_1278 [] [] cu_1278 11 con_1278 = true := by decide +kernel
theorem cto_1278 (l : Launch) : CTOK2 l RX8 vwCl gTbl ct_1278 := ct2_nil
theorem vl_1278 (l : Launch) : Vld2 l vwCl gTbl con_1278 := conR_ok3 gT_all (hd_1278) rfl pn_RX8 tk_X8_at bo_RX8 xo_RX8 (cto_1278 l) ch_1278 cut_nil
/-- RookHusting$Slots at -/
noncomputable def ac_828 : AC := .inr (2, jl_n [js_5 199 9223372036854775807 9223372036854775807, js_4 7 1, js_5 40 9223372036854775807 9223372036854775807])
noncomputable def hq_660 : HP := [(false, .inl (8, [(6, 1, 0), (8, 4, 0), (8, 5, 0)])), (false, ac_828)]
noncomputable def con_1279 : Con2 := ((yX8_at, cX8_at, 3, (some .long)), (0, 0), ([(6, 0, 0), (0, 3, 0), (0, 19, 0)], gi_928, [.inl (8, [(6, 1, 0), (8, 4, 0), (8, 5, 0)]), ac_828], []), [((4, 6, 0), gi_929, hq_660, [], [1])])
theorem hd_1279 : con_1279.1 = (yX8_at, cX8_at, 3, (some .long)) := rfl
noncomputable def ct_1279 : CTB2 := []
noncomputable def cu_1279 : List CUT2 := []
theorem ch_1279 : staG tb_X8_at 1 bt_RX8 [] ct_1279 [] [] cu_1279 11 con_1279 = true := by decide +kernel
theorem cto_1279 (l : Launch) : CTOK2 l RX8 vwCl gTbl ct_1279 := ct2_nil
theorem vl_1279 (l : Launch) : Vld2 l vwCl gTbl con_1279 := conR_ok3 gT_all (hd_1279) rfl pn_RX8 tk_X8_at bo_RX8 xo_RX8 (cto_1279 l) ch_1279 cut_nil
/-- RookHusting$Slots at -/
noncomputable def ac_829 : AC := .inr (2, jl_n [js_5 200 9223372036854775807 9223372036854775807, js_4 7 1, js_5 39 9223372036854775807 9223372036854775807])
noncomputable def hq_661 : HP := [(false, .inl (8, [(6, 1, 0), (8, 4, 0), (8, 5, 0)])), (false, ac_829)]
noncomputable def con_1280 : Con2 := ((yX8_at, cX8_at, 3, (some .long)), (0, 0), ([(6, 0, 0), (0, 3, 0), (0, 20, 0)], gi_928, [.inl (8, [(6, 1, 0), (8, 4, 0), (8, 5, 0)]), ac_829], []), [((4, 6, 0), gi_929, hq_661, [], [1])])
theorem hd_1280 : con_1280.1 = (yX8_at, cX8_at, 3, (some .long)) := rfl
noncomputable def ct_1280 : CTB2 := []
noncomputable def cu_1280 : List CUT2 := []
theorem ch_1280 : staG tb_X8_at 1 bt_RX8 [] ct_1280 [] [] cu_1280 11 con_1280 = true := by decide +kernel
theorem cto_1280 (l : Launch) : CTOK2 l RX8 vwCl gTbl ct_1280 := ct2_nil
theorem vl_1280 (l : Launch) : Vld2 l vwCl gTbl con_1280 := conR_ok3 gT_all (hd_1280) rfl pn_RX8 tk_X8_at bo_RX8 xo_RX8 (cto_1280 l) ch_1280 cut_nil
/-- RookHusting$Slots at -/
noncomputable def ac_830 : AC := .inr (2, jl_n [js_5 201 9223372036854775807 9223372036854775807, js_4 7 1, js_5 38 9223372036854775807 9223372036854775807])
noncomputable def hq_662 : HP := [(false, .inl (8, [(6, 1, 0), (8, 4, 0), (8, 5, 0)])), (false, ac_830)]
noncomputable def con_1281 : Con2 := ((yX8_at, cX8_at, 3, (some .long)), (0, 0), ([(6, 0, 0), (0, 3, 0), (0, 21, 0)], gi_928, [.inl (8, [(6, 1, 0), (8, 4, 0), (8, 5, 0)]), ac_830], []), [((4, 6, 0), gi_929, hq_662, [], [1])])
theorem hd_1281 : con_1281.1 = (yX8_at, cX8_at, 3, (some .long)) := rfl
noncomputable def ct_1281 : CTB2 := []
noncomputable def cu_1281 : List CUT2 := []
theorem ch_1281 : staG tb_X8_at 1 bt_RX8 [] ct_1281 [] [] cu_1281 11 con_1281 = true := by decide +kernel
theorem cto_1281 (l : Launch) : CTOK2 l RX8 vwCl gTbl ct_1281 := ct2_nil
theorem vl_1281 (l : Launch) : Vld2 l vwCl gTbl con_1281 := conR_ok3 gT_all (hd_1281) rfl pn_RX8 tk_X8_at bo_RX8 xo_RX8 (cto_1281 l) ch_1281 cut_nil
/-- RookHusting$Slots at -/
noncomputable def ac_831 : AC := .inr (2, jl_n [js_5 202 9223372036854775807 9223372036854775807, js_4 7 1, js_5 37 9223372036854775807 9223372036854775807])
noncomputable def hq_663 : HP := [(false, .inl (8, [(6, 1, 0), (8, 4, 0), (8, 5, 0)])), (false, ac_831)]
noncomputable def con_1282 : Con2 := ((yX8_at, cX8_at, 3, (some .long)), (0, 0), ([(6, 0, 0), (0, 3, 0), (0, 22, 0)], gi_928, [.inl (8, [(6, 1, 0), (8, 4, 0), (8, 5, 0)]), ac_831], []), [((4, 6, 0), gi_929, hq_663, [], [1])])
theorem hd_1282 : con_1282.1 = (yX8_at, cX8_at, 3, (some .long)) := rfl
noncomputable def ct_1282 : CTB2 := []
noncomputable def cu_1282 : List CUT2 := []
theorem ch_1282 : staG tb_X8_at 1 bt_RX8 [] ct_1282 [] [] cu_1282 11 con_1282 = true := by decide +kernel
theorem cto_1282 (l : Launch) : CTOK2 l RX8 vwCl gTbl ct_1282 := ct2_nil
theorem vl_1282 (l : Launch) : Vld2 l vwCl gTbl con_1282 := conR_ok3 gT_all (hd_1282) rfl pn_RX8 tk_X8_at bo_RX8 xo_RX8 (cto_1282 l) ch_1282 cut_nil
/-- RookHusting$Slots at -/
noncomputable def ac_832 : AC := .inr (2, jl_n [js_5 203 9223372036854775807 9223372036854775807, js_4 7 1, js_5 36 9223372036854775807 9223372036854775807])
noncomputable def hq_664 : HP := [(false, .inl (8, [(6, 1, 0), (8, 4, 0), (8, 5, 0)])), (false, ac_832)]
noncomputable def con_1283 : Con2 := ((yX8_at, cX8_at, 3, (some .long)), (0, 0), ([(6, 0, 0), (0, 3, 0), (0, 23, 0)], gi_928, [.inl (8, [(6, 1, 0), (8, 4, 0), (8, 5, 0)]), ac_832], []), [((4, 6, 0), gi_929, hq_664, [], [1])])
theorem hd_1283 : con_1283.1 = (yX8_at, cX8_at, 3, (some .long)) := rfl
noncomputable def ct_1283 : CTB2 := []
noncomputable def cu_1283 : List CUT2 := []
theorem ch_1283 : staG tb_X8_at 1 bt_RX8 [] ct_1283 [] [] cu_1283 11 con_1283 = true := by decide +kernel
theorem cto_1283 (l : Launch) : CTOK2 l RX8 vwCl gTbl ct_1283 := ct2_nil
theorem vl_1283 (l : Launch) : Vld2 l vwCl gTbl con_1283 := conR_ok3 gT_all (hd_1283) rfl pn_RX8 tk_X8_at bo_RX8 xo_RX8 (cto_1283 l) ch_1283 cut_nil
/-- RookHusting$Slots at -/
noncomputable def ac_833 : AC := .inr (2, jl_n [js_5 204 9223372036854775807 9223372036854775807, js_4 7 1, js_5 35 9223372036854775807 9223372036854775807])
noncomputable def hq_665 : HP := [(false, .inl (8, [(6, 1, 0), (8, 4, 0), (8, 5, 0)])), (false, ac_833)]
noncomputable def con_1284 : Con2 := ((yX8_at, cX8_at, 3, (some .long)), (0, 0), ([(6, 0, 0), (0, 3, 0), (0, 24, 0)], gi_928, [.inl (8, [(6, 1, 0), (8, 4, 0), (8, 5, 0)]), ac_833], []), [((4, 6, 0), gi_929, hq_665, [], [1])])
theorem hd_1284 : con_1284.1 = (yX8_at, cX8_at, 3, (some .long)) := rfl
noncomputable def ct_1284 : CTB2 := []
noncomputable def cu_1284 : List CUT2 := []
theorem ch_1284 : staG tb_X8_at 1 bt_RX8 [] ct_1284 [] [] cu_1284 11 con_1284 = true := by decide +kernel
theorem cto_1284 (l : Launch) : CTOK2 l RX8 vwCl gTbl ct_1284 := ct2_nil
theorem vl_1284 (l : Launch) : Vld2 l vwCl gTbl con_1284 := conR_ok3 gT_all (hd_1284) rfl pn_RX8 tk_X8_at bo_RX8 xo_RX8 (cto_1284 l) ch_1284 cut_nil
/-- RookHusting$Slots at -/
noncomputable def ac_834 : AC := .inr (2, jl_n [js_5 205 9223372036854775807 9223372036854775807, js_4 7 1, js_5 34 9223372036854775807 9223372036854775807])
noncomputable def hq_666 : HP := [(false, .inl (8, [(6, 1, 0), (8, 4, 0), (8, 5, 0)])), (false, ac_834)]
noncomputable def con_1285 : Con2 := ((yX8_at, cX8_at, 3, (some .long)), (0, 0), ([(6, 0, 0), (0, 3, 0), (0, 25, 0)], gi_928, [.inl (8, [(6, 1, 0), (8, 4, 0), (8, 5, 0)]), ac_834], []), [((4, 6, 0), gi_929, hq_666, [], [1])])
theorem hd_1285 : con_1285.1 = (yX8_at, cX8_at, 3, (some .long)) := rfl
noncomputable def ct_1285 : CTB2 := []
noncomputable def cu_1285 : List CUT2 := []
theorem ch_1285 : staG tb_X8_at 1 bt_RX8 [] ct_1285 [] [] cu_1285 11 con_1285 = true := by decide +kernel
theorem cto_1285 (l : Launch) : CTOK2 l RX8 vwCl gTbl ct_1285 := ct2_nil
theorem vl_1285 (l : Launch) : Vld2 l vwCl gTbl con_1285 := conR_ok3 gT_all (hd_1285) rfl pn_RX8 tk_X8_at bo_RX8 xo_RX8 (cto_1285 l) ch_1285 cut_nil
/-- RookHusting$Slots at -/
noncomputable def ac_835 : AC := .inr (2, jl_n [js_5 206 9223372036854775807 9223372036854775807, js_4 7 1, js_5 33 9223372036854775807 9223372036854775807])
noncomputable def hq_667 : HP := [(false, .inl (8, [(6, 1, 0), (8, 4, 0), (8, 5, 0)])), (false, ac_835)]
noncomputable def con_1286 : Con2 := ((yX8_at, cX8_at, 3, (some .long)), (0, 0), ([(6, 0, 0), (0, 3, 0), (0, 26, 0)], gi_928, [.inl (8, [(6, 1, 0), (8, 4, 0), (8, 5, 0)]), ac_835], []), [((4, 6, 0), gi_929, hq_667, [], [1])])
theorem hd_1286 : con_1286.1 = (yX8_at, cX8_at, 3, (some .long)) := rfl
noncomputable def ct_1286 : CTB2 := []
noncomputable def cu_1286 : List CUT2 := []
theorem ch_1286 : staG tb_X8_at 1 bt_RX8 [] ct_1286 [] [] cu_1286 11 con_1286 = true := by decide +kernel
theorem cto_1286 (l : Launch) : CTOK2 l RX8 vwCl gTbl ct_1286 := ct2_nil
theorem vl_1286 (l : Launch) : Vld2 l vwCl gTbl con_1286 := conR_ok3 gT_all (hd_1286) rfl pn_RX8 tk_X8_at bo_RX8 xo_RX8 (cto_1286 l) ch_1286 cut_nil
/-- RookHusting$Slots at -/
noncomputable def ac_836 : AC := .inr (2, jl_n [js_5 207 9223372036854775807 9223372036854775807, js_4 7 1, js_5 32 9223372036854775807 9223372036854775807])
noncomputable def hq_668 : HP := [(false, .inl (8, [(6, 1, 0), (8, 4, 0), (8, 5, 0)])), (false, ac_836)]
noncomputable def con_1287 : Con2 := ((yX8_at, cX8_at, 3, (some .long)), (0, 0), ([(6, 0, 0), (0, 3, 0), (0, 27, 0)], gi_928, [.inl (8, [(6, 1, 0), (8, 4, 0), (8, 5, 0)]), ac_836], []), [((4, 6, 0), gi_929, hq_668, [], [1])])
theorem hd_1287 : con_1287.1 = (yX8_at, cX8_at, 3, (some .long)) := rfl
noncomputable def ct_1287 : CTB2 := []
noncomputable def cu_1287 : List CUT2 := []
theorem ch_1287 : staG tb_X8_at 1 bt_RX8 [] ct_1287 [] [] cu_1287 11 con_1287 = true := by decide +kernel
theorem cto_1287 (l : Launch) : CTOK2 l RX8 vwCl gTbl ct_1287 := ct2_nil
theorem vl_1287 (l : Launch) : Vld2 l vwCl gTbl con_1287 := conR_ok3 gT_all (hd_1287) rfl pn_RX8 tk_X8_at bo_RX8 xo_RX8 (cto_1287 l) ch_1287 cut_nil
/-- RookHusting$Slots at -/
noncomputable def ac_837 : AC := .inr (2, jl_n [js_5 208 9223372036854775807 9223372036854775807, js_4 7 1, js_5 31 9223372036854775807 9223372036854775807])
noncomputable def hq_669 : HP := [(false, .inl (8, [(6, 1, 0), (8, 4, 0), (8, 5, 0)])), (false, ac_837)]
noncomputable def con_1288 : Con2 := ((yX8_at, cX8_at, 3, (some .long)), (0, 0), ([(6, 0, 0), (0, 3, 0), (0, 28, 0)], gi_928, [.inl (8, [(6, 1, 0), (8, 4, 0), (8, 5, 0)]), ac_837], []), [((4, 6, 0), gi_929, hq_669, [], [1])])
theorem hd_1288 : con_1288.1 = (yX8_at, cX8_at, 3, (some .long)) := rfl
noncomputable def ct_1288 : CTB2 := []
noncomputable def cu_1288 : List CUT2 := []
theorem ch_1288 : staG tb_X8_at 1 bt_RX8 [] ct_1288 [] [] cu_1288 11 con_1288 = true := by decide +kernel
theorem cto_1288 (l : Launch) : CTOK2 l RX8 vwCl gTbl ct_1288 := ct2_nil
theorem vl_1288 (l : Launch) : Vld2 l vwCl gTbl con_1288 := conR_ok3 gT_all (hd_1288) rfl pn_RX8 tk_X8_at bo_RX8 xo_RX8 (cto_1288 l) ch_1288 cut_nil
/-- RookHusting$Slots at -/
noncomputable def ac_838 : AC := .inr (2, jl_n [js_5 209 9223372036854775807 9223372036854775807, js_4 7 1, js_5 30 9223372036854775807 9223372036854775807])
noncomputable def hq_670 : HP := [(false, .inl (8, [(6, 1, 0), (8, 4, 0), (8, 5, 0)])), (false, ac_838)]
noncomputable def con_1289 : Con2 := ((yX8_at, cX8_at, 3, (some .long)), (0, 0), ([(6, 0, 0), (0, 3, 0), (0, 29, 0)], gi_928, [.inl (8, [(6, 1, 0), (8, 4, 0), (8, 5, 0)]), ac_838], []), [((4, 6, 0), gi_929, hq_670, [], [1])])
theorem hd_1289 : con_1289.1 = (yX8_at, cX8_at, 3, (some .long)) := rfl
noncomputable def ct_1289 : CTB2 := []
noncomputable def cu_1289 : List CUT2 := []
theorem ch_1289 : staG tb_X8_at 1 bt_RX8 [] ct_1289 [] [] cu_1289 11 con_1289 = true := by decide +kernel
theorem cto_1289 (l : Launch) : CTOK2 l RX8 vwCl gTbl ct_1289 := ct2_nil
theorem vl_1289 (l : Launch) : Vld2 l vwCl gTbl con_1289 := conR_ok3 gT_all (hd_1289) rfl pn_RX8 tk_X8_at bo_RX8 xo_RX8 (cto_1289 l) ch_1289 cut_nil
/-- RookHusting$Slots at -/
noncomputable def ac_839 : AC := .inr (2, jl_n [js_5 210 9223372036854775807 9223372036854775807, js_4 7 1, js_5 29 9223372036854775807 9223372036854775807])
noncomputable def hq_671 : HP := [(false, .inl (8, [(6, 1, 0), (8, 4, 0), (8, 5, 0)])), (false, ac_839)]
noncomputable def con_1290 : Con2 := ((yX8_at, cX8_at, 3, (some .long)), (0, 0), ([(6, 0, 0), (0, 3, 0), (0, 30, 0)], gi_928, [.inl (8, [(6, 1, 0), (8, 4, 0), (8, 5, 0)]), ac_839], []), [((4, 6, 0), gi_929, hq_671, [], [1])])
theorem hd_1290 : con_1290.1 = (yX8_at, cX8_at, 3, (some .long)) := rfl
noncomputable def ct_1290 : CTB2 := []
noncomputable def cu_1290 : List CUT2 := []
theorem ch_1290 : staG tb_X8_at 1 bt_RX8 [] ct_1290 [] [] cu_1290 11 con_1290 = true := by decide +kernel
theorem cto_1290 (l : Launch) : CTOK2 l RX8 vwCl gTbl ct_1290 := ct2_nil
theorem vl_1290 (l : Launch) : Vld2 l vwCl gTbl con_1290 := conR_ok3 gT_all (hd_1290) rfl pn_RX8 tk_X8_at bo_RX8 xo_RX8 (cto_1290 l) ch_1290 cut_nil
/-- RookHusting$Slots at -/
noncomputable def ac_840 : AC := .inr (2, jl_n [js_5 211 9223372036854775807 9223372036854775807, js_4 7 1, js_5 28 9223372036854775807 9223372036854775807])
noncomputable def hq_672 : HP := [(false, .inl (8, [(6, 1, 0), (8, 4, 0), (8, 5, 0)])), (false, ac_840)]
noncomputable def con_1291 : Con2 := ((yX8_at, cX8_at, 3, (some .long)), (0, 0), ([(6, 0, 0), (0, 3, 0), (0, 31, 0)], gi_928, [.inl (8, [(6, 1, 0), (8, 4, 0), (8, 5, 0)]), ac_840], []), [((4, 6, 0), gi_929, hq_672, [], [1])])
theorem hd_1291 : con_1291.1 = (yX8_at, cX8_at, 3, (some .long)) := rfl
noncomputable def ct_1291 : CTB2 := []
noncomputable def cu_1291 : List CUT2 := []
theorem ch_1291 : staG tb_X8_at 1 bt_RX8 [] ct_1291 [] [] cu_1291 11 con_1291 = true := by decide +kernel
theorem cto_1291 (l : Launch) : CTOK2 l RX8 vwCl gTbl ct_1291 := ct2_nil
theorem vl_1291 (l : Launch) : Vld2 l vwCl gTbl con_1291 := conR_ok3 gT_all (hd_1291) rfl pn_RX8 tk_X8_at bo_RX8 xo_RX8 (cto_1291 l) ch_1291 cut_nil
/-- RookHusting$Slots at -/
noncomputable def ac_841 : AC := .inr (2, jl_n [js_5 212 9223372036854775807 9223372036854775807, js_4 7 1, js_5 27 9223372036854775807 9223372036854775807])
noncomputable def hq_673 : HP := [(false, .inl (8, [(6, 1, 0), (8, 4, 0), (8, 5, 0)])), (false, ac_841)]
noncomputable def con_1292 : Con2 := ((yX8_at, cX8_at, 3, (some .long)), (0, 0), ([(6, 0, 0), (0, 3, 0), (0, 32, 0)], gi_928, [.inl (8, [(6, 1, 0), (8, 4, 0), (8, 5, 0)]), ac_841], []), [((4, 6, 0), gi_929, hq_673, [], [1])])
theorem hd_1292 : con_1292.1 = (yX8_at, cX8_at, 3, (some .long)) := rfl
noncomputable def ct_1292 : CTB2 := []
noncomputable def cu_1292 : List CUT2 := []
theorem ch_1292 : staG tb_X8_at 1 bt_RX8 [] ct_1292 [] [] cu_1292 11 con_1292 = true := by decide +kernel
theorem cto_1292 (l : Launch) : CTOK2 l RX8 vwCl gTbl ct_1292 := ct2_nil
theorem vl_1292 (l : Launch) : Vld2 l vwCl gTbl con_1292 := conR_ok3 gT_all (hd_1292) rfl pn_RX8 tk_X8_at bo_RX8 xo_RX8 (cto_1292 l) ch_1292 cut_nil
