/-! ===== contracts, 0 ===== -/
/-- RookHusting$Tape append -/
noncomputable def gi_0 : GI := jl_n [jl_z 1, jl_t, jl_z 1, jl_i 0 700, jl_z 4]
noncomputable def ac_0 : AC := .inl (10, jl_n [jl_6 2 1, jl_1 4 1, jl_8 8 4])
noncomputable def gi_1 : GI := jl_n [jl_z 1, jl_t, jl_z 1, jl_i 0 700, jl_z 5, jl_i 0 700, jl_z 4]
noncomputable def ac_1 : AC := .inl (10, jl_n [jl_6 2 1, jl_1 10 1, jl_8 8 4])
noncomputable def con_0 : Con2 := ((yX10_append, cX10_append, 3, none), (0, 0), ([(6, 0, 0), (1, 1, 0)], gi_0, [ac_0, .inr (0, [(700, (2, (-128), 127))])], []), [((9, 0, 0), gi_1, [(true, ac_1), (true, .inr (0, [(700, (2, (-128), 127))]))], [], [1, 1, 1, 1, 1, 1])])
theorem hd_0 : con_0.1 = (yX10_append, cX10_append, 3, none) := rfl
noncomputable def ct_0 : CTB2 := []
noncomputable def gi_2 : GI := jl_n [jl_z 1, jl_t, jl_z 1, jl_i 0 700, jl_z 6, jl_m 7 24, jl_z 1, jl_i 0 700, jl_z 4]
noncomputable def ac_2 : AC := .inl (10, jl_n [jl_6 2 1, jl_1 13 1, jl_8 8 4])
noncomputable def cu_0 : List CUT2 := [((3, [(0, (6, 0, 0)), (1, (1, 1, 0)), (2, (1, 10, 0))], [], gi_2, [(true, ac_2), (true, .inr (0, [(700, (2, (-128), 127))]))]), [], ([(10, 1)], 8))]
theorem ch_0 : staG tb_X10_append 1 bt_RX10 [] ct_0 [] [] cu_0 26 con_0 = true := by decide +kernel
theorem cc_0 : cu_0.all (cutG tb_X10_append 1 bt_RX10 [] ct_0 [] [] cu_0 26 con_0) = true := by decide +kernel
theorem cto_0 (l : Launch) : CTOK2 l RX10 vwCl gTbl ct_0 := ct2_nil
theorem vl_0 (l : Launch) : Vld2 l vwCl gTbl con_0 := conR_ok3 gT_all (hd_0) rfl pn_RX10 tk_X10_append bo_RX10 xo_RX10 (cto_0 l) ch_0 (cut_all cc_0)
/-- RookHusting feed -/
noncomputable def gi_3 : GI := jl_n [jl_z 1, jl_r 5 (jl_t), jl_z 17, jl_i 0 700, jl_z 4]
noncomputable def ac_3 : AC := .inl (11, jl_n [jl_6 2 1, jl_8 22 15])
noncomputable def ac_4 : AC := .inl (10, jl_n [jl_6 3 1, jl_1 24 1, jl_8 28 4])
noncomputable def gi_4 : GI := jl_n [jl_z 1, jl_r 5 (jl_t), jl_z 17, jl_i 0 700, jl_z 4, jl_m 0 700, jl_z 1, jl_i 0 700, jl_z 4]
noncomputable def ac_5 : AC := .inl (10, jl_n [jl_6 3 1, jl_1 31 1, jl_8 28 4])
noncomputable def hq_0 : HP := [(false, ac_3), (true, ac_5), (true, .inr (0, [(700, (2, (-128), 127))]))]
noncomputable def con_1 : Con2 := ((yX11_feed, cX11_feed, 6, (some .int)), (1, 22), ([(6, 0, 0), (1, 1, 0), (1, 2, 0), (1, 3, 0), (1, 4, 0), (1, 5, 0)], gi_3, [ac_3, ac_4, .inr (0, [(700, (2, (-128), 127))])], []), [((1, 28, 0), gi_4, hq_0, [], [1, 1, 1, 1, 1, 1, 1])])
theorem hd_1 : con_1.1 = (yX11_feed, cX11_feed, 6, (some .int)) := rfl
theorem ck_RX11_96_0 : COK2 RX11 vwCl gTbl 96 0 con_0 := ⟨wd_559, wd_126, mh_X10_append, .inr (.inr ⟨rfl, wd_556, wd_557, wd_558, ⟨_, rfl, pd_X10_append⟩, 10, _, TX10, 6, rfl, rfl⟩)⟩
noncomputable def ct_1 : CTB2 := [(20, 96, 0, con_0, [1, 2]), (28, 96, 0, con_0, [1, 2]), (36, 96, 0, con_0, [1, 2]), (45, 96, 0, con_0, [1, 2]), (54, 96, 0, con_0, [1, 2])]
noncomputable def cu_1 : List CUT2 := []
theorem ch_1 : staG tb_X11_feed 1 bt_RX11 [] ct_1 [] [] cu_1 31 con_1 = true := by decide +kernel
theorem cto_1 (l : Launch) : CTOK2 l RX11 vwCl gTbl ct_1 := ct2_cons (vl_0 l) ck_RX11_96_0 (ct2_cons (vl_0 l) ck_RX11_96_0 (ct2_cons (vl_0 l) ck_RX11_96_0 (ct2_cons (vl_0 l) ck_RX11_96_0 (ct2_cons (vl_0 l) ck_RX11_96_0 (ct2_nil)))))
theorem vl_1 (l : Launch) : Vld2 l vwCl gTbl con_1 := conR_ok3 gT_all (hd_1) rfl pn_RX11 tk_X11_feed bo_RX11 xo_RX11 (cto_1 l) ch_1 cut_nil
/-- RookHustingModel feed -/
noncomputable def gi_5 : GI := jl_n [jl_z 1, jl_r 5 (jl_t), jl_z 5, jl_i 0 700, jl_z 39]
noncomputable def ac_6 : AC := .inl (12, jl_n [jl_8 10 4, jl_6 3 1, jl_1 12 1, jl_6 2 1, jl_8 51 38])
noncomputable def hc_0 : List AC := [ac_6, .inr (1, [(5, (2, (-2147483648), 2147483647))]), .inr (0, [(700, (2, (-128), 127))])]
noncomputable def gi_6 : GI := jl_n [jl_z 1, jl_r 5 (jl_t), jl_z 5, jl_i 0 700, jl_z 39, jl_m 0 700, jl_z 5, jl_i 20 700, jl_z 39]
noncomputable def ac_7 : AC := .inl (12, jl_n [jl_8 10 4, jl_6 3 1, jl_1 58 1, jl_6 2 1, jl_8 51 38])
noncomputable def hq_1 : HP := [(true, ac_7), (true, .inr (1, [(5, (2, (-2147483648), 2147483647))])), (true, .inr (0, [(700, (2, (-128), 127))]))]
noncomputable def con_2 : Con2 := ((yX12_feed, cX12_feed, 7, (some .int)), (0, 0), ([(6, 0, 0), (1, 1, 0), (1, 2, 0), (1, 3, 0), (1, 4, 0), (1, 5, 0)], gi_5, hc_0, []), [((1, 51, 0), gi_6, hq_1, [], [1, 1, 1, 1, 1, 1, 1, 1, 1, 1, 1, 1, 1, 1, 1, 1, 1, 1, 1, 1, 1, 1, 1, 1, 1, 1, 1, 1, 1, 1, 1, 1, 1, 1, 1, 1, 1, 1, 1, 1, 1, 1, 1, 1, 1, 1])])
theorem hd_2 : con_2.1 = (yX12_feed, cX12_feed, 7, (some .int)) := rfl
noncomputable def ct_2 : CTB2 := []
noncomputable def gi_7 : GI := jl_n [jl_z 1, jl_r 5 (jl_t), jl_z 5, jl_i 0 680, jl_z 45, jl_i 0 20]
noncomputable def hq_2 : HP := [(false, ac_6), (true, .inr (1, [(5, (2, (-2147483648), 2147483647))])), (true, .inr (0, [(700, (2, (-128), 127))]))]
noncomputable def cu_2 : List CUT2 := [((55, [(0, (6, 0, 0)), (1, (1, 1, 0)), (2, (1, 2, 0)), (3, (1, 3, 0)), (4, (1, 4, 0)), (5, (1, 5, 0)), (6, (1, 57, 0))], [], gi_7, hq_2), [], ([(57, (-1))], 20))]
theorem ch_2 : staG tb_X12_feed 1 bt_RX12 [] ct_2 [] [] cu_2 36 con_2 = true := by decide +kernel
theorem cc_2 : cu_2.all (cutG tb_X12_feed 1 bt_RX12 [] ct_2 [] [] cu_2 36 con_2) = true := by decide +kernel
theorem cto_2 (l : Launch) : CTOK2 l RX12 vwCl gTbl ct_2 := ct2_nil
theorem vl_2 (l : Launch) : Vld2 l vwCl gTbl con_2 := conR_ok3 gT_all (hd_2) rfl pn_RX12 tk_X12_feed bo_RX12 xo_RX12 (cto_2 l) ch_2 (cut_all cc_2)
/-- RookHusting end -/
noncomputable def gi_8 : GI := jl_n [jl_z 1, jl_t, jl_z 17, jl_i 0 700, jl_z 4]
noncomputable def ac_8 : AC := .inl (11, jl_n [jl_6 2 1, jl_8 18 15])
noncomputable def ac_9 : AC := .inl (10, jl_n [jl_8 19 1, jl_1 20 1, jl_8 24 4])
noncomputable def gi_9 : GI := jl_n [jl_z 1, jl_t, jl_z 17, jl_i 0 700, jl_z 4, jl_m 0 700, jl_z 1, jl_i 0 700, jl_z 4]
noncomputable def ac_10 : AC := .inl (10, jl_n [jl_8 19 1, jl_1 27 1, jl_8 24 4])
noncomputable def con_3 : Con2 := ((yX11_end, cX11_end, 2, (some .int)), (0, 0), ([(6, 0, 0), (1, 1, 0)], gi_8, [ac_8, ac_9], []), [((1, 24, 0), gi_9, [(false, ac_8), (true, ac_10)], [], [1, 1, 1, 1, 1, 1, 1])])
theorem hd_3 : con_3.1 = (yX11_end, cX11_end, 2, (some .int)) := rfl
noncomputable def ct_3 : CTB2 := []
noncomputable def cu_3 : List CUT2 := []
theorem ch_3 : staG tb_X11_end 1 bt_RX11 [] ct_3 [] [] cu_3 15 con_3 = true := by decide +kernel
theorem cto_3 (l : Launch) : CTOK2 l RX11 vwCl gTbl ct_3 := ct2_nil
theorem vl_3 (l : Launch) : Vld2 l vwCl gTbl con_3 := conR_ok3 gT_all (hd_3) rfl pn_RX11 tk_X11_end bo_RX11 xo_RX11 (cto_3 l) ch_3 cut_nil
/-- RookHustingModel in -/
noncomputable def gi_10 : GI := jl_n [jl_u, jl_z 1, jl_i 0 700]
noncomputable def gi_11 : GI := jl_n [jl_u, jl_z 1, jl_i 0 700, jl_z 1]
noncomputable def con_4 : Con2 := ((yX12_in, cX12_in, 6, (some .boolean)), (0, 0), ([(4, 0, 0), (3, 0, 0), (4, 2, 0)], gi_10, [], []), [((0, 0, 0), gi_11, [], [], [1]), ((0, 1, 0), [(0, 700), (0, 0), (0, 700), (0, 0)], [], [], [1])])
theorem hd_4 : con_4.1 = (yX12_in, cX12_in, 6, (some .boolean)) := rfl
noncomputable def ct_4 : CTB2 := []
noncomputable def cu_4 : List CUT2 := []
theorem ch_4 : staG tb_X12_in 1 bt_RX12 [] ct_4 [] [] cu_4 11 con_4 = true := by decide +kernel
theorem cto_4 (l : Launch) : CTOK2 l RX12 vwCl gTbl ct_4 := ct2_nil
theorem vl_4 (l : Launch) : Vld2 l vwCl gTbl con_4 := conR_ok3 gT_all (hd_4) rfl pn_RX12 tk_X12_in bo_RX12 xo_RX12 (cto_4 l) ch_4 cut_nil
/-- RookHustingModel end -/
noncomputable def gi_12 : GI := jl_n [jl_z 1, jl_t, jl_z 5, jl_i 0 700, jl_z 39]
noncomputable def ac_11 : AC := .inl (12, jl_n [jl_8 7 5, jl_1 8 1, jl_8 47 39])
noncomputable def gi_13 : GI := jl_n [jl_z 1, jl_t, jl_z 5, jl_i 0 700, jl_z 39, jl_m 0 700, jl_z 5, jl_i 0 700, jl_z 39]
noncomputable def ac_12 : AC := .inl (12, jl_n [jl_8 7 5, jl_1 54 1, jl_8 47 39])
noncomputable def con_5 : Con2 := ((yX12_end, cX12_end, 2, (some .int)), (1, 25), ([(6, 0, 0), (1, 1, 0)], gi_12, [ac_11], []), [((1, 47, 0), gi_13, [(true, ac_12)], [], [1, 1, 1, 1, 1, 1, 1, 1, 1, 1, 1, 1, 1, 1, 1, 1, 1, 1, 1, 1, 1, 1, 1, 1, 1, 1, 1, 1, 1, 1, 1, 1, 1, 1, 1, 1, 1, 1, 1, 1, 1, 1, 1, 1, 1, 1])])
theorem hd_5 : con_5.1 = (yX12_end, cX12_end, 2, (some .int)) := rfl
theorem ck_RX12_91_4 : COK2 RX12 vwCl gTbl 91 1 con_4 := ⟨wd_1544, wd_137, mh_X12_in, .inl ⟨rfl, wd_1542, wd_1543, pd_X12_in⟩⟩
noncomputable def ct_5 : CTB2 := [(8, 91, 1, con_4, [])]
noncomputable def cu_5 : List CUT2 := []
theorem ch_5 : staG tb_X12_end 1 bt_RX12 [] ct_5 [] [] cu_5 15 con_5 = true := by decide +kernel
theorem cto_5 (l : Launch) : CTOK2 l RX12 vwCl gTbl ct_5 := ct2_cons (vl_4 l) ck_RX12_91_4 (ct2_nil)
theorem vl_5 (l : Launch) : Vld2 l vwCl gTbl con_5 := conR_ok3 gT_all (hd_5) rfl pn_RX12 tk_X12_end bo_RX12 xo_RX12 (cto_5 l) ch_5 cut_nil
/-- RookHusting$Hundred clear -/
noncomputable def gi_14 : GI := jl_n [jl_z 1, jl_t, jl_i 0 16, jl_i 0 3, jl_i 0 10, jl_i 0 5, jl_i 0 8, jl_i 0 5, jl_i 0 7, jl_z 9]
noncomputable def ac_13 : AC := .inl (4, jl_n [jl_1 9 8, jl_8 18 9])
noncomputable def gi_15 : GI := jl_n [jl_z 1, jl_t, jl_i 0 16, jl_i 0 3, jl_i 0 10, jl_i 0 5, jl_i 0 8, jl_i 0 5, jl_i 0 7, jl_z 26]
noncomputable def ac_14 : AC := .inl (4, jl_n [jl_c 0, jl_c 0, jl_c 0, jl_c 0, jl_c 0, jl_c 0, jl_c 0, jl_c 0, jl_8 18 9])
noncomputable def con_6 : Con2 := ((yX4_clear, cX4_clear, 1, none), (0, 0), ([(6, 0, 0)], gi_14, [ac_13], []), [((9, 0, 0), gi_15, [(true, ac_14)], [], [1, 1, 1, 1, 1, 1, 1, 1, 1, 1, 1, 1, 1, 1, 1, 1, 1])])
theorem hd_6 : con_6.1 = (yX4_clear, cX4_clear, 1, none) := rfl
noncomputable def ct_6 : CTB2 := []
noncomputable def cu_6 : List CUT2 := []
theorem ch_6 : staG tb_X4_clear 1 bt_RX4 [] ct_6 [] [] cu_6 27 con_6 = true := by decide +kernel
theorem cto_6 (l : Launch) : CTOK2 l RX4 vwCl gTbl ct_6 := ct2_nil
theorem vl_6 (l : Launch) : Vld2 l vwCl gTbl con_6 := conR_ok3 gT_all (hd_6) rfl pn_RX4 tk_X4_clear bo_RX4 xo_RX4 (cto_6 l) ch_6 cut_nil
/-- RookHusting$Tape isBlank -/
noncomputable def con_7 : Con2 := ((yX10_isBlank, cX10_isBlank, 1, (some .boolean)), (0, 0), ([(1, 0, 0)], [((-1000), 127)], [], []), [((0, 0, 0), [((-1000), 127), (0, 0)], [], [], [1]), ((0, 1, 0), [(10, 32), (0, 0)], [], [], [1])])
theorem hd_7 : con_7.1 = (yX10_isBlank, cX10_isBlank, 1, (some .boolean)) := rfl
noncomputable def ct_7 : CTB2 := []
noncomputable def cu_7 : List CUT2 := []
theorem ch_7 : staG tb_X10_isBlank 1 bt_RX10 [] ct_7 [] [] cu_7 11 con_7 = true := by decide +kernel
theorem cto_7 (l : Launch) : CTOK2 l RX10 vwCl gTbl ct_7 := ct2_nil
theorem vl_7 (l : Launch) : Vld2 l vwCl gTbl con_7 := conR_ok3 gT_all (hd_7) rfl pn_RX10 tk_X10_isBlank bo_RX10 xo_RX10 (cto_7 l) ch_7 cut_nil
/-- RookHusting$Tape isLetter -/
noncomputable def con_8 : Con2 := ((yX10_isLetter, cX10_isLetter, 1, (some .boolean)), (0, 0), ([(1, 0, 0)], [((-1000), 127)], [], []), [((0, 0, 0), [((-1000), 127), (0, 0)], [], [], [1]), ((0, 1, 0), [(97, 122), (0, 0)], [], [], [1])])
theorem hd_8 : con_8.1 = (yX10_isLetter, cX10_isLetter, 1, (some .boolean)) := rfl
noncomputable def ct_8 : CTB2 := []
noncomputable def cu_8 : List CUT2 := []
theorem ch_8 : staG tb_X10_isLetter 1 bt_RX10 [] ct_8 [] [] cu_8 11 con_8 = true := by decide +kernel
theorem cto_8 (l : Launch) : CTOK2 l RX10 vwCl gTbl ct_8 := ct2_nil
theorem vl_8 (l : Launch) : Vld2 l vwCl gTbl con_8 := conR_ok3 gT_all (hd_8) rfl pn_RX10 tk_X10_isLetter bo_RX10 xo_RX10 (cto_8 l) ch_8 cut_nil
/-- RookHusting$Tape isDigit -/
noncomputable def con_9 : Con2 := ((yX10_isDigit, cX10_isDigit, 1, (some .boolean)), (0, 0), ([(1, 0, 0)], [((-1000), 127)], [], []), [((0, 0, 0), [((-1000), 127), (0, 0)], [], [], [1]), ((0, 1, 0), [(48, 57), (0, 0)], [], [], [1])])
theorem hd_9 : con_9.1 = (yX10_isDigit, cX10_isDigit, 1, (some .boolean)) := rfl
noncomputable def ct_9 : CTB2 := []
noncomputable def cu_9 : List CUT2 := []
theorem ch_9 : staG tb_X10_isDigit 1 bt_RX10 [] ct_9 [] [] cu_9 11 con_9 = true := by decide +kernel
theorem cto_9 (l : Launch) : CTOK2 l RX10 vwCl gTbl ct_9 := ct2_nil
theorem vl_9 (l : Launch) : Vld2 l vwCl gTbl con_9 := conR_ok3 gT_all (hd_9) rfl pn_RX10 tk_X10_isDigit bo_RX10 xo_RX10 (cto_9 l) ch_9 cut_nil
/-- RookHusting$Tape step -/
noncomputable def gi_16 : GI := jl_n [jl_z 2, jl_i 0 700, jl_i 0 4, jl_i 0 700, jl_m 2147483647 1000000, jl_i 0 700]
noncomputable def ac_15 : AC := .inl (10, jl_n [jl_6 2 1, jl_1 7 5])
noncomputable def gi_17 : GI := jl_n [jl_z 2, jl_i 0 700, jl_i 0 4, jl_i 0 700, jl_m 2147483647 1000000, jl_i 0 700, jl_z 2, jl_i 0 4, jl_i 0 700, jl_m 2147483647 1000000, jl_i 0 700]
noncomputable def ac_16 : AC := .inl (10, jl_n [jl_6 2 1, jl_1 3 1, jl_1 13 4])
noncomputable def hq_3 : HP := [(true, ac_16), (false, .inr (0, [(700, (2, (-128), 127))]))]
noncomputable def con_10 : Con2 := ((yX10_step, cX10_step, 1, none), (1, 20), ([(6, 0, 0)], gi_16, [ac_15, .inr (0, [(700, (2, (-128), 127))])], []), [((9, 0, 0), gi_17, hq_3, [], [1, 1, 1, 1, 1, 1])])
theorem hd_10 : con_10.1 = (yX10_step, cX10_step, 1, none) := rfl
theorem ck_RX10_38_9 : COK2 RX10 vwCl gTbl 38 1 con_9 := ⟨wd_592, wd_126, mh_X10_isDigit, .inl ⟨rfl, wd_590, wd_591, pd_X10_isDigit⟩⟩
theorem ck_RX10_35_8 : COK2 RX10 vwCl gTbl 35 1 con_8 := ⟨wd_589, wd_126, mh_X10_isLetter, .inl ⟨rfl, wd_587, wd_588, pd_X10_isLetter⟩⟩
theorem ck_RX10_25_7 : COK2 RX10 vwCl gTbl 25 1 con_7 := ⟨wd_586, wd_126, mh_X10_isBlank, .inl ⟨rfl, wd_584, wd_585, pd_X10_isBlank⟩⟩
noncomputable def ct_10 : CTB2 := [(20, 25, 1, con_7, []), (75, 35, 1, con_8, []), (106, 35, 1, con_8, []), (134, 38, 1, con_9, []), (170, 38, 1, con_9, [])]
noncomputable def gi_18 : GI := jl_n [jl_z 2, jl_i 1 700, jl_i 0 4, jl_i 0 700, jl_m 2147483647 1000000, jl_i 0 699, jl_z 6, jl_i 1 700]
noncomputable def ac_17 : AC := .inl (10, jl_n [jl_6 2 1, jl_1 6 4, jl_1 14 1])
noncomputable def hq_4 : HP := [(true, ac_17), (false, .inr (0, [(700, (2, (-128), 127))]))]
noncomputable def gi_19 : GI := jl_n [jl_z 2, jl_i 1 700, jl_i 0 4, jl_i 0 700, jl_m 2147483647 1000000, jl_i 0 699, jl_z 4, jl_i 0 699, jl_z 1, jl_i 0 700]
noncomputable def ac_18 : AC := .inl (10, jl_n [jl_6 2 1, jl_1 3 1, jl_c 0, jl_1 12 1, jl_1 6 1, jl_1 14 1])
noncomputable def hq_5 : HP := [(true, ac_18), (false, .inr (0, [(700, (2, (-128), 127))]))]
noncomputable def gi_20 : GI := jl_n [jl_z 2, jl_i 1 700, jl_i 0 4, jl_i 0 700, jl_m 2147483647 1000000, jl_i 0 699, jl_z 4, jl_i 0 699, jl_m 2147483647 1000000, jl_i 0 700]
noncomputable def ac_19 : AC := .inl (10, jl_n [jl_6 2 1, jl_1 3 1, jl_c 1, jl_1 14 3])
noncomputable def hq_6 : HP := [(true, ac_19), (false, .inr (0, [(700, (2, (-128), 127))]))]
noncomputable def cu_10 : List CUT2 := [((0, [(0, (6, 0, 0))], [], gi_18, hq_4), [], ([(13, (-1))], 2102)), ((86, [(0, (6, 0, 0))], [], gi_19, hq_5), [], ([(13, (-1))], 1401)), ((150, [(0, (6, 0, 0))], [], gi_20, hq_6), [], ([(13, (-1))], 700))]
theorem ch_10 : staG tb_X10_step 1 bt_RX10 [] ct_10 [] [] cu_10 55 con_10 = true := by decide +kernel
theorem cc_10 : cu_10.all (cutG tb_X10_step 1 bt_RX10 [] ct_10 [] [] cu_10 55 con_10) = true := by decide +kernel
theorem cto_10 (l : Launch) : CTOK2 l RX10 vwCl gTbl ct_10 := ct2_cons (vl_7 l) ck_RX10_25_7 (ct2_cons (vl_8 l) ck_RX10_35_8 (ct2_cons (vl_8 l) ck_RX10_35_8 (ct2_cons (vl_9 l) ck_RX10_38_9 (ct2_cons (vl_9 l) ck_RX10_38_9 (ct2_nil)))))
theorem vl_10 (l : Launch) : Vld2 l vwCl gTbl con_10 := conR_ok3 gT_all (hd_10) rfl pn_RX10 tk_X10_step bo_RX10 xo_RX10 (cto_10 l) ch_10 (cut_all cc_10)
/-- RookHusting$Tape rewind -/
noncomputable def con_11 : Con2 := ((yX10_rewind, cX10_rewind, 1, none), (2, 40), ([(6, 0, 0)], gi_16, [ac_15, .inr (0, [(700, (2, (-128), 127))])], []), [((9, 0, 0), gi_17, hq_3, [], [1, 1, 1, 1, 1, 1])])
theorem hd_11 : con_11.1 = (yX10_rewind, cX10_rewind, 1, none) := rfl
theorem ck_RX10_22_10 : COK2 RX10 vwCl gTbl 22 0 con_10 := ⟨wd_583, wd_126, mh_X10_step, .inr (.inr ⟨rfl, wd_580, wd_581, wd_582, ⟨_, rfl, pd_X10_step⟩, 10, _, TX10, 6, rfl, rfl⟩)⟩
noncomputable def ct_11 : CTB2 := [(6, 22, 0, con_10, [0, 1])]
noncomputable def cu_11 : List CUT2 := []
theorem ch_11 : staG tb_X10_rewind 1 bt_RX10 [] ct_11 [] [] cu_11 8 con_11 = true := by decide +kernel
theorem cto_11 (l : Launch) : CTOK2 l RX10 vwCl gTbl ct_11 := ct2_cons (vl_10 l) ck_RX10_22_10 (ct2_nil)
theorem vl_11 (l : Launch) : Vld2 l vwCl gTbl con_11 := conR_ok3 gT_all (hd_11) rfl pn_RX10 tk_X10_rewind bo_RX10 xo_RX10 (cto_11 l) ch_11 cut_nil
/-- RookHusting$Reader begin -/
noncomputable def gi_21 : GI := jl_n [jl_z 2, jl_i 0 3, jl_m 0 700, jl_z 1, jl_t, jl_i 0 16, jl_i 0 3, jl_i 0 10, jl_i 0 5, jl_i 0 8, jl_i 0 5, jl_i 0 7, jl_z 10, jl_i 0 700, jl_i 0 4, jl_i 0 700, jl_m 2147483647 1000000, jl_i 0 700]
noncomputable def ac_20 : AC := .inl (4, jl_n [jl_1 13 8, jl_8 22 9])
noncomputable def ac_21 : AC := .inl (10, jl_n [jl_6 4 1, jl_1 28 5])
noncomputable def hc_1 : List AC := [.inl (6, [(6, 1, 0), (1, 2, 0), (1, 3, 0), (6, 2, 0)]), ac_20, ac_21, .inr (0, [(700, (2, (-128), 127))])]
noncomputable def gi_22 : GI := jl_n [jl_z 2, jl_i 0 3, jl_m 0 700, jl_z 1, jl_t, jl_i 0 16, jl_i 0 3, jl_i 0 10, jl_i 0 5, jl_i 0 8, jl_i 0 5, jl_i 0 7, jl_z 10, jl_i 0 700, jl_i 0 4, jl_i 0 700, jl_m 2147483647 1000000, jl_i 0 700, jl_z 23, jl_i 0 4, jl_i 0 700, jl_m 2147483647 1000000, jl_i 0 700]
noncomputable def ac_22 : AC := .inl (4, jl_n [jl_c 0, jl_c 0, jl_c 0, jl_c 0, jl_c 0, jl_c 0, jl_c 0, jl_c 0, jl_8 22 9])
noncomputable def ac_23 : AC := .inl (10, jl_n [jl_6 4 1, jl_1 24 1, jl_1 55 4])
noncomputable def hq_7 : HP := [(true, .inl (6, [(6, 1, 0), (0, 0, 0), (0, (-1), 0), (6, 2, 0)])), (true, ac_22), (true, ac_23), (false, .inr (0, [(700, (2, (-128), 127))]))]
noncomputable def con_12 : Con2 := ((yX6_begin, cX6_begin, 1, none), (3, 60), ([(6, 0, 0)], gi_21, hc_1, []), [((9, 0, 0), gi_22, hq_7, [], [1, 1, 1, 1, 1, 1, 1, 1, 1, 1, 1, 1, 1, 1, 1, 1, 1, 1, 1, 1, 1, 1, 1, 1, 1, 1, 1])])
theorem hd_12 : con_12.1 = (yX6_begin, cX6_begin, 1, none) := rfl
theorem ck_RX6_32_11 : COK2 RX6 vwCl gTbl 32 0 con_11 := ⟨wd_579, wd_126, mh_X10_rewind, .inr (.inr ⟨rfl, wd_576, wd_577, wd_578, ⟨_, rfl, pd_X10_rewind⟩, 10, _, TX10, 6, rfl, rfl⟩)⟩
theorem ck_RX6_26_6 : COK2 RX6 vwCl gTbl 26 0 con_6 := ⟨wd_575, wd_128, mh_X4_clear, .inr (.inr ⟨rfl, wd_572, wd_573, wd_574, ⟨_, rfl, pd_X4_clear⟩, 4, _, TX4, 17, rfl, rfl⟩)⟩
noncomputable def ct_12 : CTB2 := [(4, 26, 0, con_6, [1]), (21, 32, 0, con_11, [2, 3])]
noncomputable def cu_12 : List CUT2 := []
theorem ch_12 : staG tb_X6_begin 1 bt_RX6 [] ct_12 [] [] cu_12 15 con_12 = true := by decide +kernel
theorem cto_12 (l : Launch) : CTOK2 l RX6 vwCl gTbl ct_12 := ct2_cons (vl_6 l) ck_RX6_26_6 (ct2_cons (vl_11 l) ck_RX6_32_11 (ct2_nil))
theorem vl_12 (l : Launch) : Vld2 l vwCl gTbl con_12 := conR_ok3 gT_all (hd_12) rfl pn_RX6 tk_X6_begin bo_RX6 xo_RX6 (cto_12 l) ch_12 cut_nil
/-- RookHusting$Reader hasMore -/
noncomputable def gi_23 : GI := jl_n [jl_z 2, jl_i 0 3, jl_z 4, jl_i 0 4, jl_z 3]
noncomputable def ac_24 : AC := .inl (10, jl_n [jl_8 7 2, jl_1 8 1, jl_8 11 3])
noncomputable def hc_2 : List AC := [.inl (6, [(8, 1, 0), (1, 2, 0), (8, 3, 0), (6, 1, 0)]), ac_24]
noncomputable def gi_24 : GI := jl_n [jl_z 2, jl_i 0 3, jl_z 4, jl_i 0 4, jl_z 4]
noncomputable def hq_8 : HP := [(false, .inl (6, [(8, 1, 0), (1, 2, 0), (8, 3, 0), (6, 1, 0)])), (false, ac_24)]
noncomputable def gi_25 : GI := jl_n [jl_z 7, jl_i 0 3, jl_z 4]
noncomputable def con_13 : Con2 := ((yX6_hasMore, cX6_hasMore, 1, (some .boolean)), (0, 0), ([(6, 0, 0)], gi_23, hc_2, []), [((0, 0, 0), gi_24, hq_8, [], [1]), ((0, 1, 0), gi_25, hq_8, [], [1])])
theorem hd_13 : con_13.1 = (yX6_hasMore, cX6_hasMore, 1, (some .boolean)) := rfl
noncomputable def ct_13 : CTB2 := []
noncomputable def cu_13 : List CUT2 := []
theorem ch_13 : staG tb_X6_hasMore 1 bt_RX6 [] ct_13 [] [] cu_13 13 con_13 = true := by decide +kernel
theorem cto_13 (l : Launch) : CTOK2 l RX6 vwCl gTbl ct_13 := ct2_nil
theorem vl_13 (l : Launch) : Vld2 l vwCl gTbl con_13 := conR_ok3 gT_all (hd_13) rfl pn_RX6 tk_X6_hasMore bo_RX6 xo_RX6 (cto_13 l) ch_13 cut_nil
/-- RookHusting$Tape isAtWord -/
noncomputable def gi_26 : GI := jl_n [jl_z 4, jl_i 0 4, jl_i 0 700, jl_z 1, jl_i 0 700]
noncomputable def ac_25 : AC := .inl (10, jl_n [jl_6 2 1, jl_8 4 1, jl_1 6 2, jl_8 7 1, jl_1 8 1])
noncomputable def gi_27 : GI := jl_n [jl_z 4, jl_i 0 4, jl_i 0 700, jl_z 1, jl_i 0 700, jl_z 1]
noncomputable def hq_9 : HP := [(false, ac_25), (false, .inr (0, [(700, (2, (-128), 127))]))]
noncomputable def gi_28 : GI := jl_n [jl_z 5, jl_i 0 693, jl_z 1, jl_i 0 700, jl_z 1]
noncomputable def con_14 : Con2 := ((yX10_isAtWord, cX10_isAtWord, 3, (some .boolean)), (8, 200), ([(6, 0, 0), (13, 6, 0)], gi_26, [ac_25, .inr (0, [(700, (2, (-128), 127))])], []), [((0, 0, 0), gi_27, hq_9, [], [1]), ((0, 1, 0), gi_28, hq_9, [], [1])])
theorem hd_14 : con_14.1 = (yX10_isAtWord, cX10_isAtWord, 3, (some .boolean)) := rfl
noncomputable def ct_14 : CTB2 := []
noncomputable def gi_29 : GI := jl_n [jl_z 5, jl_i 0 693, jl_z 1, jl_i 0 700, jl_z 2, jl_i 0 7]
noncomputable def cu_14 : List CUT2 := [((27, [(0, (6, 0, 0)), (1, (13, 6, 0)), (2, (1, 10, 0))], [], gi_29, hq_9), [], ([(10, (-1))], 7))]
theorem ch_14 : staG tb_X10_isAtWord 1 bt_RX10 [] ct_14 [(25, [(0, (2, 0, 3), 0, 693)])] [15] cu_14 20 con_14 = true := by decide +kernel
theorem cc_14 : cu_14.all (cutG tb_X10_isAtWord 1 bt_RX10 [] ct_14 [(25, [(0, (2, 0, 3), 0, 693)])] [15] cu_14 20 con_14) = true := by decide +kernel
theorem cto_14 (l : Launch) : CTOK2 l RX10 vwCl gTbl ct_14 := ct2_nil
theorem vl_14 (l : Launch) : Vld2 l vwCl gTbl con_14 := conR_ok3 gT_all (hd_14) rfl pn_RX10 tk_X10_isAtWord bo_RX10 xo_RX10 (cto_14 l) ch_14 (cut_all cc_14)
/-- RookHusting$Reader blame -/
noncomputable def gi_30 : GI := jl_n [jl_z 3, jl_i 0 3, jl_m 0 700, jl_z 4, jl_i 0 700, jl_z 2]
noncomputable def ac_26 : AC := .inl (10, jl_n [jl_8 9 3, jl_1 10 1, jl_8 12 2])
noncomputable def hc_3 : List AC := [.inl (6, [(8, 2, 0), (1, 3, 0), (1, 4, 0), (6, 1, 0)]), ac_26]
noncomputable def gi_31 : GI := jl_n [jl_z 3, jl_i 0 3, jl_m 0 700, jl_z 4, jl_i 0 700, jl_z 6]
noncomputable def hq_10 : HP := [(true, .inl (6, [(8, 2, 0), (0, 1, 0), (1, 9, 0), (6, 1, 0)])), (false, ac_26)]
noncomputable def con_15 : Con2 := ((yX6_blame, cX6_blame, 2, none), (0, 0), ([(6, 0, 0), (0, 1, 0)], gi_30, hc_3, []), [((9, 0, 0), gi_31, hq_10, [], [1, 1, 1, 1])])
theorem hd_15 : con_15.1 = (yX6_blame, cX6_blame, 2, none) := rfl
noncomputable def ct_15 : CTB2 := []
noncomputable def cu_15 : List CUT2 := []
theorem ch_15 : staG tb_X6_blame 1 bt_RX6 [] ct_15 [] [] cu_15 11 con_15 = true := by decide +kernel
theorem cto_15 (l : Launch) : CTOK2 l RX6 vwCl gTbl ct_15 := ct2_nil
theorem vl_15 (l : Launch) : Vld2 l vwCl gTbl con_15 := conR_ok3 gT_all (hd_15) rfl pn_RX6 tk_X6_blame bo_RX6 xo_RX6 (cto_15 l) ch_15 cut_nil
/-- RookHusting$Reader takeWord -/
noncomputable def gi_32 : GI := jl_n [jl_z 3, jl_i 0 3, jl_m 0 700, jl_z 2, jl_i 0 700, jl_i 0 4, jl_i 0 700, jl_m 2147483647 1000000, jl_i 0 700]
noncomputable def ac_27 : AC := .inl (10, jl_n [jl_6 3 1, jl_1 12 5])
noncomputable def hc_4 : List AC := [.inl (6, [(8, 2, 0), (1, 3, 0), (1, 4, 0), (6, 1, 0)]), ac_27, .inr (0, [(700, (2, (-128), 127))])]
noncomputable def gi_33 : GI := jl_n [jl_z 3, jl_i 0 3, jl_m 0 700, jl_z 2, jl_i 0 700, jl_i 0 4, jl_i 0 700, jl_m 2147483647 1000000, jl_i 0 700, jl_z 1, jl_i 0 3, jl_m 0 700, jl_z 3, jl_i 0 4, jl_i 0 700, jl_m 2147483647 1000000, jl_i 0 700]
noncomputable def ac_28 : AC := .inl (10, jl_n [jl_6 3 1, jl_1 8 1, jl_1 22 4])
noncomputable def hq_11 : HP := [(true, .inl (6, [(8, 2, 0), (1, 13, 0), (1, 14, 0), (6, 1, 0)])), (true, ac_28), (false, .inr (0, [(700, (2, (-128), 127))]))]
noncomputable def con_16 : Con2 := ((yX6_takeWord, cX6_takeWord, 2, none), (9, 222), ([(6, 0, 0), (13, 6, 0)], gi_32, hc_4, []), [((9, 0, 0), gi_33, hq_11, [], [1, 1, 1, 1, 1, 1, 1, 1, 1, 1])])
theorem hd_16 : con_16.1 = (yX6_takeWord, cX6_takeWord, 2, none) := rfl
theorem ck_RX6_102_10 : COK2 RX6 vwCl gTbl 102 0 con_10 := ⟨wd_583, wd_126, mh_X10_step, .inr (.inr ⟨rfl, wd_670, wd_581, wd_582, ⟨_, rfl, pd_X10_step⟩, 10, _, TX10, 6, rfl, rfl⟩)⟩
theorem ck_RX6_70_15 : COK2 RX6 vwCl gTbl 70 0 con_15 := ⟨wd_669, wd_127, mh_X6_blame, .inr (.inr ⟨rfl, wd_666, wd_668, wd_2, ⟨_, rfl, pd_X6_blame⟩, 6, _, TX6, 4, rfl, rfl⟩)⟩
theorem ck_RX6_48_14 : COK2 RX6 vwCl gTbl 48 0 con_14 := ⟨wd_617, wd_126, mh_X10_isAtWord, .inr (.inr ⟨rfl, wd_614, wd_615, wd_616, ⟨_, rfl, pd_X10_isAtWord⟩, 10, _, TX10, 6, rfl, rfl⟩)⟩
noncomputable def ct_16 : CTB2 := [(13, 48, 0, con_14, [1, 2]), (21, 70, 0, con_15, [0, 1]), (29, 102, 0, con_10, [1, 2])]
noncomputable def cu_16 : List CUT2 := []
theorem ch_16 : staG tb_X6_takeWord 1 bt_RX6 [] ct_16 [] [] cu_16 14 con_16 = true := by decide +kernel
theorem cto_16 (l : Launch) : CTOK2 l RX6 vwCl gTbl ct_16 := ct2_cons (vl_14 l) ck_RX6_48_14 (ct2_cons (vl_15 l) ck_RX6_70_15 (ct2_cons (vl_10 l) ck_RX6_102_10 (ct2_nil)))
theorem vl_16 (l : Launch) : Vld2 l vwCl gTbl con_16 := conR_ok3 gT_all (hd_16) rfl pn_RX6 tk_X6_takeWord bo_RX6 xo_RX6 (cto_16 l) ch_16 cut_nil
/-- RookHusting$Tape isAtWord -/
noncomputable def gi_34 : GI := jl_n [jl_z 5, jl_i 0 696, jl_z 1, jl_i 0 700, jl_z 1]
noncomputable def con_17 : Con2 := ((yX10_isAtWord, cX10_isAtWord, 3, (some .boolean)), (8, 200), ([(6, 0, 0), (13, 1, 0)], gi_26, [ac_25, .inr (0, [(700, (2, (-128), 127))])], []), [((0, 0, 0), gi_27, hq_9, [], [1]), ((0, 1, 0), gi_34, hq_9, [], [1])])
theorem hd_17 : con_17.1 = (yX10_isAtWord, cX10_isAtWord, 3, (some .boolean)) := rfl
noncomputable def ct_17 : CTB2 := []
noncomputable def gi_35 : GI := jl_n [jl_z 5, jl_i 0 696, jl_z 1, jl_i 0 700, jl_z 2, jl_i 0 4]
noncomputable def cu_17 : List CUT2 := [((27, [(0, (6, 0, 0)), (1, (13, 1, 0)), (2, (1, 10, 0))], [], gi_35, hq_9), [], ([(10, (-1))], 4))]
theorem ch_17 : staG tb_X10_isAtWord 1 bt_RX10 [] ct_17 [(25, [(0, (2, 0, 3), 0, 696)])] [15] cu_17 20 con_17 = true := by decide +kernel
theorem cc_17 : cu_17.all (cutG tb_X10_isAtWord 1 bt_RX10 [] ct_17 [(25, [(0, (2, 0, 3), 0, 696)])] [15] cu_17 20 con_17) = true := by decide +kernel
theorem cto_17 (l : Launch) : CTOK2 l RX10 vwCl gTbl ct_17 := ct2_nil
theorem vl_17 (l : Launch) : Vld2 l vwCl gTbl con_17 := conR_ok3 gT_all (hd_17) rfl pn_RX10 tk_X10_isAtWord bo_RX10 xo_RX10 (cto_17 l) ch_17 (cut_all cc_17)
/-- RookHusting$Reader takeWord -/
noncomputable def con_18 : Con2 := ((yX6_takeWord, cX6_takeWord, 2, none), (9, 222), ([(6, 0, 0), (13, 1, 0)], gi_32, hc_4, []), [((9, 0, 0), gi_33, hq_11, [], [1, 1, 1, 1, 1, 1, 1, 1, 1, 1])])
theorem hd_18 : con_18.1 = (yX6_takeWord, cX6_takeWord, 2, none) := rfl
theorem ck_RX6_48_17 : COK2 RX6 vwCl gTbl 48 0 con_17 := ⟨wd_617, wd_126, mh_X10_isAtWord, .inr (.inr ⟨rfl, wd_614, wd_615, wd_616, ⟨_, rfl, pd_X10_isAtWord⟩, 10, _, TX10, 6, rfl, rfl⟩)⟩
noncomputable def ct_18 : CTB2 := [(13, 48, 0, con_17, [1, 2]), (21, 70, 0, con_15, [0, 1]), (29, 102, 0, con_10, [1, 2])]
noncomputable def cu_18 : List CUT2 := []
theorem ch_18 : staG tb_X6_takeWord 1 bt_RX6 [] ct_18 [] [] cu_18 14 con_18 = true := by decide +kernel
theorem cto_18 (l : Launch) : CTOK2 l RX6 vwCl gTbl ct_18 := ct2_cons (vl_17 l) ck_RX6_48_17 (ct2_cons (vl_15 l) ck_RX6_70_15 (ct2_cons (vl_10 l) ck_RX6_102_10 (ct2_nil)))
theorem vl_18 (l : Launch) : Vld2 l vwCl gTbl con_18 := conR_ok3 gT_all (hd_18) rfl pn_RX6 tk_X6_takeWord bo_RX6 xo_RX6 (cto_18 l) ch_18 cut_nil
/-- RookHusting$Reader blame -/
noncomputable def hq_12 : HP := [(true, .inl (6, [(8, 2, 0), (0, 2, 0), (1, 9, 0), (6, 1, 0)])), (false, ac_26)]
noncomputable def con_19 : Con2 := ((yX6_blame, cX6_blame, 2, none), (0, 0), ([(6, 0, 0), (0, 2, 0)], gi_30, hc_3, []), [((9, 0, 0), gi_31, hq_12, [], [1, 1, 1, 1])])
theorem hd_19 : con_19.1 = (yX6_blame, cX6_blame, 2, none) := rfl
noncomputable def ct_19 : CTB2 := []
noncomputable def cu_19 : List CUT2 := []
theorem ch_19 : staG tb_X6_blame 1 bt_RX6 [] ct_19 [] [] cu_19 11 con_19 = true := by decide +kernel
theorem cto_19 (l : Launch) : CTOK2 l RX6 vwCl gTbl ct_19 := ct2_nil
theorem vl_19 (l : Launch) : Vld2 l vwCl gTbl con_19 := conR_ok3 gT_all (hd_19) rfl pn_RX6 tk_X6_blame bo_RX6 xo_RX6 (cto_19 l) ch_19 cut_nil
/-- RookHusting$Reader takeNumber -/
noncomputable def gi_36 : GI := jl_n [jl_z 5, jl_i 0 3, jl_m 0 700, jl_z 2, jl_i 0 700, jl_i 0 4, jl_i 0 700, jl_m 2147483647 1000000, jl_i 0 700]
noncomputable def ac_29 : AC := .inl (10, jl_n [jl_6 3 1, jl_1 14 5])
noncomputable def hc_5 : List AC := [.inl (6, [(8, 4, 0), (1, 5, 0), (1, 6, 0), (6, 1, 0)]), ac_29, .inr (0, [(700, (2, (-128), 127))])]
noncomputable def gi_37 : GI := jl_n [jl_z 5, jl_i 0 3, jl_m 0 700, jl_z 2, jl_i 0 700, jl_i 0 4, jl_i 0 700, jl_m 2147483647 1000000, jl_i 0 700, jl_z 2, jl_i 1 3, jl_m 0 700, jl_z 1]
noncomputable def hq_13 : HP := [(true, .inl (6, [(8, 4, 0), (1, 16, 0), (1, 17, 0), (6, 1, 0)])), (false, ac_29), (false, .inr (0, [(700, (2, (-128), 127))]))]
noncomputable def gi_38 : GI := jl_n [jl_z 6, jl_m 0 700, jl_z 2, jl_i 0 700, jl_i 1 1, jl_i 0 700, jl_i 1 16, jl_i 0 700, jl_z 3, jl_i 0 4, jl_i 0 700, jl_m 2147483647 1000000, jl_i 0 700]
noncomputable def ac_30 : AC := .inl (10, jl_n [jl_6 3 1, jl_1 10 1, jl_1 21 4])
noncomputable def hq_14 : HP := [(false, .inl (6, [(8, 4, 0), (1, 5, 0), (1, 6, 0), (6, 1, 0)])), (true, ac_30), (false, .inr (0, [(700, (2, (-128), 127))]))]
noncomputable def con_20 : Con2 := ((yX6_takeNumber, cX6_takeNumber, 5, (some .int)), (2, 40), ([(6, 0, 0), (0, 1, 0), (0, 16, 0), (0, 0, 0)], gi_36, hc_5, []), [((0, 0, 0), gi_37, hq_13, [], [1, 1, 1, 1, 1]), ((1, 12, 0), gi_38, hq_14, [], [1, 1, 1, 1, 1, 1, 1])])
theorem hd_20 : con_20.1 = (yX6_takeNumber, cX6_takeNumber, 5, (some .int)) := rfl
theorem ck_RX6_70_19 : COK2 RX6 vwCl gTbl 70 0 con_19 := ⟨wd_669, wd_127, mh_X6_blame, .inr (.inr ⟨rfl, wd_666, wd_668, wd_2, ⟨_, rfl, pd_X6_blame⟩, 6, _, TX6, 4, rfl, rfl⟩)⟩
noncomputable def ct_20 : CTB2 := [(22, 70, 0, con_15, [0, 1]), (63, 70, 0, con_19, [0, 1]), (72, 102, 0, con_10, [1, 2])]
noncomputable def cu_20 : List CUT2 := []
theorem ch_20 : staG tb_X6_takeNumber 1 bt_RX6 [] ct_20 [(52, [(1, (1, 4, 0), 0, 0)])] [] cu_20 27 con_20 = true := by decide +kernel
theorem cto_20 (l : Launch) : CTOK2 l RX6 vwCl gTbl ct_20 := ct2_cons (vl_15 l) ck_RX6_70_15 (ct2_cons (vl_19 l) ck_RX6_70_19 (ct2_cons (vl_10 l) ck_RX6_102_10 (ct2_nil)))
theorem vl_20 (l : Launch) : Vld2 l vwCl gTbl con_20 := conR_ok3 gT_all (hd_20) rfl pn_RX6 tk_X6_takeNumber bo_RX6 xo_RX6 (cto_20 l) ch_20 cut_nil
/-- RookHusting$Reader takeNamed -/
noncomputable def gi_39 : GI := jl_n [jl_z 5, jl_i 0 3, jl_m 0 700, jl_z 2, jl_i 0 700, jl_i 0 4, jl_i 0 700, jl_m 2147483647 1000000, jl_i 0 700, jl_i 0 16, jl_z 1, jl_i 0 3, jl_m 0 700, jl_z 3, jl_i 0 4, jl_i 0 700, jl_m 2147483647 1000000, jl_i 0 700]
noncomputable def ac_31 : AC := .inl (10, jl_n [jl_6 3 1, jl_1 10 1, jl_1 25 4])
noncomputable def hq_15 : HP := [(true, .inl (6, [(8, 4, 0), (1, 16, 0), (1, 17, 0), (6, 1, 0)])), (true, ac_31), (false, .inr (0, [(700, (2, (-128), 127))]))]
noncomputable def con_21 : Con2 := ((yX6_takeNamed, cX6_takeNamed, 4, (some .int)), (10, 243), ([(6, 0, 0), (13, 1, 0), (0, 1, 0), (0, 16, 0)], gi_36, hc_5, []), [((1, 14, 0), gi_39, hq_15, [], [1, 1, 1, 1, 1, 1, 1, 1, 1, 1, 1])])
theorem hd_21 : con_21.1 = (yX6_takeNamed, cX6_takeNamed, 4, (some .int)) := rfl
theorem ck_RX6_116_20 : COK2 RX6 vwCl gTbl 116 0 con_20 := ⟨wd_679, wd_127, mh_X6_takeNumber, .inr (.inr ⟨rfl, wd_676, wd_678, wd_4, ⟨_, rfl, pd_X6_takeNumber⟩, 6, _, TX6, 4, rfl, rfl⟩)⟩
theorem ck_RX6_79_18 : COK2 RX6 vwCl gTbl 79 0 con_18 := ⟨wd_613, wd_127, mh_X6_takeWord, .inr (.inr ⟨rfl, wd_610, wd_612, wd_1, ⟨_, rfl, pd_X6_takeWord⟩, 6, _, TX6, 4, rfl, rfl⟩)⟩
noncomputable def ct_21 : CTB2 := [(2, 79, 0, con_18, [0, 1, 2]), (9, 116, 0, con_20, [0, 1, 2])]
noncomputable def cu_21 : List CUT2 := []
theorem ch_21 : staG tb_X6_takeNamed 1 bt_RX6 [] ct_21 [] [] cu_21 11 con_21 = true := by decide +kernel
theorem cto_21 (l : Launch) : CTOK2 l RX6 vwCl gTbl ct_21 := ct2_cons (vl_18 l) ck_RX6_79_18 (ct2_cons (vl_20 l) ck_RX6_116_20 (ct2_nil))
theorem vl_21 (l : Launch) : Vld2 l vwCl gTbl con_21 := conR_ok3 gT_all (hd_21) rfl pn_RX6 tk_X6_takeNamed bo_RX6 xo_RX6 (cto_21 l) ch_21 cut_nil
/-- RookHusting$Tape isAtWord -/
noncomputable def gi_40 : GI := jl_n [jl_z 5, jl_i 0 697, jl_z 1, jl_i 0 700, jl_z 1]
noncomputable def con_22 : Con2 := ((yX10_isAtWord, cX10_isAtWord, 3, (some .boolean)), (8, 200), ([(6, 0, 0), (13, 7, 0)], gi_26, [ac_25, .inr (0, [(700, (2, (-128), 127))])], []), [((0, 0, 0), gi_27, hq_9, [], [1]), ((0, 1, 0), gi_40, hq_9, [], [1])])
theorem hd_22 : con_22.1 = (yX10_isAtWord, cX10_isAtWord, 3, (some .boolean)) := rfl
noncomputable def ct_22 : CTB2 := []
noncomputable def gi_41 : GI := jl_n [jl_z 5, jl_i 0 697, jl_z 1, jl_i 0 700, jl_z 2, jl_i 0 3]
noncomputable def cu_22 : List CUT2 := [((27, [(0, (6, 0, 0)), (1, (13, 7, 0)), (2, (1, 10, 0))], [], gi_41, hq_9), [], ([(10, (-1))], 3))]
theorem ch_22 : staG tb_X10_isAtWord 1 bt_RX10 [] ct_22 [(25, [(0, (2, 0, 3), 0, 697)])] [15] cu_22 20 con_22 = true := by decide +kernel
theorem cc_22 : cu_22.all (cutG tb_X10_isAtWord 1 bt_RX10 [] ct_22 [(25, [(0, (2, 0, 3), 0, 697)])] [15] cu_22 20 con_22) = true := by decide +kernel
theorem cto_22 (l : Launch) : CTOK2 l RX10 vwCl gTbl ct_22 := ct2_nil
theorem vl_22 (l : Launch) : Vld2 l vwCl gTbl con_22 := conR_ok3 gT_all (hd_22) rfl pn_RX10 tk_X10_isAtWord bo_RX10 xo_RX10 (cto_22 l) ch_22 (cut_all cc_22)
/-- RookHusting$Reader takeWord -/
noncomputable def con_23 : Con2 := ((yX6_takeWord, cX6_takeWord, 2, none), (9, 222), ([(6, 0, 0), (13, 7, 0)], gi_32, hc_4, []), [((9, 0, 0), gi_33, hq_11, [], [1, 1, 1, 1, 1, 1, 1, 1, 1, 1])])
theorem hd_23 : con_23.1 = (yX6_takeWord, cX6_takeWord, 2, none) := rfl
theorem ck_RX6_48_22 : COK2 RX6 vwCl gTbl 48 0 con_22 := ⟨wd_617, wd_126, mh_X10_isAtWord, .inr (.inr ⟨rfl, wd_614, wd_615, wd_616, ⟨_, rfl, pd_X10_isAtWord⟩, 10, _, TX10, 6, rfl, rfl⟩)⟩
noncomputable def ct_23 : CTB2 := [(13, 48, 0, con_22, [1, 2]), (21, 70, 0, con_15, [0, 1]), (29, 102, 0, con_10, [1, 2])]
noncomputable def cu_23 : List CUT2 := []
theorem ch_23 : staG tb_X6_takeWord 1 bt_RX6 [] ct_23 [] [] cu_23 14 con_23 = true := by decide +kernel
theorem cto_23 (l : Launch) : CTOK2 l RX6 vwCl gTbl ct_23 := ct2_cons (vl_22 l) ck_RX6_48_22 (ct2_cons (vl_15 l) ck_RX6_70_15 (ct2_cons (vl_10 l) ck_RX6_102_10 (ct2_nil)))
theorem vl_23 (l : Launch) : Vld2 l vwCl gTbl con_23 := conR_ok3 gT_all (hd_23) rfl pn_RX6 tk_X6_takeWord bo_RX6 xo_RX6 (cto_23 l) ch_23 cut_nil
/-- RookHusting$Reader takeNumber -/
noncomputable def gi_42 : GI := jl_n [jl_z 6, jl_m 0 700, jl_z 2, jl_i 0 700, jl_i 1 1, jl_i 0 700, jl_i 0 3, jl_i 0 700, jl_z 3, jl_i 0 4, jl_i 0 700, jl_m 2147483647 1000000, jl_i 0 700]
noncomputable def con_24 : Con2 := ((yX6_takeNumber, cX6_takeNumber, 5, (some .int)), (2, 40), ([(6, 0, 0), (0, 0, 0), (0, 3, 0), (0, 0, 0)], gi_36, hc_5, []), [((0, 0, 0), gi_37, hq_13, [], [1, 1, 1, 1, 1]), ((1, 12, 0), gi_42, hq_14, [], [1, 1, 1, 1, 1, 1, 1])])
theorem hd_24 : con_24.1 = (yX6_takeNumber, cX6_takeNumber, 5, (some .int)) := rfl
noncomputable def ct_24 : CTB2 := [(22, 70, 0, con_15, [0, 1]), (63, 70, 0, con_19, [0, 1]), (72, 102, 0, con_10, [1, 2])]
noncomputable def cu_24 : List CUT2 := []
theorem ch_24 : staG tb_X6_takeNumber 1 bt_RX6 [] ct_24 [(52, [(1, (1, 4, 0), 0, 0)])] [] cu_24 27 con_24 = true := by decide +kernel
theorem cto_24 (l : Launch) : CTOK2 l RX6 vwCl gTbl ct_24 := ct2_cons (vl_15 l) ck_RX6_70_15 (ct2_cons (vl_19 l) ck_RX6_70_19 (ct2_cons (vl_10 l) ck_RX6_102_10 (ct2_nil)))
theorem vl_24 (l : Launch) : Vld2 l vwCl gTbl con_24 := conR_ok3 gT_all (hd_24) rfl pn_RX6 tk_X6_takeNumber bo_RX6 xo_RX6 (cto_24 l) ch_24 cut_nil
/-- RookHusting$Reader takeNamed -/
noncomputable def gi_43 : GI := jl_n [jl_z 5, jl_i 0 3, jl_m 0 700, jl_z 2, jl_i 0 700, jl_i 0 4, jl_i 0 700, jl_m 2147483647 1000000, jl_i 0 700, jl_i 0 3, jl_z 1, jl_i 0 3, jl_m 0 700, jl_z 3, jl_i 0 4, jl_i 0 700, jl_m 2147483647 1000000, jl_i 0 700]
noncomputable def con_25 : Con2 := ((yX6_takeNamed, cX6_takeNamed, 4, (some .int)), (10, 243), ([(6, 0, 0), (13, 7, 0), (0, 0, 0), (0, 3, 0)], gi_36, hc_5, []), [((1, 14, 0), gi_43, hq_15, [], [1, 1, 1, 1, 1, 1, 1, 1, 1, 1, 1])])
theorem hd_25 : con_25.1 = (yX6_takeNamed, cX6_takeNamed, 4, (some .int)) := rfl
theorem ck_RX6_116_24 : COK2 RX6 vwCl gTbl 116 0 con_24 := ⟨wd_679, wd_127, mh_X6_takeNumber, .inr (.inr ⟨rfl, wd_676, wd_678, wd_4, ⟨_, rfl, pd_X6_takeNumber⟩, 6, _, TX6, 4, rfl, rfl⟩)⟩
theorem ck_RX6_79_23 : COK2 RX6 vwCl gTbl 79 0 con_23 := ⟨wd_613, wd_127, mh_X6_takeWord, .inr (.inr ⟨rfl, wd_610, wd_612, wd_1, ⟨_, rfl, pd_X6_takeWord⟩, 6, _, TX6, 4, rfl, rfl⟩)⟩
noncomputable def ct_25 : CTB2 := [(2, 79, 0, con_23, [0, 1, 2]), (9, 116, 0, con_24, [0, 1, 2])]
noncomputable def cu_25 : List CUT2 := []
theorem ch_25 : staG tb_X6_takeNamed 1 bt_RX6 [] ct_25 [] [] cu_25 11 con_25 = true := by decide +kernel
theorem cto_25 (l : Launch) : CTOK2 l RX6 vwCl gTbl ct_25 := ct2_cons (vl_23 l) ck_RX6_79_23 (ct2_cons (vl_24 l) ck_RX6_116_24 (ct2_nil))
theorem vl_25 (l : Launch) : Vld2 l vwCl gTbl con_25 := conR_ok3 gT_all (hd_25) rfl pn_RX6 tk_X6_takeNamed bo_RX6 xo_RX6 (cto_25 l) ch_25 cut_nil
/-- RookHusting$Tape isAtWord -/
noncomputable def con_26 : Con2 := ((yX10_isAtWord, cX10_isAtWord, 3, (some .boolean)), (8, 200), ([(6, 0, 0), (13, 9, 0)], gi_26, [ac_25, .inr (0, [(700, (2, (-128), 127))])], []), [((0, 0, 0), gi_27, hq_9, [], [1]), ((0, 1, 0), gi_34, hq_9, [], [1])])
theorem hd_26 : con_26.1 = (yX10_isAtWord, cX10_isAtWord, 3, (some .boolean)) := rfl
noncomputable def ct_26 : CTB2 := []
noncomputable def cu_26 : List CUT2 := [((27, [(0, (6, 0, 0)), (1, (13, 9, 0)), (2, (1, 10, 0))], [], gi_35, hq_9), [], ([(10, (-1))], 4))]
theorem ch_26 : staG tb_X10_isAtWord 1 bt_RX10 [] ct_26 [(25, [(0, (2, 0, 3), 0, 696)])] [15] cu_26 20 con_26 = true := by decide +kernel
theorem cc_26 : cu_26.all (cutG tb_X10_isAtWord 1 bt_RX10 [] ct_26 [(25, [(0, (2, 0, 3), 0, 696)])] [15] cu_26 20 con_26) = true := by decide +kernel
theorem cto_26 (l : Launch) : CTOK2 l RX10 vwCl gTbl ct_26 := ct2_nil
theorem vl_26 (l : Launch) : Vld2 l vwCl gTbl con_26 := conR_ok3 gT_all (hd_26) rfl pn_RX10 tk_X10_isAtWord bo_RX10 xo_RX10 (cto_26 l) ch_26 (cut_all cc_26)
/-- RookHusting$Reader takeWord -/
noncomputable def con_27 : Con2 := ((yX6_takeWord, cX6_takeWord, 2, none), (9, 222), ([(6, 0, 0), (13, 9, 0)], gi_32, hc_4, []), [((9, 0, 0), gi_33, hq_11, [], [1, 1, 1, 1, 1, 1, 1, 1, 1, 1])])
theorem hd_27 : con_27.1 = (yX6_takeWord, cX6_takeWord, 2, none) := rfl
theorem ck_RX6_48_26 : COK2 RX6 vwCl gTbl 48 0 con_26 := ⟨wd_617, wd_126, mh_X10_isAtWord, .inr (.inr ⟨rfl, wd_614, wd_615, wd_616, ⟨_, rfl, pd_X10_isAtWord⟩, 10, _, TX10, 6, rfl, rfl⟩)⟩
noncomputable def ct_27 : CTB2 := [(13, 48, 0, con_26, [1, 2]), (21, 70, 0, con_15, [0, 1]), (29, 102, 0, con_10, [1, 2])]
noncomputable def cu_27 : List CUT2 := []
theorem ch_27 : staG tb_X6_takeWord 1 bt_RX6 [] ct_27 [] [] cu_27 14 con_27 = true := by decide +kernel
theorem cto_27 (l : Launch) : CTOK2 l RX6 vwCl gTbl ct_27 := ct2_cons (vl_26 l) ck_RX6_48_26 (ct2_cons (vl_15 l) ck_RX6_70_15 (ct2_cons (vl_10 l) ck_RX6_102_10 (ct2_nil)))
theorem vl_27 (l : Launch) : Vld2 l vwCl gTbl con_27 := conR_ok3 gT_all (hd_27) rfl pn_RX6 tk_X6_takeWord bo_RX6 xo_RX6 (cto_27 l) ch_27 cut_nil
/-- RookHusting$Reader takeNumber -/
noncomputable def gi_44 : GI := jl_n [jl_z 6, jl_m 0 700, jl_z 2, jl_i 0 700, jl_i 1 1, jl_i 0 700, jl_i 0 10, jl_i 0 700, jl_z 3, jl_i 0 4, jl_i 0 700, jl_m 2147483647 1000000, jl_i 0 700]
noncomputable def con_28 : Con2 := ((yX6_takeNumber, cX6_takeNumber, 5, (some .int)), (2, 40), ([(6, 0, 0), (0, 0, 0), (0, 10, 0), (0, 0, 0)], gi_36, hc_5, []), [((0, 0, 0), gi_37, hq_13, [], [1, 1, 1, 1, 1]), ((1, 12, 0), gi_44, hq_14, [], [1, 1, 1, 1, 1, 1, 1])])
theorem hd_28 : con_28.1 = (yX6_takeNumber, cX6_takeNumber, 5, (some .int)) := rfl
noncomputable def ct_28 : CTB2 := [(22, 70, 0, con_15, [0, 1]), (63, 70, 0, con_19, [0, 1]), (72, 102, 0, con_10, [1, 2])]
noncomputable def cu_28 : List CUT2 := []
theorem ch_28 : staG tb_X6_takeNumber 1 bt_RX6 [] ct_28 [(52, [(1, (1, 4, 0), 0, 0)])] [] cu_28 27 con_28 = true := by decide +kernel
theorem cto_28 (l : Launch) : CTOK2 l RX6 vwCl gTbl ct_28 := ct2_cons (vl_15 l) ck_RX6_70_15 (ct2_cons (vl_19 l) ck_RX6_70_19 (ct2_cons (vl_10 l) ck_RX6_102_10 (ct2_nil)))
theorem vl_28 (l : Launch) : Vld2 l vwCl gTbl con_28 := conR_ok3 gT_all (hd_28) rfl pn_RX6 tk_X6_takeNumber bo_RX6 xo_RX6 (cto_28 l) ch_28 cut_nil
/-- RookHusting$Reader takeNamed -/
noncomputable def gi_45 : GI := jl_n [jl_z 5, jl_i 0 3, jl_m 0 700, jl_z 2, jl_i 0 700, jl_i 0 4, jl_i 0 700, jl_m 2147483647 1000000, jl_i 0 700, jl_i 0 10, jl_z 1, jl_i 0 3, jl_m 0 700, jl_z 3, jl_i 0 4, jl_i 0 700, jl_m 2147483647 1000000, jl_i 0 700]
noncomputable def con_29 : Con2 := ((yX6_takeNamed, cX6_takeNamed, 4, (some .int)), (10, 243), ([(6, 0, 0), (13, 9, 0), (0, 0, 0), (0, 10, 0)], gi_36, hc_5, []), [((1, 14, 0), gi_45, hq_15, [], [1, 1, 1, 1, 1, 1, 1, 1, 1, 1, 1])])
theorem hd_29 : con_29.1 = (yX6_takeNamed, cX6_takeNamed, 4, (some .int)) := rfl
theorem ck_RX6_116_28 : COK2 RX6 vwCl gTbl 116 0 con_28 := ⟨wd_679, wd_127, mh_X6_takeNumber, .inr (.inr ⟨rfl, wd_676, wd_678, wd_4, ⟨_, rfl, pd_X6_takeNumber⟩, 6, _, TX6, 4, rfl, rfl⟩)⟩
theorem ck_RX6_79_27 : COK2 RX6 vwCl gTbl 79 0 con_27 := ⟨wd_613, wd_127, mh_X6_takeWord, .inr (.inr ⟨rfl, wd_610, wd_612, wd_1, ⟨_, rfl, pd_X6_takeWord⟩, 6, _, TX6, 4, rfl, rfl⟩)⟩
noncomputable def ct_29 : CTB2 := [(2, 79, 0, con_27, [0, 1, 2]), (9, 116, 0, con_28, [0, 1, 2])]
noncomputable def cu_29 : List CUT2 := []
theorem ch_29 : staG tb_X6_takeNamed 1 bt_RX6 [] ct_29 [] [] cu_29 11 con_29 = true := by decide +kernel
theorem cto_29 (l : Launch) : CTOK2 l RX6 vwCl gTbl ct_29 := ct2_cons (vl_27 l) ck_RX6_79_27 (ct2_cons (vl_28 l) ck_RX6_116_28 (ct2_nil))
theorem vl_29 (l : Launch) : Vld2 l vwCl gTbl con_29 := conR_ok3 gT_all (hd_29) rfl pn_RX6 tk_X6_takeNamed bo_RX6 xo_RX6 (cto_29 l) ch_29 cut_nil
/-- RookHusting$Reader readHead -/
noncomputable def gi_46 : GI := jl_n [jl_z 2, jl_i 0 3, jl_m 0 700, jl_z 2, jl_i 0 700, jl_i 0 4, jl_i 0 700, jl_m 2147483647 1000000, jl_i 0 700, jl_z 1, jl_i 0 16, jl_i 0 3, jl_i 0 10, jl_z 13]
noncomputable def ac_32 : AC := .inl (10, jl_n [jl_6 3 1, jl_1 11 5])
noncomputable def ac_33 : AC := .inl (4, jl_n [jl_8 12 1, jl_1 15 3, jl_8 28 13])
noncomputable def hc_6 : List AC := [.inl (6, [(6, 3, 0), (1, 2, 0), (1, 3, 0), (6, 1, 0)]), ac_32, .inr (0, [(700, (2, (-128), 127))]), ac_33]
noncomputable def gi_47 : GI := jl_n [jl_z 2, jl_i 0 3, jl_m 0 700, jl_z 2, jl_i 0 700, jl_i 0 4, jl_i 0 700, jl_m 2147483647 1000000, jl_i 0 700, jl_z 1, jl_i 0 16, jl_i 0 3, jl_i 0 10, jl_z 14, jl_i 0 3, jl_m 0 700, jl_z 3, jl_i 0 4, jl_i 0 700, jl_m 2147483647 1000000, jl_i 0 700, jl_z 1, jl_i 0 16, jl_i 0 3, jl_i 0 10, jl_z 13]
noncomputable def ac_34 : AC := .inl (10, jl_n [jl_6 3 1, jl_1 7 1, jl_1 38 4])
noncomputable def ac_35 : AC := .inl (4, jl_n [jl_8 12 1, jl_1 42 3, jl_8 28 13])
noncomputable def hq_16 : HP := [(true, .inl (6, [(6, 3, 0), (1, 29, 0), (1, 30, 0), (6, 1, 0)])), (true, ac_34), (false, .inr (0, [(700, (2, (-128), 127))])), (true, ac_35)]
noncomputable def con_30 : Con2 := ((yX6_readHead, cX6_readHead, 1, none), (11, 266), ([(6, 0, 0)], gi_46, hc_6, []), [((9, 0, 0), gi_47, hq_16, [], [1, 1, 1, 1, 1, 1, 1, 1, 1, 1, 1, 1, 1, 1, 1, 1, 1, 1, 1, 1, 1, 1, 1, 1, 1, 1, 1])])
theorem hd_30 : con_30.1 = (yX6_readHead, cX6_readHead, 1, none) := rfl
theorem ck_RX6_85_29 : COK2 RX6 vwCl gTbl 85 0 con_29 := ⟨wd_675, wd_127, mh_X6_takeNamed, .inr (.inr ⟨rfl, wd_672, wd_674, wd_3, ⟨_, rfl, pd_X6_takeNamed⟩, 6, _, TX6, 4, rfl, rfl⟩)⟩
theorem ck_RX6_85_25 : COK2 RX6 vwCl gTbl 85 0 con_25 := ⟨wd_675, wd_127, mh_X6_takeNamed, .inr (.inr ⟨rfl, wd_672, wd_674, wd_3, ⟨_, rfl, pd_X6_takeNamed⟩, 6, _, TX6, 4, rfl, rfl⟩)⟩
theorem ck_RX6_85_21 : COK2 RX6 vwCl gTbl 85 0 con_21 := ⟨wd_675, wd_127, mh_X6_takeNamed, .inr (.inr ⟨rfl, wd_672, wd_674, wd_3, ⟨_, rfl, pd_X6_takeNamed⟩, 6, _, TX6, 4, rfl, rfl⟩)⟩
theorem ck_RX6_79_16 : COK2 RX6 vwCl gTbl 79 0 con_16 := ⟨wd_613, wd_127, mh_X6_takeWord, .inr (.inr ⟨rfl, wd_610, wd_612, wd_1, ⟨_, rfl, pd_X6_takeWord⟩, 6, _, TX6, 4, rfl, rfl⟩)⟩
noncomputable def ct_30 : CTB2 := [(3, 79, 0, con_16, [0, 1, 2]), (16, 85, 0, con_21, [0, 1, 2]), (31, 85, 0, con_25, [0, 1, 2]), (47, 85, 0, con_29, [0, 1, 2])]
noncomputable def cu_30 : List CUT2 := []
theorem ch_30 : staG tb_X6_readHead 1 bt_RX6 [] ct_30 [] [] cu_30 30 con_30 = true := by decide +kernel
theorem cto_30 (l : Launch) : CTOK2 l RX6 vwCl gTbl ct_30 := ct2_cons (vl_16 l) ck_RX6_79_16 (ct2_cons (vl_21 l) ck_RX6_85_21 (ct2_cons (vl_25 l) ck_RX6_85_25 (ct2_cons (vl_29 l) ck_RX6_85_29 (ct2_nil))))
theorem vl_30 (l : Launch) : Vld2 l vwCl gTbl con_30 := conR_ok3 gT_all (hd_30) rfl pn_RX6 tk_X6_readHead bo_RX6 xo_RX6 (cto_30 l) ch_30 cut_nil
/-- RookHusting$Reader takeSign -/
noncomputable def gi_48 : GI := jl_n [jl_z 2, jl_i 0 3, jl_m 0 700, jl_z 2, jl_i 0 700, jl_i 0 4, jl_i 0 700, jl_m 2147483647 1000000, jl_i 0 700, jl_t, jl_z 16]
noncomputable def ac_36 : AC := .inl (4, jl_n [jl_1 12 1, jl_8 28 16])
noncomputable def hc_7 : List AC := [.inl (6, [(6, 3, 0), (1, 2, 0), (1, 3, 0), (6, 1, 0)]), ac_32, .inr (0, [(700, (2, (-128), 127))]), ac_36]
noncomputable def gi_49 : GI := jl_n [jl_z 2, jl_i 0 3, jl_m 0 700, jl_z 2, jl_i 0 700, jl_i 0 4, jl_i 0 700, jl_m 2147483647 1000000, jl_i 0 700, jl_t, jl_z 17, jl_i 0 3, jl_m 0 700, jl_z 3, jl_i 0 4, jl_i 0 700, jl_m 2147483647 1000000, jl_i 0 700, jl_t, jl_z 16]
noncomputable def ac_37 : AC := .inl (4, jl_n [jl_1 39 1, jl_8 28 16])
noncomputable def hq_17 : HP := [(true, .inl (6, [(6, 3, 0), (1, 29, 0), (1, 30, 0), (6, 1, 0)])), (true, ac_34), (false, .inr (0, [(700, (2, (-128), 127))])), (true, ac_37)]
noncomputable def con_31 : Con2 := ((yX6_takeSign, cX6_takeSign, 1, none), (2, 40), ([(6, 0, 0)], gi_48, hc_7, []), [((9, 0, 0), gi_49, hq_17, [], [1, 1, 1, 1, 1, 1, 1, 1, 1, 1, 1, 1, 1, 1, 1, 1, 1, 1, 1, 1, 1, 1, 1, 1, 1, 1, 1])])
theorem hd_31 : con_31.1 = (yX6_takeSign, cX6_takeSign, 1, none) := rfl
noncomputable def ct_31 : CTB2 := [(21, 70, 0, con_15, [0, 1]), (29, 102, 0, con_10, [1, 2])]
noncomputable def cu_31 : List CUT2 := []
theorem ch_31 : staG tb_X6_takeSign 1 bt_RX6 [] ct_31 [] [] cu_31 21 con_31 = true := by decide +kernel
theorem cto_31 (l : Launch) : CTOK2 l RX6 vwCl gTbl ct_31 := ct2_cons (vl_15 l) ck_RX6_70_15 (ct2_cons (vl_10 l) ck_RX6_102_10 (ct2_nil))
theorem vl_31 (l : Launch) : Vld2 l vwCl gTbl con_31 := conR_ok3 gT_all (hd_31) rfl pn_RX6 tk_X6_takeSign bo_RX6 xo_RX6 (cto_31 l) ch_31 cut_nil
/-- RookHusting$Tape isAtWord -/
noncomputable def gi_50 : GI := jl_n [jl_z 5, jl_i 0 695, jl_z 1, jl_i 0 700, jl_z 1]
noncomputable def con_32 : Con2 := ((yX10_isAtWord, cX10_isAtWord, 3, (some .boolean)), (8, 200), ([(6, 0, 0), (13, 2, 0)], gi_26, [ac_25, .inr (0, [(700, (2, (-128), 127))])], []), [((0, 0, 0), gi_27, hq_9, [], [1]), ((0, 1, 0), gi_50, hq_9, [], [1])])
theorem hd_32 : con_32.1 = (yX10_isAtWord, cX10_isAtWord, 3, (some .boolean)) := rfl
noncomputable def ct_32 : CTB2 := []
noncomputable def gi_51 : GI := jl_n [jl_z 5, jl_i 0 695, jl_z 1, jl_i 0 700, jl_z 2, jl_i 0 5]
noncomputable def cu_32 : List CUT2 := [((27, [(0, (6, 0, 0)), (1, (13, 2, 0)), (2, (1, 10, 0))], [], gi_51, hq_9), [], ([(10, (-1))], 5))]
theorem ch_32 : staG tb_X10_isAtWord 1 bt_RX10 [] ct_32 [(25, [(0, (2, 0, 3), 0, 695)])] [15] cu_32 20 con_32 = true := by decide +kernel
theorem cc_32 : cu_32.all (cutG tb_X10_isAtWord 1 bt_RX10 [] ct_32 [(25, [(0, (2, 0, 3), 0, 695)])] [15] cu_32 20 con_32) = true := by decide +kernel
theorem cto_32 (l : Launch) : CTOK2 l RX10 vwCl gTbl ct_32 := ct2_nil
theorem vl_32 (l : Launch) : Vld2 l vwCl gTbl con_32 := conR_ok3 gT_all (hd_32) rfl pn_RX10 tk_X10_isAtWord bo_RX10 xo_RX10 (cto_32 l) ch_32 (cut_all cc_32)
/-- RookHusting$Reader blame -/
noncomputable def hq_18 : HP := [(true, .inl (6, [(8, 2, 0), (0, 3, 0), (1, 9, 0), (6, 1, 0)])), (false, ac_26)]
noncomputable def con_33 : Con2 := ((yX6_blame, cX6_blame, 2, none), (0, 0), ([(6, 0, 0), (0, 3, 0)], gi_30, hc_3, []), [((9, 0, 0), gi_31, hq_18, [], [1, 1, 1, 1])])
theorem hd_33 : con_33.1 = (yX6_blame, cX6_blame, 2, none) := rfl
noncomputable def ct_33 : CTB2 := []
noncomputable def cu_33 : List CUT2 := []
theorem ch_33 : staG tb_X6_blame 1 bt_RX6 [] ct_33 [] [] cu_33 11 con_33 = true := by decide +kernel
theorem cto_33 (l : Launch) : CTOK2 l RX6 vwCl gTbl ct_33 := ct2_nil
theorem vl_33 (l : Launch) : Vld2 l vwCl gTbl con_33 := conR_ok3 gT_all (hd_33) rfl pn_RX6 tk_X6_blame bo_RX6 xo_RX6 (cto_33 l) ch_33 cut_nil
/-- RookHusting$Tape isAtWord -/
noncomputable def con_34 : Con2 := ((yX10_isAtWord, cX10_isAtWord, 3, (some .boolean)), (8, 200), ([(6, 0, 0), (13, 0, 0)], gi_26, [ac_25, .inr (0, [(700, (2, (-128), 127))])], []), [((0, 0, 0), gi_27, hq_9, [], [1]), ((0, 1, 0), gi_34, hq_9, [], [1])])
theorem hd_34 : con_34.1 = (yX10_isAtWord, cX10_isAtWord, 3, (some .boolean)) := rfl
noncomputable def ct_34 : CTB2 := []
noncomputable def cu_34 : List CUT2 := [((27, [(0, (6, 0, 0)), (1, (13, 0, 0)), (2, (1, 10, 0))], [], gi_35, hq_9), [], ([(10, (-1))], 4))]
theorem ch_34 : staG tb_X10_isAtWord 1 bt_RX10 [] ct_34 [(25, [(0, (2, 0, 3), 0, 696)])] [15] cu_34 20 con_34 = true := by decide +kernel
theorem cc_34 : cu_34.all (cutG tb_X10_isAtWord 1 bt_RX10 [] ct_34 [(25, [(0, (2, 0, 3), 0, 696)])] [15] cu_34 20 con_34) = true := by decide +kernel
theorem cto_34 (l : Launch) : CTOK2 l RX10 vwCl gTbl ct_34 := ct2_nil
theorem vl_34 (l : Launch) : Vld2 l vwCl gTbl con_34 := conR_ok3 gT_all (hd_34) rfl pn_RX10 tk_X10_isAtWord bo_RX10 xo_RX10 (cto_34 l) ch_34 (cut_all cc_34)
/-- RookHusting$Reader takeWord -/
noncomputable def con_35 : Con2 := ((yX6_takeWord, cX6_takeWord, 2, none), (9, 222), ([(6, 0, 0), (13, 0, 0)], gi_32, hc_4, []), [((9, 0, 0), gi_33, hq_11, [], [1, 1, 1, 1, 1, 1, 1, 1, 1, 1])])
theorem hd_35 : con_35.1 = (yX6_takeWord, cX6_takeWord, 2, none) := rfl
theorem ck_RX6_48_34 : COK2 RX6 vwCl gTbl 48 0 con_34 := ⟨wd_617, wd_126, mh_X10_isAtWord, .inr (.inr ⟨rfl, wd_614, wd_615, wd_616, ⟨_, rfl, pd_X10_isAtWord⟩, 10, _, TX10, 6, rfl, rfl⟩)⟩
noncomputable def ct_35 : CTB2 := [(13, 48, 0, con_34, [1, 2]), (21, 70, 0, con_15, [0, 1]), (29, 102, 0, con_10, [1, 2])]
noncomputable def cu_35 : List CUT2 := []
theorem ch_35 : staG tb_X6_takeWord 1 bt_RX6 [] ct_35 [] [] cu_35 14 con_35 = true := by decide +kernel
theorem cto_35 (l : Launch) : CTOK2 l RX6 vwCl gTbl ct_35 := ct2_cons (vl_34 l) ck_RX6_48_34 (ct2_cons (vl_15 l) ck_RX6_70_15 (ct2_cons (vl_10 l) ck_RX6_102_10 (ct2_nil)))
theorem vl_35 (l : Launch) : Vld2 l vwCl gTbl con_35 := conR_ok3 gT_all (hd_35) rfl pn_RX6 tk_X6_takeWord bo_RX6 xo_RX6 (cto_35 l) ch_35 cut_nil
/-- RookHusting$Reader takeNumber -/
noncomputable def gi_52 : GI := jl_n [jl_z 6, jl_m 0 700, jl_z 2, jl_i 0 700, jl_i 1 1, jl_i 0 700, jl_i 0 300, jl_i 0 700, jl_z 3, jl_i 0 4, jl_i 0 700, jl_m 2147483647 1000000, jl_i 0 700]
noncomputable def con_36 : Con2 := ((yX6_takeNumber, cX6_takeNumber, 5, (some .int)), (2, 40), ([(6, 0, 0), (0, 0, 0), (0, 300, 0), (0, 0, 0)], gi_36, hc_5, []), [((0, 0, 0), gi_37, hq_13, [], [1, 1, 1, 1, 1]), ((1, 12, 0), gi_52, hq_14, [], [1, 1, 1, 1, 1, 1, 1])])
theorem hd_36 : con_36.1 = (yX6_takeNumber, cX6_takeNumber, 5, (some .int)) := rfl
noncomputable def ct_36 : CTB2 := [(22, 70, 0, con_15, [0, 1]), (63, 70, 0, con_19, [0, 1]), (72, 102, 0, con_10, [1, 2])]
noncomputable def cu_36 : List CUT2 := []
theorem ch_36 : staG tb_X6_takeNumber 1 bt_RX6 [] ct_36 [(52, [(1, (1, 4, 0), 0, 0)])] [] cu_36 27 con_36 = true := by decide +kernel
theorem cto_36 (l : Launch) : CTOK2 l RX6 vwCl gTbl ct_36 := ct2_cons (vl_15 l) ck_RX6_70_15 (ct2_cons (vl_19 l) ck_RX6_70_19 (ct2_cons (vl_10 l) ck_RX6_102_10 (ct2_nil)))
theorem vl_36 (l : Launch) : Vld2 l vwCl gTbl con_36 := conR_ok3 gT_all (hd_36) rfl pn_RX6 tk_X6_takeNumber bo_RX6 xo_RX6 (cto_36 l) ch_36 cut_nil
/-- RookHusting$Reader takeNamed -/
noncomputable def gi_53 : GI := jl_n [jl_z 5, jl_i 0 3, jl_m 0 700, jl_z 2, jl_i 0 700, jl_i 0 4, jl_i 0 700, jl_m 2147483647 1000000, jl_i 0 700, jl_i 0 300, jl_z 1, jl_i 0 3, jl_m 0 700, jl_z 3, jl_i 0 4, jl_i 0 700, jl_m 2147483647 1000000, jl_i 0 700]
noncomputable def con_37 : Con2 := ((yX6_takeNamed, cX6_takeNamed, 4, (some .int)), (10, 243), ([(6, 0, 0), (13, 0, 0), (0, 0, 0), (0, 300, 0)], gi_36, hc_5, []), [((1, 14, 0), gi_53, hq_15, [], [1, 1, 1, 1, 1, 1, 1, 1, 1, 1, 1])])
theorem hd_37 : con_37.1 = (yX6_takeNamed, cX6_takeNamed, 4, (some .int)) := rfl
theorem ck_RX6_116_36 : COK2 RX6 vwCl gTbl 116 0 con_36 := ⟨wd_679, wd_127, mh_X6_takeNumber, .inr (.inr ⟨rfl, wd_676, wd_678, wd_4, ⟨_, rfl, pd_X6_takeNumber⟩, 6, _, TX6, 4, rfl, rfl⟩)⟩
theorem ck_RX6_79_35 : COK2 RX6 vwCl gTbl 79 0 con_35 := ⟨wd_613, wd_127, mh_X6_takeWord, .inr (.inr ⟨rfl, wd_610, wd_612, wd_1, ⟨_, rfl, pd_X6_takeWord⟩, 6, _, TX6, 4, rfl, rfl⟩)⟩
noncomputable def ct_37 : CTB2 := [(2, 79, 0, con_35, [0, 1, 2]), (9, 116, 0, con_36, [0, 1, 2])]
noncomputable def cu_37 : List CUT2 := []
theorem ch_37 : staG tb_X6_takeNamed 1 bt_RX6 [] ct_37 [] [] cu_37 11 con_37 = true := by decide +kernel
theorem cto_37 (l : Launch) : CTOK2 l RX6 vwCl gTbl ct_37 := ct2_cons (vl_35 l) ck_RX6_79_35 (ct2_cons (vl_36 l) ck_RX6_116_36 (ct2_nil))
theorem vl_37 (l : Launch) : Vld2 l vwCl gTbl con_37 := conR_ok3 gT_all (hd_37) rfl pn_RX6 tk_X6_takeNamed bo_RX6 xo_RX6 (cto_37 l) ch_37 cut_nil
/-- RookHusting$Tape isAtWord -/
noncomputable def con_38 : Con2 := ((yX10_isAtWord, cX10_isAtWord, 3, (some .boolean)), (8, 200), ([(6, 0, 0), (13, 10, 0)], gi_26, [ac_25, .inr (0, [(700, (2, (-128), 127))])], []), [((0, 0, 0), gi_27, hq_9, [], [1]), ((0, 1, 0), gi_50, hq_9, [], [1])])
theorem hd_38 : con_38.1 = (yX10_isAtWord, cX10_isAtWord, 3, (some .boolean)) := rfl
noncomputable def ct_38 : CTB2 := []
noncomputable def cu_38 : List CUT2 := [((27, [(0, (6, 0, 0)), (1, (13, 10, 0)), (2, (1, 10, 0))], [], gi_51, hq_9), [], ([(10, (-1))], 5))]
theorem ch_38 : staG tb_X10_isAtWord 1 bt_RX10 [] ct_38 [(25, [(0, (2, 0, 3), 0, 695)])] [15] cu_38 20 con_38 = true := by decide +kernel
theorem cc_38 : cu_38.all (cutG tb_X10_isAtWord 1 bt_RX10 [] ct_38 [(25, [(0, (2, 0, 3), 0, 695)])] [15] cu_38 20 con_38) = true := by decide +kernel
theorem cto_38 (l : Launch) : CTOK2 l RX10 vwCl gTbl ct_38 := ct2_nil
theorem vl_38 (l : Launch) : Vld2 l vwCl gTbl con_38 := conR_ok3 gT_all (hd_38) rfl pn_RX10 tk_X10_isAtWord bo_RX10 xo_RX10 (cto_38 l) ch_38 (cut_all cc_38)
/-- RookHusting$Reader takeWord -/
noncomputable def con_39 : Con2 := ((yX6_takeWord, cX6_takeWord, 2, none), (9, 222), ([(6, 0, 0), (13, 10, 0)], gi_32, hc_4, []), [((9, 0, 0), gi_33, hq_11, [], [1, 1, 1, 1, 1, 1, 1, 1, 1, 1])])
theorem hd_39 : con_39.1 = (yX6_takeWord, cX6_takeWord, 2, none) := rfl
theorem ck_RX6_48_38 : COK2 RX6 vwCl gTbl 48 0 con_38 := ⟨wd_617, wd_126, mh_X10_isAtWord, .inr (.inr ⟨rfl, wd_614, wd_615, wd_616, ⟨_, rfl, pd_X10_isAtWord⟩, 10, _, TX10, 6, rfl, rfl⟩)⟩
noncomputable def ct_39 : CTB2 := [(13, 48, 0, con_38, [1, 2]), (21, 70, 0, con_15, [0, 1]), (29, 102, 0, con_10, [1, 2])]
noncomputable def cu_39 : List CUT2 := []
theorem ch_39 : staG tb_X6_takeWord 1 bt_RX6 [] ct_39 [] [] cu_39 14 con_39 = true := by decide +kernel
theorem cto_39 (l : Launch) : CTOK2 l RX6 vwCl gTbl ct_39 := ct2_cons (vl_38 l) ck_RX6_48_38 (ct2_cons (vl_15 l) ck_RX6_70_15 (ct2_cons (vl_10 l) ck_RX6_102_10 (ct2_nil)))
theorem vl_39 (l : Launch) : Vld2 l vwCl gTbl con_39 := conR_ok3 gT_all (hd_39) rfl pn_RX6 tk_X6_takeWord bo_RX6 xo_RX6 (cto_39 l) ch_39 cut_nil
/-- RookHusting$Reader takeNumber -/
noncomputable def gi_54 : GI := jl_n [jl_z 6, jl_m 0 700, jl_z 2, jl_i 0 700, jl_i 1 1, jl_i 0 700, jl_i 0 40, jl_i 0 700, jl_z 3, jl_i 0 4, jl_i 0 700, jl_m 2147483647 1000000, jl_i 0 700]
noncomputable def con_40 : Con2 := ((yX6_takeNumber, cX6_takeNumber, 5, (some .int)), (2, 40), ([(6, 0, 0), (0, 0, 0), (0, 40, 0), (0, 0, 0)], gi_36, hc_5, []), [((0, 0, 0), gi_37, hq_13, [], [1, 1, 1, 1, 1]), ((1, 12, 0), gi_54, hq_14, [], [1, 1, 1, 1, 1, 1, 1])])
theorem hd_40 : con_40.1 = (yX6_takeNumber, cX6_takeNumber, 5, (some .int)) := rfl
noncomputable def ct_40 : CTB2 := [(22, 70, 0, con_15, [0, 1]), (63, 70, 0, con_19, [0, 1]), (72, 102, 0, con_10, [1, 2])]
noncomputable def cu_40 : List CUT2 := []
theorem ch_40 : staG tb_X6_takeNumber 1 bt_RX6 [] ct_40 [(52, [(1, (1, 4, 0), 0, 0)])] [] cu_40 27 con_40 = true := by decide +kernel
theorem cto_40 (l : Launch) : CTOK2 l RX6 vwCl gTbl ct_40 := ct2_cons (vl_15 l) ck_RX6_70_15 (ct2_cons (vl_19 l) ck_RX6_70_19 (ct2_cons (vl_10 l) ck_RX6_102_10 (ct2_nil)))
theorem vl_40 (l : Launch) : Vld2 l vwCl gTbl con_40 := conR_ok3 gT_all (hd_40) rfl pn_RX6 tk_X6_takeNumber bo_RX6 xo_RX6 (cto_40 l) ch_40 cut_nil
/-- RookHusting$Reader takeNamed -/
noncomputable def gi_55 : GI := jl_n [jl_z 5, jl_i 0 3, jl_m 0 700, jl_z 2, jl_i 0 700, jl_i 0 4, jl_i 0 700, jl_m 2147483647 1000000, jl_i 0 700, jl_i 0 40, jl_z 1, jl_i 0 3, jl_m 0 700, jl_z 3, jl_i 0 4, jl_i 0 700, jl_m 2147483647 1000000, jl_i 0 700]
noncomputable def con_41 : Con2 := ((yX6_takeNamed, cX6_takeNamed, 4, (some .int)), (10, 243), ([(6, 0, 0), (13, 10, 0), (0, 0, 0), (0, 40, 0)], gi_36, hc_5, []), [((1, 14, 0), gi_55, hq_15, [], [1, 1, 1, 1, 1, 1, 1, 1, 1, 1, 1])])
theorem hd_41 : con_41.1 = (yX6_takeNamed, cX6_takeNamed, 4, (some .int)) := rfl
theorem ck_RX6_116_40 : COK2 RX6 vwCl gTbl 116 0 con_40 := ⟨wd_679, wd_127, mh_X6_takeNumber, .inr (.inr ⟨rfl, wd_676, wd_678, wd_4, ⟨_, rfl, pd_X6_takeNumber⟩, 6, _, TX6, 4, rfl, rfl⟩)⟩
theorem ck_RX6_79_39 : COK2 RX6 vwCl gTbl 79 0 con_39 := ⟨wd_613, wd_127, mh_X6_takeWord, .inr (.inr ⟨rfl, wd_610, wd_612, wd_1, ⟨_, rfl, pd_X6_takeWord⟩, 6, _, TX6, 4, rfl, rfl⟩)⟩
noncomputable def ct_41 : CTB2 := [(2, 79, 0, con_39, [0, 1, 2]), (9, 116, 0, con_40, [0, 1, 2])]
noncomputable def cu_41 : List CUT2 := []
theorem ch_41 : staG tb_X6_takeNamed 1 bt_RX6 [] ct_41 [] [] cu_41 11 con_41 = true := by decide +kernel
theorem cto_41 (l : Launch) : CTOK2 l RX6 vwCl gTbl ct_41 := ct2_cons (vl_39 l) ck_RX6_79_39 (ct2_cons (vl_40 l) ck_RX6_116_40 (ct2_nil))
theorem vl_41 (l : Launch) : Vld2 l vwCl gTbl con_41 := conR_ok3 gT_all (hd_41) rfl pn_RX6 tk_X6_takeNamed bo_RX6 xo_RX6 (cto_41 l) ch_41 cut_nil
/-- RookHusting$Hundred addField -/
noncomputable def gi_56 : GI := jl_n [jl_z 1, jl_i 0 300, jl_i 0 40, jl_z 4, jl_i 0 4, jl_z 12]
noncomputable def ac_38 : AC := .inl (4, jl_n [jl_8 7 4, jl_1 8 1, jl_8 11 3, jl_6 4 3, jl_8 20 6])
noncomputable def hc_8 : List AC := [ac_38, .inr (1, [(5, (2, 0, 300))]), .inr (1, [(5, (2, 0, 40))]), .inr (1, [(5, (2, (-2147483648), 2147483647))])]
noncomputable def gi_57 : GI := jl_n [jl_z 1, jl_i 0 300, jl_i 0 40, jl_z 4, jl_i 0 4, jl_z 29]
noncomputable def ac_39 : AC := .inl (4, jl_n [jl_8 7 4, jl_x (1, 7, 1), jl_8 11 3, jl_6 4 3, jl_8 20 6])
noncomputable def hq_19 : HP := [(true, ac_39), (true, .inr (1, [(5, (2, 0, 300))])), (true, .inr (1, [(5, (2, 0, 40))])), (true, .inr (1, [(5, (2, (-2147483648), 2147483647))]))]
noncomputable def con_42 : Con2 := ((yX4_addField, cX4_addField, 3, none), (0, 0), ([(6, 0, 0), (1, 1, 0), (1, 2, 0)], gi_56, hc_8, []), [((9, 0, 0), gi_57, hq_19, [], [1, 1, 1, 1, 1, 1, 1, 1, 1, 1, 1, 1, 1, 1, 1, 1, 1])])
theorem hd_42 : con_42.1 = (yX4_addField, cX4_addField, 3, none) := rfl
noncomputable def ct_42 : CTB2 := []
noncomputable def cu_42 : List CUT2 := []
theorem ch_42 : staG tb_X4_addField 1 bt_RX4 [] ct_42 [] [] cu_42 27 con_42 = true := by decide +kernel
theorem cto_42 (l : Launch) : CTOK2 l RX4 vwCl gTbl ct_42 := ct2_nil
theorem vl_42 (l : Launch) : Vld2 l vwCl gTbl con_42 := conR_ok3 gT_all (hd_42) rfl pn_RX4 tk_X4_addField bo_RX4 xo_RX4 (cto_42 l) ch_42 cut_nil
/-- RookHusting$Reader readField -/
noncomputable def gi_58 : GI := jl_n [jl_z 2, jl_i 0 3, jl_m 0 700, jl_z 5, jl_i 0 5, jl_z 13, jl_i 0 700, jl_i 0 4, jl_i 0 700, jl_m 2147483647 1000000, jl_i 0 700]
noncomputable def ac_40 : AC := .inl (4, jl_n [jl_8 9 4, jl_1 10 1, jl_8 13 3, jl_6 7 3, jl_8 22 6])
noncomputable def hc_9 : List AC := [.inl (6, [(6, 1, 0), (1, 2, 0), (1, 3, 0), (6, 2, 0)]), ac_40, ac_21, .inr (0, [(700, (2, (-128), 127))]), .inr (1, [(5, (2, 0, 300))]), .inr (1, [(5, (2, 0, 40))]), .inr (1, [(5, (2, (-2147483648), 2147483647))])]
noncomputable def gi_59 : GI := jl_n [jl_z 2, jl_i 0 3, jl_m 0 700, jl_z 5, jl_i 0 5, jl_z 13, jl_i 0 700, jl_i 0 4, jl_i 0 700, jl_m 2147483647 1000000, jl_i 0 700, jl_z 1, jl_i 0 3, jl_m 0 700, jl_z 5, jl_i 0 5, jl_z 14, jl_i 0 4, jl_i 0 700, jl_m 2147483647 1000000, jl_i 0 700]
noncomputable def ac_41 : AC := .inl (4, jl_n [jl_8 9 4, jl_1 37 1, jl_8 13 3, jl_6 7 3, jl_8 22 6])
noncomputable def hq_20 : HP := [(true, .inl (6, [(6, 1, 0), (1, 29, 0), (1, 30, 0), (6, 2, 0)])), (true, ac_41), (true, ac_23), (false, .inr (0, [(700, (2, (-128), 127))])), (true, .inr (1, [(5, (2, 0, 300))])), (true, .inr (1, [(5, (2, 0, 40))])), (true, .inr (1, [(5, (2, (-2147483648), 2147483647))]))]
noncomputable def con_43 : Con2 := ((yX6_readField, cX6_readField, 3, none), (11, 266), ([(6, 0, 0)], gi_58, hc_9, []), [((9, 0, 0), gi_59, hq_20, [], [1, 1, 1, 1, 1, 1, 1, 1, 1, 1, 1, 1, 1, 1, 1, 1, 1, 1, 1, 1, 1, 1, 1, 1, 1, 1, 1])])
theorem hd_43 : con_43.1 = (yX6_readField, cX6_readField, 3, none) := rfl
theorem ck_RX6_109_42 : COK2 RX6 vwCl gTbl 109 0 con_42 := ⟨wd_695, wd_128, mh_X4_addField, .inr (.inr ⟨rfl, wd_692, wd_693, wd_694, ⟨_, rfl, pd_X4_addField⟩, 4, _, TX4, 17, rfl, rfl⟩)⟩
theorem ck_RX6_85_41 : COK2 RX6 vwCl gTbl 85 0 con_41 := ⟨wd_675, wd_127, mh_X6_takeNamed, .inr (.inr ⟨rfl, wd_672, wd_674, wd_3, ⟨_, rfl, pd_X6_takeNamed⟩, 6, _, TX6, 4, rfl, rfl⟩)⟩
theorem ck_RX6_85_37 : COK2 RX6 vwCl gTbl 85 0 con_37 := ⟨wd_675, wd_127, mh_X6_takeNamed, .inr (.inr ⟨rfl, wd_672, wd_674, wd_3, ⟨_, rfl, pd_X6_takeNamed⟩, 6, _, TX6, 4, rfl, rfl⟩)⟩
theorem ck_RX6_70_33 : COK2 RX6 vwCl gTbl 70 0 con_33 := ⟨wd_669, wd_127, mh_X6_blame, .inr (.inr ⟨rfl, wd_666, wd_668, wd_2, ⟨_, rfl, pd_X6_blame⟩, 6, _, TX6, 4, rfl, rfl⟩)⟩
noncomputable def ct_43 : CTB2 := [(13, 70, 0, con_33, [0, 2]), (21, 102, 0, con_10, [2, 3]), (31, 85, 0, con_37, [0, 2, 3]), (41, 85, 0, con_41, [0, 2, 3]), (58, 109, 0, con_42, [1, 4, 5, 6])]
noncomputable def cu_43 : List CUT2 := []
theorem ch_43 : staG tb_X6_readField 1 bt_RX6 [] ct_43 [] [] cu_43 31 con_43 = true := by decide +kernel
theorem cto_43 (l : Launch) : CTOK2 l RX6 vwCl gTbl ct_43 := ct2_cons (vl_33 l) ck_RX6_70_33 (ct2_cons (vl_10 l) ck_RX6_102_10 (ct2_cons (vl_37 l) ck_RX6_85_37 (ct2_cons (vl_41 l) ck_RX6_85_41 (ct2_cons (vl_42 l) ck_RX6_109_42 (ct2_nil)))))
theorem vl_43 (l : Launch) : Vld2 l vwCl gTbl con_43 := conR_ok3 gT_all (hd_43) rfl pn_RX6 tk_X6_readField bo_RX6 xo_RX6 (cto_43 l) ch_43 cut_nil
/-- RookHusting$Tape isAtWord -/
noncomputable def con_44 : Con2 := ((yX10_isAtWord, cX10_isAtWord, 3, (some .boolean)), (8, 200), ([(6, 0, 0), (13, 5, 0)], gi_26, [ac_25, .inr (0, [(700, (2, (-128), 127))])], []), [((0, 0, 0), gi_27, hq_9, [], [1]), ((0, 1, 0), gi_50, hq_9, [], [1])])
theorem hd_44 : con_44.1 = (yX10_isAtWord, cX10_isAtWord, 3, (some .boolean)) := rfl
noncomputable def ct_44 : CTB2 := []
noncomputable def cu_44 : List CUT2 := [((27, [(0, (6, 0, 0)), (1, (13, 5, 0)), (2, (1, 10, 0))], [], gi_51, hq_9), [], ([(10, (-1))], 5))]
theorem ch_44 : staG tb_X10_isAtWord 1 bt_RX10 [] ct_44 [(25, [(0, (2, 0, 3), 0, 695)])] [15] cu_44 20 con_44 = true := by decide +kernel
theorem cc_44 : cu_44.all (cutG tb_X10_isAtWord 1 bt_RX10 [] ct_44 [(25, [(0, (2, 0, 3), 0, 695)])] [15] cu_44 20 con_44) = true := by decide +kernel
theorem cto_44 (l : Launch) : CTOK2 l RX10 vwCl gTbl ct_44 := ct2_nil
theorem vl_44 (l : Launch) : Vld2 l vwCl gTbl con_44 := conR_ok3 gT_all (hd_44) rfl pn_RX10 tk_X10_isAtWord bo_RX10 xo_RX10 (cto_44 l) ch_44 (cut_all cc_44)
/-- RookHusting$Reader takeNumber -/
noncomputable def gi_60 : GI := jl_n [jl_z 2, jl_m 0 4, jl_z 2, jl_i 0 3, jl_m 0 700, jl_z 2, jl_i 0 700, jl_i 0 4, jl_i 0 700, jl_m 2147483647 1000000, jl_i 0 700]
noncomputable def gi_61 : GI := jl_n [jl_z 2, jl_m 0 4, jl_z 2, jl_i 0 3, jl_m 0 700, jl_z 2, jl_i 0 700, jl_i 0 4, jl_i 0 700, jl_m 2147483647 1000000, jl_i 0 700, jl_z 2, jl_i 1 3, jl_m 0 700, jl_z 1]
noncomputable def gi_62 : GI := jl_n [jl_z 2, jl_i 0 4, jl_z 3, jl_m 0 700, jl_z 2, jl_i 0 700, jl_i 1 1, jl_i 0 700, jl_i 0 4, jl_i 0 700, jl_z 3, jl_i 0 4, jl_i 0 700, jl_m 2147483647 1000000, jl_i 0 700]
noncomputable def con_45 : Con2 := ((yX6_takeNumber, cX6_takeNumber, 5, (some .int)), (2, 40), ([(6, 0, 0), (0, 0, 0), (1, 2, 0), (0, 0, 0)], gi_60, hc_5, []), [((0, 0, 0), gi_61, hq_13, [], [1, 1, 1, 1, 1]), ((1, 12, 0), gi_62, hq_14, [], [1, 1, 1, 1, 1, 1, 1])])
theorem hd_45 : con_45.1 = (yX6_takeNumber, cX6_takeNumber, 5, (some .int)) := rfl
noncomputable def ct_45 : CTB2 := [(22, 70, 0, con_15, [0, 1]), (63, 70, 0, con_19, [0, 1]), (72, 102, 0, con_10, [1, 2])]
noncomputable def cu_45 : List CUT2 := []
theorem ch_45 : staG tb_X6_takeNumber 1 bt_RX6 [] ct_45 [(52, [(1, (1, 4, 0), 0, 0)])] [] cu_45 27 con_45 = true := by decide +kernel
theorem cto_45 (l : Launch) : CTOK2 l RX6 vwCl gTbl ct_45 := ct2_cons (vl_15 l) ck_RX6_70_15 (ct2_cons (vl_19 l) ck_RX6_70_19 (ct2_cons (vl_10 l) ck_RX6_102_10 (ct2_nil)))
theorem vl_45 (l : Launch) : Vld2 l vwCl gTbl con_45 := conR_ok3 gT_all (hd_45) rfl pn_RX6 tk_X6_takeNumber bo_RX6 xo_RX6 (cto_45 l) ch_45 cut_nil
/-- RookHusting hasBit -/
noncomputable def gi_63 : GI := jl_n [jl_r 2 (jl_t), jl_z 1]
noncomputable def con_46 : Con2 := ((yX11_hasBit, cX11_hasBit, 2, (some .boolean)), (0, 0), ([(1, 0, 0), (1, 1, 0)], [((-2147483648), 2147483647), ((-2147483648), 2147483647)], [], []), [((0, 0, 0), gi_63, [], [], [1]), ((0, 1, 0), gi_63, [], [], [1])])
theorem hd_46 : con_46.1 = (yX11_hasBit, cX11_hasBit, 2, (some .boolean)) := rfl
noncomputable def ct_46 : CTB2 := []
noncomputable def cu_46 : List CUT2 := []
theorem ch_46 : staG tb_X11_hasBit 1 bt_RX11 [] ct_46 [] [] cu_46 12 con_46 = true := by decide +kernel
theorem cto_46 (l : Launch) : CTOK2 l RX11 vwCl gTbl ct_46 := ct2_nil
theorem vl_46 (l : Launch) : Vld2 l vwCl gTbl con_46 := conR_ok3 gT_all (hd_46) rfl pn_RX11 tk_X11_hasBit bo_RX11 xo_RX11 (cto_46 l) ch_46 cut_nil
/-- RookHusting$Reader takeNumber -/
noncomputable def gi_64 : GI := jl_n [jl_z 2, jl_i 0 4, jl_i 1 16, jl_z 1, jl_i 0 3, jl_m 0 700, jl_z 2, jl_i 0 700, jl_i 0 4, jl_i 0 700, jl_m 2147483647 1000000, jl_i 0 700]
noncomputable def gi_65 : GI := jl_n [jl_z 2, jl_i 0 4, jl_i 1 16, jl_z 1, jl_i 0 3, jl_m 0 700, jl_z 2, jl_i 0 700, jl_i 0 4, jl_i 0 700, jl_m 2147483647 1000000, jl_i 0 700, jl_z 2, jl_i 1 3, jl_m 0 700, jl_z 1]
noncomputable def gi_66 : GI := jl_n [jl_z 2, jl_i 0 4, jl_i 1 16, jl_z 2, jl_m 0 700, jl_z 2, jl_i 0 700, jl_i 1 1, jl_i 0 700, jl_z 1, jl_i 0 700, jl_z 3, jl_i 0 4, jl_i 0 700, jl_m 2147483647 1000000, jl_i 0 700]
noncomputable def gi_67 : GI := jl_n [jl_z 2, jl_i 0 4, jl_i 1 16, jl_z 2, jl_m 0 700, jl_z 2, jl_i 0 700, jl_i 1 1, jl_i 0 700, jl_i 1 1, jl_i 0 700, jl_z 3, jl_i 0 4, jl_i 0 700, jl_m 2147483647 1000000, jl_i 0 700]
noncomputable def gi_68 : GI := jl_n [jl_z 2, jl_i 0 4, jl_i 1 16, jl_z 2, jl_m 0 700, jl_z 2, jl_i 0 700, jl_i 1 1, jl_i 0 700, jl_i 2 2, jl_i 0 700, jl_z 3, jl_i 0 4, jl_i 0 700, jl_m 2147483647 1000000, jl_i 0 700]
noncomputable def gi_69 : GI := jl_n [jl_z 2, jl_i 0 4, jl_i 1 16, jl_z 2, jl_m 0 700, jl_z 2, jl_i 0 700, jl_i 1 1, jl_i 0 700, jl_i 3 3, jl_i 0 700, jl_z 3, jl_i 0 4, jl_i 0 700, jl_m 2147483647 1000000, jl_i 0 700]
noncomputable def gi_70 : GI := jl_n [jl_z 2, jl_i 0 4, jl_i 1 16, jl_z 2, jl_m 0 700, jl_z 2, jl_i 0 700, jl_i 1 1, jl_i 0 700, jl_i 4 4, jl_i 0 700, jl_z 3, jl_i 0 4, jl_i 0 700, jl_m 2147483647 1000000, jl_i 0 700]
noncomputable def con_47 : Con2 := ((yX6_takeNumber, cX6_takeNumber, 5, (some .int)), (2, 40), ([(6, 0, 0), (0, 0, 0), (1, 2, 0), (1, 3, 0)], gi_64, hc_5, []), [((0, 0, 0), gi_65, hq_13, [], [1, 1, 1, 1, 1]), ((0, 0, 0), gi_66, hq_14, [], [1, 1, 1, 1, 1, 1, 1]), ((0, 1, 0), gi_67, hq_14, [], [1, 1, 1, 1, 1, 1, 1]), ((0, 2, 0), gi_68, hq_14, [], [1, 1, 1, 1, 1, 1, 1]), ((0, 3, 0), gi_69, hq_14, [], [1, 1, 1, 1, 1, 1, 1]), ((0, 4, 0), gi_70, hq_14, [], [1, 1, 1, 1, 1, 1, 1])])
theorem hd_47 : con_47.1 = (yX6_takeNumber, cX6_takeNumber, 5, (some .int)) := rfl
theorem ck_RX6_147_46 : COK2 RX6 vwCl gTbl 147 2 con_46 := ⟨wd_682, wd_125, mh_X11_hasBit, .inr (.inl ⟨rfl, by decide +kernel, wd_681, pd_X11_hasBit⟩)⟩
noncomputable def ct_47 : CTB2 := [(22, 70, 0, con_15, [0, 1]), (55, 147, 2, con_46, []), (63, 70, 0, con_19, [0, 1]), (72, 102, 0, con_10, [1, 2])]
noncomputable def cu_47 : List CUT2 := []
theorem ch_47 : staG tb_X6_takeNumber 1 bt_RX6 [] ct_47 [(52, [(1, (1, 4, 0), 0, 0)])] [] cu_47 31 con_47 = true := by decide +kernel
theorem cto_47 (l : Launch) : CTOK2 l RX6 vwCl gTbl ct_47 := ct2_cons (vl_15 l) ck_RX6_70_15 (ct2_cons (vl_46 l) ck_RX6_147_46 (ct2_cons (vl_19 l) ck_RX6_70_19 (ct2_cons (vl_10 l) ck_RX6_102_10 (ct2_nil))))
theorem vl_47 (l : Launch) : Vld2 l vwCl gTbl con_47 := conR_ok3 gT_all (hd_47) rfl pn_RX6 tk_X6_takeNumber bo_RX6 xo_RX6 (cto_47 l) ch_47 cut_nil
/-- RookHusting$Hundred addHedge -/
noncomputable def gi_71 : GI := jl_n [jl_z 1, jl_i 0 4, jl_z 6, jl_i 0 8, jl_z 11]
noncomputable def ac_42 : AC := .inl (4, jl_n [jl_8 8 5, jl_1 9 1, jl_8 13 4, jl_6 2 1, jl_8 20 6])
noncomputable def gi_72 : GI := jl_n [jl_z 1, jl_i 0 4, jl_z 6, jl_i 0 8, jl_z 28]
noncomputable def ac_43 : AC := .inl (4, jl_n [jl_8 8 5, jl_x (1, 8, 1), jl_8 13 4, jl_6 2 1, jl_8 20 6])
noncomputable def hq_21 : HP := [(true, ac_43), (true, .inr (1, [(5, (2, (-2147483648), 2147483647))]))]
noncomputable def con_48 : Con2 := ((yX4_addHedge, cX4_addHedge, 3, none), (0, 0), ([(6, 0, 0), (1, 1, 0), (0, 4, 0)], gi_71, [ac_42, .inr (1, [(5, (2, (-2147483648), 2147483647))])], []), [((9, 0, 0), gi_72, hq_21, [], [1, 1, 1, 1, 1, 1, 1, 1, 1, 1, 1, 1, 1, 1, 1, 1, 1])])
theorem hd_48 : con_48.1 = (yX4_addHedge, cX4_addHedge, 3, none) := rfl
noncomputable def ct_48 : CTB2 := []
noncomputable def cu_48 : List CUT2 := []
theorem ch_48 : staG tb_X4_addHedge 1 bt_RX4 [] ct_48 [] [] cu_48 29 con_48 = true := by decide +kernel
theorem cto_48 (l : Launch) : CTOK2 l RX4 vwCl gTbl ct_48 := ct2_nil
theorem vl_48 (l : Launch) : Vld2 l vwCl gTbl con_48 := conR_ok3 gT_all (hd_48) rfl pn_RX4 tk_X4_addHedge bo_RX4 xo_RX4 (cto_48 l) ch_48 cut_nil
/-- RookHusting$Hundred addHedge -/
noncomputable def con_49 : Con2 := ((yX4_addHedge, cX4_addHedge, 3, none), (0, 0), ([(6, 0, 0), (1, 1, 0), (0, 3, 0)], gi_71, [ac_42, .inr (1, [(5, (2, (-2147483648), 2147483647))])], []), [((9, 0, 0), gi_72, hq_21, [], [1, 1, 1, 1, 1, 1, 1, 1, 1, 1, 1, 1, 1, 1, 1, 1, 1])])
theorem hd_49 : con_49.1 = (yX4_addHedge, cX4_addHedge, 3, none) := rfl
noncomputable def ct_49 : CTB2 := []
noncomputable def cu_49 : List CUT2 := []
theorem ch_49 : staG tb_X4_addHedge 1 bt_RX4 [] ct_49 [] [] cu_49 29 con_49 = true := by decide +kernel
theorem cto_49 (l : Launch) : CTOK2 l RX4 vwCl gTbl ct_49 := ct2_nil
theorem vl_49 (l : Launch) : Vld2 l vwCl gTbl con_49 := conR_ok3 gT_all (hd_49) rfl pn_RX4 tk_X4_addHedge bo_RX4 xo_RX4 (cto_49 l) ch_49 cut_nil
/-- RookHusting$Hundred addHedge -/
noncomputable def con_50 : Con2 := ((yX4_addHedge, cX4_addHedge, 3, none), (0, 0), ([(6, 0, 0), (1, 1, 0), (0, 2, 0)], gi_71, [ac_42, .inr (1, [(5, (2, (-2147483648), 2147483647))])], []), [((9, 0, 0), gi_72, hq_21, [], [1, 1, 1, 1, 1, 1, 1, 1, 1, 1, 1, 1, 1, 1, 1, 1, 1])])
theorem hd_50 : con_50.1 = (yX4_addHedge, cX4_addHedge, 3, none) := rfl
noncomputable def ct_50 : CTB2 := []
noncomputable def cu_50 : List CUT2 := []
theorem ch_50 : staG tb_X4_addHedge 1 bt_RX4 [] ct_50 [] [] cu_50 29 con_50 = true := by decide +kernel
theorem cto_50 (l : Launch) : CTOK2 l RX4 vwCl gTbl ct_50 := ct2_nil
theorem vl_50 (l : Launch) : Vld2 l vwCl gTbl con_50 := conR_ok3 gT_all (hd_50) rfl pn_RX4 tk_X4_addHedge bo_RX4 xo_RX4 (cto_50 l) ch_50 cut_nil
/-- RookHusting$Hundred addHedge -/
noncomputable def con_51 : Con2 := ((yX4_addHedge, cX4_addHedge, 3, none), (0, 0), ([(6, 0, 0), (1, 1, 0), (0, 1, 0)], gi_71, [ac_42, .inr (1, [(5, (2, (-2147483648), 2147483647))])], []), [((9, 0, 0), gi_72, hq_21, [], [1, 1, 1, 1, 1, 1, 1, 1, 1, 1, 1, 1, 1, 1, 1, 1, 1])])
theorem hd_51 : con_51.1 = (yX4_addHedge, cX4_addHedge, 3, none) := rfl
noncomputable def ct_51 : CTB2 := []
noncomputable def cu_51 : List CUT2 := []
theorem ch_51 : staG tb_X4_addHedge 1 bt_RX4 [] ct_51 [] [] cu_51 29 con_51 = true := by decide +kernel
theorem cto_51 (l : Launch) : CTOK2 l RX4 vwCl gTbl ct_51 := ct2_nil
theorem vl_51 (l : Launch) : Vld2 l vwCl gTbl con_51 := conR_ok3 gT_all (hd_51) rfl pn_RX4 tk_X4_addHedge bo_RX4 xo_RX4 (cto_51 l) ch_51 cut_nil
/-- RookHusting$Hundred addHedge -/
noncomputable def con_52 : Con2 := ((yX4_addHedge, cX4_addHedge, 3, none), (0, 0), ([(6, 0, 0), (1, 1, 0), (0, 0, 0)], gi_71, [ac_42, .inr (1, [(5, (2, (-2147483648), 2147483647))])], []), [((9, 0, 0), gi_72, hq_21, [], [1, 1, 1, 1, 1, 1, 1, 1, 1, 1, 1, 1, 1, 1, 1, 1, 1])])
theorem hd_52 : con_52.1 = (yX4_addHedge, cX4_addHedge, 3, none) := rfl
noncomputable def ct_52 : CTB2 := []
noncomputable def cu_52 : List CUT2 := []
theorem ch_52 : staG tb_X4_addHedge 1 bt_RX4 [] ct_52 [] [] cu_52 29 con_52 = true := by decide +kernel
theorem cto_52 (l : Launch) : CTOK2 l RX4 vwCl gTbl ct_52 := ct2_nil
theorem vl_52 (l : Launch) : Vld2 l vwCl gTbl con_52 := conR_ok3 gT_all (hd_52) rfl pn_RX4 tk_X4_addHedge bo_RX4 xo_RX4 (cto_52 l) ch_52 cut_nil
/-- RookHusting hasBit -/
noncomputable def con_53 : Con2 := ((yX11_hasBit, cX11_hasBit, 2, (some .boolean)), (0, 0), ([(0, 1, 0), (0, 4, 0)], [(0, 0), (0, 0)], [], []), [((0, 0, 0), [(0, 0), (0, 0), (0, 0)], [], [], [1])])
theorem hd_53 : con_53.1 = (yX11_hasBit, cX11_hasBit, 2, (some .boolean)) := rfl
noncomputable def ct_53 : CTB2 := []
noncomputable def cu_53 : List CUT2 := []
theorem ch_53 : staG tb_X11_hasBit 1 bt_RX11 [] ct_53 [] [] cu_53 11 con_53 = true := by decide +kernel
theorem cto_53 (l : Launch) : CTOK2 l RX11 vwCl gTbl ct_53 := ct2_nil
theorem vl_53 (l : Launch) : Vld2 l vwCl gTbl con_53 := conR_ok3 gT_all (hd_53) rfl pn_RX11 tk_X11_hasBit bo_RX11 xo_RX11 (cto_53 l) ch_53 cut_nil
/-- RookHusting hasBit -/
noncomputable def con_54 : Con2 := ((yX11_hasBit, cX11_hasBit, 2, (some .boolean)), (0, 0), ([(0, 1, 0), (0, 3, 0)], [(0, 0), (0, 0)], [], []), [((0, 0, 0), [(0, 0), (0, 0), (0, 0)], [], [], [1])])
theorem hd_54 : con_54.1 = (yX11_hasBit, cX11_hasBit, 2, (some .boolean)) := rfl
noncomputable def ct_54 : CTB2 := []
noncomputable def cu_54 : List CUT2 := []
theorem ch_54 : staG tb_X11_hasBit 1 bt_RX11 [] ct_54 [] [] cu_54 11 con_54 = true := by decide +kernel
theorem cto_54 (l : Launch) : CTOK2 l RX11 vwCl gTbl ct_54 := ct2_nil
theorem vl_54 (l : Launch) : Vld2 l vwCl gTbl con_54 := conR_ok3 gT_all (hd_54) rfl pn_RX11 tk_X11_hasBit bo_RX11 xo_RX11 (cto_54 l) ch_54 cut_nil
/-- RookHusting hasBit -/
noncomputable def con_55 : Con2 := ((yX11_hasBit, cX11_hasBit, 2, (some .boolean)), (0, 0), ([(0, 1, 0), (0, 2, 0)], [(0, 0), (0, 0)], [], []), [((0, 0, 0), [(0, 0), (0, 0), (0, 0)], [], [], [1])])
theorem hd_55 : con_55.1 = (yX11_hasBit, cX11_hasBit, 2, (some .boolean)) := rfl
noncomputable def ct_55 : CTB2 := []
noncomputable def cu_55 : List CUT2 := []
theorem ch_55 : staG tb_X11_hasBit 1 bt_RX11 [] ct_55 [] [] cu_55 11 con_55 = true := by decide +kernel
theorem cto_55 (l : Launch) : CTOK2 l RX11 vwCl gTbl ct_55 := ct2_nil
theorem vl_55 (l : Launch) : Vld2 l vwCl gTbl con_55 := conR_ok3 gT_all (hd_55) rfl pn_RX11 tk_X11_hasBit bo_RX11 xo_RX11 (cto_55 l) ch_55 cut_nil
/-- RookHusting hasBit -/
noncomputable def con_56 : Con2 := ((yX11_hasBit, cX11_hasBit, 2, (some .boolean)), (0, 0), ([(0, 1, 0), (0, 1, 0)], [(0, 0), (0, 0)], [], []), [((0, 0, 0), [(0, 0), (0, 0), (0, 0)], [], [], [1])])
theorem hd_56 : con_56.1 = (yX11_hasBit, cX11_hasBit, 2, (some .boolean)) := rfl
noncomputable def ct_56 : CTB2 := []
noncomputable def cu_56 : List CUT2 := []
theorem ch_56 : staG tb_X11_hasBit 1 bt_RX11 [] ct_56 [] [] cu_56 11 con_56 = true := by decide +kernel
theorem cto_56 (l : Launch) : CTOK2 l RX11 vwCl gTbl ct_56 := ct2_nil
theorem vl_56 (l : Launch) : Vld2 l vwCl gTbl con_56 := conR_ok3 gT_all (hd_56) rfl pn_RX11 tk_X11_hasBit bo_RX11 xo_RX11 (cto_56 l) ch_56 cut_nil
/-- RookHusting hasBit -/
noncomputable def con_57 : Con2 := ((yX11_hasBit, cX11_hasBit, 2, (some .boolean)), (0, 0), ([(0, 1, 0), (0, 0, 0)], [(0, 0), (0, 0)], [], []), [((0, 1, 0), [(0, 0), (0, 0), (0, 0)], [], [], [1])])
theorem hd_57 : con_57.1 = (yX11_hasBit, cX11_hasBit, 2, (some .boolean)) := rfl
noncomputable def ct_57 : CTB2 := []
noncomputable def cu_57 : List CUT2 := []
theorem ch_57 : staG tb_X11_hasBit 1 bt_RX11 [] ct_57 [] [] cu_57 12 con_57 = true := by decide +kernel
theorem cto_57 (l : Launch) : CTOK2 l RX11 vwCl gTbl ct_57 := ct2_nil
theorem vl_57 (l : Launch) : Vld2 l vwCl gTbl con_57 := conR_ok3 gT_all (hd_57) rfl pn_RX11 tk_X11_hasBit bo_RX11 xo_RX11 (cto_57 l) ch_57 cut_nil
/-- RookHusting$Reader takeNumber -/
noncomputable def gi_73 : GI := jl_n [jl_z 2, jl_i 0 4, jl_z 3, jl_m 0 700, jl_z 2, jl_i 0 700, jl_i 1 1, jl_i 0 700, jl_i 1 1, jl_i 0 700, jl_z 3, jl_i 0 4, jl_i 0 700, jl_m 2147483647 1000000, jl_i 0 700]
noncomputable def gi_74 : GI := jl_n [jl_z 2, jl_i 0 4, jl_z 3, jl_m 0 700, jl_z 2, jl_i 0 700, jl_i 1 1, jl_i 0 700, jl_i 2 2, jl_i 0 700, jl_z 3, jl_i 0 4, jl_i 0 700, jl_m 2147483647 1000000, jl_i 0 700]
noncomputable def gi_75 : GI := jl_n [jl_z 2, jl_i 0 4, jl_z 3, jl_m 0 700, jl_z 2, jl_i 0 700, jl_i 1 1, jl_i 0 700, jl_i 3 3, jl_i 0 700, jl_z 3, jl_i 0 4, jl_i 0 700, jl_m 2147483647 1000000, jl_i 0 700]
noncomputable def gi_76 : GI := jl_n [jl_z 2, jl_i 0 4, jl_z 3, jl_m 0 700, jl_z 2, jl_i 0 700, jl_i 1 1, jl_i 0 700, jl_i 4 4, jl_i 0 700, jl_z 3, jl_i 0 4, jl_i 0 700, jl_m 2147483647 1000000, jl_i 0 700]
noncomputable def con_58 : Con2 := ((yX6_takeNumber, cX6_takeNumber, 5, (some .int)), (2, 40), ([(6, 0, 0), (0, 0, 0), (1, 2, 0), (0, 1, 0)], gi_60, hc_5, []), [((0, 0, 0), gi_61, hq_13, [], [1, 1, 1, 1, 1]), ((0, 1, 0), gi_73, hq_14, [], [1, 1, 1, 1, 1, 1, 1]), ((0, 2, 0), gi_74, hq_14, [], [1, 1, 1, 1, 1, 1, 1]), ((0, 3, 0), gi_75, hq_14, [], [1, 1, 1, 1, 1, 1, 1]), ((0, 4, 0), gi_76, hq_14, [], [1, 1, 1, 1, 1, 1, 1])])
theorem hd_58 : con_58.1 = (yX6_takeNumber, cX6_takeNumber, 5, (some .int)) := rfl
theorem ck_RX6_147_53 : COK2 RX6 vwCl gTbl 147 2 con_53 := ⟨wd_682, wd_125, mh_X11_hasBit, .inr (.inl ⟨rfl, by decide +kernel, wd_681, pd_X11_hasBit⟩)⟩
theorem ck_RX6_147_54 : COK2 RX6 vwCl gTbl 147 2 con_54 := ⟨wd_682, wd_125, mh_X11_hasBit, .inr (.inl ⟨rfl, by decide +kernel, wd_681, pd_X11_hasBit⟩)⟩
theorem ck_RX6_147_55 : COK2 RX6 vwCl gTbl 147 2 con_55 := ⟨wd_682, wd_125, mh_X11_hasBit, .inr (.inl ⟨rfl, by decide +kernel, wd_681, pd_X11_hasBit⟩)⟩
theorem ck_RX6_147_56 : COK2 RX6 vwCl gTbl 147 2 con_56 := ⟨wd_682, wd_125, mh_X11_hasBit, .inr (.inl ⟨rfl, by decide +kernel, wd_681, pd_X11_hasBit⟩)⟩
theorem ck_RX6_147_57 : COK2 RX6 vwCl gTbl 147 2 con_57 := ⟨wd_682, wd_125, mh_X11_hasBit, .inr (.inl ⟨rfl, by decide +kernel, wd_681, pd_X11_hasBit⟩)⟩
noncomputable def ct_58 : CTB2 := [(22, 70, 0, con_15, [0, 1]), (55, 147, 2, con_57, []), (55, 147, 2, con_56, []), (55, 147, 2, con_55, []), (55, 147, 2, con_54, []), (55, 147, 2, con_53, []), (63, 70, 0, con_19, [0, 1]), (72, 102, 0, con_10, [1, 2])]
noncomputable def cu_58 : List CUT2 := []
theorem ch_58 : staG tb_X6_takeNumber 1 bt_RX6 [] ct_58 [(52, [(1, (1, 4, 0), 0, 0)])] [] cu_58 31 con_58 = true := by decide +kernel
theorem cto_58 (l : Launch) : CTOK2 l RX6 vwCl gTbl ct_58 := ct2_cons (vl_15 l) ck_RX6_70_15 (ct2_cons (vl_57 l) ck_RX6_147_57 (ct2_cons (vl_56 l) ck_RX6_147_56 (ct2_cons (vl_55 l) ck_RX6_147_55 (ct2_cons (vl_54 l) ck_RX6_147_54 (ct2_cons (vl_53 l) ck_RX6_147_53 (ct2_cons (vl_19 l) ck_RX6_70_19 (ct2_cons (vl_10 l) ck_RX6_102_10 (ct2_nil))))))))
theorem vl_58 (l : Launch) : Vld2 l vwCl gTbl con_58 := conR_ok3 gT_all (hd_58) rfl pn_RX6 tk_X6_takeNumber bo_RX6 xo_RX6 (cto_58 l) ch_58 cut_nil
/-- RookHusting$Reader readHedge -/
noncomputable def gi_77 : GI := jl_n [jl_z 2, jl_i 0 3, jl_m 0 700, jl_z 5, jl_i 0 5, jl_i 0 8, jl_z 12, jl_i 0 700, jl_i 0 4, jl_i 0 700, jl_m 2147483647 1000000, jl_i 0 700]
noncomputable def ac_44 : AC := .inl (4, jl_n [jl_8 9 4, jl_1 11 2, jl_8 15 4, jl_6 5 1, jl_8 22 6])
noncomputable def hc_10 : List AC := [.inl (6, [(6, 1, 0), (1, 2, 0), (1, 3, 0), (6, 2, 0)]), ac_44, ac_21, .inr (0, [(700, (2, (-128), 127))]), .inr (1, [(5, (2, (-2147483648), 2147483647))])]
noncomputable def gi_78 : GI := jl_n [jl_z 2, jl_i 0 3, jl_m 0 700, jl_z 5, jl_i 0 5, jl_i 0 8, jl_z 12, jl_i 0 700, jl_i 0 4, jl_i 0 700, jl_m 2147483647 1000000, jl_i 0 700, jl_z 1, jl_i 0 3, jl_m 0 700, jl_z 6, jl_i 0 8, jl_z 13, jl_i 0 4, jl_i 0 700, jl_m 2147483647 1000000, jl_i 0 700]
noncomputable def ac_45 : AC := .inl (4, jl_n [jl_8 9 4, jl_1 10 1, jl_1 38 1, jl_8 15 4, jl_6 5 1, jl_8 22 6])
noncomputable def hq_22 : HP := [(true, .inl (6, [(6, 1, 0), (1, 29, 0), (1, 30, 0), (6, 2, 0)])), (true, ac_45), (true, ac_23), (false, .inr (0, [(700, (2, (-128), 127))])), (true, .inr (1, [(5, (2, (-2147483648), 2147483647))]))]
noncomputable def con_59 : Con2 := ((yX6_readHedge, cX6_readHedge, 3, none), (3, 64), ([(6, 0, 0)], gi_77, hc_10, []), [((9, 0, 0), gi_78, hq_22, [], [1, 1, 1, 1, 1, 1, 1, 1, 1, 1, 1, 1, 1, 1, 1, 1, 1, 1, 1, 1, 1, 1, 1, 1, 1, 1, 1])])
theorem hd_59 : con_59.1 = (yX6_readHedge, cX6_readHedge, 3, none) := rfl
theorem ck_RX6_120_52 : COK2 RX6 vwCl gTbl 120 0 con_52 := ⟨wd_704, wd_128, mh_X4_addHedge, .inr (.inr ⟨rfl, wd_701, wd_702, wd_703, ⟨_, rfl, pd_X4_addHedge⟩, 4, _, TX4, 17, rfl, rfl⟩)⟩
theorem ck_RX6_120_51 : COK2 RX6 vwCl gTbl 120 0 con_51 := ⟨wd_704, wd_128, mh_X4_addHedge, .inr (.inr ⟨rfl, wd_701, wd_702, wd_703, ⟨_, rfl, pd_X4_addHedge⟩, 4, _, TX4, 17, rfl, rfl⟩)⟩
theorem ck_RX6_120_50 : COK2 RX6 vwCl gTbl 120 0 con_50 := ⟨wd_704, wd_128, mh_X4_addHedge, .inr (.inr ⟨rfl, wd_701, wd_702, wd_703, ⟨_, rfl, pd_X4_addHedge⟩, 4, _, TX4, 17, rfl, rfl⟩)⟩
theorem ck_RX6_120_49 : COK2 RX6 vwCl gTbl 120 0 con_49 := ⟨wd_704, wd_128, mh_X4_addHedge, .inr (.inr ⟨rfl, wd_701, wd_702, wd_703, ⟨_, rfl, pd_X4_addHedge⟩, 4, _, TX4, 17, rfl, rfl⟩)⟩
theorem ck_RX6_120_48 : COK2 RX6 vwCl gTbl 120 0 con_48 := ⟨wd_704, wd_128, mh_X4_addHedge, .inr (.inr ⟨rfl, wd_701, wd_702, wd_703, ⟨_, rfl, pd_X4_addHedge⟩, 4, _, TX4, 17, rfl, rfl⟩)⟩
theorem ck_RX6_116_58 : COK2 RX6 vwCl gTbl 116 0 con_58 := ⟨wd_679, wd_127, mh_X6_takeNumber, .inr (.inr ⟨rfl, wd_676, wd_678, wd_4, ⟨_, rfl, pd_X6_takeNumber⟩, 6, _, TX6, 4, rfl, rfl⟩)⟩
theorem ck_RX6_116_47 : COK2 RX6 vwCl gTbl 116 0 con_47 := ⟨wd_679, wd_127, mh_X6_takeNumber, .inr (.inr ⟨rfl, wd_676, wd_678, wd_4, ⟨_, rfl, pd_X6_takeNumber⟩, 6, _, TX6, 4, rfl, rfl⟩)⟩
theorem ck_RX6_116_45 : COK2 RX6 vwCl gTbl 116 0 con_45 := ⟨wd_679, wd_127, mh_X6_takeNumber, .inr (.inr ⟨rfl, wd_676, wd_678, wd_4, ⟨_, rfl, pd_X6_takeNumber⟩, 6, _, TX6, 4, rfl, rfl⟩)⟩
noncomputable def ct_59 : CTB2 := [(14, 70, 0, con_33, [0, 2]), (22, 102, 0, con_10, [2, 3]), (37, 116, 0, con_45, [0, 2, 3]), (55, 116, 0, con_47, [0, 2, 3]), (55, 116, 0, con_58, [0, 2, 3]), (72, 120, 0, con_48, [1, 4]), (72, 120, 0, con_49, [1, 4]), (72, 120, 0, con_50, [1, 4]), (72, 120, 0, con_51, [1, 4]), (72, 120, 0, con_52, [1, 4])]
noncomputable def cu_59 : List CUT2 := []
theorem ch_59 : staG tb_X6_readHedge 1 bt_RX6 [] ct_59 [] [] cu_59 41 con_59 = true := by decide +kernel
theorem cto_59 (l : Launch) : CTOK2 l RX6 vwCl gTbl ct_59 := ct2_cons (vl_33 l) ck_RX6_70_33 (ct2_cons (vl_10 l) ck_RX6_102_10 (ct2_cons (vl_45 l) ck_RX6_116_45 (ct2_cons (vl_47 l) ck_RX6_116_47 (ct2_cons (vl_58 l) ck_RX6_116_58 (ct2_cons (vl_48 l) ck_RX6_120_48 (ct2_cons (vl_49 l) ck_RX6_120_49 (ct2_cons (vl_50 l) ck_RX6_120_50 (ct2_cons (vl_51 l) ck_RX6_120_51 (ct2_cons (vl_52 l) ck_RX6_120_52 (ct2_nil))))))))))
theorem vl_59 (l : Launch) : Vld2 l vwCl gTbl con_59 := conR_ok3 gT_all (hd_59) rfl pn_RX6 tk_X6_readHedge bo_RX6 xo_RX6 (cto_59 l) ch_59 cut_nil
/-- RookHusting$Tape isAtWord -/
noncomputable def con_60 : Con2 := ((yX10_isAtWord, cX10_isAtWord, 3, (some .boolean)), (8, 200), ([(6, 0, 0), (13, 8, 0)], gi_26, [ac_25, .inr (0, [(700, (2, (-128), 127))])], []), [((0, 0, 0), gi_27, hq_9, [], [1]), ((0, 1, 0), gi_40, hq_9, [], [1])])
theorem hd_60 : con_60.1 = (yX10_isAtWord, cX10_isAtWord, 3, (some .boolean)) := rfl
noncomputable def ct_60 : CTB2 := []
noncomputable def cu_60 : List CUT2 := [((27, [(0, (6, 0, 0)), (1, (13, 8, 0)), (2, (1, 10, 0))], [], gi_41, hq_9), [], ([(10, (-1))], 3))]
theorem ch_60 : staG tb_X10_isAtWord 1 bt_RX10 [] ct_60 [(25, [(0, (2, 0, 3), 0, 697)])] [15] cu_60 20 con_60 = true := by decide +kernel
theorem cc_60 : cu_60.all (cutG tb_X10_isAtWord 1 bt_RX10 [] ct_60 [(25, [(0, (2, 0, 3), 0, 697)])] [15] cu_60 20 con_60) = true := by decide +kernel
theorem cto_60 (l : Launch) : CTOK2 l RX10 vwCl gTbl ct_60 := ct2_nil
theorem vl_60 (l : Launch) : Vld2 l vwCl gTbl con_60 := conR_ok3 gT_all (hd_60) rfl pn_RX10 tk_X10_isAtWord bo_RX10 xo_RX10 (cto_60 l) ch_60 (cut_all cc_60)
/-- RookHusting$Tape isAtWord -/
noncomputable def con_61 : Con2 := ((yX10_isAtWord, cX10_isAtWord, 3, (some .boolean)), (8, 200), ([(6, 0, 0), (13, 3, 0)], gi_26, [ac_25, .inr (0, [(700, (2, (-128), 127))])], []), [((0, 0, 0), gi_27, hq_9, [], [1]), ((0, 1, 0), gi_28, hq_9, [], [1])])
theorem hd_61 : con_61.1 = (yX10_isAtWord, cX10_isAtWord, 3, (some .boolean)) := rfl
noncomputable def ct_61 : CTB2 := []
noncomputable def cu_61 : List CUT2 := [((27, [(0, (6, 0, 0)), (1, (13, 3, 0)), (2, (1, 10, 0))], [], gi_29, hq_9), [], ([(10, (-1))], 7))]
theorem ch_61 : staG tb_X10_isAtWord 1 bt_RX10 [] ct_61 [(25, [(0, (2, 0, 3), 0, 693)])] [15] cu_61 20 con_61 = true := by decide +kernel
theorem cc_61 : cu_61.all (cutG tb_X10_isAtWord 1 bt_RX10 [] ct_61 [(25, [(0, (2, 0, 3), 0, 693)])] [15] cu_61 20 con_61) = true := by decide +kernel
theorem cto_61 (l : Launch) : CTOK2 l RX10 vwCl gTbl ct_61 := ct2_nil
theorem vl_61 (l : Launch) : Vld2 l vwCl gTbl con_61 := conR_ok3 gT_all (hd_61) rfl pn_RX10 tk_X10_isAtWord bo_RX10 xo_RX10 (cto_61 l) ch_61 (cut_all cc_61)
/-- RookHusting$Reader takeWord -/
noncomputable def con_62 : Con2 := ((yX6_takeWord, cX6_takeWord, 2, none), (9, 222), ([(6, 0, 0), (13, 3, 0)], gi_32, hc_4, []), [((9, 0, 0), gi_33, hq_11, [], [1, 1, 1, 1, 1, 1, 1, 1, 1, 1])])
theorem hd_62 : con_62.1 = (yX6_takeWord, cX6_takeWord, 2, none) := rfl
theorem ck_RX6_48_61 : COK2 RX6 vwCl gTbl 48 0 con_61 := ⟨wd_617, wd_126, mh_X10_isAtWord, .inr (.inr ⟨rfl, wd_614, wd_615, wd_616, ⟨_, rfl, pd_X10_isAtWord⟩, 10, _, TX10, 6, rfl, rfl⟩)⟩
noncomputable def ct_62 : CTB2 := [(13, 48, 0, con_61, [1, 2]), (21, 70, 0, con_15, [0, 1]), (29, 102, 0, con_10, [1, 2])]
noncomputable def cu_62 : List CUT2 := []
theorem ch_62 : staG tb_X6_takeWord 1 bt_RX6 [] ct_62 [] [] cu_62 14 con_62 = true := by decide +kernel
theorem cto_62 (l : Launch) : CTOK2 l RX6 vwCl gTbl ct_62 := ct2_cons (vl_61 l) ck_RX6_48_61 (ct2_cons (vl_15 l) ck_RX6_70_15 (ct2_cons (vl_10 l) ck_RX6_102_10 (ct2_nil)))
theorem vl_62 (l : Launch) : Vld2 l vwCl gTbl con_62 := conR_ok3 gT_all (hd_62) rfl pn_RX6 tk_X6_takeWord bo_RX6 xo_RX6 (cto_62 l) ch_62 cut_nil
/-- RookHusting$Reader takeNamed -/
noncomputable def con_63 : Con2 := ((yX6_takeNamed, cX6_takeNamed, 4, (some .int)), (10, 243), ([(6, 0, 0), (13, 3, 0), (0, 0, 0), (0, 40, 0)], gi_36, hc_5, []), [((1, 14, 0), gi_55, hq_15, [], [1, 1, 1, 1, 1, 1, 1, 1, 1, 1, 1])])
theorem hd_63 : con_63.1 = (yX6_takeNamed, cX6_takeNamed, 4, (some .int)) := rfl
theorem ck_RX6_79_62 : COK2 RX6 vwCl gTbl 79 0 con_62 := ⟨wd_613, wd_127, mh_X6_takeWord, .inr (.inr ⟨rfl, wd_610, wd_612, wd_1, ⟨_, rfl, pd_X6_takeWord⟩, 6, _, TX6, 4, rfl, rfl⟩)⟩
noncomputable def ct_63 : CTB2 := [(2, 79, 0, con_62, [0, 1, 2]), (9, 116, 0, con_40, [0, 1, 2])]
noncomputable def cu_63 : List CUT2 := []
theorem ch_63 : staG tb_X6_takeNamed 1 bt_RX6 [] ct_63 [] [] cu_63 11 con_63 = true := by decide +kernel
theorem cto_63 (l : Launch) : CTOK2 l RX6 vwCl gTbl ct_63 := ct2_cons (vl_62 l) ck_RX6_79_62 (ct2_cons (vl_40 l) ck_RX6_116_40 (ct2_nil))
theorem vl_63 (l : Launch) : Vld2 l vwCl gTbl con_63 := conR_ok3 gT_all (hd_63) rfl pn_RX6 tk_X6_takeNamed bo_RX6 xo_RX6 (cto_63 l) ch_63 cut_nil
/-- RookHusting$Tape isAtWord -/
noncomputable def con_64 : Con2 := ((yX10_isAtWord, cX10_isAtWord, 3, (some .boolean)), (8, 200), ([(6, 0, 0), (13, 11, 0)], gi_26, [ac_25, .inr (0, [(700, (2, (-128), 127))])], []), [((0, 0, 0), gi_27, hq_9, [], [1]), ((0, 1, 0), gi_50, hq_9, [], [1])])
theorem hd_64 : con_64.1 = (yX10_isAtWord, cX10_isAtWord, 3, (some .boolean)) := rfl
noncomputable def ct_64 : CTB2 := []
noncomputable def cu_64 : List CUT2 := [((27, [(0, (6, 0, 0)), (1, (13, 11, 0)), (2, (1, 10, 0))], [], gi_51, hq_9), [], ([(10, (-1))], 5))]
theorem ch_64 : staG tb_X10_isAtWord 1 bt_RX10 [] ct_64 [(25, [(0, (2, 0, 3), 0, 695)])] [15] cu_64 20 con_64 = true := by decide +kernel
theorem cc_64 : cu_64.all (cutG tb_X10_isAtWord 1 bt_RX10 [] ct_64 [(25, [(0, (2, 0, 3), 0, 695)])] [15] cu_64 20 con_64) = true := by decide +kernel
theorem cto_64 (l : Launch) : CTOK2 l RX10 vwCl gTbl ct_64 := ct2_nil
theorem vl_64 (l : Launch) : Vld2 l vwCl gTbl con_64 := conR_ok3 gT_all (hd_64) rfl pn_RX10 tk_X10_isAtWord bo_RX10 xo_RX10 (cto_64 l) ch_64 (cut_all cc_64)
/-- RookHusting$Reader takeWord -/
noncomputable def con_65 : Con2 := ((yX6_takeWord, cX6_takeWord, 2, none), (9, 222), ([(6, 0, 0), (13, 11, 0)], gi_32, hc_4, []), [((9, 0, 0), gi_33, hq_11, [], [1, 1, 1, 1, 1, 1, 1, 1, 1, 1])])
theorem hd_65 : con_65.1 = (yX6_takeWord, cX6_takeWord, 2, none) := rfl
theorem ck_RX6_48_64 : COK2 RX6 vwCl gTbl 48 0 con_64 := ⟨wd_617, wd_126, mh_X10_isAtWord, .inr (.inr ⟨rfl, wd_614, wd_615, wd_616, ⟨_, rfl, pd_X10_isAtWord⟩, 10, _, TX10, 6, rfl, rfl⟩)⟩
noncomputable def ct_65 : CTB2 := [(13, 48, 0, con_64, [1, 2]), (21, 70, 0, con_15, [0, 1]), (29, 102, 0, con_10, [1, 2])]
noncomputable def cu_65 : List CUT2 := []
theorem ch_65 : staG tb_X6_takeWord 1 bt_RX6 [] ct_65 [] [] cu_65 14 con_65 = true := by decide +kernel
theorem cto_65 (l : Launch) : CTOK2 l RX6 vwCl gTbl ct_65 := ct2_cons (vl_64 l) ck_RX6_48_64 (ct2_cons (vl_15 l) ck_RX6_70_15 (ct2_cons (vl_10 l) ck_RX6_102_10 (ct2_nil)))
theorem vl_65 (l : Launch) : Vld2 l vwCl gTbl con_65 := conR_ok3 gT_all (hd_65) rfl pn_RX6 tk_X6_takeWord bo_RX6 xo_RX6 (cto_65 l) ch_65 cut_nil
/-- RookHusting$Reader takeNumber -/
noncomputable def gi_79 : GI := jl_n [jl_z 6, jl_m 0 700, jl_z 2, jl_i 0 700, jl_i 1 1, jl_i 0 700, jl_i 0 9, jl_i 0 700, jl_z 3, jl_i 0 4, jl_i 0 700, jl_m 2147483647 1000000, jl_i 0 700]
noncomputable def con_66 : Con2 := ((yX6_takeNumber, cX6_takeNumber, 5, (some .int)), (2, 40), ([(6, 0, 0), (0, 0, 0), (0, 9, 0), (0, 0, 0)], gi_36, hc_5, []), [((0, 0, 0), gi_37, hq_13, [], [1, 1, 1, 1, 1]), ((1, 12, 0), gi_79, hq_14, [], [1, 1, 1, 1, 1, 1, 1])])
theorem hd_66 : con_66.1 = (yX6_takeNumber, cX6_takeNumber, 5, (some .int)) := rfl
noncomputable def ct_66 : CTB2 := [(22, 70, 0, con_15, [0, 1]), (63, 70, 0, con_19, [0, 1]), (72, 102, 0, con_10, [1, 2])]
noncomputable def cu_66 : List CUT2 := []
theorem ch_66 : staG tb_X6_takeNumber 1 bt_RX6 [] ct_66 [(52, [(1, (1, 4, 0), 0, 0)])] [] cu_66 27 con_66 = true := by decide +kernel
theorem cto_66 (l : Launch) : CTOK2 l RX6 vwCl gTbl ct_66 := ct2_cons (vl_15 l) ck_RX6_70_15 (ct2_cons (vl_19 l) ck_RX6_70_19 (ct2_cons (vl_10 l) ck_RX6_102_10 (ct2_nil)))
theorem vl_66 (l : Launch) : Vld2 l vwCl gTbl con_66 := conR_ok3 gT_all (hd_66) rfl pn_RX6 tk_X6_takeNumber bo_RX6 xo_RX6 (cto_66 l) ch_66 cut_nil
/-- RookHusting$Reader takeNamed -/
noncomputable def gi_80 : GI := jl_n [jl_z 5, jl_i 0 3, jl_m 0 700, jl_z 2, jl_i 0 700, jl_i 0 4, jl_i 0 700, jl_m 2147483647 1000000, jl_i 0 700, jl_i 0 9, jl_z 1, jl_i 0 3, jl_m 0 700, jl_z 3, jl_i 0 4, jl_i 0 700, jl_m 2147483647 1000000, jl_i 0 700]
noncomputable def con_67 : Con2 := ((yX6_takeNamed, cX6_takeNamed, 4, (some .int)), (10, 243), ([(6, 0, 0), (13, 11, 0), (0, 0, 0), (0, 9, 0)], gi_36, hc_5, []), [((1, 14, 0), gi_80, hq_15, [], [1, 1, 1, 1, 1, 1, 1, 1, 1, 1, 1])])
theorem hd_67 : con_67.1 = (yX6_takeNamed, cX6_takeNamed, 4, (some .int)) := rfl
theorem ck_RX6_116_66 : COK2 RX6 vwCl gTbl 116 0 con_66 := ⟨wd_679, wd_127, mh_X6_takeNumber, .inr (.inr ⟨rfl, wd_676, wd_678, wd_4, ⟨_, rfl, pd_X6_takeNumber⟩, 6, _, TX6, 4, rfl, rfl⟩)⟩
theorem ck_RX6_79_65 : COK2 RX6 vwCl gTbl 79 0 con_65 := ⟨wd_613, wd_127, mh_X6_takeWord, .inr (.inr ⟨rfl, wd_610, wd_612, wd_1, ⟨_, rfl, pd_X6_takeWord⟩, 6, _, TX6, 4, rfl, rfl⟩)⟩
noncomputable def ct_67 : CTB2 := [(2, 79, 0, con_65, [0, 1, 2]), (9, 116, 0, con_66, [0, 1, 2])]
noncomputable def cu_67 : List CUT2 := []
theorem ch_67 : staG tb_X6_takeNamed 1 bt_RX6 [] ct_67 [] [] cu_67 11 con_67 = true := by decide +kernel
theorem cto_67 (l : Launch) : CTOK2 l RX6 vwCl gTbl ct_67 := ct2_cons (vl_65 l) ck_RX6_79_65 (ct2_cons (vl_66 l) ck_RX6_116_66 (ct2_nil))
theorem vl_67 (l : Launch) : Vld2 l vwCl gTbl con_67 := conR_ok3 gT_all (hd_67) rfl pn_RX6 tk_X6_takeNamed bo_RX6 xo_RX6 (cto_67 l) ch_67 cut_nil
/-- RookHusting$Hundred addMan -/
noncomputable def gi_81 : GI := jl_n [jl_z 1, jl_i 0 40, jl_i 0 9, jl_z 6, jl_i 0 4, jl_z 10]
noncomputable def ac_46 : AC := .inl (4, jl_n [jl_8 9 6, jl_1 10 1, jl_8 14 4, jl_6 3 2, jl_8 20 4])
noncomputable def hc_11 : List AC := [ac_46, .inr (1, [(5, (2, 0, 40))]), .inr (1, [(5, (2, 0, 9))])]
noncomputable def gi_82 : GI := jl_n [jl_z 1, jl_i 0 40, jl_i 0 9, jl_z 6, jl_i 0 4, jl_z 27]
noncomputable def ac_47 : AC := .inl (4, jl_n [jl_8 9 6, jl_x (1, 9, 1), jl_8 14 4, jl_6 3 2, jl_8 20 4])
noncomputable def hq_23 : HP := [(true, ac_47), (true, .inr (1, [(5, (2, 0, 40))])), (true, .inr (1, [(5, (2, 0, 9))]))]
noncomputable def con_68 : Con2 := ((yX4_addMan, cX4_addMan, 3, none), (0, 0), ([(6, 0, 0), (1, 1, 0), (1, 2, 0)], gi_81, hc_11, []), [((9, 0, 0), gi_82, hq_23, [], [1, 1, 1, 1, 1, 1, 1, 1, 1, 1, 1, 1, 1, 1, 1, 1, 1])])
theorem hd_68 : con_68.1 = (yX4_addMan, cX4_addMan, 3, none) := rfl
noncomputable def ct_68 : CTB2 := []
noncomputable def cu_68 : List CUT2 := []
theorem ch_68 : staG tb_X4_addMan 1 bt_RX4 [] ct_68 [] [] cu_68 21 con_68 = true := by decide +kernel
theorem cto_68 (l : Launch) : CTOK2 l RX4 vwCl gTbl ct_68 := ct2_nil
theorem vl_68 (l : Launch) : Vld2 l vwCl gTbl con_68 := conR_ok3 gT_all (hd_68) rfl pn_RX4 tk_X4_addMan bo_RX4 xo_RX4 (cto_68 l) ch_68 cut_nil
/-- RookHusting$Reader readMan -/
noncomputable def gi_83 : GI := jl_n [jl_z 2, jl_i 0 3, jl_m 0 700, jl_z 7, jl_i 0 5, jl_i 0 7, jl_z 10, jl_i 0 700, jl_i 0 4, jl_i 0 700, jl_m 2147483647 1000000, jl_i 0 700]
noncomputable def ac_48 : AC := .inl (4, jl_n [jl_8 11 6, jl_1 13 2, jl_8 16 3, jl_6 6 2, jl_8 22 4])
noncomputable def hc_12 : List AC := [.inl (6, [(6, 1, 0), (1, 2, 0), (1, 3, 0), (6, 2, 0)]), ac_48, ac_21, .inr (0, [(700, (2, (-128), 127))]), .inr (1, [(5, (2, 0, 40))]), .inr (1, [(5, (2, 0, 9))])]
noncomputable def gi_84 : GI := jl_n [jl_z 2, jl_i 0 3, jl_m 0 700, jl_z 7, jl_i 0 5, jl_i 0 7, jl_z 10, jl_i 0 700, jl_i 0 4, jl_i 0 700, jl_m 2147483647 1000000, jl_i 0 700, jl_z 1, jl_i 0 3, jl_m 0 700, jl_z 7, jl_i 0 5, jl_i 0 7, jl_z 11, jl_i 0 4, jl_i 0 700, jl_m 2147483647 1000000, jl_i 0 700]
noncomputable def ac_49 : AC := .inl (4, jl_n [jl_8 11 6, jl_1 40 2, jl_8 16 3, jl_6 6 2, jl_8 22 4])
noncomputable def hq_24 : HP := [(true, .inl (6, [(6, 1, 0), (1, 29, 0), (1, 30, 0), (6, 2, 0)])), (true, ac_49), (true, ac_23), (false, .inr (0, [(700, (2, (-128), 127))])), (true, .inr (1, [(5, (2, 0, 40))])), (true, .inr (1, [(5, (2, 0, 9))]))]
noncomputable def con_69 : Con2 := ((yX6_readMan, cX6_readMan, 3, none), (11, 266), ([(6, 0, 0)], gi_83, hc_12, []), [((9, 0, 0), gi_84, hq_24, [], [1, 1, 1, 1, 1, 1, 1, 1, 1, 1, 1, 1, 1, 1, 1, 1, 1, 1, 1, 1, 1, 1, 1, 1, 1, 1, 1])])
theorem hd_69 : con_69.1 = (yX6_readMan, cX6_readMan, 3, none) := rfl
theorem ck_RX6_133_68 : COK2 RX6 vwCl gTbl 133 0 con_68 := ⟨wd_715, wd_128, mh_X4_addMan, .inr (.inr ⟨rfl, wd_712, wd_713, wd_714, ⟨_, rfl, pd_X4_addMan⟩, 4, _, TX4, 17, rfl, rfl⟩)⟩
theorem ck_RX6_85_67 : COK2 RX6 vwCl gTbl 85 0 con_67 := ⟨wd_675, wd_127, mh_X6_takeNamed, .inr (.inr ⟨rfl, wd_672, wd_674, wd_3, ⟨_, rfl, pd_X6_takeNamed⟩, 6, _, TX6, 4, rfl, rfl⟩)⟩
theorem ck_RX6_85_63 : COK2 RX6 vwCl gTbl 85 0 con_63 := ⟨wd_675, wd_127, mh_X6_takeNamed, .inr (.inr ⟨rfl, wd_672, wd_674, wd_3, ⟨_, rfl, pd_X6_takeNamed⟩, 6, _, TX6, 4, rfl, rfl⟩)⟩
noncomputable def ct_69 : CTB2 := [(12, 70, 0, con_15, [0, 2]), (29, 70, 0, con_33, [0, 2]), (37, 102, 0, con_10, [2, 3]), (46, 85, 0, con_63, [0, 2, 3]), (56, 85, 0, con_67, [0, 2, 3]), (73, 133, 0, con_68, [1, 4, 5])]
noncomputable def cu_69 : List CUT2 := []
theorem ch_69 : staG tb_X6_readMan 1 bt_RX6 [] ct_69 [] [] cu_69 35 con_69 = true := by decide +kernel
theorem cto_69 (l : Launch) : CTOK2 l RX6 vwCl gTbl ct_69 := ct2_cons (vl_15 l) ck_RX6_70_15 (ct2_cons (vl_33 l) ck_RX6_70_33 (ct2_cons (vl_10 l) ck_RX6_102_10 (ct2_cons (vl_63 l) ck_RX6_85_63 (ct2_cons (vl_67 l) ck_RX6_85_67 (ct2_cons (vl_68 l) ck_RX6_133_68 (ct2_nil))))))
theorem vl_69 (l : Launch) : Vld2 l vwCl gTbl con_69 := conR_ok3 gT_all (hd_69) rfl pn_RX6 tk_X6_readMan bo_RX6 xo_RX6 (cto_69 l) ch_69 cut_nil
/-- RookHusting$Tape isAtWord -/
noncomputable def con_70 : Con2 := ((yX10_isAtWord, cX10_isAtWord, 3, (some .boolean)), (8, 200), ([(6, 0, 0), (13, 12, 0)], gi_26, [ac_25, .inr (0, [(700, (2, (-128), 127))])], []), [((0, 0, 0), gi_27, hq_9, [], [1]), ((0, 1, 0), gi_50, hq_9, [], [1])])
theorem hd_70 : con_70.1 = (yX10_isAtWord, cX10_isAtWord, 3, (some .boolean)) := rfl
noncomputable def ct_70 : CTB2 := []
noncomputable def cu_70 : List CUT2 := [((27, [(0, (6, 0, 0)), (1, (13, 12, 0)), (2, (1, 10, 0))], [], gi_51, hq_9), [], ([(10, (-1))], 5))]
theorem ch_70 : staG tb_X10_isAtWord 1 bt_RX10 [] ct_70 [(25, [(0, (2, 0, 3), 0, 695)])] [15] cu_70 20 con_70 = true := by decide +kernel
theorem cc_70 : cu_70.all (cutG tb_X10_isAtWord 1 bt_RX10 [] ct_70 [(25, [(0, (2, 0, 3), 0, 695)])] [15] cu_70 20 con_70) = true := by decide +kernel
theorem cto_70 (l : Launch) : CTOK2 l RX10 vwCl gTbl ct_70 := ct2_nil
theorem vl_70 (l : Launch) : Vld2 l vwCl gTbl con_70 := conR_ok3 gT_all (hd_70) rfl pn_RX10 tk_X10_isAtWord bo_RX10 xo_RX10 (cto_70 l) ch_70 (cut_all cc_70)
/-- RookHusting$Reader readVoter -/
noncomputable def gi_85 : GI := jl_n [jl_z 2, jl_i 0 3, jl_m 0 700, jl_z 7, jl_i 0 5, jl_z 11, jl_i 0 700, jl_i 0 4, jl_i 0 700, jl_m 2147483647 1000000, jl_i 0 700]
noncomputable def ac_50 : AC := .inl (4, jl_n [jl_8 11 6, jl_1 12 1, jl_c 7, jl_8 18 5, jl_6 6 2, jl_6 8 1, jl_6 7 1])
noncomputable def hc_13 : List AC := [.inl (6, [(6, 1, 0), (1, 2, 0), (1, 3, 0), (6, 2, 0)]), ac_50, ac_21, .inr (0, [(700, (2, (-128), 127))]), .inr (1, [(7, (2, 0, 9))]), .inr (1, [(7, (2, 0, 5))]), .inr (1, [(35, (2, (-2147483648), 2147483647))]), .inr (1, [(35, (2, 0, 4))])]
noncomputable def gi_86 : GI := jl_n [jl_z 2, jl_i 0 3, jl_m 0 700, jl_z 7, jl_i 0 5, jl_z 11, jl_i 0 700, jl_i 0 4, jl_i 0 700, jl_m 2147483647 1000000, jl_i 0 700, jl_z 4]
noncomputable def hq_25 : HP := [(true, .inl (6, [(6, 1, 0), (0, 3, 0), (1, 25, 0), (6, 2, 0)])), (false, ac_50), (false, ac_21), (false, .inr (0, [(700, (2, (-128), 127))])), (false, .inr (1, [(7, (2, 0, 9))])), (false, .inr (1, [(7, (2, 0, 5))])), (false, .inr (1, [(35, (2, (-2147483648), 2147483647))])), (false, .inr (1, [(35, (2, 0, 4))]))]
noncomputable def con_71 : Con2 := ((yX6_readVoter, cX6_readVoter, 5, none), (1, 21), ([(6, 0, 0)], gi_85, hc_13, []), [((9, 0, 0), gi_86, hq_25, [], [1, 1, 1, 1])])
theorem hd_71 : con_71.1 = (yX6_readVoter, cX6_readVoter, 5, none) := rfl
noncomputable def ct_71 : CTB2 := [(14, 70, 0, con_33, [0, 2])]
noncomputable def cu_71 : List CUT2 := []
theorem ch_71 : staG tb_X6_readVoter 1 bt_RX6 [] ct_71 [(110, [(1, (1, 4, 0), 0, 0)])] [] cu_71 11 con_71 = true := by decide +kernel
theorem cto_71 (l : Launch) : CTOK2 l RX6 vwCl gTbl ct_71 := ct2_cons (vl_33 l) ck_RX6_70_33 (ct2_nil)
theorem vl_71 (l : Launch) : Vld2 l vwCl gTbl con_71 := conR_ok3 gT_all (hd_71) rfl pn_RX6 tk_X6_readVoter bo_RX6 xo_RX6 (cto_71 l) ch_71 cut_nil
/-- RookHusting$Tape isAtWord -/
noncomputable def con_72 : Con2 := ((yX10_isAtWord, cX10_isAtWord, 3, (some .boolean)), (8, 200), ([(6, 0, 0), (13, 4, 0)], gi_26, [ac_25, .inr (0, [(700, (2, (-128), 127))])], []), [((0, 0, 0), gi_27, hq_9, [], [1]), ((0, 1, 0), gi_34, hq_9, [], [1])])
theorem hd_72 : con_72.1 = (yX10_isAtWord, cX10_isAtWord, 3, (some .boolean)) := rfl
noncomputable def ct_72 : CTB2 := []
noncomputable def cu_72 : List CUT2 := [((27, [(0, (6, 0, 0)), (1, (13, 4, 0)), (2, (1, 10, 0))], [], gi_35, hq_9), [], ([(10, (-1))], 4))]
theorem ch_72 : staG tb_X10_isAtWord 1 bt_RX10 [] ct_72 [(25, [(0, (2, 0, 3), 0, 696)])] [15] cu_72 20 con_72 = true := by decide +kernel
theorem cc_72 : cu_72.all (cutG tb_X10_isAtWord 1 bt_RX10 [] ct_72 [(25, [(0, (2, 0, 3), 0, 696)])] [15] cu_72 20 con_72) = true := by decide +kernel
theorem cto_72 (l : Launch) : CTOK2 l RX10 vwCl gTbl ct_72 := ct2_nil
theorem vl_72 (l : Launch) : Vld2 l vwCl gTbl con_72 := conR_ok3 gT_all (hd_72) rfl pn_RX10 tk_X10_isAtWord bo_RX10 xo_RX10 (cto_72 l) ch_72 (cut_all cc_72)
/-- RookHusting$Reader takeWord -/
noncomputable def con_73 : Con2 := ((yX6_takeWord, cX6_takeWord, 2, none), (9, 222), ([(6, 0, 0), (13, 4, 0)], gi_32, hc_4, []), [((9, 0, 0), gi_33, hq_11, [], [1, 1, 1, 1, 1, 1, 1, 1, 1, 1])])
theorem hd_73 : con_73.1 = (yX6_takeWord, cX6_takeWord, 2, none) := rfl
theorem ck_RX6_48_72 : COK2 RX6 vwCl gTbl 48 0 con_72 := ⟨wd_617, wd_126, mh_X10_isAtWord, .inr (.inr ⟨rfl, wd_614, wd_615, wd_616, ⟨_, rfl, pd_X10_isAtWord⟩, 10, _, TX10, 6, rfl, rfl⟩)⟩
noncomputable def ct_73 : CTB2 := [(13, 48, 0, con_72, [1, 2]), (21, 70, 0, con_15, [0, 1]), (29, 102, 0, con_10, [1, 2])]
noncomputable def cu_73 : List CUT2 := []
theorem ch_73 : staG tb_X6_takeWord 1 bt_RX6 [] ct_73 [] [] cu_73 14 con_73 = true := by decide +kernel
theorem cto_73 (l : Launch) : CTOK2 l RX6 vwCl gTbl ct_73 := ct2_cons (vl_72 l) ck_RX6_48_72 (ct2_cons (vl_15 l) ck_RX6_70_15 (ct2_cons (vl_10 l) ck_RX6_102_10 (ct2_nil)))
theorem vl_73 (l : Launch) : Vld2 l vwCl gTbl con_73 := conR_ok3 gT_all (hd_73) rfl pn_RX6 tk_X6_takeWord bo_RX6 xo_RX6 (cto_73 l) ch_73 cut_nil
/-- RookHusting$Reader takeNumber -/
noncomputable def gi_87 : GI := jl_n [jl_z 6, jl_m 0 700, jl_z 2, jl_i 0 700, jl_i 1 1, jl_i 0 700, jl_i 1 9, jl_i 0 700, jl_z 3, jl_i 0 4, jl_i 0 700, jl_m 2147483647 1000000, jl_i 0 700]
noncomputable def con_74 : Con2 := ((yX6_takeNumber, cX6_takeNumber, 5, (some .int)), (2, 40), ([(6, 0, 0), (0, 1, 0), (0, 9, 0), (0, 0, 0)], gi_36, hc_5, []), [((0, 0, 0), gi_37, hq_13, [], [1, 1, 1, 1, 1]), ((1, 12, 0), gi_87, hq_14, [], [1, 1, 1, 1, 1, 1, 1])])
theorem hd_74 : con_74.1 = (yX6_takeNumber, cX6_takeNumber, 5, (some .int)) := rfl
noncomputable def ct_74 : CTB2 := [(22, 70, 0, con_15, [0, 1]), (63, 70, 0, con_19, [0, 1]), (72, 102, 0, con_10, [1, 2])]
noncomputable def cu_74 : List CUT2 := []
theorem ch_74 : staG tb_X6_takeNumber 1 bt_RX6 [] ct_74 [(52, [(1, (1, 4, 0), 0, 0)])] [] cu_74 27 con_74 = true := by decide +kernel
theorem cto_74 (l : Launch) : CTOK2 l RX6 vwCl gTbl ct_74 := ct2_cons (vl_15 l) ck_RX6_70_15 (ct2_cons (vl_19 l) ck_RX6_70_19 (ct2_cons (vl_10 l) ck_RX6_102_10 (ct2_nil)))
theorem vl_74 (l : Launch) : Vld2 l vwCl gTbl con_74 := conR_ok3 gT_all (hd_74) rfl pn_RX6 tk_X6_takeNumber bo_RX6 xo_RX6 (cto_74 l) ch_74 cut_nil
/-- RookHusting$Reader takeNamed -/
noncomputable def con_75 : Con2 := ((yX6_takeNamed, cX6_takeNamed, 4, (some .int)), (10, 243), ([(6, 0, 0), (13, 4, 0), (0, 1, 0), (0, 9, 0)], gi_36, hc_5, []), [((1, 14, 0), gi_80, hq_15, [], [1, 1, 1, 1, 1, 1, 1, 1, 1, 1, 1])])
theorem hd_75 : con_75.1 = (yX6_takeNamed, cX6_takeNamed, 4, (some .int)) := rfl
theorem ck_RX6_116_74 : COK2 RX6 vwCl gTbl 116 0 con_74 := ⟨wd_679, wd_127, mh_X6_takeNumber, .inr (.inr ⟨rfl, wd_676, wd_678, wd_4, ⟨_, rfl, pd_X6_takeNumber⟩, 6, _, TX6, 4, rfl, rfl⟩)⟩
theorem ck_RX6_79_73 : COK2 RX6 vwCl gTbl 79 0 con_73 := ⟨wd_613, wd_127, mh_X6_takeWord, .inr (.inr ⟨rfl, wd_610, wd_612, wd_1, ⟨_, rfl, pd_X6_takeWord⟩, 6, _, TX6, 4, rfl, rfl⟩)⟩
noncomputable def ct_75 : CTB2 := [(2, 79, 0, con_73, [0, 1, 2]), (9, 116, 0, con_74, [0, 1, 2])]
noncomputable def cu_75 : List CUT2 := []
theorem ch_75 : staG tb_X6_takeNamed 1 bt_RX6 [] ct_75 [] [] cu_75 11 con_75 = true := by decide +kernel
theorem cto_75 (l : Launch) : CTOK2 l RX6 vwCl gTbl ct_75 := ct2_cons (vl_73 l) ck_RX6_79_73 (ct2_cons (vl_74 l) ck_RX6_116_74 (ct2_nil))
theorem vl_75 (l : Launch) : Vld2 l vwCl gTbl con_75 := conR_ok3 gT_all (hd_75) rfl pn_RX6 tk_X6_takeNamed bo_RX6 xo_RX6 (cto_75 l) ch_75 cut_nil
/-- RookHusting$Hundred addVoter -/
noncomputable def gi_88 : GI := jl_n [jl_z 1, jl_i 0 9, jl_z 17]
noncomputable def ac_51 : AC := .inl (4, jl_n [jl_8 9 7, jl_c 6, jl_8 15 5, jl_6 3 2, jl_8 18 1, jl_6 4 1])
noncomputable def hc_14 : List AC := [ac_51, .inr (1, [(7, (2, 0, 9))]), .inr (1, [(7, (2, 0, 5))]), .inr (1, [(35, (2, (-2147483648), 2147483647))])]
noncomputable def gi_89 : GI := jl_n [jl_z 1, jl_i 0 9, jl_z 35]
noncomputable def ac_52 : AC := .inl (4, jl_n [jl_8 9 7, jl_c 7, jl_8 15 5, jl_6 3 2, jl_8 18 1, jl_6 4 1])
noncomputable def ac_53 : AC := .inr (1, jl_n [js_m 30 2147483647 2147483647, jl_x (5, (0, (-1), 0))])
noncomputable def hq_26 : HP := [(true, ac_52), (true, .inr (1, [(7, (2, 0, 9))])), (true, .inr (1, [(6, (2, 0, 5)), (1, (0, 0, 0))])), (true, ac_53)]
noncomputable def con_76 : Con2 := ((yX4_addVoter, cX4_addVoter, 3, none), (0, 0), ([(6, 0, 0), (1, 1, 0)], gi_88, hc_14, []), [((9, 0, 0), gi_89, hq_26, [], [1, 1, 1, 1, 1, 1, 1, 1, 1, 1, 1, 1, 1, 1, 1, 1, 1, 1])])
theorem hd_76 : con_76.1 = (yX4_addVoter, cX4_addVoter, 3, none) := rfl
noncomputable def ct_76 : CTB2 := []
noncomputable def cu_76 : List CUT2 := []
theorem ch_76 : staG tb_X4_addVoter 1 bt_RX4 [] ct_76 [] [] cu_76 101 con_76 = true := by decide +kernel
theorem cto_76 (l : Launch) : CTOK2 l RX4 vwCl gTbl ct_76 := ct2_nil
theorem vl_76 (l : Launch) : Vld2 l vwCl gTbl con_76 := conR_ok3 gT_all (hd_76) rfl pn_RX4 tk_X4_addVoter bo_RX4 xo_RX4 (cto_76 l) ch_76 cut_nil
/-- RookHusting$Hundred addWant -/
noncomputable def gi_90 : GI := jl_n [jl_z 1, jl_i 0 4, jl_z 18]
noncomputable def ac_54 : AC := .inl (4, jl_n [jl_8 9 7, jl_c 7, jl_8 16 6, jl_6 4 3])
noncomputable def hc_15 : List AC := [ac_54, .inr (1, [(6, (2, 0, 5)), (1, (0, 0, 0))]), .inr (1, [(35, (2, 0, 4))]), .inr (1, [(35, (2, (-2147483648), 2147483647))])]
noncomputable def gi_91 : GI := jl_n [jl_z 1, jl_i 0 4, jl_z 19]
noncomputable def hq_27 : HP := [(false, ac_54), (true, .inr (1, [(6, (2, 0, 5)), (1, (0, 1, 0))])), (true, .inr (1, [(35, (2, 0, 4))])), (true, .inr (1, [(35, (2, (-2147483648), 2147483647))]))]
noncomputable def con_77 : Con2 := ((yX4_addWant, cX4_addWant, 6, none), (0, 0), ([(6, 0, 0), (1, 1, 0)], gi_90, hc_15, []), [((9, 0, 0), gi_91, hq_27, [], [1])])
theorem hd_77 : con_77.1 = (yX4_addWant, cX4_addWant, 6, none) := rfl
noncomputable def ct_77 : CTB2 := []
noncomputable def cu_77 : List CUT2 := []
theorem ch_77 : staG tb_X4_addWant 1 bt_RX4 [] ct_77 [] [] cu_77 45 con_77 = true := by decide +kernel
theorem cto_77 (l : Launch) : CTOK2 l RX4 vwCl gTbl ct_77 := ct2_nil
theorem vl_77 (l : Launch) : Vld2 l vwCl gTbl con_77 := conR_ok3 gT_all (hd_77) rfl pn_RX4 tk_X4_addWant bo_RX4 xo_RX4 (cto_77 l) ch_77 cut_nil
/-- RookHusting hasBit -/
noncomputable def con_78 : Con2 := ((yX11_hasBit, cX11_hasBit, 2, (some .boolean)), (0, 0), ([(0, 16, 0), (0, 4, 0)], [(0, 0), (0, 0)], [], []), [((0, 1, 0), [(0, 0), (0, 0), (0, 0)], [], [], [1])])
theorem hd_78 : con_78.1 = (yX11_hasBit, cX11_hasBit, 2, (some .boolean)) := rfl
noncomputable def ct_78 : CTB2 := []
noncomputable def cu_78 : List CUT2 := []
theorem ch_78 : staG tb_X11_hasBit 1 bt_RX11 [] ct_78 [] [] cu_78 12 con_78 = true := by decide +kernel
theorem cto_78 (l : Launch) : CTOK2 l RX11 vwCl gTbl ct_78 := ct2_nil
theorem vl_78 (l : Launch) : Vld2 l vwCl gTbl con_78 := conR_ok3 gT_all (hd_78) rfl pn_RX11 tk_X11_hasBit bo_RX11 xo_RX11 (cto_78 l) ch_78 cut_nil
/-- RookHusting hasBit -/
noncomputable def con_79 : Con2 := ((yX11_hasBit, cX11_hasBit, 2, (some .boolean)), (0, 0), ([(0, 16, 0), (0, 3, 0)], [(0, 0), (0, 0)], [], []), [((0, 0, 0), [(0, 0), (0, 0), (0, 0)], [], [], [1])])
theorem hd_79 : con_79.1 = (yX11_hasBit, cX11_hasBit, 2, (some .boolean)) := rfl
noncomputable def ct_79 : CTB2 := []
noncomputable def cu_79 : List CUT2 := []
theorem ch_79 : staG tb_X11_hasBit 1 bt_RX11 [] ct_79 [] [] cu_79 11 con_79 = true := by decide +kernel
theorem cto_79 (l : Launch) : CTOK2 l RX11 vwCl gTbl ct_79 := ct2_nil
theorem vl_79 (l : Launch) : Vld2 l vwCl gTbl con_79 := conR_ok3 gT_all (hd_79) rfl pn_RX11 tk_X11_hasBit bo_RX11 xo_RX11 (cto_79 l) ch_79 cut_nil
/-- RookHusting hasBit -/
noncomputable def con_80 : Con2 := ((yX11_hasBit, cX11_hasBit, 2, (some .boolean)), (0, 0), ([(0, 16, 0), (0, 2, 0)], [(0, 0), (0, 0)], [], []), [((0, 0, 0), [(0, 0), (0, 0), (0, 0)], [], [], [1])])
theorem hd_80 : con_80.1 = (yX11_hasBit, cX11_hasBit, 2, (some .boolean)) := rfl
noncomputable def ct_80 : CTB2 := []
noncomputable def cu_80 : List CUT2 := []
theorem ch_80 : staG tb_X11_hasBit 1 bt_RX11 [] ct_80 [] [] cu_80 11 con_80 = true := by decide +kernel
theorem cto_80 (l : Launch) : CTOK2 l RX11 vwCl gTbl ct_80 := ct2_nil
theorem vl_80 (l : Launch) : Vld2 l vwCl gTbl con_80 := conR_ok3 gT_all (hd_80) rfl pn_RX11 tk_X11_hasBit bo_RX11 xo_RX11 (cto_80 l) ch_80 cut_nil
/-- RookHusting hasBit -/
noncomputable def con_81 : Con2 := ((yX11_hasBit, cX11_hasBit, 2, (some .boolean)), (0, 0), ([(0, 16, 0), (0, 1, 0)], [(0, 0), (0, 0)], [], []), [((0, 0, 0), [(0, 0), (0, 0), (0, 0)], [], [], [1])])
theorem hd_81 : con_81.1 = (yX11_hasBit, cX11_hasBit, 2, (some .boolean)) := rfl
noncomputable def ct_81 : CTB2 := []
noncomputable def cu_81 : List CUT2 := []
theorem ch_81 : staG tb_X11_hasBit 1 bt_RX11 [] ct_81 [] [] cu_81 11 con_81 = true := by decide +kernel
theorem cto_81 (l : Launch) : CTOK2 l RX11 vwCl gTbl ct_81 := ct2_nil
theorem vl_81 (l : Launch) : Vld2 l vwCl gTbl con_81 := conR_ok3 gT_all (hd_81) rfl pn_RX11 tk_X11_hasBit bo_RX11 xo_RX11 (cto_81 l) ch_81 cut_nil
/-- RookHusting hasBit -/
noncomputable def con_82 : Con2 := ((yX11_hasBit, cX11_hasBit, 2, (some .boolean)), (0, 0), ([(0, 16, 0), (0, 0, 0)], [(0, 0), (0, 0)], [], []), [((0, 0, 0), [(0, 0), (0, 0), (0, 0)], [], [], [1])])
theorem hd_82 : con_82.1 = (yX11_hasBit, cX11_hasBit, 2, (some .boolean)) := rfl
noncomputable def ct_82 : CTB2 := []
noncomputable def cu_82 : List CUT2 := []
theorem ch_82 : staG tb_X11_hasBit 1 bt_RX11 [] ct_82 [] [] cu_82 11 con_82 = true := by decide +kernel
theorem cto_82 (l : Launch) : CTOK2 l RX11 vwCl gTbl ct_82 := ct2_nil
theorem vl_82 (l : Launch) : Vld2 l vwCl gTbl con_82 := conR_ok3 gT_all (hd_82) rfl pn_RX11 tk_X11_hasBit bo_RX11 xo_RX11 (cto_82 l) ch_82 cut_nil
/-- RookHusting$Reader takeNumber -/
noncomputable def gi_92 : GI := jl_n [jl_z 2, jl_i 0 4, jl_z 2, jl_i 0 3, jl_m 0 700, jl_z 2, jl_i 0 700, jl_i 0 4, jl_i 0 700, jl_m 2147483647 1000000, jl_i 0 700]
noncomputable def gi_93 : GI := jl_n [jl_z 2, jl_i 0 4, jl_z 2, jl_i 0 3, jl_m 0 700, jl_z 2, jl_i 0 700, jl_i 0 4, jl_i 0 700, jl_m 2147483647 1000000, jl_i 0 700, jl_z 2, jl_i 1 3, jl_m 0 700, jl_z 1]
noncomputable def gi_94 : GI := jl_n [jl_z 2, jl_i 0 4, jl_z 3, jl_m 0 700, jl_z 2, jl_i 0 700, jl_i 1 1, jl_i 0 700, jl_z 1, jl_i 0 700, jl_z 3, jl_i 0 4, jl_i 0 700, jl_m 2147483647 1000000, jl_i 0 700]
noncomputable def con_83 : Con2 := ((yX6_takeNumber, cX6_takeNumber, 5, (some .int)), (2, 40), ([(6, 0, 0), (0, 0, 0), (1, 2, 0), (0, 16, 0)], gi_92, hc_5, []), [((0, 0, 0), gi_93, hq_13, [], [1, 1, 1, 1, 1]), ((0, 0, 0), gi_94, hq_14, [], [1, 1, 1, 1, 1, 1, 1]), ((0, 1, 0), gi_73, hq_14, [], [1, 1, 1, 1, 1, 1, 1]), ((0, 2, 0), gi_74, hq_14, [], [1, 1, 1, 1, 1, 1, 1]), ((0, 3, 0), gi_75, hq_14, [], [1, 1, 1, 1, 1, 1, 1])])
theorem hd_83 : con_83.1 = (yX6_takeNumber, cX6_takeNumber, 5, (some .int)) := rfl
theorem ck_RX6_147_78 : COK2 RX6 vwCl gTbl 147 2 con_78 := ⟨wd_682, wd_125, mh_X11_hasBit, .inr (.inl ⟨rfl, by decide +kernel, wd_681, pd_X11_hasBit⟩)⟩
theorem ck_RX6_147_79 : COK2 RX6 vwCl gTbl 147 2 con_79 := ⟨wd_682, wd_125, mh_X11_hasBit, .inr (.inl ⟨rfl, by decide +kernel, wd_681, pd_X11_hasBit⟩)⟩
theorem ck_RX6_147_80 : COK2 RX6 vwCl gTbl 147 2 con_80 := ⟨wd_682, wd_125, mh_X11_hasBit, .inr (.inl ⟨rfl, by decide +kernel, wd_681, pd_X11_hasBit⟩)⟩
theorem ck_RX6_147_81 : COK2 RX6 vwCl gTbl 147 2 con_81 := ⟨wd_682, wd_125, mh_X11_hasBit, .inr (.inl ⟨rfl, by decide +kernel, wd_681, pd_X11_hasBit⟩)⟩
theorem ck_RX6_147_82 : COK2 RX6 vwCl gTbl 147 2 con_82 := ⟨wd_682, wd_125, mh_X11_hasBit, .inr (.inl ⟨rfl, by decide +kernel, wd_681, pd_X11_hasBit⟩)⟩
noncomputable def ct_83 : CTB2 := [(22, 70, 0, con_15, [0, 1]), (55, 147, 2, con_82, []), (55, 147, 2, con_81, []), (55, 147, 2, con_80, []), (55, 147, 2, con_79, []), (55, 147, 2, con_78, []), (63, 70, 0, con_19, [0, 1]), (72, 102, 0, con_10, [1, 2])]
noncomputable def cu_83 : List CUT2 := []
theorem ch_83 : staG tb_X6_takeNumber 1 bt_RX6 [] ct_83 [(52, [(1, (1, 4, 0), 0, 0)])] [] cu_83 31 con_83 = true := by decide +kernel
theorem cto_83 (l : Launch) : CTOK2 l RX6 vwCl gTbl ct_83 := ct2_cons (vl_15 l) ck_RX6_70_15 (ct2_cons (vl_82 l) ck_RX6_147_82 (ct2_cons (vl_81 l) ck_RX6_147_81 (ct2_cons (vl_80 l) ck_RX6_147_80 (ct2_cons (vl_79 l) ck_RX6_147_79 (ct2_cons (vl_78 l) ck_RX6_147_78 (ct2_cons (vl_19 l) ck_RX6_70_19 (ct2_cons (vl_10 l) ck_RX6_102_10 (ct2_nil))))))))
theorem vl_83 (l : Launch) : Vld2 l vwCl gTbl con_83 := conR_ok3 gT_all (hd_83) rfl pn_RX6 tk_X6_takeNumber bo_RX6 xo_RX6 (cto_83 l) ch_83 cut_nil
/-- RookHusting$Hundred addWant -/
noncomputable def hc_16 : List AC := [ac_54, .inr (1, [(6, (2, 0, 5)), (1, (0, 1, 0))]), .inr (1, [(35, (2, 0, 4))]), .inr (1, [(35, (2, (-2147483648), 2147483647))])]
noncomputable def hq_28 : HP := [(false, ac_54), (true, .inr (1, [(6, (2, 0, 5)), (1, (0, 2, 0))])), (true, .inr (1, [(35, (2, 0, 4))])), (true, .inr (1, [(35, (2, (-2147483648), 2147483647))]))]
noncomputable def con_84 : Con2 := ((yX4_addWant, cX4_addWant, 6, none), (0, 0), ([(6, 0, 0), (1, 1, 0)], gi_90, hc_16, []), [((9, 0, 0), gi_91, hq_28, [], [1])])
theorem hd_84 : con_84.1 = (yX4_addWant, cX4_addWant, 6, none) := rfl
noncomputable def ct_84 : CTB2 := []
noncomputable def cu_84 : List CUT2 := []
theorem ch_84 : staG tb_X4_addWant 1 bt_RX4 [] ct_84 [] [] cu_84 63 con_84 = true := by decide +kernel
theorem cto_84 (l : Launch) : CTOK2 l RX4 vwCl gTbl ct_84 := ct2_nil
theorem vl_84 (l : Launch) : Vld2 l vwCl gTbl con_84 := conR_ok3 gT_all (hd_84) rfl pn_RX4 tk_X4_addWant bo_RX4 xo_RX4 (cto_84 l) ch_84 cut_nil
/-- RookHusting hasBit -/
noncomputable def con_85 : Con2 := ((yX11_hasBit, cX11_hasBit, 2, (some .boolean)), (0, 0), ([(0, 8, 0), (0, 4, 0)], [(0, 0), (0, 0)], [], []), [((0, 0, 0), [(0, 0), (0, 0), (0, 0)], [], [], [1])])
theorem hd_85 : con_85.1 = (yX11_hasBit, cX11_hasBit, 2, (some .boolean)) := rfl
noncomputable def ct_85 : CTB2 := []
noncomputable def cu_85 : List CUT2 := []
theorem ch_85 : staG tb_X11_hasBit 1 bt_RX11 [] ct_85 [] [] cu_85 11 con_85 = true := by decide +kernel
theorem cto_85 (l : Launch) : CTOK2 l RX11 vwCl gTbl ct_85 := ct2_nil
theorem vl_85 (l : Launch) : Vld2 l vwCl gTbl con_85 := conR_ok3 gT_all (hd_85) rfl pn_RX11 tk_X11_hasBit bo_RX11 xo_RX11 (cto_85 l) ch_85 cut_nil
/-- RookHusting hasBit -/
noncomputable def con_86 : Con2 := ((yX11_hasBit, cX11_hasBit, 2, (some .boolean)), (0, 0), ([(0, 8, 0), (0, 3, 0)], [(0, 0), (0, 0)], [], []), [((0, 1, 0), [(0, 0), (0, 0), (0, 0)], [], [], [1])])
theorem hd_86 : con_86.1 = (yX11_hasBit, cX11_hasBit, 2, (some .boolean)) := rfl
noncomputable def ct_86 : CTB2 := []
noncomputable def cu_86 : List CUT2 := []
theorem ch_86 : staG tb_X11_hasBit 1 bt_RX11 [] ct_86 [] [] cu_86 12 con_86 = true := by decide +kernel
theorem cto_86 (l : Launch) : CTOK2 l RX11 vwCl gTbl ct_86 := ct2_nil
theorem vl_86 (l : Launch) : Vld2 l vwCl gTbl con_86 := conR_ok3 gT_all (hd_86) rfl pn_RX11 tk_X11_hasBit bo_RX11 xo_RX11 (cto_86 l) ch_86 cut_nil
/-- RookHusting hasBit -/
noncomputable def con_87 : Con2 := ((yX11_hasBit, cX11_hasBit, 2, (some .boolean)), (0, 0), ([(0, 8, 0), (0, 2, 0)], [(0, 0), (0, 0)], [], []), [((0, 0, 0), [(0, 0), (0, 0), (0, 0)], [], [], [1])])
theorem hd_87 : con_87.1 = (yX11_hasBit, cX11_hasBit, 2, (some .boolean)) := rfl
noncomputable def ct_87 : CTB2 := []
noncomputable def cu_87 : List CUT2 := []
theorem ch_87 : staG tb_X11_hasBit 1 bt_RX11 [] ct_87 [] [] cu_87 11 con_87 = true := by decide +kernel
theorem cto_87 (l : Launch) : CTOK2 l RX11 vwCl gTbl ct_87 := ct2_nil
theorem vl_87 (l : Launch) : Vld2 l vwCl gTbl con_87 := conR_ok3 gT_all (hd_87) rfl pn_RX11 tk_X11_hasBit bo_RX11 xo_RX11 (cto_87 l) ch_87 cut_nil
/-- RookHusting hasBit -/
noncomputable def con_88 : Con2 := ((yX11_hasBit, cX11_hasBit, 2, (some .boolean)), (0, 0), ([(0, 8, 0), (0, 1, 0)], [(0, 0), (0, 0)], [], []), [((0, 0, 0), [(0, 0), (0, 0), (0, 0)], [], [], [1])])
theorem hd_88 : con_88.1 = (yX11_hasBit, cX11_hasBit, 2, (some .boolean)) := rfl
noncomputable def ct_88 : CTB2 := []
noncomputable def cu_88 : List CUT2 := []
theorem ch_88 : staG tb_X11_hasBit 1 bt_RX11 [] ct_88 [] [] cu_88 11 con_88 = true := by decide +kernel
theorem cto_88 (l : Launch) : CTOK2 l RX11 vwCl gTbl ct_88 := ct2_nil
theorem vl_88 (l : Launch) : Vld2 l vwCl gTbl con_88 := conR_ok3 gT_all (hd_88) rfl pn_RX11 tk_X11_hasBit bo_RX11 xo_RX11 (cto_88 l) ch_88 cut_nil
/-- RookHusting hasBit -/
noncomputable def con_89 : Con2 := ((yX11_hasBit, cX11_hasBit, 2, (some .boolean)), (0, 0), ([(0, 8, 0), (0, 0, 0)], [(0, 0), (0, 0)], [], []), [((0, 0, 0), [(0, 0), (0, 0), (0, 0)], [], [], [1])])
theorem hd_89 : con_89.1 = (yX11_hasBit, cX11_hasBit, 2, (some .boolean)) := rfl
noncomputable def ct_89 : CTB2 := []
noncomputable def cu_89 : List CUT2 := []
theorem ch_89 : staG tb_X11_hasBit 1 bt_RX11 [] ct_89 [] [] cu_89 11 con_89 = true := by decide +kernel
theorem cto_89 (l : Launch) : CTOK2 l RX11 vwCl gTbl ct_89 := ct2_nil
theorem vl_89 (l : Launch) : Vld2 l vwCl gTbl con_89 := conR_ok3 gT_all (hd_89) rfl pn_RX11 tk_X11_hasBit bo_RX11 xo_RX11 (cto_89 l) ch_89 cut_nil
/-- RookHusting$Reader takeNumber -/
noncomputable def con_90 : Con2 := ((yX6_takeNumber, cX6_takeNumber, 5, (some .int)), (2, 40), ([(6, 0, 0), (0, 0, 0), (1, 2, 0), (0, 8, 0)], gi_92, hc_5, []), [((0, 0, 0), gi_93, hq_13, [], [1, 1, 1, 1, 1]), ((0, 0, 0), gi_94, hq_14, [], [1, 1, 1, 1, 1, 1, 1]), ((0, 1, 0), gi_73, hq_14, [], [1, 1, 1, 1, 1, 1, 1]), ((0, 2, 0), gi_74, hq_14, [], [1, 1, 1, 1, 1, 1, 1]), ((0, 4, 0), gi_76, hq_14, [], [1, 1, 1, 1, 1, 1, 1])])
theorem hd_90 : con_90.1 = (yX6_takeNumber, cX6_takeNumber, 5, (some .int)) := rfl
theorem ck_RX6_147_85 : COK2 RX6 vwCl gTbl 147 2 con_85 := ⟨wd_682, wd_125, mh_X11_hasBit, .inr (.inl ⟨rfl, by decide +kernel, wd_681, pd_X11_hasBit⟩)⟩
theorem ck_RX6_147_86 : COK2 RX6 vwCl gTbl 147 2 con_86 := ⟨wd_682, wd_125, mh_X11_hasBit, .inr (.inl ⟨rfl, by decide +kernel, wd_681, pd_X11_hasBit⟩)⟩
theorem ck_RX6_147_87 : COK2 RX6 vwCl gTbl 147 2 con_87 := ⟨wd_682, wd_125, mh_X11_hasBit, .inr (.inl ⟨rfl, by decide +kernel, wd_681, pd_X11_hasBit⟩)⟩
theorem ck_RX6_147_88 : COK2 RX6 vwCl gTbl 147 2 con_88 := ⟨wd_682, wd_125, mh_X11_hasBit, .inr (.inl ⟨rfl, by decide +kernel, wd_681, pd_X11_hasBit⟩)⟩
theorem ck_RX6_147_89 : COK2 RX6 vwCl gTbl 147 2 con_89 := ⟨wd_682, wd_125, mh_X11_hasBit, .inr (.inl ⟨rfl, by decide +kernel, wd_681, pd_X11_hasBit⟩)⟩
noncomputable def ct_90 : CTB2 := [(22, 70, 0, con_15, [0, 1]), (55, 147, 2, con_89, []), (55, 147, 2, con_88, []), (55, 147, 2, con_87, []), (55, 147, 2, con_86, []), (55, 147, 2, con_85, []), (63, 70, 0, con_19, [0, 1]), (72, 102, 0, con_10, [1, 2])]
noncomputable def cu_90 : List CUT2 := []
theorem ch_90 : staG tb_X6_takeNumber 1 bt_RX6 [] ct_90 [(52, [(1, (1, 4, 0), 0, 0)])] [] cu_90 31 con_90 = true := by decide +kernel
theorem cto_90 (l : Launch) : CTOK2 l RX6 vwCl gTbl ct_90 := ct2_cons (vl_15 l) ck_RX6_70_15 (ct2_cons (vl_89 l) ck_RX6_147_89 (ct2_cons (vl_88 l) ck_RX6_147_88 (ct2_cons (vl_87 l) ck_RX6_147_87 (ct2_cons (vl_86 l) ck_RX6_147_86 (ct2_cons (vl_85 l) ck_RX6_147_85 (ct2_cons (vl_19 l) ck_RX6_70_19 (ct2_cons (vl_10 l) ck_RX6_102_10 (ct2_nil))))))))
theorem vl_90 (l : Launch) : Vld2 l vwCl gTbl con_90 := conR_ok3 gT_all (hd_90) rfl pn_RX6 tk_X6_takeNumber bo_RX6 xo_RX6 (cto_90 l) ch_90 cut_nil
/-- RookHusting hasBit -/
noncomputable def con_91 : Con2 := ((yX11_hasBit, cX11_hasBit, 2, (some .boolean)), (0, 0), ([(0, 4, 0), (0, 4, 0)], [(0, 0), (0, 0)], [], []), [((0, 0, 0), [(0, 0), (0, 0), (0, 0)], [], [], [1])])
theorem hd_91 : con_91.1 = (yX11_hasBit, cX11_hasBit, 2, (some .boolean)) := rfl
noncomputable def ct_91 : CTB2 := []
noncomputable def cu_91 : List CUT2 := []
theorem ch_91 : staG tb_X11_hasBit 1 bt_RX11 [] ct_91 [] [] cu_91 11 con_91 = true := by decide +kernel
theorem cto_91 (l : Launch) : CTOK2 l RX11 vwCl gTbl ct_91 := ct2_nil
theorem vl_91 (l : Launch) : Vld2 l vwCl gTbl con_91 := conR_ok3 gT_all (hd_91) rfl pn_RX11 tk_X11_hasBit bo_RX11 xo_RX11 (cto_91 l) ch_91 cut_nil
/-- RookHusting hasBit -/
noncomputable def con_92 : Con2 := ((yX11_hasBit, cX11_hasBit, 2, (some .boolean)), (0, 0), ([(0, 4, 0), (0, 3, 0)], [(0, 0), (0, 0)], [], []), [((0, 0, 0), [(0, 0), (0, 0), (0, 0)], [], [], [1])])
theorem hd_92 : con_92.1 = (yX11_hasBit, cX11_hasBit, 2, (some .boolean)) := rfl
noncomputable def ct_92 : CTB2 := []
noncomputable def cu_92 : List CUT2 := []
theorem ch_92 : staG tb_X11_hasBit 1 bt_RX11 [] ct_92 [] [] cu_92 11 con_92 = true := by decide +kernel
theorem cto_92 (l : Launch) : CTOK2 l RX11 vwCl gTbl ct_92 := ct2_nil
theorem vl_92 (l : Launch) : Vld2 l vwCl gTbl con_92 := conR_ok3 gT_all (hd_92) rfl pn_RX11 tk_X11_hasBit bo_RX11 xo_RX11 (cto_92 l) ch_92 cut_nil
/-- RookHusting hasBit -/
noncomputable def con_93 : Con2 := ((yX11_hasBit, cX11_hasBit, 2, (some .boolean)), (0, 0), ([(0, 4, 0), (0, 2, 0)], [(0, 0), (0, 0)], [], []), [((0, 1, 0), [(0, 0), (0, 0), (0, 0)], [], [], [1])])
theorem hd_93 : con_93.1 = (yX11_hasBit, cX11_hasBit, 2, (some .boolean)) := rfl
noncomputable def ct_93 : CTB2 := []
noncomputable def cu_93 : List CUT2 := []
theorem ch_93 : staG tb_X11_hasBit 1 bt_RX11 [] ct_93 [] [] cu_93 12 con_93 = true := by decide +kernel
theorem cto_93 (l : Launch) : CTOK2 l RX11 vwCl gTbl ct_93 := ct2_nil
theorem vl_93 (l : Launch) : Vld2 l vwCl gTbl con_93 := conR_ok3 gT_all (hd_93) rfl pn_RX11 tk_X11_hasBit bo_RX11 xo_RX11 (cto_93 l) ch_93 cut_nil
/-- RookHusting hasBit -/
noncomputable def con_94 : Con2 := ((yX11_hasBit, cX11_hasBit, 2, (some .boolean)), (0, 0), ([(0, 4, 0), (0, 1, 0)], [(0, 0), (0, 0)], [], []), [((0, 0, 0), [(0, 0), (0, 0), (0, 0)], [], [], [1])])
theorem hd_94 : con_94.1 = (yX11_hasBit, cX11_hasBit, 2, (some .boolean)) := rfl
noncomputable def ct_94 : CTB2 := []
noncomputable def cu_94 : List CUT2 := []
theorem ch_94 : staG tb_X11_hasBit 1 bt_RX11 [] ct_94 [] [] cu_94 11 con_94 = true := by decide +kernel
theorem cto_94 (l : Launch) : CTOK2 l RX11 vwCl gTbl ct_94 := ct2_nil
theorem vl_94 (l : Launch) : Vld2 l vwCl gTbl con_94 := conR_ok3 gT_all (hd_94) rfl pn_RX11 tk_X11_hasBit bo_RX11 xo_RX11 (cto_94 l) ch_94 cut_nil
/-- RookHusting hasBit -/
noncomputable def con_95 : Con2 := ((yX11_hasBit, cX11_hasBit, 2, (some .boolean)), (0, 0), ([(0, 4, 0), (0, 0, 0)], [(0, 0), (0, 0)], [], []), [((0, 0, 0), [(0, 0), (0, 0), (0, 0)], [], [], [1])])
theorem hd_95 : con_95.1 = (yX11_hasBit, cX11_hasBit, 2, (some .boolean)) := rfl
noncomputable def ct_95 : CTB2 := []
noncomputable def cu_95 : List CUT2 := []
theorem ch_95 : staG tb_X11_hasBit 1 bt_RX11 [] ct_95 [] [] cu_95 11 con_95 = true := by decide +kernel
theorem cto_95 (l : Launch) : CTOK2 l RX11 vwCl gTbl ct_95 := ct2_nil
theorem vl_95 (l : Launch) : Vld2 l vwCl gTbl con_95 := conR_ok3 gT_all (hd_95) rfl pn_RX11 tk_X11_hasBit bo_RX11 xo_RX11 (cto_95 l) ch_95 cut_nil
/-- RookHusting$Reader takeNumber -/
noncomputable def con_96 : Con2 := ((yX6_takeNumber, cX6_takeNumber, 5, (some .int)), (2, 40), ([(6, 0, 0), (0, 0, 0), (1, 2, 0), (0, 4, 0)], gi_92, hc_5, []), [((0, 0, 0), gi_93, hq_13, [], [1, 1, 1, 1, 1]), ((0, 0, 0), gi_94, hq_14, [], [1, 1, 1, 1, 1, 1, 1]), ((0, 1, 0), gi_73, hq_14, [], [1, 1, 1, 1, 1, 1, 1]), ((0, 3, 0), gi_75, hq_14, [], [1, 1, 1, 1, 1, 1, 1]), ((0, 4, 0), gi_76, hq_14, [], [1, 1, 1, 1, 1, 1, 1])])
theorem hd_96 : con_96.1 = (yX6_takeNumber, cX6_takeNumber, 5, (some .int)) := rfl
theorem ck_RX6_147_91 : COK2 RX6 vwCl gTbl 147 2 con_91 := ⟨wd_682, wd_125, mh_X11_hasBit, .inr (.inl ⟨rfl, by decide +kernel, wd_681, pd_X11_hasBit⟩)⟩
theorem ck_RX6_147_92 : COK2 RX6 vwCl gTbl 147 2 con_92 := ⟨wd_682, wd_125, mh_X11_hasBit, .inr (.inl ⟨rfl, by decide +kernel, wd_681, pd_X11_hasBit⟩)⟩
theorem ck_RX6_147_93 : COK2 RX6 vwCl gTbl 147 2 con_93 := ⟨wd_682, wd_125, mh_X11_hasBit, .inr (.inl ⟨rfl, by decide +kernel, wd_681, pd_X11_hasBit⟩)⟩
theorem ck_RX6_147_94 : COK2 RX6 vwCl gTbl 147 2 con_94 := ⟨wd_682, wd_125, mh_X11_hasBit, .inr (.inl ⟨rfl, by decide +kernel, wd_681, pd_X11_hasBit⟩)⟩
theorem ck_RX6_147_95 : COK2 RX6 vwCl gTbl 147 2 con_95 := ⟨wd_682, wd_125, mh_X11_hasBit, .inr (.inl ⟨rfl, by decide +kernel, wd_681, pd_X11_hasBit⟩)⟩
noncomputable def ct_96 : CTB2 := [(22, 70, 0, con_15, [0, 1]), (55, 147, 2, con_95, []), (55, 147, 2, con_94, []), (55, 147, 2, con_93, []), (55, 147, 2, con_92, []), (55, 147, 2, con_91, []), (63, 70, 0, con_19, [0, 1]), (72, 102, 0, con_10, [1, 2])]
noncomputable def cu_96 : List CUT2 := []
theorem ch_96 : staG tb_X6_takeNumber 1 bt_RX6 [] ct_96 [(52, [(1, (1, 4, 0), 0, 0)])] [] cu_96 31 con_96 = true := by decide +kernel
theorem cto_96 (l : Launch) : CTOK2 l RX6 vwCl gTbl ct_96 := ct2_cons (vl_15 l) ck_RX6_70_15 (ct2_cons (vl_95 l) ck_RX6_147_95 (ct2_cons (vl_94 l) ck_RX6_147_94 (ct2_cons (vl_93 l) ck_RX6_147_93 (ct2_cons (vl_92 l) ck_RX6_147_92 (ct2_cons (vl_91 l) ck_RX6_147_91 (ct2_cons (vl_19 l) ck_RX6_70_19 (ct2_cons (vl_10 l) ck_RX6_102_10 (ct2_nil))))))))
theorem vl_96 (l : Launch) : Vld2 l vwCl gTbl con_96 := conR_ok3 gT_all (hd_96) rfl pn_RX6 tk_X6_takeNumber bo_RX6 xo_RX6 (cto_96 l) ch_96 cut_nil
/-- RookHusting hasBit -/
noncomputable def con_97 : Con2 := ((yX11_hasBit, cX11_hasBit, 2, (some .boolean)), (0, 0), ([(0, 2, 0), (0, 4, 0)], [(0, 0), (0, 0)], [], []), [((0, 0, 0), [(0, 0), (0, 0), (0, 0)], [], [], [1])])
theorem hd_97 : con_97.1 = (yX11_hasBit, cX11_hasBit, 2, (some .boolean)) := rfl
noncomputable def ct_97 : CTB2 := []
noncomputable def cu_97 : List CUT2 := []
theorem ch_97 : staG tb_X11_hasBit 1 bt_RX11 [] ct_97 [] [] cu_97 11 con_97 = true := by decide +kernel
theorem cto_97 (l : Launch) : CTOK2 l RX11 vwCl gTbl ct_97 := ct2_nil
theorem vl_97 (l : Launch) : Vld2 l vwCl gTbl con_97 := conR_ok3 gT_all (hd_97) rfl pn_RX11 tk_X11_hasBit bo_RX11 xo_RX11 (cto_97 l) ch_97 cut_nil
/-- RookHusting hasBit -/
noncomputable def con_98 : Con2 := ((yX11_hasBit, cX11_hasBit, 2, (some .boolean)), (0, 0), ([(0, 2, 0), (0, 3, 0)], [(0, 0), (0, 0)], [], []), [((0, 0, 0), [(0, 0), (0, 0), (0, 0)], [], [], [1])])
theorem hd_98 : con_98.1 = (yX11_hasBit, cX11_hasBit, 2, (some .boolean)) := rfl
noncomputable def ct_98 : CTB2 := []
noncomputable def cu_98 : List CUT2 := []
theorem ch_98 : staG tb_X11_hasBit 1 bt_RX11 [] ct_98 [] [] cu_98 11 con_98 = true := by decide +kernel
theorem cto_98 (l : Launch) : CTOK2 l RX11 vwCl gTbl ct_98 := ct2_nil
theorem vl_98 (l : Launch) : Vld2 l vwCl gTbl con_98 := conR_ok3 gT_all (hd_98) rfl pn_RX11 tk_X11_hasBit bo_RX11 xo_RX11 (cto_98 l) ch_98 cut_nil
/-- RookHusting hasBit -/
noncomputable def con_99 : Con2 := ((yX11_hasBit, cX11_hasBit, 2, (some .boolean)), (0, 0), ([(0, 2, 0), (0, 2, 0)], [(0, 0), (0, 0)], [], []), [((0, 0, 0), [(0, 0), (0, 0), (0, 0)], [], [], [1])])
theorem hd_99 : con_99.1 = (yX11_hasBit, cX11_hasBit, 2, (some .boolean)) := rfl
noncomputable def ct_99 : CTB2 := []
noncomputable def cu_99 : List CUT2 := []
theorem ch_99 : staG tb_X11_hasBit 1 bt_RX11 [] ct_99 [] [] cu_99 11 con_99 = true := by decide +kernel
theorem cto_99 (l : Launch) : CTOK2 l RX11 vwCl gTbl ct_99 := ct2_nil
theorem vl_99 (l : Launch) : Vld2 l vwCl gTbl con_99 := conR_ok3 gT_all (hd_99) rfl pn_RX11 tk_X11_hasBit bo_RX11 xo_RX11 (cto_99 l) ch_99 cut_nil
/-- RookHusting hasBit -/
noncomputable def con_100 : Con2 := ((yX11_hasBit, cX11_hasBit, 2, (some .boolean)), (0, 0), ([(0, 2, 0), (0, 1, 0)], [(0, 0), (0, 0)], [], []), [((0, 1, 0), [(0, 0), (0, 0), (0, 0)], [], [], [1])])
theorem hd_100 : con_100.1 = (yX11_hasBit, cX11_hasBit, 2, (some .boolean)) := rfl
noncomputable def ct_100 : CTB2 := []
noncomputable def cu_100 : List CUT2 := []
theorem ch_100 : staG tb_X11_hasBit 1 bt_RX11 [] ct_100 [] [] cu_100 12 con_100 = true := by decide +kernel
theorem cto_100 (l : Launch) : CTOK2 l RX11 vwCl gTbl ct_100 := ct2_nil
theorem vl_100 (l : Launch) : Vld2 l vwCl gTbl con_100 := conR_ok3 gT_all (hd_100) rfl pn_RX11 tk_X11_hasBit bo_RX11 xo_RX11 (cto_100 l) ch_100 cut_nil
/-- RookHusting hasBit -/
noncomputable def con_101 : Con2 := ((yX11_hasBit, cX11_hasBit, 2, (some .boolean)), (0, 0), ([(0, 2, 0), (0, 0, 0)], [(0, 0), (0, 0)], [], []), [((0, 0, 0), [(0, 0), (0, 0), (0, 0)], [], [], [1])])
theorem hd_101 : con_101.1 = (yX11_hasBit, cX11_hasBit, 2, (some .boolean)) := rfl
noncomputable def ct_101 : CTB2 := []
noncomputable def cu_101 : List CUT2 := []
theorem ch_101 : staG tb_X11_hasBit 1 bt_RX11 [] ct_101 [] [] cu_101 11 con_101 = true := by decide +kernel
theorem cto_101 (l : Launch) : CTOK2 l RX11 vwCl gTbl ct_101 := ct2_nil
theorem vl_101 (l : Launch) : Vld2 l vwCl gTbl con_101 := conR_ok3 gT_all (hd_101) rfl pn_RX11 tk_X11_hasBit bo_RX11 xo_RX11 (cto_101 l) ch_101 cut_nil
/-- RookHusting$Reader takeNumber -/
noncomputable def con_102 : Con2 := ((yX6_takeNumber, cX6_takeNumber, 5, (some .int)), (2, 40), ([(6, 0, 0), (0, 0, 0), (1, 2, 0), (0, 2, 0)], gi_92, hc_5, []), [((0, 0, 0), gi_93, hq_13, [], [1, 1, 1, 1, 1]), ((0, 0, 0), gi_94, hq_14, [], [1, 1, 1, 1, 1, 1, 1]), ((0, 2, 0), gi_74, hq_14, [], [1, 1, 1, 1, 1, 1, 1]), ((0, 3, 0), gi_75, hq_14, [], [1, 1, 1, 1, 1, 1, 1]), ((0, 4, 0), gi_76, hq_14, [], [1, 1, 1, 1, 1, 1, 1])])
theorem hd_102 : con_102.1 = (yX6_takeNumber, cX6_takeNumber, 5, (some .int)) := rfl
theorem ck_RX6_147_97 : COK2 RX6 vwCl gTbl 147 2 con_97 := ⟨wd_682, wd_125, mh_X11_hasBit, .inr (.inl ⟨rfl, by decide +kernel, wd_681, pd_X11_hasBit⟩)⟩
theorem ck_RX6_147_98 : COK2 RX6 vwCl gTbl 147 2 con_98 := ⟨wd_682, wd_125, mh_X11_hasBit, .inr (.inl ⟨rfl, by decide +kernel, wd_681, pd_X11_hasBit⟩)⟩
theorem ck_RX6_147_99 : COK2 RX6 vwCl gTbl 147 2 con_99 := ⟨wd_682, wd_125, mh_X11_hasBit, .inr (.inl ⟨rfl, by decide +kernel, wd_681, pd_X11_hasBit⟩)⟩
theorem ck_RX6_147_100 : COK2 RX6 vwCl gTbl 147 2 con_100 := ⟨wd_682, wd_125, mh_X11_hasBit, .inr (.inl ⟨rfl, by decide +kernel, wd_681, pd_X11_hasBit⟩)⟩
theorem ck_RX6_147_101 : COK2 RX6 vwCl gTbl 147 2 con_101 := ⟨wd_682, wd_125, mh_X11_hasBit, .inr (.inl ⟨rfl, by decide +kernel, wd_681, pd_X11_hasBit⟩)⟩
noncomputable def ct_102 : CTB2 := [(22, 70, 0, con_15, [0, 1]), (55, 147, 2, con_101, []), (55, 147, 2, con_100, []), (55, 147, 2, con_99, []), (55, 147, 2, con_98, []), (55, 147, 2, con_97, []), (63, 70, 0, con_19, [0, 1]), (72, 102, 0, con_10, [1, 2])]
noncomputable def cu_102 : List CUT2 := []
theorem ch_102 : staG tb_X6_takeNumber 1 bt_RX6 [] ct_102 [(52, [(1, (1, 4, 0), 0, 0)])] [] cu_102 31 con_102 = true := by decide +kernel
theorem cto_102 (l : Launch) : CTOK2 l RX6 vwCl gTbl ct_102 := ct2_cons (vl_15 l) ck_RX6_70_15 (ct2_cons (vl_101 l) ck_RX6_147_101 (ct2_cons (vl_100 l) ck_RX6_147_100 (ct2_cons (vl_99 l) ck_RX6_147_99 (ct2_cons (vl_98 l) ck_RX6_147_98 (ct2_cons (vl_97 l) ck_RX6_147_97 (ct2_cons (vl_19 l) ck_RX6_70_19 (ct2_cons (vl_10 l) ck_RX6_102_10 (ct2_nil))))))))
theorem vl_102 (l : Launch) : Vld2 l vwCl gTbl con_102 := conR_ok3 gT_all (hd_102) rfl pn_RX6 tk_X6_takeNumber bo_RX6 xo_RX6 (cto_102 l) ch_102 cut_nil
/-- RookHusting$Reader takeNumber -/
noncomputable def con_103 : Con2 := ((yX6_takeNumber, cX6_takeNumber, 5, (some .int)), (2, 40), ([(6, 0, 0), (0, 0, 0), (1, 2, 0), (0, 1, 0)], gi_92, hc_5, []), [((0, 0, 0), gi_93, hq_13, [], [1, 1, 1, 1, 1]), ((0, 1, 0), gi_73, hq_14, [], [1, 1, 1, 1, 1, 1, 1]), ((0, 2, 0), gi_74, hq_14, [], [1, 1, 1, 1, 1, 1, 1]), ((0, 3, 0), gi_75, hq_14, [], [1, 1, 1, 1, 1, 1, 1]), ((0, 4, 0), gi_76, hq_14, [], [1, 1, 1, 1, 1, 1, 1])])
theorem hd_103 : con_103.1 = (yX6_takeNumber, cX6_takeNumber, 5, (some .int)) := rfl
noncomputable def ct_103 : CTB2 := [(22, 70, 0, con_15, [0, 1]), (55, 147, 2, con_57, []), (55, 147, 2, con_56, []), (55, 147, 2, con_55, []), (55, 147, 2, con_54, []), (55, 147, 2, con_53, []), (63, 70, 0, con_19, [0, 1]), (72, 102, 0, con_10, [1, 2])]
noncomputable def cu_103 : List CUT2 := []
theorem ch_103 : staG tb_X6_takeNumber 1 bt_RX6 [] ct_103 [(52, [(1, (1, 4, 0), 0, 0)])] [] cu_103 31 con_103 = true := by decide +kernel
theorem cto_103 (l : Launch) : CTOK2 l RX6 vwCl gTbl ct_103 := ct2_cons (vl_15 l) ck_RX6_70_15 (ct2_cons (vl_57 l) ck_RX6_147_57 (ct2_cons (vl_56 l) ck_RX6_147_56 (ct2_cons (vl_55 l) ck_RX6_147_55 (ct2_cons (vl_54 l) ck_RX6_147_54 (ct2_cons (vl_53 l) ck_RX6_147_53 (ct2_cons (vl_19 l) ck_RX6_70_19 (ct2_cons (vl_10 l) ck_RX6_102_10 (ct2_nil))))))))
theorem vl_103 (l : Launch) : Vld2 l vwCl gTbl con_103 := conR_ok3 gT_all (hd_103) rfl pn_RX6 tk_X6_takeNumber bo_RX6 xo_RX6 (cto_103 l) ch_103 cut_nil
/-- RookHusting hasBit -/
noncomputable def con_104 : Con2 := ((yX11_hasBit, cX11_hasBit, 2, (some .boolean)), (0, 0), ([(0, 24, 0), (0, 4, 0)], [(0, 0), (0, 0)], [], []), [((0, 1, 0), [(0, 0), (0, 0), (0, 0)], [], [], [1])])
theorem hd_104 : con_104.1 = (yX11_hasBit, cX11_hasBit, 2, (some .boolean)) := rfl
noncomputable def ct_104 : CTB2 := []
noncomputable def cu_104 : List CUT2 := []
theorem ch_104 : staG tb_X11_hasBit 1 bt_RX11 [] ct_104 [] [] cu_104 12 con_104 = true := by decide +kernel
theorem cto_104 (l : Launch) : CTOK2 l RX11 vwCl gTbl ct_104 := ct2_nil
theorem vl_104 (l : Launch) : Vld2 l vwCl gTbl con_104 := conR_ok3 gT_all (hd_104) rfl pn_RX11 tk_X11_hasBit bo_RX11 xo_RX11 (cto_104 l) ch_104 cut_nil
/-- RookHusting hasBit -/
noncomputable def con_105 : Con2 := ((yX11_hasBit, cX11_hasBit, 2, (some .boolean)), (0, 0), ([(0, 24, 0), (0, 3, 0)], [(0, 0), (0, 0)], [], []), [((0, 1, 0), [(0, 0), (0, 0), (0, 0)], [], [], [1])])
theorem hd_105 : con_105.1 = (yX11_hasBit, cX11_hasBit, 2, (some .boolean)) := rfl
noncomputable def ct_105 : CTB2 := []
noncomputable def cu_105 : List CUT2 := []
theorem ch_105 : staG tb_X11_hasBit 1 bt_RX11 [] ct_105 [] [] cu_105 12 con_105 = true := by decide +kernel
theorem cto_105 (l : Launch) : CTOK2 l RX11 vwCl gTbl ct_105 := ct2_nil
theorem vl_105 (l : Launch) : Vld2 l vwCl gTbl con_105 := conR_ok3 gT_all (hd_105) rfl pn_RX11 tk_X11_hasBit bo_RX11 xo_RX11 (cto_105 l) ch_105 cut_nil
/-- RookHusting hasBit -/
noncomputable def con_106 : Con2 := ((yX11_hasBit, cX11_hasBit, 2, (some .boolean)), (0, 0), ([(0, 24, 0), (0, 2, 0)], [(0, 0), (0, 0)], [], []), [((0, 0, 0), [(0, 0), (0, 0), (0, 0)], [], [], [1])])
theorem hd_106 : con_106.1 = (yX11_hasBit, cX11_hasBit, 2, (some .boolean)) := rfl
noncomputable def ct_106 : CTB2 := []
noncomputable def cu_106 : List CUT2 := []
theorem ch_106 : staG tb_X11_hasBit 1 bt_RX11 [] ct_106 [] [] cu_106 11 con_106 = true := by decide +kernel
theorem cto_106 (l : Launch) : CTOK2 l RX11 vwCl gTbl ct_106 := ct2_nil
theorem vl_106 (l : Launch) : Vld2 l vwCl gTbl con_106 := conR_ok3 gT_all (hd_106) rfl pn_RX11 tk_X11_hasBit bo_RX11 xo_RX11 (cto_106 l) ch_106 cut_nil
/-- RookHusting hasBit -/
noncomputable def con_107 : Con2 := ((yX11_hasBit, cX11_hasBit, 2, (some .boolean)), (0, 0), ([(0, 24, 0), (0, 1, 0)], [(0, 0), (0, 0)], [], []), [((0, 0, 0), [(0, 0), (0, 0), (0, 0)], [], [], [1])])
theorem hd_107 : con_107.1 = (yX11_hasBit, cX11_hasBit, 2, (some .boolean)) := rfl
noncomputable def ct_107 : CTB2 := []
noncomputable def cu_107 : List CUT2 := []
theorem ch_107 : staG tb_X11_hasBit 1 bt_RX11 [] ct_107 [] [] cu_107 11 con_107 = true := by decide +kernel
theorem cto_107 (l : Launch) : CTOK2 l RX11 vwCl gTbl ct_107 := ct2_nil
theorem vl_107 (l : Launch) : Vld2 l vwCl gTbl con_107 := conR_ok3 gT_all (hd_107) rfl pn_RX11 tk_X11_hasBit bo_RX11 xo_RX11 (cto_107 l) ch_107 cut_nil
/-- RookHusting hasBit -/
noncomputable def con_108 : Con2 := ((yX11_hasBit, cX11_hasBit, 2, (some .boolean)), (0, 0), ([(0, 24, 0), (0, 0, 0)], [(0, 0), (0, 0)], [], []), [((0, 0, 0), [(0, 0), (0, 0), (0, 0)], [], [], [1])])
theorem hd_108 : con_108.1 = (yX11_hasBit, cX11_hasBit, 2, (some .boolean)) := rfl
noncomputable def ct_108 : CTB2 := []
noncomputable def cu_108 : List CUT2 := []
theorem ch_108 : staG tb_X11_hasBit 1 bt_RX11 [] ct_108 [] [] cu_108 11 con_108 = true := by decide +kernel
theorem cto_108 (l : Launch) : CTOK2 l RX11 vwCl gTbl ct_108 := ct2_nil
theorem vl_108 (l : Launch) : Vld2 l vwCl gTbl con_108 := conR_ok3 gT_all (hd_108) rfl pn_RX11 tk_X11_hasBit bo_RX11 xo_RX11 (cto_108 l) ch_108 cut_nil
/-- RookHusting$Reader takeNumber -/
noncomputable def con_109 : Con2 := ((yX6_takeNumber, cX6_takeNumber, 5, (some .int)), (2, 40), ([(6, 0, 0), (0, 0, 0), (1, 2, 0), (0, 24, 0)], gi_92, hc_5, []), [((0, 0, 0), gi_93, hq_13, [], [1, 1, 1, 1, 1]), ((0, 0, 0), gi_94, hq_14, [], [1, 1, 1, 1, 1, 1, 1]), ((0, 1, 0), gi_73, hq_14, [], [1, 1, 1, 1, 1, 1, 1]), ((0, 2, 0), gi_74, hq_14, [], [1, 1, 1, 1, 1, 1, 1])])
theorem hd_109 : con_109.1 = (yX6_takeNumber, cX6_takeNumber, 5, (some .int)) := rfl
theorem ck_RX6_147_104 : COK2 RX6 vwCl gTbl 147 2 con_104 := ⟨wd_682, wd_125, mh_X11_hasBit, .inr (.inl ⟨rfl, by decide +kernel, wd_681, pd_X11_hasBit⟩)⟩
theorem ck_RX6_147_105 : COK2 RX6 vwCl gTbl 147 2 con_105 := ⟨wd_682, wd_125, mh_X11_hasBit, .inr (.inl ⟨rfl, by decide +kernel, wd_681, pd_X11_hasBit⟩)⟩
theorem ck_RX6_147_106 : COK2 RX6 vwCl gTbl 147 2 con_106 := ⟨wd_682, wd_125, mh_X11_hasBit, .inr (.inl ⟨rfl, by decide +kernel, wd_681, pd_X11_hasBit⟩)⟩
theorem ck_RX6_147_107 : COK2 RX6 vwCl gTbl 147 2 con_107 := ⟨wd_682, wd_125, mh_X11_hasBit, .inr (.inl ⟨rfl, by decide +kernel, wd_681, pd_X11_hasBit⟩)⟩
theorem ck_RX6_147_108 : COK2 RX6 vwCl gTbl 147 2 con_108 := ⟨wd_682, wd_125, mh_X11_hasBit, .inr (.inl ⟨rfl, by decide +kernel, wd_681, pd_X11_hasBit⟩)⟩
noncomputable def ct_109 : CTB2 := [(22, 70, 0, con_15, [0, 1]), (55, 147, 2, con_108, []), (55, 147, 2, con_107, []), (55, 147, 2, con_106, []), (55, 147, 2, con_105, []), (55, 147, 2, con_104, []), (63, 70, 0, con_19, [0, 1]), (72, 102, 0, con_10, [1, 2])]
noncomputable def cu_109 : List CUT2 := []
theorem ch_109 : staG tb_X6_takeNumber 1 bt_RX6 [] ct_109 [(52, [(1, (1, 4, 0), 0, 0)])] [] cu_109 31 con_109 = true := by decide +kernel
theorem cto_109 (l : Launch) : CTOK2 l RX6 vwCl gTbl ct_109 := ct2_cons (vl_15 l) ck_RX6_70_15 (ct2_cons (vl_108 l) ck_RX6_147_108 (ct2_cons (vl_107 l) ck_RX6_147_107 (ct2_cons (vl_106 l) ck_RX6_147_106 (ct2_cons (vl_105 l) ck_RX6_147_105 (ct2_cons (vl_104 l) ck_RX6_147_104 (ct2_cons (vl_19 l) ck_RX6_70_19 (ct2_cons (vl_10 l) ck_RX6_102_10 (ct2_nil))))))))
theorem vl_109 (l : Launch) : Vld2 l vwCl gTbl con_109 := conR_ok3 gT_all (hd_109) rfl pn_RX6 tk_X6_takeNumber bo_RX6 xo_RX6 (cto_109 l) ch_109 cut_nil
/-- RookHusting$Hundred addWant -/
noncomputable def hc_17 : List AC := [ac_54, .inr (1, [(6, (2, 0, 5)), (1, (0, 2, 0))]), .inr (1, [(35, (2, 0, 4))]), .inr (1, [(35, (2, (-2147483648), 2147483647))])]
noncomputable def hq_29 : HP := [(false, ac_54), (true, .inr (1, [(6, (2, 0, 5)), (1, (0, 3, 0))])), (true, .inr (1, [(35, (2, 0, 4))])), (true, .inr (1, [(35, (2, (-2147483648), 2147483647))]))]
noncomputable def con_110 : Con2 := ((yX4_addWant, cX4_addWant, 6, none), (0, 0), ([(6, 0, 0), (1, 1, 0)], gi_90, hc_17, []), [((9, 0, 0), gi_91, hq_29, [], [1])])
theorem hd_110 : con_110.1 = (yX4_addWant, cX4_addWant, 6, none) := rfl
noncomputable def ct_110 : CTB2 := []
noncomputable def cu_110 : List CUT2 := []
theorem ch_110 : staG tb_X4_addWant 1 bt_RX4 [] ct_110 [] [] cu_110 81 con_110 = true := by decide +kernel
theorem cto_110 (l : Launch) : CTOK2 l RX4 vwCl gTbl ct_110 := ct2_nil
theorem vl_110 (l : Launch) : Vld2 l vwCl gTbl con_110 := conR_ok3 gT_all (hd_110) rfl pn_RX4 tk_X4_addWant bo_RX4 xo_RX4 (cto_110 l) ch_110 cut_nil
/-- RookHusting hasBit -/
noncomputable def con_111 : Con2 := ((yX11_hasBit, cX11_hasBit, 2, (some .boolean)), (0, 0), ([(0, 20, 0), (0, 4, 0)], [(0, 0), (0, 0)], [], []), [((0, 1, 0), [(0, 0), (0, 0), (0, 0)], [], [], [1])])
theorem hd_111 : con_111.1 = (yX11_hasBit, cX11_hasBit, 2, (some .boolean)) := rfl
noncomputable def ct_111 : CTB2 := []
noncomputable def cu_111 : List CUT2 := []
theorem ch_111 : staG tb_X11_hasBit 1 bt_RX11 [] ct_111 [] [] cu_111 12 con_111 = true := by decide +kernel
theorem cto_111 (l : Launch) : CTOK2 l RX11 vwCl gTbl ct_111 := ct2_nil
theorem vl_111 (l : Launch) : Vld2 l vwCl gTbl con_111 := conR_ok3 gT_all (hd_111) rfl pn_RX11 tk_X11_hasBit bo_RX11 xo_RX11 (cto_111 l) ch_111 cut_nil
/-- RookHusting hasBit -/
noncomputable def con_112 : Con2 := ((yX11_hasBit, cX11_hasBit, 2, (some .boolean)), (0, 0), ([(0, 20, 0), (0, 3, 0)], [(0, 0), (0, 0)], [], []), [((0, 0, 0), [(0, 0), (0, 0), (0, 0)], [], [], [1])])
theorem hd_112 : con_112.1 = (yX11_hasBit, cX11_hasBit, 2, (some .boolean)) := rfl
noncomputable def ct_112 : CTB2 := []
noncomputable def cu_112 : List CUT2 := []
theorem ch_112 : staG tb_X11_hasBit 1 bt_RX11 [] ct_112 [] [] cu_112 11 con_112 = true := by decide +kernel
theorem cto_112 (l : Launch) : CTOK2 l RX11 vwCl gTbl ct_112 := ct2_nil
theorem vl_112 (l : Launch) : Vld2 l vwCl gTbl con_112 := conR_ok3 gT_all (hd_112) rfl pn_RX11 tk_X11_hasBit bo_RX11 xo_RX11 (cto_112 l) ch_112 cut_nil
/-- RookHusting hasBit -/
noncomputable def con_113 : Con2 := ((yX11_hasBit, cX11_hasBit, 2, (some .boolean)), (0, 0), ([(0, 20, 0), (0, 2, 0)], [(0, 0), (0, 0)], [], []), [((0, 1, 0), [(0, 0), (0, 0), (0, 0)], [], [], [1])])
theorem hd_113 : con_113.1 = (yX11_hasBit, cX11_hasBit, 2, (some .boolean)) := rfl
noncomputable def ct_113 : CTB2 := []
noncomputable def cu_113 : List CUT2 := []
theorem ch_113 : staG tb_X11_hasBit 1 bt_RX11 [] ct_113 [] [] cu_113 12 con_113 = true := by decide +kernel
theorem cto_113 (l : Launch) : CTOK2 l RX11 vwCl gTbl ct_113 := ct2_nil
theorem vl_113 (l : Launch) : Vld2 l vwCl gTbl con_113 := conR_ok3 gT_all (hd_113) rfl pn_RX11 tk_X11_hasBit bo_RX11 xo_RX11 (cto_113 l) ch_113 cut_nil
/-- RookHusting hasBit -/
noncomputable def con_114 : Con2 := ((yX11_hasBit, cX11_hasBit, 2, (some .boolean)), (0, 0), ([(0, 20, 0), (0, 1, 0)], [(0, 0), (0, 0)], [], []), [((0, 0, 0), [(0, 0), (0, 0), (0, 0)], [], [], [1])])
theorem hd_114 : con_114.1 = (yX11_hasBit, cX11_hasBit, 2, (some .boolean)) := rfl
noncomputable def ct_114 : CTB2 := []
noncomputable def cu_114 : List CUT2 := []
theorem ch_114 : staG tb_X11_hasBit 1 bt_RX11 [] ct_114 [] [] cu_114 11 con_114 = true := by decide +kernel
theorem cto_114 (l : Launch) : CTOK2 l RX11 vwCl gTbl ct_114 := ct2_nil
theorem vl_114 (l : Launch) : Vld2 l vwCl gTbl con_114 := conR_ok3 gT_all (hd_114) rfl pn_RX11 tk_X11_hasBit bo_RX11 xo_RX11 (cto_114 l) ch_114 cut_nil
/-- RookHusting hasBit -/
noncomputable def con_115 : Con2 := ((yX11_hasBit, cX11_hasBit, 2, (some .boolean)), (0, 0), ([(0, 20, 0), (0, 0, 0)], [(0, 0), (0, 0)], [], []), [((0, 0, 0), [(0, 0), (0, 0), (0, 0)], [], [], [1])])
theorem hd_115 : con_115.1 = (yX11_hasBit, cX11_hasBit, 2, (some .boolean)) := rfl
noncomputable def ct_115 : CTB2 := []
noncomputable def cu_115 : List CUT2 := []
theorem ch_115 : staG tb_X11_hasBit 1 bt_RX11 [] ct_115 [] [] cu_115 11 con_115 = true := by decide +kernel
theorem cto_115 (l : Launch) : CTOK2 l RX11 vwCl gTbl ct_115 := ct2_nil
theorem vl_115 (l : Launch) : Vld2 l vwCl gTbl con_115 := conR_ok3 gT_all (hd_115) rfl pn_RX11 tk_X11_hasBit bo_RX11 xo_RX11 (cto_115 l) ch_115 cut_nil
/-- RookHusting$Reader takeNumber -/
noncomputable def con_116 : Con2 := ((yX6_takeNumber, cX6_takeNumber, 5, (some .int)), (2, 40), ([(6, 0, 0), (0, 0, 0), (1, 2, 0), (0, 20, 0)], gi_92, hc_5, []), [((0, 0, 0), gi_93, hq_13, [], [1, 1, 1, 1, 1]), ((0, 0, 0), gi_94, hq_14, [], [1, 1, 1, 1, 1, 1, 1]), ((0, 1, 0), gi_73, hq_14, [], [1, 1, 1, 1, 1, 1, 1]), ((0, 3, 0), gi_75, hq_14, [], [1, 1, 1, 1, 1, 1, 1])])
theorem hd_116 : con_116.1 = (yX6_takeNumber, cX6_takeNumber, 5, (some .int)) := rfl
theorem ck_RX6_147_111 : COK2 RX6 vwCl gTbl 147 2 con_111 := ⟨wd_682, wd_125, mh_X11_hasBit, .inr (.inl ⟨rfl, by decide +kernel, wd_681, pd_X11_hasBit⟩)⟩
theorem ck_RX6_147_112 : COK2 RX6 vwCl gTbl 147 2 con_112 := ⟨wd_682, wd_125, mh_X11_hasBit, .inr (.inl ⟨rfl, by decide +kernel, wd_681, pd_X11_hasBit⟩)⟩
theorem ck_RX6_147_113 : COK2 RX6 vwCl gTbl 147 2 con_113 := ⟨wd_682, wd_125, mh_X11_hasBit, .inr (.inl ⟨rfl, by decide +kernel, wd_681, pd_X11_hasBit⟩)⟩
theorem ck_RX6_147_114 : COK2 RX6 vwCl gTbl 147 2 con_114 := ⟨wd_682, wd_125, mh_X11_hasBit, .inr (.inl ⟨rfl, by decide +kernel, wd_681, pd_X11_hasBit⟩)⟩
theorem ck_RX6_147_115 : COK2 RX6 vwCl gTbl 147 2 con_115 := ⟨wd_682, wd_125, mh_X11_hasBit, .inr (.inl ⟨rfl, by decide +kernel, wd_681, pd_X11_hasBit⟩)⟩
noncomputable def ct_116 : CTB2 := [(22, 70, 0, con_15, [0, 1]), (55, 147, 2, con_115, []), (55, 147, 2, con_114, []), (55, 147, 2, con_113, []), (55, 147, 2, con_112, []), (55, 147, 2, con_111, []), (63, 70, 0, con_19, [0, 1]), (72, 102, 0, con_10, [1, 2])]
noncomputable def cu_116 : List CUT2 := []
theorem ch_116 : staG tb_X6_takeNumber 1 bt_RX6 [] ct_116 [(52, [(1, (1, 4, 0), 0, 0)])] [] cu_116 31 con_116 = true := by decide +kernel
theorem cto_116 (l : Launch) : CTOK2 l RX6 vwCl gTbl ct_116 := ct2_cons (vl_15 l) ck_RX6_70_15 (ct2_cons (vl_115 l) ck_RX6_147_115 (ct2_cons (vl_114 l) ck_RX6_147_114 (ct2_cons (vl_113 l) ck_RX6_147_113 (ct2_cons (vl_112 l) ck_RX6_147_112 (ct2_cons (vl_111 l) ck_RX6_147_111 (ct2_cons (vl_19 l) ck_RX6_70_19 (ct2_cons (vl_10 l) ck_RX6_102_10 (ct2_nil))))))))
theorem vl_116 (l : Launch) : Vld2 l vwCl gTbl con_116 := conR_ok3 gT_all (hd_116) rfl pn_RX6 tk_X6_takeNumber bo_RX6 xo_RX6 (cto_116 l) ch_116 cut_nil
/-- RookHusting hasBit -/
noncomputable def con_117 : Con2 := ((yX11_hasBit, cX11_hasBit, 2, (some .boolean)), (0, 0), ([(0, 18, 0), (0, 4, 0)], [(0, 0), (0, 0)], [], []), [((0, 1, 0), [(0, 0), (0, 0), (0, 0)], [], [], [1])])
theorem hd_117 : con_117.1 = (yX11_hasBit, cX11_hasBit, 2, (some .boolean)) := rfl
noncomputable def ct_117 : CTB2 := []
noncomputable def cu_117 : List CUT2 := []
theorem ch_117 : staG tb_X11_hasBit 1 bt_RX11 [] ct_117 [] [] cu_117 12 con_117 = true := by decide +kernel
theorem cto_117 (l : Launch) : CTOK2 l RX11 vwCl gTbl ct_117 := ct2_nil
theorem vl_117 (l : Launch) : Vld2 l vwCl gTbl con_117 := conR_ok3 gT_all (hd_117) rfl pn_RX11 tk_X11_hasBit bo_RX11 xo_RX11 (cto_117 l) ch_117 cut_nil
/-- RookHusting hasBit -/
noncomputable def con_118 : Con2 := ((yX11_hasBit, cX11_hasBit, 2, (some .boolean)), (0, 0), ([(0, 18, 0), (0, 3, 0)], [(0, 0), (0, 0)], [], []), [((0, 0, 0), [(0, 0), (0, 0), (0, 0)], [], [], [1])])
theorem hd_118 : con_118.1 = (yX11_hasBit, cX11_hasBit, 2, (some .boolean)) := rfl
noncomputable def ct_118 : CTB2 := []
noncomputable def cu_118 : List CUT2 := []
theorem ch_118 : staG tb_X11_hasBit 1 bt_RX11 [] ct_118 [] [] cu_118 11 con_118 = true := by decide +kernel
theorem cto_118 (l : Launch) : CTOK2 l RX11 vwCl gTbl ct_118 := ct2_nil
theorem vl_118 (l : Launch) : Vld2 l vwCl gTbl con_118 := conR_ok3 gT_all (hd_118) rfl pn_RX11 tk_X11_hasBit bo_RX11 xo_RX11 (cto_118 l) ch_118 cut_nil
/-- RookHusting hasBit -/
noncomputable def con_119 : Con2 := ((yX11_hasBit, cX11_hasBit, 2, (some .boolean)), (0, 0), ([(0, 18, 0), (0, 2, 0)], [(0, 0), (0, 0)], [], []), [((0, 0, 0), [(0, 0), (0, 0), (0, 0)], [], [], [1])])
theorem hd_119 : con_119.1 = (yX11_hasBit, cX11_hasBit, 2, (some .boolean)) := rfl
noncomputable def ct_119 : CTB2 := []
noncomputable def cu_119 : List CUT2 := []
theorem ch_119 : staG tb_X11_hasBit 1 bt_RX11 [] ct_119 [] [] cu_119 11 con_119 = true := by decide +kernel
theorem cto_119 (l : Launch) : CTOK2 l RX11 vwCl gTbl ct_119 := ct2_nil
theorem vl_119 (l : Launch) : Vld2 l vwCl gTbl con_119 := conR_ok3 gT_all (hd_119) rfl pn_RX11 tk_X11_hasBit bo_RX11 xo_RX11 (cto_119 l) ch_119 cut_nil
/-- RookHusting hasBit -/
noncomputable def con_120 : Con2 := ((yX11_hasBit, cX11_hasBit, 2, (some .boolean)), (0, 0), ([(0, 18, 0), (0, 1, 0)], [(0, 0), (0, 0)], [], []), [((0, 1, 0), [(0, 0), (0, 0), (0, 0)], [], [], [1])])
theorem hd_120 : con_120.1 = (yX11_hasBit, cX11_hasBit, 2, (some .boolean)) := rfl
noncomputable def ct_120 : CTB2 := []
noncomputable def cu_120 : List CUT2 := []
theorem ch_120 : staG tb_X11_hasBit 1 bt_RX11 [] ct_120 [] [] cu_120 12 con_120 = true := by decide +kernel
theorem cto_120 (l : Launch) : CTOK2 l RX11 vwCl gTbl ct_120 := ct2_nil
theorem vl_120 (l : Launch) : Vld2 l vwCl gTbl con_120 := conR_ok3 gT_all (hd_120) rfl pn_RX11 tk_X11_hasBit bo_RX11 xo_RX11 (cto_120 l) ch_120 cut_nil
/-- RookHusting hasBit -/
noncomputable def con_121 : Con2 := ((yX11_hasBit, cX11_hasBit, 2, (some .boolean)), (0, 0), ([(0, 18, 0), (0, 0, 0)], [(0, 0), (0, 0)], [], []), [((0, 0, 0), [(0, 0), (0, 0), (0, 0)], [], [], [1])])
theorem hd_121 : con_121.1 = (yX11_hasBit, cX11_hasBit, 2, (some .boolean)) := rfl
noncomputable def ct_121 : CTB2 := []
noncomputable def cu_121 : List CUT2 := []
theorem ch_121 : staG tb_X11_hasBit 1 bt_RX11 [] ct_121 [] [] cu_121 11 con_121 = true := by decide +kernel
theorem cto_121 (l : Launch) : CTOK2 l RX11 vwCl gTbl ct_121 := ct2_nil
theorem vl_121 (l : Launch) : Vld2 l vwCl gTbl con_121 := conR_ok3 gT_all (hd_121) rfl pn_RX11 tk_X11_hasBit bo_RX11 xo_RX11 (cto_121 l) ch_121 cut_nil
/-- RookHusting$Reader takeNumber -/
noncomputable def con_122 : Con2 := ((yX6_takeNumber, cX6_takeNumber, 5, (some .int)), (2, 40), ([(6, 0, 0), (0, 0, 0), (1, 2, 0), (0, 18, 0)], gi_92, hc_5, []), [((0, 0, 0), gi_93, hq_13, [], [1, 1, 1, 1, 1]), ((0, 0, 0), gi_94, hq_14, [], [1, 1, 1, 1, 1, 1, 1]), ((0, 2, 0), gi_74, hq_14, [], [1, 1, 1, 1, 1, 1, 1]), ((0, 3, 0), gi_75, hq_14, [], [1, 1, 1, 1, 1, 1, 1])])
theorem hd_122 : con_122.1 = (yX6_takeNumber, cX6_takeNumber, 5, (some .int)) := rfl
theorem ck_RX6_147_117 : COK2 RX6 vwCl gTbl 147 2 con_117 := ⟨wd_682, wd_125, mh_X11_hasBit, .inr (.inl ⟨rfl, by decide +kernel, wd_681, pd_X11_hasBit⟩)⟩
theorem ck_RX6_147_118 : COK2 RX6 vwCl gTbl 147 2 con_118 := ⟨wd_682, wd_125, mh_X11_hasBit, .inr (.inl ⟨rfl, by decide +kernel, wd_681, pd_X11_hasBit⟩)⟩
theorem ck_RX6_147_119 : COK2 RX6 vwCl gTbl 147 2 con_119 := ⟨wd_682, wd_125, mh_X11_hasBit, .inr (.inl ⟨rfl, by decide +kernel, wd_681, pd_X11_hasBit⟩)⟩
theorem ck_RX6_147_120 : COK2 RX6 vwCl gTbl 147 2 con_120 := ⟨wd_682, wd_125, mh_X11_hasBit, .inr (.inl ⟨rfl, by decide +kernel, wd_681, pd_X11_hasBit⟩)⟩
theorem ck_RX6_147_121 : COK2 RX6 vwCl gTbl 147 2 con_121 := ⟨wd_682, wd_125, mh_X11_hasBit, .inr (.inl ⟨rfl, by decide +kernel, wd_681, pd_X11_hasBit⟩)⟩
noncomputable def ct_122 : CTB2 := [(22, 70, 0, con_15, [0, 1]), (55, 147, 2, con_121, []), (55, 147, 2, con_120, []), (55, 147, 2, con_119, []), (55, 147, 2, con_118, []), (55, 147, 2, con_117, []), (63, 70, 0, con_19, [0, 1]), (72, 102, 0, con_10, [1, 2])]
noncomputable def cu_122 : List CUT2 := []
theorem ch_122 : staG tb_X6_takeNumber 1 bt_RX6 [] ct_122 [(52, [(1, (1, 4, 0), 0, 0)])] [] cu_122 31 con_122 = true := by decide +kernel
theorem cto_122 (l : Launch) : CTOK2 l RX6 vwCl gTbl ct_122 := ct2_cons (vl_15 l) ck_RX6_70_15 (ct2_cons (vl_121 l) ck_RX6_147_121 (ct2_cons (vl_120 l) ck_RX6_147_120 (ct2_cons (vl_119 l) ck_RX6_147_119 (ct2_cons (vl_118 l) ck_RX6_147_118 (ct2_cons (vl_117 l) ck_RX6_147_117 (ct2_cons (vl_19 l) ck_RX6_70_19 (ct2_cons (vl_10 l) ck_RX6_102_10 (ct2_nil))))))))
theorem vl_122 (l : Launch) : Vld2 l vwCl gTbl con_122 := conR_ok3 gT_all (hd_122) rfl pn_RX6 tk_X6_takeNumber bo_RX6 xo_RX6 (cto_122 l) ch_122 cut_nil
/-- RookHusting hasBit -/
noncomputable def con_123 : Con2 := ((yX11_hasBit, cX11_hasBit, 2, (some .boolean)), (0, 0), ([(0, 17, 0), (0, 4, 0)], [(0, 0), (0, 0)], [], []), [((0, 1, 0), [(0, 0), (0, 0), (0, 0)], [], [], [1])])
theorem hd_123 : con_123.1 = (yX11_hasBit, cX11_hasBit, 2, (some .boolean)) := rfl
noncomputable def ct_123 : CTB2 := []
noncomputable def cu_123 : List CUT2 := []
theorem ch_123 : staG tb_X11_hasBit 1 bt_RX11 [] ct_123 [] [] cu_123 12 con_123 = true := by decide +kernel
theorem cto_123 (l : Launch) : CTOK2 l RX11 vwCl gTbl ct_123 := ct2_nil
theorem vl_123 (l : Launch) : Vld2 l vwCl gTbl con_123 := conR_ok3 gT_all (hd_123) rfl pn_RX11 tk_X11_hasBit bo_RX11 xo_RX11 (cto_123 l) ch_123 cut_nil
/-- RookHusting hasBit -/
noncomputable def con_124 : Con2 := ((yX11_hasBit, cX11_hasBit, 2, (some .boolean)), (0, 0), ([(0, 17, 0), (0, 3, 0)], [(0, 0), (0, 0)], [], []), [((0, 0, 0), [(0, 0), (0, 0), (0, 0)], [], [], [1])])
theorem hd_124 : con_124.1 = (yX11_hasBit, cX11_hasBit, 2, (some .boolean)) := rfl
noncomputable def ct_124 : CTB2 := []
noncomputable def cu_124 : List CUT2 := []
theorem ch_124 : staG tb_X11_hasBit 1 bt_RX11 [] ct_124 [] [] cu_124 11 con_124 = true := by decide +kernel
theorem cto_124 (l : Launch) : CTOK2 l RX11 vwCl gTbl ct_124 := ct2_nil
theorem vl_124 (l : Launch) : Vld2 l vwCl gTbl con_124 := conR_ok3 gT_all (hd_124) rfl pn_RX11 tk_X11_hasBit bo_RX11 xo_RX11 (cto_124 l) ch_124 cut_nil
/-- RookHusting hasBit -/
noncomputable def con_125 : Con2 := ((yX11_hasBit, cX11_hasBit, 2, (some .boolean)), (0, 0), ([(0, 17, 0), (0, 2, 0)], [(0, 0), (0, 0)], [], []), [((0, 0, 0), [(0, 0), (0, 0), (0, 0)], [], [], [1])])
theorem hd_125 : con_125.1 = (yX11_hasBit, cX11_hasBit, 2, (some .boolean)) := rfl
noncomputable def ct_125 : CTB2 := []
noncomputable def cu_125 : List CUT2 := []
theorem ch_125 : staG tb_X11_hasBit 1 bt_RX11 [] ct_125 [] [] cu_125 11 con_125 = true := by decide +kernel
theorem cto_125 (l : Launch) : CTOK2 l RX11 vwCl gTbl ct_125 := ct2_nil
theorem vl_125 (l : Launch) : Vld2 l vwCl gTbl con_125 := conR_ok3 gT_all (hd_125) rfl pn_RX11 tk_X11_hasBit bo_RX11 xo_RX11 (cto_125 l) ch_125 cut_nil
/-- RookHusting hasBit -/
noncomputable def con_126 : Con2 := ((yX11_hasBit, cX11_hasBit, 2, (some .boolean)), (0, 0), ([(0, 17, 0), (0, 1, 0)], [(0, 0), (0, 0)], [], []), [((0, 0, 0), [(0, 0), (0, 0), (0, 0)], [], [], [1])])
theorem hd_126 : con_126.1 = (yX11_hasBit, cX11_hasBit, 2, (some .boolean)) := rfl
noncomputable def ct_126 : CTB2 := []
noncomputable def cu_126 : List CUT2 := []
theorem ch_126 : staG tb_X11_hasBit 1 bt_RX11 [] ct_126 [] [] cu_126 11 con_126 = true := by decide +kernel
theorem cto_126 (l : Launch) : CTOK2 l RX11 vwCl gTbl ct_126 := ct2_nil
theorem vl_126 (l : Launch) : Vld2 l vwCl gTbl con_126 := conR_ok3 gT_all (hd_126) rfl pn_RX11 tk_X11_hasBit bo_RX11 xo_RX11 (cto_126 l) ch_126 cut_nil
/-- RookHusting hasBit -/
noncomputable def con_127 : Con2 := ((yX11_hasBit, cX11_hasBit, 2, (some .boolean)), (0, 0), ([(0, 17, 0), (0, 0, 0)], [(0, 0), (0, 0)], [], []), [((0, 1, 0), [(0, 0), (0, 0), (0, 0)], [], [], [1])])
theorem hd_127 : con_127.1 = (yX11_hasBit, cX11_hasBit, 2, (some .boolean)) := rfl
noncomputable def ct_127 : CTB2 := []
noncomputable def cu_127 : List CUT2 := []
theorem ch_127 : staG tb_X11_hasBit 1 bt_RX11 [] ct_127 [] [] cu_127 12 con_127 = true := by decide +kernel
theorem cto_127 (l : Launch) : CTOK2 l RX11 vwCl gTbl ct_127 := ct2_nil
theorem vl_127 (l : Launch) : Vld2 l vwCl gTbl con_127 := conR_ok3 gT_all (hd_127) rfl pn_RX11 tk_X11_hasBit bo_RX11 xo_RX11 (cto_127 l) ch_127 cut_nil
/-- RookHusting$Reader takeNumber -/
noncomputable def con_128 : Con2 := ((yX6_takeNumber, cX6_takeNumber, 5, (some .int)), (2, 40), ([(6, 0, 0), (0, 0, 0), (1, 2, 0), (0, 17, 0)], gi_92, hc_5, []), [((0, 0, 0), gi_93, hq_13, [], [1, 1, 1, 1, 1]), ((0, 1, 0), gi_73, hq_14, [], [1, 1, 1, 1, 1, 1, 1]), ((0, 2, 0), gi_74, hq_14, [], [1, 1, 1, 1, 1, 1, 1]), ((0, 3, 0), gi_75, hq_14, [], [1, 1, 1, 1, 1, 1, 1])])
theorem hd_128 : con_128.1 = (yX6_takeNumber, cX6_takeNumber, 5, (some .int)) := rfl
theorem ck_RX6_147_123 : COK2 RX6 vwCl gTbl 147 2 con_123 := ⟨wd_682, wd_125, mh_X11_hasBit, .inr (.inl ⟨rfl, by decide +kernel, wd_681, pd_X11_hasBit⟩)⟩
theorem ck_RX6_147_124 : COK2 RX6 vwCl gTbl 147 2 con_124 := ⟨wd_682, wd_125, mh_X11_hasBit, .inr (.inl ⟨rfl, by decide +kernel, wd_681, pd_X11_hasBit⟩)⟩
theorem ck_RX6_147_125 : COK2 RX6 vwCl gTbl 147 2 con_125 := ⟨wd_682, wd_125, mh_X11_hasBit, .inr (.inl ⟨rfl, by decide +kernel, wd_681, pd_X11_hasBit⟩)⟩
theorem ck_RX6_147_126 : COK2 RX6 vwCl gTbl 147 2 con_126 := ⟨wd_682, wd_125, mh_X11_hasBit, .inr (.inl ⟨rfl, by decide +kernel, wd_681, pd_X11_hasBit⟩)⟩
theorem ck_RX6_147_127 : COK2 RX6 vwCl gTbl 147 2 con_127 := ⟨wd_682, wd_125, mh_X11_hasBit, .inr (.inl ⟨rfl, by decide +kernel, wd_681, pd_X11_hasBit⟩)⟩
noncomputable def ct_128 : CTB2 := [(22, 70, 0, con_15, [0, 1]), (55, 147, 2, con_127, []), (55, 147, 2, con_126, []), (55, 147, 2, con_125, []), (55, 147, 2, con_124, []), (55, 147, 2, con_123, []), (63, 70, 0, con_19, [0, 1]), (72, 102, 0, con_10, [1, 2])]
noncomputable def cu_128 : List CUT2 := []
theorem ch_128 : staG tb_X6_takeNumber 1 bt_RX6 [] ct_128 [(52, [(1, (1, 4, 0), 0, 0)])] [] cu_128 31 con_128 = true := by decide +kernel
theorem cto_128 (l : Launch) : CTOK2 l RX6 vwCl gTbl ct_128 := ct2_cons (vl_15 l) ck_RX6_70_15 (ct2_cons (vl_127 l) ck_RX6_147_127 (ct2_cons (vl_126 l) ck_RX6_147_126 (ct2_cons (vl_125 l) ck_RX6_147_125 (ct2_cons (vl_124 l) ck_RX6_147_124 (ct2_cons (vl_123 l) ck_RX6_147_123 (ct2_cons (vl_19 l) ck_RX6_70_19 (ct2_cons (vl_10 l) ck_RX6_102_10 (ct2_nil))))))))
theorem vl_128 (l : Launch) : Vld2 l vwCl gTbl con_128 := conR_ok3 gT_all (hd_128) rfl pn_RX6 tk_X6_takeNumber bo_RX6 xo_RX6 (cto_128 l) ch_128 cut_nil
/-- RookHusting hasBit -/
noncomputable def con_129 : Con2 := ((yX11_hasBit, cX11_hasBit, 2, (some .boolean)), (0, 0), ([(0, 12, 0), (0, 4, 0)], [(0, 0), (0, 0)], [], []), [((0, 0, 0), [(0, 0), (0, 0), (0, 0)], [], [], [1])])
theorem hd_129 : con_129.1 = (yX11_hasBit, cX11_hasBit, 2, (some .boolean)) := rfl
noncomputable def ct_129 : CTB2 := []
noncomputable def cu_129 : List CUT2 := []
theorem ch_129 : staG tb_X11_hasBit 1 bt_RX11 [] ct_129 [] [] cu_129 11 con_129 = true := by decide +kernel
theorem cto_129 (l : Launch) : CTOK2 l RX11 vwCl gTbl ct_129 := ct2_nil
theorem vl_129 (l : Launch) : Vld2 l vwCl gTbl con_129 := conR_ok3 gT_all (hd_129) rfl pn_RX11 tk_X11_hasBit bo_RX11 xo_RX11 (cto_129 l) ch_129 cut_nil
/-- RookHusting hasBit -/
noncomputable def con_130 : Con2 := ((yX11_hasBit, cX11_hasBit, 2, (some .boolean)), (0, 0), ([(0, 12, 0), (0, 3, 0)], [(0, 0), (0, 0)], [], []), [((0, 1, 0), [(0, 0), (0, 0), (0, 0)], [], [], [1])])
theorem hd_130 : con_130.1 = (yX11_hasBit, cX11_hasBit, 2, (some .boolean)) := rfl
noncomputable def ct_130 : CTB2 := []
noncomputable def cu_130 : List CUT2 := []
theorem ch_130 : staG tb_X11_hasBit 1 bt_RX11 [] ct_130 [] [] cu_130 12 con_130 = true := by decide +kernel
theorem cto_130 (l : Launch) : CTOK2 l RX11 vwCl gTbl ct_130 := ct2_nil
theorem vl_130 (l : Launch) : Vld2 l vwCl gTbl con_130 := conR_ok3 gT_all (hd_130) rfl pn_RX11 tk_X11_hasBit bo_RX11 xo_RX11 (cto_130 l) ch_130 cut_nil
/-- RookHusting hasBit -/
noncomputable def con_131 : Con2 := ((yX11_hasBit, cX11_hasBit, 2, (some .boolean)), (0, 0), ([(0, 12, 0), (0, 2, 0)], [(0, 0), (0, 0)], [], []), [((0, 1, 0), [(0, 0), (0, 0), (0, 0)], [], [], [1])])
theorem hd_131 : con_131.1 = (yX11_hasBit, cX11_hasBit, 2, (some .boolean)) := rfl
noncomputable def ct_131 : CTB2 := []
noncomputable def cu_131 : List CUT2 := []
theorem ch_131 : staG tb_X11_hasBit 1 bt_RX11 [] ct_131 [] [] cu_131 12 con_131 = true := by decide +kernel
theorem cto_131 (l : Launch) : CTOK2 l RX11 vwCl gTbl ct_131 := ct2_nil
theorem vl_131 (l : Launch) : Vld2 l vwCl gTbl con_131 := conR_ok3 gT_all (hd_131) rfl pn_RX11 tk_X11_hasBit bo_RX11 xo_RX11 (cto_131 l) ch_131 cut_nil
/-- RookHusting hasBit -/
noncomputable def con_132 : Con2 := ((yX11_hasBit, cX11_hasBit, 2, (some .boolean)), (0, 0), ([(0, 12, 0), (0, 1, 0)], [(0, 0), (0, 0)], [], []), [((0, 0, 0), [(0, 0), (0, 0), (0, 0)], [], [], [1])])
theorem hd_132 : con_132.1 = (yX11_hasBit, cX11_hasBit, 2, (some .boolean)) := rfl
noncomputable def ct_132 : CTB2 := []
noncomputable def cu_132 : List CUT2 := []
theorem ch_132 : staG tb_X11_hasBit 1 bt_RX11 [] ct_132 [] [] cu_132 11 con_132 = true := by decide +kernel
theorem cto_132 (l : Launch) : CTOK2 l RX11 vwCl gTbl ct_132 := ct2_nil
theorem vl_132 (l : Launch) : Vld2 l vwCl gTbl con_132 := conR_ok3 gT_all (hd_132) rfl pn_RX11 tk_X11_hasBit bo_RX11 xo_RX11 (cto_132 l) ch_132 cut_nil
/-- RookHusting hasBit -/
noncomputable def con_133 : Con2 := ((yX11_hasBit, cX11_hasBit, 2, (some .boolean)), (0, 0), ([(0, 12, 0), (0, 0, 0)], [(0, 0), (0, 0)], [], []), [((0, 0, 0), [(0, 0), (0, 0), (0, 0)], [], [], [1])])
theorem hd_133 : con_133.1 = (yX11_hasBit, cX11_hasBit, 2, (some .boolean)) := rfl
noncomputable def ct_133 : CTB2 := []
noncomputable def cu_133 : List CUT2 := []
theorem ch_133 : staG tb_X11_hasBit 1 bt_RX11 [] ct_133 [] [] cu_133 11 con_133 = true := by decide +kernel
theorem cto_133 (l : Launch) : CTOK2 l RX11 vwCl gTbl ct_133 := ct2_nil
theorem vl_133 (l : Launch) : Vld2 l vwCl gTbl con_133 := conR_ok3 gT_all (hd_133) rfl pn_RX11 tk_X11_hasBit bo_RX11 xo_RX11 (cto_133 l) ch_133 cut_nil
/-- RookHusting$Reader takeNumber -/
noncomputable def con_134 : Con2 := ((yX6_takeNumber, cX6_takeNumber, 5, (some .int)), (2, 40), ([(6, 0, 0), (0, 0, 0), (1, 2, 0), (0, 12, 0)], gi_92, hc_5, []), [((0, 0, 0), gi_93, hq_13, [], [1, 1, 1, 1, 1]), ((0, 0, 0), gi_94, hq_14, [], [1, 1, 1, 1, 1, 1, 1]), ((0, 1, 0), gi_73, hq_14, [], [1, 1, 1, 1, 1, 1, 1]), ((0, 4, 0), gi_76, hq_14, [], [1, 1, 1, 1, 1, 1, 1])])
theorem hd_134 : con_134.1 = (yX6_takeNumber, cX6_takeNumber, 5, (some .int)) := rfl
theorem ck_RX6_147_129 : COK2 RX6 vwCl gTbl 147 2 con_129 := ⟨wd_682, wd_125, mh_X11_hasBit, .inr (.inl ⟨rfl, by decide +kernel, wd_681, pd_X11_hasBit⟩)⟩
theorem ck_RX6_147_130 : COK2 RX6 vwCl gTbl 147 2 con_130 := ⟨wd_682, wd_125, mh_X11_hasBit, .inr (.inl ⟨rfl, by decide +kernel, wd_681, pd_X11_hasBit⟩)⟩
theorem ck_RX6_147_131 : COK2 RX6 vwCl gTbl 147 2 con_131 := ⟨wd_682, wd_125, mh_X11_hasBit, .inr (.inl ⟨rfl, by decide +kernel, wd_681, pd_X11_hasBit⟩)⟩
theorem ck_RX6_147_132 : COK2 RX6 vwCl gTbl 147 2 con_132 := ⟨wd_682, wd_125, mh_X11_hasBit, .inr (.inl ⟨rfl, by decide +kernel, wd_681, pd_X11_hasBit⟩)⟩
theorem ck_RX6_147_133 : COK2 RX6 vwCl gTbl 147 2 con_133 := ⟨wd_682, wd_125, mh_X11_hasBit, .inr (.inl ⟨rfl, by decide +kernel, wd_681, pd_X11_hasBit⟩)⟩
noncomputable def ct_134 : CTB2 := [(22, 70, 0, con_15, [0, 1]), (55, 147, 2, con_133, []), (55, 147, 2, con_132, []), (55, 147, 2, con_131, []), (55, 147, 2, con_130, []), (55, 147, 2, con_129, []), (63, 70, 0, con_19, [0, 1]), (72, 102, 0, con_10, [1, 2])]
noncomputable def cu_134 : List CUT2 := []
theorem ch_134 : staG tb_X6_takeNumber 1 bt_RX6 [] ct_134 [(52, [(1, (1, 4, 0), 0, 0)])] [] cu_134 31 con_134 = true := by decide +kernel
theorem cto_134 (l : Launch) : CTOK2 l RX6 vwCl gTbl ct_134 := ct2_cons (vl_15 l) ck_RX6_70_15 (ct2_cons (vl_133 l) ck_RX6_147_133 (ct2_cons (vl_132 l) ck_RX6_147_132 (ct2_cons (vl_131 l) ck_RX6_147_131 (ct2_cons (vl_130 l) ck_RX6_147_130 (ct2_cons (vl_129 l) ck_RX6_147_129 (ct2_cons (vl_19 l) ck_RX6_70_19 (ct2_cons (vl_10 l) ck_RX6_102_10 (ct2_nil))))))))
theorem vl_134 (l : Launch) : Vld2 l vwCl gTbl con_134 := conR_ok3 gT_all (hd_134) rfl pn_RX6 tk_X6_takeNumber bo_RX6 xo_RX6 (cto_134 l) ch_134 cut_nil
/-- RookHusting hasBit -/
noncomputable def con_135 : Con2 := ((yX11_hasBit, cX11_hasBit, 2, (some .boolean)), (0, 0), ([(0, 10, 0), (0, 4, 0)], [(0, 0), (0, 0)], [], []), [((0, 0, 0), [(0, 0), (0, 0), (0, 0)], [], [], [1])])
theorem hd_135 : con_135.1 = (yX11_hasBit, cX11_hasBit, 2, (some .boolean)) := rfl
noncomputable def ct_135 : CTB2 := []
noncomputable def cu_135 : List CUT2 := []
theorem ch_135 : staG tb_X11_hasBit 1 bt_RX11 [] ct_135 [] [] cu_135 11 con_135 = true := by decide +kernel
theorem cto_135 (l : Launch) : CTOK2 l RX11 vwCl gTbl ct_135 := ct2_nil
theorem vl_135 (l : Launch) : Vld2 l vwCl gTbl con_135 := conR_ok3 gT_all (hd_135) rfl pn_RX11 tk_X11_hasBit bo_RX11 xo_RX11 (cto_135 l) ch_135 cut_nil
/-- RookHusting hasBit -/
noncomputable def con_136 : Con2 := ((yX11_hasBit, cX11_hasBit, 2, (some .boolean)), (0, 0), ([(0, 10, 0), (0, 3, 0)], [(0, 0), (0, 0)], [], []), [((0, 1, 0), [(0, 0), (0, 0), (0, 0)], [], [], [1])])
theorem hd_136 : con_136.1 = (yX11_hasBit, cX11_hasBit, 2, (some .boolean)) := rfl
noncomputable def ct_136 : CTB2 := []
noncomputable def cu_136 : List CUT2 := []
theorem ch_136 : staG tb_X11_hasBit 1 bt_RX11 [] ct_136 [] [] cu_136 12 con_136 = true := by decide +kernel
theorem cto_136 (l : Launch) : CTOK2 l RX11 vwCl gTbl ct_136 := ct2_nil
theorem vl_136 (l : Launch) : Vld2 l vwCl gTbl con_136 := conR_ok3 gT_all (hd_136) rfl pn_RX11 tk_X11_hasBit bo_RX11 xo_RX11 (cto_136 l) ch_136 cut_nil
/-- RookHusting hasBit -/
noncomputable def con_137 : Con2 := ((yX11_hasBit, cX11_hasBit, 2, (some .boolean)), (0, 0), ([(0, 10, 0), (0, 2, 0)], [(0, 0), (0, 0)], [], []), [((0, 0, 0), [(0, 0), (0, 0), (0, 0)], [], [], [1])])
theorem hd_137 : con_137.1 = (yX11_hasBit, cX11_hasBit, 2, (some .boolean)) := rfl
noncomputable def ct_137 : CTB2 := []
noncomputable def cu_137 : List CUT2 := []
theorem ch_137 : staG tb_X11_hasBit 1 bt_RX11 [] ct_137 [] [] cu_137 11 con_137 = true := by decide +kernel
theorem cto_137 (l : Launch) : CTOK2 l RX11 vwCl gTbl ct_137 := ct2_nil
theorem vl_137 (l : Launch) : Vld2 l vwCl gTbl con_137 := conR_ok3 gT_all (hd_137) rfl pn_RX11 tk_X11_hasBit bo_RX11 xo_RX11 (cto_137 l) ch_137 cut_nil
/-- RookHusting hasBit -/
noncomputable def con_138 : Con2 := ((yX11_hasBit, cX11_hasBit, 2, (some .boolean)), (0, 0), ([(0, 10, 0), (0, 1, 0)], [(0, 0), (0, 0)], [], []), [((0, 1, 0), [(0, 0), (0, 0), (0, 0)], [], [], [1])])
theorem hd_138 : con_138.1 = (yX11_hasBit, cX11_hasBit, 2, (some .boolean)) := rfl
noncomputable def ct_138 : CTB2 := []
noncomputable def cu_138 : List CUT2 := []
theorem ch_138 : staG tb_X11_hasBit 1 bt_RX11 [] ct_138 [] [] cu_138 12 con_138 = true := by decide +kernel
theorem cto_138 (l : Launch) : CTOK2 l RX11 vwCl gTbl ct_138 := ct2_nil
theorem vl_138 (l : Launch) : Vld2 l vwCl gTbl con_138 := conR_ok3 gT_all (hd_138) rfl pn_RX11 tk_X11_hasBit bo_RX11 xo_RX11 (cto_138 l) ch_138 cut_nil
/-- RookHusting hasBit -/
noncomputable def con_139 : Con2 := ((yX11_hasBit, cX11_hasBit, 2, (some .boolean)), (0, 0), ([(0, 10, 0), (0, 0, 0)], [(0, 0), (0, 0)], [], []), [((0, 0, 0), [(0, 0), (0, 0), (0, 0)], [], [], [1])])
theorem hd_139 : con_139.1 = (yX11_hasBit, cX11_hasBit, 2, (some .boolean)) := rfl
noncomputable def ct_139 : CTB2 := []
noncomputable def cu_139 : List CUT2 := []
theorem ch_139 : staG tb_X11_hasBit 1 bt_RX11 [] ct_139 [] [] cu_139 11 con_139 = true := by decide +kernel
theorem cto_139 (l : Launch) : CTOK2 l RX11 vwCl gTbl ct_139 := ct2_nil
theorem vl_139 (l : Launch) : Vld2 l vwCl gTbl con_139 := conR_ok3 gT_all (hd_139) rfl pn_RX11 tk_X11_hasBit bo_RX11 xo_RX11 (cto_139 l) ch_139 cut_nil
/-- RookHusting$Reader takeNumber -/
noncomputable def con_140 : Con2 := ((yX6_takeNumber, cX6_takeNumber, 5, (some .int)), (2, 40), ([(6, 0, 0), (0, 0, 0), (1, 2, 0), (0, 10, 0)], gi_92, hc_5, []), [((0, 0, 0), gi_93, hq_13, [], [1, 1, 1, 1, 1]), ((0, 0, 0), gi_94, hq_14, [], [1, 1, 1, 1, 1, 1, 1]), ((0, 2, 0), gi_74, hq_14, [], [1, 1, 1, 1, 1, 1, 1]), ((0, 4, 0), gi_76, hq_14, [], [1, 1, 1, 1, 1, 1, 1])])
theorem hd_140 : con_140.1 = (yX6_takeNumber, cX6_takeNumber, 5, (some .int)) := rfl
theorem ck_RX6_147_135 : COK2 RX6 vwCl gTbl 147 2 con_135 := ⟨wd_682, wd_125, mh_X11_hasBit, .inr (.inl ⟨rfl, by decide +kernel, wd_681, pd_X11_hasBit⟩)⟩
theorem ck_RX6_147_136 : COK2 RX6 vwCl gTbl 147 2 con_136 := ⟨wd_682, wd_125, mh_X11_hasBit, .inr (.inl ⟨rfl, by decide +kernel, wd_681, pd_X11_hasBit⟩)⟩
theorem ck_RX6_147_137 : COK2 RX6 vwCl gTbl 147 2 con_137 := ⟨wd_682, wd_125, mh_X11_hasBit, .inr (.inl ⟨rfl, by decide +kernel, wd_681, pd_X11_hasBit⟩)⟩
theorem ck_RX6_147_138 : COK2 RX6 vwCl gTbl 147 2 con_138 := ⟨wd_682, wd_125, mh_X11_hasBit, .inr (.inl ⟨rfl, by decide +kernel, wd_681, pd_X11_hasBit⟩)⟩
theorem ck_RX6_147_139 : COK2 RX6 vwCl gTbl 147 2 con_139 := ⟨wd_682, wd_125, mh_X11_hasBit, .inr (.inl ⟨rfl, by decide +kernel, wd_681, pd_X11_hasBit⟩)⟩
noncomputable def ct_140 : CTB2 := [(22, 70, 0, con_15, [0, 1]), (55, 147, 2, con_139, []), (55, 147, 2, con_138, []), (55, 147, 2, con_137, []), (55, 147, 2, con_136, []), (55, 147, 2, con_135, []), (63, 70, 0, con_19, [0, 1]), (72, 102, 0, con_10, [1, 2])]
noncomputable def cu_140 : List CUT2 := []
theorem ch_140 : staG tb_X6_takeNumber 1 bt_RX6 [] ct_140 [(52, [(1, (1, 4, 0), 0, 0)])] [] cu_140 31 con_140 = true := by decide +kernel
theorem cto_140 (l : Launch) : CTOK2 l RX6 vwCl gTbl ct_140 := ct2_cons (vl_15 l) ck_RX6_70_15 (ct2_cons (vl_139 l) ck_RX6_147_139 (ct2_cons (vl_138 l) ck_RX6_147_138 (ct2_cons (vl_137 l) ck_RX6_147_137 (ct2_cons (vl_136 l) ck_RX6_147_136 (ct2_cons (vl_135 l) ck_RX6_147_135 (ct2_cons (vl_19 l) ck_RX6_70_19 (ct2_cons (vl_10 l) ck_RX6_102_10 (ct2_nil))))))))
theorem vl_140 (l : Launch) : Vld2 l vwCl gTbl con_140 := conR_ok3 gT_all (hd_140) rfl pn_RX6 tk_X6_takeNumber bo_RX6 xo_RX6 (cto_140 l) ch_140 cut_nil
/-- RookHusting hasBit -/
noncomputable def con_141 : Con2 := ((yX11_hasBit, cX11_hasBit, 2, (some .boolean)), (0, 0), ([(0, 9, 0), (0, 4, 0)], [(0, 0), (0, 0)], [], []), [((0, 0, 0), [(0, 0), (0, 0), (0, 0)], [], [], [1])])
theorem hd_141 : con_141.1 = (yX11_hasBit, cX11_hasBit, 2, (some .boolean)) := rfl
noncomputable def ct_141 : CTB2 := []
noncomputable def cu_141 : List CUT2 := []
theorem ch_141 : staG tb_X11_hasBit 1 bt_RX11 [] ct_141 [] [] cu_141 11 con_141 = true := by decide +kernel
theorem cto_141 (l : Launch) : CTOK2 l RX11 vwCl gTbl ct_141 := ct2_nil
theorem vl_141 (l : Launch) : Vld2 l vwCl gTbl con_141 := conR_ok3 gT_all (hd_141) rfl pn_RX11 tk_X11_hasBit bo_RX11 xo_RX11 (cto_141 l) ch_141 cut_nil
/-- RookHusting hasBit -/
noncomputable def con_142 : Con2 := ((yX11_hasBit, cX11_hasBit, 2, (some .boolean)), (0, 0), ([(0, 9, 0), (0, 3, 0)], [(0, 0), (0, 0)], [], []), [((0, 1, 0), [(0, 0), (0, 0), (0, 0)], [], [], [1])])
theorem hd_142 : con_142.1 = (yX11_hasBit, cX11_hasBit, 2, (some .boolean)) := rfl
noncomputable def ct_142 : CTB2 := []
noncomputable def cu_142 : List CUT2 := []
theorem ch_142 : staG tb_X11_hasBit 1 bt_RX11 [] ct_142 [] [] cu_142 12 con_142 = true := by decide +kernel
theorem cto_142 (l : Launch) : CTOK2 l RX11 vwCl gTbl ct_142 := ct2_nil
theorem vl_142 (l : Launch) : Vld2 l vwCl gTbl con_142 := conR_ok3 gT_all (hd_142) rfl pn_RX11 tk_X11_hasBit bo_RX11 xo_RX11 (cto_142 l) ch_142 cut_nil
/-- RookHusting hasBit -/
noncomputable def con_143 : Con2 := ((yX11_hasBit, cX11_hasBit, 2, (some .boolean)), (0, 0), ([(0, 9, 0), (0, 2, 0)], [(0, 0), (0, 0)], [], []), [((0, 0, 0), [(0, 0), (0, 0), (0, 0)], [], [], [1])])
theorem hd_143 : con_143.1 = (yX11_hasBit, cX11_hasBit, 2, (some .boolean)) := rfl
noncomputable def ct_143 : CTB2 := []
noncomputable def cu_143 : List CUT2 := []
theorem ch_143 : staG tb_X11_hasBit 1 bt_RX11 [] ct_143 [] [] cu_143 11 con_143 = true := by decide +kernel
theorem cto_143 (l : Launch) : CTOK2 l RX11 vwCl gTbl ct_143 := ct2_nil
theorem vl_143 (l : Launch) : Vld2 l vwCl gTbl con_143 := conR_ok3 gT_all (hd_143) rfl pn_RX11 tk_X11_hasBit bo_RX11 xo_RX11 (cto_143 l) ch_143 cut_nil
/-- RookHusting hasBit -/
noncomputable def con_144 : Con2 := ((yX11_hasBit, cX11_hasBit, 2, (some .boolean)), (0, 0), ([(0, 9, 0), (0, 1, 0)], [(0, 0), (0, 0)], [], []), [((0, 0, 0), [(0, 0), (0, 0), (0, 0)], [], [], [1])])
theorem hd_144 : con_144.1 = (yX11_hasBit, cX11_hasBit, 2, (some .boolean)) := rfl
noncomputable def ct_144 : CTB2 := []
noncomputable def cu_144 : List CUT2 := []
theorem ch_144 : staG tb_X11_hasBit 1 bt_RX11 [] ct_144 [] [] cu_144 11 con_144 = true := by decide +kernel
theorem cto_144 (l : Launch) : CTOK2 l RX11 vwCl gTbl ct_144 := ct2_nil
theorem vl_144 (l : Launch) : Vld2 l vwCl gTbl con_144 := conR_ok3 gT_all (hd_144) rfl pn_RX11 tk_X11_hasBit bo_RX11 xo_RX11 (cto_144 l) ch_144 cut_nil
/-- RookHusting hasBit -/
noncomputable def con_145 : Con2 := ((yX11_hasBit, cX11_hasBit, 2, (some .boolean)), (0, 0), ([(0, 9, 0), (0, 0, 0)], [(0, 0), (0, 0)], [], []), [((0, 1, 0), [(0, 0), (0, 0), (0, 0)], [], [], [1])])
theorem hd_145 : con_145.1 = (yX11_hasBit, cX11_hasBit, 2, (some .boolean)) := rfl
noncomputable def ct_145 : CTB2 := []
noncomputable def cu_145 : List CUT2 := []
theorem ch_145 : staG tb_X11_hasBit 1 bt_RX11 [] ct_145 [] [] cu_145 12 con_145 = true := by decide +kernel
theorem cto_145 (l : Launch) : CTOK2 l RX11 vwCl gTbl ct_145 := ct2_nil
theorem vl_145 (l : Launch) : Vld2 l vwCl gTbl con_145 := conR_ok3 gT_all (hd_145) rfl pn_RX11 tk_X11_hasBit bo_RX11 xo_RX11 (cto_145 l) ch_145 cut_nil
/-- RookHusting$Reader takeNumber -/
noncomputable def con_146 : Con2 := ((yX6_takeNumber, cX6_takeNumber, 5, (some .int)), (2, 40), ([(6, 0, 0), (0, 0, 0), (1, 2, 0), (0, 9, 0)], gi_92, hc_5, []), [((0, 0, 0), gi_93, hq_13, [], [1, 1, 1, 1, 1]), ((0, 1, 0), gi_73, hq_14, [], [1, 1, 1, 1, 1, 1, 1]), ((0, 2, 0), gi_74, hq_14, [], [1, 1, 1, 1, 1, 1, 1]), ((0, 4, 0), gi_76, hq_14, [], [1, 1, 1, 1, 1, 1, 1])])
theorem hd_146 : con_146.1 = (yX6_takeNumber, cX6_takeNumber, 5, (some .int)) := rfl
theorem ck_RX6_147_141 : COK2 RX6 vwCl gTbl 147 2 con_141 := ⟨wd_682, wd_125, mh_X11_hasBit, .inr (.inl ⟨rfl, by decide +kernel, wd_681, pd_X11_hasBit⟩)⟩
theorem ck_RX6_147_142 : COK2 RX6 vwCl gTbl 147 2 con_142 := ⟨wd_682, wd_125, mh_X11_hasBit, .inr (.inl ⟨rfl, by decide +kernel, wd_681, pd_X11_hasBit⟩)⟩
theorem ck_RX6_147_143 : COK2 RX6 vwCl gTbl 147 2 con_143 := ⟨wd_682, wd_125, mh_X11_hasBit, .inr (.inl ⟨rfl, by decide +kernel, wd_681, pd_X11_hasBit⟩)⟩
theorem ck_RX6_147_144 : COK2 RX6 vwCl gTbl 147 2 con_144 := ⟨wd_682, wd_125, mh_X11_hasBit, .inr (.inl ⟨rfl, by decide +kernel, wd_681, pd_X11_hasBit⟩)⟩
theorem ck_RX6_147_145 : COK2 RX6 vwCl gTbl 147 2 con_145 := ⟨wd_682, wd_125, mh_X11_hasBit, .inr (.inl ⟨rfl, by decide +kernel, wd_681, pd_X11_hasBit⟩)⟩
noncomputable def ct_146 : CTB2 := [(22, 70, 0, con_15, [0, 1]), (55, 147, 2, con_145, []), (55, 147, 2, con_144, []), (55, 147, 2, con_143, []), (55, 147, 2, con_142, []), (55, 147, 2, con_141, []), (63, 70, 0, con_19, [0, 1]), (72, 102, 0, con_10, [1, 2])]
noncomputable def cu_146 : List CUT2 := []
theorem ch_146 : staG tb_X6_takeNumber 1 bt_RX6 [] ct_146 [(52, [(1, (1, 4, 0), 0, 0)])] [] cu_146 31 con_146 = true := by decide +kernel
theorem cto_146 (l : Launch) : CTOK2 l RX6 vwCl gTbl ct_146 := ct2_cons (vl_15 l) ck_RX6_70_15 (ct2_cons (vl_145 l) ck_RX6_147_145 (ct2_cons (vl_144 l) ck_RX6_147_144 (ct2_cons (vl_143 l) ck_RX6_147_143 (ct2_cons (vl_142 l) ck_RX6_147_142 (ct2_cons (vl_141 l) ck_RX6_147_141 (ct2_cons (vl_19 l) ck_RX6_70_19 (ct2_cons (vl_10 l) ck_RX6_102_10 (ct2_nil))))))))
theorem vl_146 (l : Launch) : Vld2 l vwCl gTbl con_146 := conR_ok3 gT_all (hd_146) rfl pn_RX6 tk_X6_takeNumber bo_RX6 xo_RX6 (cto_146 l) ch_146 cut_nil
/-- RookHusting hasBit -/
noncomputable def con_147 : Con2 := ((yX11_hasBit, cX11_hasBit, 2, (some .boolean)), (0, 0), ([(0, 6, 0), (0, 4, 0)], [(0, 0), (0, 0)], [], []), [((0, 0, 0), [(0, 0), (0, 0), (0, 0)], [], [], [1])])
theorem hd_147 : con_147.1 = (yX11_hasBit, cX11_hasBit, 2, (some .boolean)) := rfl
noncomputable def ct_147 : CTB2 := []
noncomputable def cu_147 : List CUT2 := []
theorem ch_147 : staG tb_X11_hasBit 1 bt_RX11 [] ct_147 [] [] cu_147 11 con_147 = true := by decide +kernel
theorem cto_147 (l : Launch) : CTOK2 l RX11 vwCl gTbl ct_147 := ct2_nil
theorem vl_147 (l : Launch) : Vld2 l vwCl gTbl con_147 := conR_ok3 gT_all (hd_147) rfl pn_RX11 tk_X11_hasBit bo_RX11 xo_RX11 (cto_147 l) ch_147 cut_nil
/-- RookHusting hasBit -/
noncomputable def con_148 : Con2 := ((yX11_hasBit, cX11_hasBit, 2, (some .boolean)), (0, 0), ([(0, 6, 0), (0, 3, 0)], [(0, 0), (0, 0)], [], []), [((0, 0, 0), [(0, 0), (0, 0), (0, 0)], [], [], [1])])
theorem hd_148 : con_148.1 = (yX11_hasBit, cX11_hasBit, 2, (some .boolean)) := rfl
noncomputable def ct_148 : CTB2 := []
noncomputable def cu_148 : List CUT2 := []
theorem ch_148 : staG tb_X11_hasBit 1 bt_RX11 [] ct_148 [] [] cu_148 11 con_148 = true := by decide +kernel
theorem cto_148 (l : Launch) : CTOK2 l RX11 vwCl gTbl ct_148 := ct2_nil
theorem vl_148 (l : Launch) : Vld2 l vwCl gTbl con_148 := conR_ok3 gT_all (hd_148) rfl pn_RX11 tk_X11_hasBit bo_RX11 xo_RX11 (cto_148 l) ch_148 cut_nil
/-- RookHusting hasBit -/
noncomputable def con_149 : Con2 := ((yX11_hasBit, cX11_hasBit, 2, (some .boolean)), (0, 0), ([(0, 6, 0), (0, 2, 0)], [(0, 0), (0, 0)], [], []), [((0, 1, 0), [(0, 0), (0, 0), (0, 0)], [], [], [1])])
theorem hd_149 : con_149.1 = (yX11_hasBit, cX11_hasBit, 2, (some .boolean)) := rfl
noncomputable def ct_149 : CTB2 := []
noncomputable def cu_149 : List CUT2 := []
theorem ch_149 : staG tb_X11_hasBit 1 bt_RX11 [] ct_149 [] [] cu_149 12 con_149 = true := by decide +kernel
theorem cto_149 (l : Launch) : CTOK2 l RX11 vwCl gTbl ct_149 := ct2_nil
theorem vl_149 (l : Launch) : Vld2 l vwCl gTbl con_149 := conR_ok3 gT_all (hd_149) rfl pn_RX11 tk_X11_hasBit bo_RX11 xo_RX11 (cto_149 l) ch_149 cut_nil
/-- RookHusting hasBit -/
noncomputable def con_150 : Con2 := ((yX11_hasBit, cX11_hasBit, 2, (some .boolean)), (0, 0), ([(0, 6, 0), (0, 1, 0)], [(0, 0), (0, 0)], [], []), [((0, 1, 0), [(0, 0), (0, 0), (0, 0)], [], [], [1])])
theorem hd_150 : con_150.1 = (yX11_hasBit, cX11_hasBit, 2, (some .boolean)) := rfl
noncomputable def ct_150 : CTB2 := []
noncomputable def cu_150 : List CUT2 := []
theorem ch_150 : staG tb_X11_hasBit 1 bt_RX11 [] ct_150 [] [] cu_150 12 con_150 = true := by decide +kernel
theorem cto_150 (l : Launch) : CTOK2 l RX11 vwCl gTbl ct_150 := ct2_nil
theorem vl_150 (l : Launch) : Vld2 l vwCl gTbl con_150 := conR_ok3 gT_all (hd_150) rfl pn_RX11 tk_X11_hasBit bo_RX11 xo_RX11 (cto_150 l) ch_150 cut_nil
/-- RookHusting hasBit -/
noncomputable def con_151 : Con2 := ((yX11_hasBit, cX11_hasBit, 2, (some .boolean)), (0, 0), ([(0, 6, 0), (0, 0, 0)], [(0, 0), (0, 0)], [], []), [((0, 0, 0), [(0, 0), (0, 0), (0, 0)], [], [], [1])])
theorem hd_151 : con_151.1 = (yX11_hasBit, cX11_hasBit, 2, (some .boolean)) := rfl
noncomputable def ct_151 : CTB2 := []
noncomputable def cu_151 : List CUT2 := []
theorem ch_151 : staG tb_X11_hasBit 1 bt_RX11 [] ct_151 [] [] cu_151 11 con_151 = true := by decide +kernel
theorem cto_151 (l : Launch) : CTOK2 l RX11 vwCl gTbl ct_151 := ct2_nil
theorem vl_151 (l : Launch) : Vld2 l vwCl gTbl con_151 := conR_ok3 gT_all (hd_151) rfl pn_RX11 tk_X11_hasBit bo_RX11 xo_RX11 (cto_151 l) ch_151 cut_nil
/-- RookHusting$Reader takeNumber -/
noncomputable def con_152 : Con2 := ((yX6_takeNumber, cX6_takeNumber, 5, (some .int)), (2, 40), ([(6, 0, 0), (0, 0, 0), (1, 2, 0), (0, 6, 0)], gi_92, hc_5, []), [((0, 0, 0), gi_93, hq_13, [], [1, 1, 1, 1, 1]), ((0, 0, 0), gi_94, hq_14, [], [1, 1, 1, 1, 1, 1, 1]), ((0, 3, 0), gi_75, hq_14, [], [1, 1, 1, 1, 1, 1, 1]), ((0, 4, 0), gi_76, hq_14, [], [1, 1, 1, 1, 1, 1, 1])])
theorem hd_152 : con_152.1 = (yX6_takeNumber, cX6_takeNumber, 5, (some .int)) := rfl
theorem ck_RX6_147_147 : COK2 RX6 vwCl gTbl 147 2 con_147 := ⟨wd_682, wd_125, mh_X11_hasBit, .inr (.inl ⟨rfl, by decide +kernel, wd_681, pd_X11_hasBit⟩)⟩
theorem ck_RX6_147_148 : COK2 RX6 vwCl gTbl 147 2 con_148 := ⟨wd_682, wd_125, mh_X11_hasBit, .inr (.inl ⟨rfl, by decide +kernel, wd_681, pd_X11_hasBit⟩)⟩
theorem ck_RX6_147_149 : COK2 RX6 vwCl gTbl 147 2 con_149 := ⟨wd_682, wd_125, mh_X11_hasBit, .inr (.inl ⟨rfl, by decide +kernel, wd_681, pd_X11_hasBit⟩)⟩
theorem ck_RX6_147_150 : COK2 RX6 vwCl gTbl 147 2 con_150 := ⟨wd_682, wd_125, mh_X11_hasBit, .inr (.inl ⟨rfl, by decide +kernel, wd_681, pd_X11_hasBit⟩)⟩
theorem ck_RX6_147_151 : COK2 RX6 vwCl gTbl 147 2 con_151 := ⟨wd_682, wd_125, mh_X11_hasBit, .inr (.inl ⟨rfl, by decide +kernel, wd_681, pd_X11_hasBit⟩)⟩
noncomputable def ct_152 : CTB2 := [(22, 70, 0, con_15, [0, 1]), (55, 147, 2, con_151, []), (55, 147, 2, con_150, []), (55, 147, 2, con_149, []), (55, 147, 2, con_148, []), (55, 147, 2, con_147, []), (63, 70, 0, con_19, [0, 1]), (72, 102, 0, con_10, [1, 2])]
noncomputable def cu_152 : List CUT2 := []
theorem ch_152 : staG tb_X6_takeNumber 1 bt_RX6 [] ct_152 [(52, [(1, (1, 4, 0), 0, 0)])] [] cu_152 31 con_152 = true := by decide +kernel
theorem cto_152 (l : Launch) : CTOK2 l RX6 vwCl gTbl ct_152 := ct2_cons (vl_15 l) ck_RX6_70_15 (ct2_cons (vl_151 l) ck_RX6_147_151 (ct2_cons (vl_150 l) ck_RX6_147_150 (ct2_cons (vl_149 l) ck_RX6_147_149 (ct2_cons (vl_148 l) ck_RX6_147_148 (ct2_cons (vl_147 l) ck_RX6_147_147 (ct2_cons (vl_19 l) ck_RX6_70_19 (ct2_cons (vl_10 l) ck_RX6_102_10 (ct2_nil))))))))
theorem vl_152 (l : Launch) : Vld2 l vwCl gTbl con_152 := conR_ok3 gT_all (hd_152) rfl pn_RX6 tk_X6_takeNumber bo_RX6 xo_RX6 (cto_152 l) ch_152 cut_nil
/-- RookHusting hasBit -/
noncomputable def con_153 : Con2 := ((yX11_hasBit, cX11_hasBit, 2, (some .boolean)), (0, 0), ([(0, 5, 0), (0, 4, 0)], [(0, 0), (0, 0)], [], []), [((0, 0, 0), [(0, 0), (0, 0), (0, 0)], [], [], [1])])
theorem hd_153 : con_153.1 = (yX11_hasBit, cX11_hasBit, 2, (some .boolean)) := rfl
noncomputable def ct_153 : CTB2 := []
noncomputable def cu_153 : List CUT2 := []
theorem ch_153 : staG tb_X11_hasBit 1 bt_RX11 [] ct_153 [] [] cu_153 11 con_153 = true := by decide +kernel
theorem cto_153 (l : Launch) : CTOK2 l RX11 vwCl gTbl ct_153 := ct2_nil
theorem vl_153 (l : Launch) : Vld2 l vwCl gTbl con_153 := conR_ok3 gT_all (hd_153) rfl pn_RX11 tk_X11_hasBit bo_RX11 xo_RX11 (cto_153 l) ch_153 cut_nil
/-- RookHusting hasBit -/
noncomputable def con_154 : Con2 := ((yX11_hasBit, cX11_hasBit, 2, (some .boolean)), (0, 0), ([(0, 5, 0), (0, 3, 0)], [(0, 0), (0, 0)], [], []), [((0, 0, 0), [(0, 0), (0, 0), (0, 0)], [], [], [1])])
theorem hd_154 : con_154.1 = (yX11_hasBit, cX11_hasBit, 2, (some .boolean)) := rfl
noncomputable def ct_154 : CTB2 := []
noncomputable def cu_154 : List CUT2 := []
theorem ch_154 : staG tb_X11_hasBit 1 bt_RX11 [] ct_154 [] [] cu_154 11 con_154 = true := by decide +kernel
theorem cto_154 (l : Launch) : CTOK2 l RX11 vwCl gTbl ct_154 := ct2_nil
theorem vl_154 (l : Launch) : Vld2 l vwCl gTbl con_154 := conR_ok3 gT_all (hd_154) rfl pn_RX11 tk_X11_hasBit bo_RX11 xo_RX11 (cto_154 l) ch_154 cut_nil
/-- RookHusting hasBit -/
noncomputable def con_155 : Con2 := ((yX11_hasBit, cX11_hasBit, 2, (some .boolean)), (0, 0), ([(0, 5, 0), (0, 2, 0)], [(0, 0), (0, 0)], [], []), [((0, 1, 0), [(0, 0), (0, 0), (0, 0)], [], [], [1])])
theorem hd_155 : con_155.1 = (yX11_hasBit, cX11_hasBit, 2, (some .boolean)) := rfl
noncomputable def ct_155 : CTB2 := []
noncomputable def cu_155 : List CUT2 := []
theorem ch_155 : staG tb_X11_hasBit 1 bt_RX11 [] ct_155 [] [] cu_155 12 con_155 = true := by decide +kernel
theorem cto_155 (l : Launch) : CTOK2 l RX11 vwCl gTbl ct_155 := ct2_nil
theorem vl_155 (l : Launch) : Vld2 l vwCl gTbl con_155 := conR_ok3 gT_all (hd_155) rfl pn_RX11 tk_X11_hasBit bo_RX11 xo_RX11 (cto_155 l) ch_155 cut_nil
/-- RookHusting hasBit -/
noncomputable def con_156 : Con2 := ((yX11_hasBit, cX11_hasBit, 2, (some .boolean)), (0, 0), ([(0, 5, 0), (0, 1, 0)], [(0, 0), (0, 0)], [], []), [((0, 0, 0), [(0, 0), (0, 0), (0, 0)], [], [], [1])])
theorem hd_156 : con_156.1 = (yX11_hasBit, cX11_hasBit, 2, (some .boolean)) := rfl
noncomputable def ct_156 : CTB2 := []
noncomputable def cu_156 : List CUT2 := []
theorem ch_156 : staG tb_X11_hasBit 1 bt_RX11 [] ct_156 [] [] cu_156 11 con_156 = true := by decide +kernel
theorem cto_156 (l : Launch) : CTOK2 l RX11 vwCl gTbl ct_156 := ct2_nil
theorem vl_156 (l : Launch) : Vld2 l vwCl gTbl con_156 := conR_ok3 gT_all (hd_156) rfl pn_RX11 tk_X11_hasBit bo_RX11 xo_RX11 (cto_156 l) ch_156 cut_nil
/-- RookHusting hasBit -/
noncomputable def con_157 : Con2 := ((yX11_hasBit, cX11_hasBit, 2, (some .boolean)), (0, 0), ([(0, 5, 0), (0, 0, 0)], [(0, 0), (0, 0)], [], []), [((0, 1, 0), [(0, 0), (0, 0), (0, 0)], [], [], [1])])
theorem hd_157 : con_157.1 = (yX11_hasBit, cX11_hasBit, 2, (some .boolean)) := rfl
noncomputable def ct_157 : CTB2 := []
noncomputable def cu_157 : List CUT2 := []
theorem ch_157 : staG tb_X11_hasBit 1 bt_RX11 [] ct_157 [] [] cu_157 12 con_157 = true := by decide +kernel
theorem cto_157 (l : Launch) : CTOK2 l RX11 vwCl gTbl ct_157 := ct2_nil
theorem vl_157 (l : Launch) : Vld2 l vwCl gTbl con_157 := conR_ok3 gT_all (hd_157) rfl pn_RX11 tk_X11_hasBit bo_RX11 xo_RX11 (cto_157 l) ch_157 cut_nil
/-- RookHusting$Reader takeNumber -/
noncomputable def con_158 : Con2 := ((yX6_takeNumber, cX6_takeNumber, 5, (some .int)), (2, 40), ([(6, 0, 0), (0, 0, 0), (1, 2, 0), (0, 5, 0)], gi_92, hc_5, []), [((0, 0, 0), gi_93, hq_13, [], [1, 1, 1, 1, 1]), ((0, 1, 0), gi_73, hq_14, [], [1, 1, 1, 1, 1, 1, 1]), ((0, 3, 0), gi_75, hq_14, [], [1, 1, 1, 1, 1, 1, 1]), ((0, 4, 0), gi_76, hq_14, [], [1, 1, 1, 1, 1, 1, 1])])
theorem hd_158 : con_158.1 = (yX6_takeNumber, cX6_takeNumber, 5, (some .int)) := rfl
theorem ck_RX6_147_153 : COK2 RX6 vwCl gTbl 147 2 con_153 := ⟨wd_682, wd_125, mh_X11_hasBit, .inr (.inl ⟨rfl, by decide +kernel, wd_681, pd_X11_hasBit⟩)⟩
theorem ck_RX6_147_154 : COK2 RX6 vwCl gTbl 147 2 con_154 := ⟨wd_682, wd_125, mh_X11_hasBit, .inr (.inl ⟨rfl, by decide +kernel, wd_681, pd_X11_hasBit⟩)⟩
theorem ck_RX6_147_155 : COK2 RX6 vwCl gTbl 147 2 con_155 := ⟨wd_682, wd_125, mh_X11_hasBit, .inr (.inl ⟨rfl, by decide +kernel, wd_681, pd_X11_hasBit⟩)⟩
theorem ck_RX6_147_156 : COK2 RX6 vwCl gTbl 147 2 con_156 := ⟨wd_682, wd_125, mh_X11_hasBit, .inr (.inl ⟨rfl, by decide +kernel, wd_681, pd_X11_hasBit⟩)⟩
theorem ck_RX6_147_157 : COK2 RX6 vwCl gTbl 147 2 con_157 := ⟨wd_682, wd_125, mh_X11_hasBit, .inr (.inl ⟨rfl, by decide +kernel, wd_681, pd_X11_hasBit⟩)⟩
noncomputable def ct_158 : CTB2 := [(22, 70, 0, con_15, [0, 1]), (55, 147, 2, con_157, []), (55, 147, 2, con_156, []), (55, 147, 2, con_155, []), (55, 147, 2, con_154, []), (55, 147, 2, con_153, []), (63, 70, 0, con_19, [0, 1]), (72, 102, 0, con_10, [1, 2])]
noncomputable def cu_158 : List CUT2 := []
theorem ch_158 : staG tb_X6_takeNumber 1 bt_RX6 [] ct_158 [(52, [(1, (1, 4, 0), 0, 0)])] [] cu_158 31 con_158 = true := by decide +kernel
theorem cto_158 (l : Launch) : CTOK2 l RX6 vwCl gTbl ct_158 := ct2_cons (vl_15 l) ck_RX6_70_15 (ct2_cons (vl_157 l) ck_RX6_147_157 (ct2_cons (vl_156 l) ck_RX6_147_156 (ct2_cons (vl_155 l) ck_RX6_147_155 (ct2_cons (vl_154 l) ck_RX6_147_154 (ct2_cons (vl_153 l) ck_RX6_147_153 (ct2_cons (vl_19 l) ck_RX6_70_19 (ct2_cons (vl_10 l) ck_RX6_102_10 (ct2_nil))))))))
theorem vl_158 (l : Launch) : Vld2 l vwCl gTbl con_158 := conR_ok3 gT_all (hd_158) rfl pn_RX6 tk_X6_takeNumber bo_RX6 xo_RX6 (cto_158 l) ch_158 cut_nil
/-- RookHusting hasBit -/
noncomputable def con_159 : Con2 := ((yX11_hasBit, cX11_hasBit, 2, (some .boolean)), (0, 0), ([(0, 3, 0), (0, 4, 0)], [(0, 0), (0, 0)], [], []), [((0, 0, 0), [(0, 0), (0, 0), (0, 0)], [], [], [1])])
theorem hd_159 : con_159.1 = (yX11_hasBit, cX11_hasBit, 2, (some .boolean)) := rfl
noncomputable def ct_159 : CTB2 := []
noncomputable def cu_159 : List CUT2 := []
theorem ch_159 : staG tb_X11_hasBit 1 bt_RX11 [] ct_159 [] [] cu_159 11 con_159 = true := by decide +kernel
theorem cto_159 (l : Launch) : CTOK2 l RX11 vwCl gTbl ct_159 := ct2_nil
theorem vl_159 (l : Launch) : Vld2 l vwCl gTbl con_159 := conR_ok3 gT_all (hd_159) rfl pn_RX11 tk_X11_hasBit bo_RX11 xo_RX11 (cto_159 l) ch_159 cut_nil
/-- RookHusting hasBit -/
noncomputable def con_160 : Con2 := ((yX11_hasBit, cX11_hasBit, 2, (some .boolean)), (0, 0), ([(0, 3, 0), (0, 3, 0)], [(0, 0), (0, 0)], [], []), [((0, 0, 0), [(0, 0), (0, 0), (0, 0)], [], [], [1])])
theorem hd_160 : con_160.1 = (yX11_hasBit, cX11_hasBit, 2, (some .boolean)) := rfl
noncomputable def ct_160 : CTB2 := []
noncomputable def cu_160 : List CUT2 := []
theorem ch_160 : staG tb_X11_hasBit 1 bt_RX11 [] ct_160 [] [] cu_160 11 con_160 = true := by decide +kernel
theorem cto_160 (l : Launch) : CTOK2 l RX11 vwCl gTbl ct_160 := ct2_nil
theorem vl_160 (l : Launch) : Vld2 l vwCl gTbl con_160 := conR_ok3 gT_all (hd_160) rfl pn_RX11 tk_X11_hasBit bo_RX11 xo_RX11 (cto_160 l) ch_160 cut_nil
/-- RookHusting hasBit -/
noncomputable def con_161 : Con2 := ((yX11_hasBit, cX11_hasBit, 2, (some .boolean)), (0, 0), ([(0, 3, 0), (0, 2, 0)], [(0, 0), (0, 0)], [], []), [((0, 0, 0), [(0, 0), (0, 0), (0, 0)], [], [], [1])])
theorem hd_161 : con_161.1 = (yX11_hasBit, cX11_hasBit, 2, (some .boolean)) := rfl
noncomputable def ct_161 : CTB2 := []
noncomputable def cu_161 : List CUT2 := []
theorem ch_161 : staG tb_X11_hasBit 1 bt_RX11 [] ct_161 [] [] cu_161 11 con_161 = true := by decide +kernel
theorem cto_161 (l : Launch) : CTOK2 l RX11 vwCl gTbl ct_161 := ct2_nil
theorem vl_161 (l : Launch) : Vld2 l vwCl gTbl con_161 := conR_ok3 gT_all (hd_161) rfl pn_RX11 tk_X11_hasBit bo_RX11 xo_RX11 (cto_161 l) ch_161 cut_nil
/-- RookHusting hasBit -/
noncomputable def con_162 : Con2 := ((yX11_hasBit, cX11_hasBit, 2, (some .boolean)), (0, 0), ([(0, 3, 0), (0, 1, 0)], [(0, 0), (0, 0)], [], []), [((0, 1, 0), [(0, 0), (0, 0), (0, 0)], [], [], [1])])
theorem hd_162 : con_162.1 = (yX11_hasBit, cX11_hasBit, 2, (some .boolean)) := rfl
noncomputable def ct_162 : CTB2 := []
noncomputable def cu_162 : List CUT2 := []
theorem ch_162 : staG tb_X11_hasBit 1 bt_RX11 [] ct_162 [] [] cu_162 12 con_162 = true := by decide +kernel
theorem cto_162 (l : Launch) : CTOK2 l RX11 vwCl gTbl ct_162 := ct2_nil
theorem vl_162 (l : Launch) : Vld2 l vwCl gTbl con_162 := conR_ok3 gT_all (hd_162) rfl pn_RX11 tk_X11_hasBit bo_RX11 xo_RX11 (cto_162 l) ch_162 cut_nil
/-- RookHusting hasBit -/
noncomputable def con_163 : Con2 := ((yX11_hasBit, cX11_hasBit, 2, (some .boolean)), (0, 0), ([(0, 3, 0), (0, 0, 0)], [(0, 0), (0, 0)], [], []), [((0, 1, 0), [(0, 0), (0, 0), (0, 0)], [], [], [1])])
theorem hd_163 : con_163.1 = (yX11_hasBit, cX11_hasBit, 2, (some .boolean)) := rfl
noncomputable def ct_163 : CTB2 := []
noncomputable def cu_163 : List CUT2 := []
theorem ch_163 : staG tb_X11_hasBit 1 bt_RX11 [] ct_163 [] [] cu_163 12 con_163 = true := by decide +kernel
theorem cto_163 (l : Launch) : CTOK2 l RX11 vwCl gTbl ct_163 := ct2_nil
theorem vl_163 (l : Launch) : Vld2 l vwCl gTbl con_163 := conR_ok3 gT_all (hd_163) rfl pn_RX11 tk_X11_hasBit bo_RX11 xo_RX11 (cto_163 l) ch_163 cut_nil
/-- RookHusting$Reader takeNumber -/
noncomputable def con_164 : Con2 := ((yX6_takeNumber, cX6_takeNumber, 5, (some .int)), (2, 40), ([(6, 0, 0), (0, 0, 0), (1, 2, 0), (0, 3, 0)], gi_92, hc_5, []), [((0, 0, 0), gi_93, hq_13, [], [1, 1, 1, 1, 1]), ((0, 2, 0), gi_74, hq_14, [], [1, 1, 1, 1, 1, 1, 1]), ((0, 3, 0), gi_75, hq_14, [], [1, 1, 1, 1, 1, 1, 1]), ((0, 4, 0), gi_76, hq_14, [], [1, 1, 1, 1, 1, 1, 1])])
theorem hd_164 : con_164.1 = (yX6_takeNumber, cX6_takeNumber, 5, (some .int)) := rfl
theorem ck_RX6_147_159 : COK2 RX6 vwCl gTbl 147 2 con_159 := ⟨wd_682, wd_125, mh_X11_hasBit, .inr (.inl ⟨rfl, by decide +kernel, wd_681, pd_X11_hasBit⟩)⟩
theorem ck_RX6_147_160 : COK2 RX6 vwCl gTbl 147 2 con_160 := ⟨wd_682, wd_125, mh_X11_hasBit, .inr (.inl ⟨rfl, by decide +kernel, wd_681, pd_X11_hasBit⟩)⟩
theorem ck_RX6_147_161 : COK2 RX6 vwCl gTbl 147 2 con_161 := ⟨wd_682, wd_125, mh_X11_hasBit, .inr (.inl ⟨rfl, by decide +kernel, wd_681, pd_X11_hasBit⟩)⟩
theorem ck_RX6_147_162 : COK2 RX6 vwCl gTbl 147 2 con_162 := ⟨wd_682, wd_125, mh_X11_hasBit, .inr (.inl ⟨rfl, by decide +kernel, wd_681, pd_X11_hasBit⟩)⟩
theorem ck_RX6_147_163 : COK2 RX6 vwCl gTbl 147 2 con_163 := ⟨wd_682, wd_125, mh_X11_hasBit, .inr (.inl ⟨rfl, by decide +kernel, wd_681, pd_X11_hasBit⟩)⟩
noncomputable def ct_164 : CTB2 := [(22, 70, 0, con_15, [0, 1]), (55, 147, 2, con_163, []), (55, 147, 2, con_162, []), (55, 147, 2, con_161, []), (55, 147, 2, con_160, []), (55, 147, 2, con_159, []), (63, 70, 0, con_19, [0, 1]), (72, 102, 0, con_10, [1, 2])]
noncomputable def cu_164 : List CUT2 := []
theorem ch_164 : staG tb_X6_takeNumber 1 bt_RX6 [] ct_164 [(52, [(1, (1, 4, 0), 0, 0)])] [] cu_164 31 con_164 = true := by decide +kernel
theorem cto_164 (l : Launch) : CTOK2 l RX6 vwCl gTbl ct_164 := ct2_cons (vl_15 l) ck_RX6_70_15 (ct2_cons (vl_163 l) ck_RX6_147_163 (ct2_cons (vl_162 l) ck_RX6_147_162 (ct2_cons (vl_161 l) ck_RX6_147_161 (ct2_cons (vl_160 l) ck_RX6_147_160 (ct2_cons (vl_159 l) ck_RX6_147_159 (ct2_cons (vl_19 l) ck_RX6_70_19 (ct2_cons (vl_10 l) ck_RX6_102_10 (ct2_nil))))))))
theorem vl_164 (l : Launch) : Vld2 l vwCl gTbl con_164 := conR_ok3 gT_all (hd_164) rfl pn_RX6 tk_X6_takeNumber bo_RX6 xo_RX6 (cto_164 l) ch_164 cut_nil
/-- RookHusting hasBit -/
noncomputable def con_165 : Con2 := ((yX11_hasBit, cX11_hasBit, 2, (some .boolean)), (0, 0), ([(0, 28, 0), (0, 4, 0)], [(0, 0), (0, 0)], [], []), [((0, 1, 0), [(0, 0), (0, 0), (0, 0)], [], [], [1])])
theorem hd_165 : con_165.1 = (yX11_hasBit, cX11_hasBit, 2, (some .boolean)) := rfl
noncomputable def ct_165 : CTB2 := []
noncomputable def cu_165 : List CUT2 := []
theorem ch_165 : staG tb_X11_hasBit 1 bt_RX11 [] ct_165 [] [] cu_165 12 con_165 = true := by decide +kernel
theorem cto_165 (l : Launch) : CTOK2 l RX11 vwCl gTbl ct_165 := ct2_nil
theorem vl_165 (l : Launch) : Vld2 l vwCl gTbl con_165 := conR_ok3 gT_all (hd_165) rfl pn_RX11 tk_X11_hasBit bo_RX11 xo_RX11 (cto_165 l) ch_165 cut_nil
/-- RookHusting hasBit -/
noncomputable def con_166 : Con2 := ((yX11_hasBit, cX11_hasBit, 2, (some .boolean)), (0, 0), ([(0, 28, 0), (0, 3, 0)], [(0, 0), (0, 0)], [], []), [((0, 1, 0), [(0, 0), (0, 0), (0, 0)], [], [], [1])])
theorem hd_166 : con_166.1 = (yX11_hasBit, cX11_hasBit, 2, (some .boolean)) := rfl
noncomputable def ct_166 : CTB2 := []
noncomputable def cu_166 : List CUT2 := []
theorem ch_166 : staG tb_X11_hasBit 1 bt_RX11 [] ct_166 [] [] cu_166 12 con_166 = true := by decide +kernel
theorem cto_166 (l : Launch) : CTOK2 l RX11 vwCl gTbl ct_166 := ct2_nil
theorem vl_166 (l : Launch) : Vld2 l vwCl gTbl con_166 := conR_ok3 gT_all (hd_166) rfl pn_RX11 tk_X11_hasBit bo_RX11 xo_RX11 (cto_166 l) ch_166 cut_nil
/-- RookHusting hasBit -/
noncomputable def con_167 : Con2 := ((yX11_hasBit, cX11_hasBit, 2, (some .boolean)), (0, 0), ([(0, 28, 0), (0, 2, 0)], [(0, 0), (0, 0)], [], []), [((0, 1, 0), [(0, 0), (0, 0), (0, 0)], [], [], [1])])
theorem hd_167 : con_167.1 = (yX11_hasBit, cX11_hasBit, 2, (some .boolean)) := rfl
noncomputable def ct_167 : CTB2 := []
noncomputable def cu_167 : List CUT2 := []
theorem ch_167 : staG tb_X11_hasBit 1 bt_RX11 [] ct_167 [] [] cu_167 12 con_167 = true := by decide +kernel
theorem cto_167 (l : Launch) : CTOK2 l RX11 vwCl gTbl ct_167 := ct2_nil
theorem vl_167 (l : Launch) : Vld2 l vwCl gTbl con_167 := conR_ok3 gT_all (hd_167) rfl pn_RX11 tk_X11_hasBit bo_RX11 xo_RX11 (cto_167 l) ch_167 cut_nil
/-- RookHusting hasBit -/
noncomputable def con_168 : Con2 := ((yX11_hasBit, cX11_hasBit, 2, (some .boolean)), (0, 0), ([(0, 28, 0), (0, 1, 0)], [(0, 0), (0, 0)], [], []), [((0, 0, 0), [(0, 0), (0, 0), (0, 0)], [], [], [1])])
theorem hd_168 : con_168.1 = (yX11_hasBit, cX11_hasBit, 2, (some .boolean)) := rfl
noncomputable def ct_168 : CTB2 := []
noncomputable def cu_168 : List CUT2 := []
theorem ch_168 : staG tb_X11_hasBit 1 bt_RX11 [] ct_168 [] [] cu_168 11 con_168 = true := by decide +kernel
theorem cto_168 (l : Launch) : CTOK2 l RX11 vwCl gTbl ct_168 := ct2_nil
theorem vl_168 (l : Launch) : Vld2 l vwCl gTbl con_168 := conR_ok3 gT_all (hd_168) rfl pn_RX11 tk_X11_hasBit bo_RX11 xo_RX11 (cto_168 l) ch_168 cut_nil
/-- RookHusting hasBit -/
noncomputable def con_169 : Con2 := ((yX11_hasBit, cX11_hasBit, 2, (some .boolean)), (0, 0), ([(0, 28, 0), (0, 0, 0)], [(0, 0), (0, 0)], [], []), [((0, 0, 0), [(0, 0), (0, 0), (0, 0)], [], [], [1])])
theorem hd_169 : con_169.1 = (yX11_hasBit, cX11_hasBit, 2, (some .boolean)) := rfl
noncomputable def ct_169 : CTB2 := []
noncomputable def cu_169 : List CUT2 := []
theorem ch_169 : staG tb_X11_hasBit 1 bt_RX11 [] ct_169 [] [] cu_169 11 con_169 = true := by decide +kernel
theorem cto_169 (l : Launch) : CTOK2 l RX11 vwCl gTbl ct_169 := ct2_nil
theorem vl_169 (l : Launch) : Vld2 l vwCl gTbl con_169 := conR_ok3 gT_all (hd_169) rfl pn_RX11 tk_X11_hasBit bo_RX11 xo_RX11 (cto_169 l) ch_169 cut_nil
/-- RookHusting$Reader takeNumber -/
noncomputable def con_170 : Con2 := ((yX6_takeNumber, cX6_takeNumber, 5, (some .int)), (2, 40), ([(6, 0, 0), (0, 0, 0), (1, 2, 0), (0, 28, 0)], gi_92, hc_5, []), [((0, 0, 0), gi_93, hq_13, [], [1, 1, 1, 1, 1]), ((0, 0, 0), gi_94, hq_14, [], [1, 1, 1, 1, 1, 1, 1]), ((0, 1, 0), gi_73, hq_14, [], [1, 1, 1, 1, 1, 1, 1])])
theorem hd_170 : con_170.1 = (yX6_takeNumber, cX6_takeNumber, 5, (some .int)) := rfl
theorem ck_RX6_147_165 : COK2 RX6 vwCl gTbl 147 2 con_165 := ⟨wd_682, wd_125, mh_X11_hasBit, .inr (.inl ⟨rfl, by decide +kernel, wd_681, pd_X11_hasBit⟩)⟩
theorem ck_RX6_147_166 : COK2 RX6 vwCl gTbl 147 2 con_166 := ⟨wd_682, wd_125, mh_X11_hasBit, .inr (.inl ⟨rfl, by decide +kernel, wd_681, pd_X11_hasBit⟩)⟩
theorem ck_RX6_147_167 : COK2 RX6 vwCl gTbl 147 2 con_167 := ⟨wd_682, wd_125, mh_X11_hasBit, .inr (.inl ⟨rfl, by decide +kernel, wd_681, pd_X11_hasBit⟩)⟩
theorem ck_RX6_147_168 : COK2 RX6 vwCl gTbl 147 2 con_168 := ⟨wd_682, wd_125, mh_X11_hasBit, .inr (.inl ⟨rfl, by decide +kernel, wd_681, pd_X11_hasBit⟩)⟩
theorem ck_RX6_147_169 : COK2 RX6 vwCl gTbl 147 2 con_169 := ⟨wd_682, wd_125, mh_X11_hasBit, .inr (.inl ⟨rfl, by decide +kernel, wd_681, pd_X11_hasBit⟩)⟩
noncomputable def ct_170 : CTB2 := [(22, 70, 0, con_15, [0, 1]), (55, 147, 2, con_169, []), (55, 147, 2, con_168, []), (55, 147, 2, con_167, []), (55, 147, 2, con_166, []), (55, 147, 2, con_165, []), (63, 70, 0, con_19, [0, 1]), (72, 102, 0, con_10, [1, 2])]
noncomputable def cu_170 : List CUT2 := []
theorem ch_170 : staG tb_X6_takeNumber 1 bt_RX6 [] ct_170 [(52, [(1, (1, 4, 0), 0, 0)])] [] cu_170 31 con_170 = true := by decide +kernel
theorem cto_170 (l : Launch) : CTOK2 l RX6 vwCl gTbl ct_170 := ct2_cons (vl_15 l) ck_RX6_70_15 (ct2_cons (vl_169 l) ck_RX6_147_169 (ct2_cons (vl_168 l) ck_RX6_147_168 (ct2_cons (vl_167 l) ck_RX6_147_167 (ct2_cons (vl_166 l) ck_RX6_147_166 (ct2_cons (vl_165 l) ck_RX6_147_165 (ct2_cons (vl_19 l) ck_RX6_70_19 (ct2_cons (vl_10 l) ck_RX6_102_10 (ct2_nil))))))))
theorem vl_170 (l : Launch) : Vld2 l vwCl gTbl con_170 := conR_ok3 gT_all (hd_170) rfl pn_RX6 tk_X6_takeNumber bo_RX6 xo_RX6 (cto_170 l) ch_170 cut_nil
/-- RookHusting$Hundred addWant -/
noncomputable def hc_18 : List AC := [ac_54, .inr (1, [(6, (2, 0, 5)), (1, (0, 3, 0))]), .inr (1, [(35, (2, 0, 4))]), .inr (1, [(35, (2, (-2147483648), 2147483647))])]
noncomputable def hq_30 : HP := [(false, ac_54), (true, .inr (1, [(6, (2, 0, 5)), (1, (0, 4, 0))])), (true, .inr (1, [(35, (2, 0, 4))])), (true, .inr (1, [(35, (2, (-2147483648), 2147483647))]))]
noncomputable def con_171 : Con2 := ((yX4_addWant, cX4_addWant, 6, none), (0, 0), ([(6, 0, 0), (1, 1, 0)], gi_90, hc_18, []), [((9, 0, 0), gi_91, hq_30, [], [1])])
theorem hd_171 : con_171.1 = (yX4_addWant, cX4_addWant, 6, none) := rfl
noncomputable def ct_171 : CTB2 := []
noncomputable def cu_171 : List CUT2 := []
theorem ch_171 : staG tb_X4_addWant 1 bt_RX4 [] ct_171 [] [] cu_171 99 con_171 = true := by decide +kernel
theorem cto_171 (l : Launch) : CTOK2 l RX4 vwCl gTbl ct_171 := ct2_nil
theorem vl_171 (l : Launch) : Vld2 l vwCl gTbl con_171 := conR_ok3 gT_all (hd_171) rfl pn_RX4 tk_X4_addWant bo_RX4 xo_RX4 (cto_171 l) ch_171 cut_nil
/-- RookHusting hasBit -/
noncomputable def con_172 : Con2 := ((yX11_hasBit, cX11_hasBit, 2, (some .boolean)), (0, 0), ([(0, 26, 0), (0, 4, 0)], [(0, 0), (0, 0)], [], []), [((0, 1, 0), [(0, 0), (0, 0), (0, 0)], [], [], [1])])
theorem hd_172 : con_172.1 = (yX11_hasBit, cX11_hasBit, 2, (some .boolean)) := rfl
noncomputable def ct_172 : CTB2 := []
noncomputable def cu_172 : List CUT2 := []
theorem ch_172 : staG tb_X11_hasBit 1 bt_RX11 [] ct_172 [] [] cu_172 12 con_172 = true := by decide +kernel
theorem cto_172 (l : Launch) : CTOK2 l RX11 vwCl gTbl ct_172 := ct2_nil
theorem vl_172 (l : Launch) : Vld2 l vwCl gTbl con_172 := conR_ok3 gT_all (hd_172) rfl pn_RX11 tk_X11_hasBit bo_RX11 xo_RX11 (cto_172 l) ch_172 cut_nil
/-- RookHusting hasBit -/
noncomputable def con_173 : Con2 := ((yX11_hasBit, cX11_hasBit, 2, (some .boolean)), (0, 0), ([(0, 26, 0), (0, 3, 0)], [(0, 0), (0, 0)], [], []), [((0, 1, 0), [(0, 0), (0, 0), (0, 0)], [], [], [1])])
theorem hd_173 : con_173.1 = (yX11_hasBit, cX11_hasBit, 2, (some .boolean)) := rfl
noncomputable def ct_173 : CTB2 := []
noncomputable def cu_173 : List CUT2 := []
theorem ch_173 : staG tb_X11_hasBit 1 bt_RX11 [] ct_173 [] [] cu_173 12 con_173 = true := by decide +kernel
theorem cto_173 (l : Launch) : CTOK2 l RX11 vwCl gTbl ct_173 := ct2_nil
theorem vl_173 (l : Launch) : Vld2 l vwCl gTbl con_173 := conR_ok3 gT_all (hd_173) rfl pn_RX11 tk_X11_hasBit bo_RX11 xo_RX11 (cto_173 l) ch_173 cut_nil
