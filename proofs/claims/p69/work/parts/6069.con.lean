/-! ===== contracts, 69 ===== -/
/-- RookHusting$Slots isSlot -/
noncomputable def con_2717 : Con2 := ((yX8_isSlot, cX8_isSlot, 1, (some .boolean)), (0, 0), ([(1, 0, 0)], [((-2147483648), 2147483647)], [], []), [((0, 0, 0), [((-2147483648), 2147483647), (0, 0)], [], [], [1]), ((0, 1, 0), [(0, 3), (0, 0)], [], [], [1])])
theorem hd_2717 : con_2717.1 = (yX8_isSlot, cX8_isSlot, 1, (some .boolean)) := rfl
noncomputable def ct_2717 : CTB2 := []
noncomputable def cu_2717 : List CUT2 := []
theorem ch_2717 : staG tb_X8_isSlot 1 bt_RX8 [] ct_2717 [] [] cu_2717 10 con_2717 = true := by decide +kernel
theorem cto_2717 (l : Launch) : CTOK2 l RX8 vwCl gTbl ct_2717 := ct2_nil
theorem vl_2717 (l : Launch) : Vld2 l vwCl gTbl con_2717 := conR_ok3 gT_all (hd_2717) rfl pn_RX8 tk_X8_isSlot bo_RX8 xo_RX8 (cto_2717 l) ch_2717 cut_nil
/-- RookHusting$Slots renew -/
noncomputable def gi_3143 : GI := jl_n [jl_z 1, jl_r 2 (jl_i 0 3), jl_i 0 60, jl_z 3, jl_r 4 (jl_i 0 3), jl_r 4 (jl_m 0 60)]
noncomputable def ac_1550 : AC := .inr (1, jl_n [js_1 11 4])
noncomputable def ac_1551 : AC := .inr (1, jl_n [js_1 15 4])
noncomputable def hc_260 : List AC := [.inl (8, [(6, 3, 0), (6, 1, 0), (6, 2, 0)]), ac_1550, ac_1551, ac_807]
noncomputable def gi_3144 : GI := jl_n [jl_z 1, jl_r 2 (jl_i 0 3), jl_i 0 60, jl_z 3, jl_r 4 (jl_i 0 3), jl_r 4 (jl_m 0 60), jl_r 4 (jl_i 0 3), jl_r 4 (jl_m 0 60)]
noncomputable def ac_1552 : AC := .inr (1, jl_n [js_1 19 4])
noncomputable def ac_1553 : AC := .inr (1, jl_n [js_1 23 4])
noncomputable def hq_1022 : HP := [(false, .inl (8, [(6, 3, 0), (6, 1, 0), (6, 2, 0)])), (true, ac_1552), (true, ac_1553), (true, ac_807)]
noncomputable def con_2718 : Con2 := ((yX8_renew, cX8_renew, 5, none), (0, 0), ([(6, 0, 0), (1, 1, 0), (1, 2, 0), (1, 3, 0)], gi_3143, hc_260, []), [((9, 0, 0), gi_3144, hq_1022, [], [1, 1, 1, 1, 1, 1, 1, 1])])
theorem hd_2718 : con_2718.1 = (yX8_renew, cX8_renew, 5, none) := rfl
noncomputable def ct_2718 : CTB2 := []
noncomputable def gi_3145 : GI := jl_n [jl_z 1, jl_r 2 (jl_i 0 3), jl_i 0 60, jl_z 3, jl_r 4 (jl_i 0 3), jl_r 4 (jl_m 0 60), jl_z 4, jl_i 0 60, jl_r 4 (jl_i 0 3), jl_r 4 (jl_m 0 60)]
noncomputable def ac_1554 : AC := .inr (1, jl_n [js_1 24 4])
noncomputable def ac_1555 : AC := .inr (1, jl_n [js_1 28 4])
noncomputable def hq_1023 : HP := [(false, .inl (8, [(6, 3, 0), (6, 1, 0), (6, 2, 0)])), (true, ac_1554), (true, ac_1555), (true, ac_807)]
noncomputable def cu_2718 : List CUT2 := [((17, [(0, (6, 0, 0)), (1, (1, 1, 0)), (2, (1, 2, 0)), (3, (1, 3, 0)), (4, (1, 19, 0))], [], gi_3145, hq_1023), [], ([(19, (-1))], 60))]
theorem ch_2718 : staG tb_X8_renew 1 bt_RX8 [] ct_2718 [] [] cu_2718 17 con_2718 = true := by decide +kernel
theorem cc_2718 : cu_2718.all (cutG tb_X8_renew 1 bt_RX8 [] ct_2718 [] [] cu_2718 17 con_2718) = true := by decide +kernel
theorem cto_2718 (l : Launch) : CTOK2 l RX8 vwCl gTbl ct_2718 := ct2_nil
theorem vl_2718 (l : Launch) : Vld2 l vwCl gTbl con_2718 := conR_ok3 gT_all (hd_2718) rfl pn_RX8 tk_X8_renew bo_RX8 xo_RX8 (cto_2718 l) ch_2718 (cut_all cc_2718)
/-- RookHusting row -/
noncomputable def gi_3146 : GI := jl_n [jl_z 1, jl_r 3 (jl_t), jl_z 19, jl_r 4 (jl_i 0 3), jl_r 4 (jl_m 0 60)]
noncomputable def ac_1556 : AC := .inl (11, jl_n [jl_8 8 4, jl_6 2 1, jl_8 20 11])
noncomputable def ac_1557 : AC := .inr (1, jl_n [js_1 27 4])
noncomputable def ac_1558 : AC := .inr (1, jl_n [js_1 31 4])
noncomputable def hc_261 : List AC := [ac_1556, .inl (8, [(6, 4, 0), (6, 2, 0), (6, 3, 0)]), ac_1557, ac_1558, ac_807]
noncomputable def gi_3147 : GI := jl_n [jl_z 1, jl_r 3 (jl_t), jl_z 19, jl_r 4 (jl_i 0 3), jl_r 4 (jl_m 0 60), jl_m 2 0, jl_r 4 (jl_i 0 3), jl_r 4 (jl_m 0 60)]
noncomputable def ac_1559 : AC := .inr (1, jl_n [js_1 36 4])
noncomputable def ac_1560 : AC := .inr (1, jl_n [js_1 40 4])
noncomputable def hq_1024 : HP := [(false, ac_1556), (false, .inl (8, [(6, 4, 0), (6, 2, 0), (6, 3, 0)])), (true, ac_1559), (true, ac_1560), (true, ac_807)]
noncomputable def con_2719 : Con2 := ((yX11_row, cX11_row, 4, (some .int)), (1, 24), ([(6, 0, 0), (1, 1, 0), (1, 2, 0), (1, 3, 0)], gi_3146, hc_261, []), [((1, 31, 0), gi_3147, hq_1024, [], [1, 1, 1, 1, 1, 1, 1, 1, 1])])
theorem hd_2719 : con_2719.1 = (yX11_row, cX11_row, 4, (some .int)) := rfl
theorem ck_RX11_417_2718 : COK2 RX11 vwCl gTbl 417 0 con_2718 := ⟨wd_1374, wd_131, mh_X8_renew, .inr (.inr ⟨rfl, wd_1371, wd_1372, wd_1373, ⟨_, rfl, pd_X8_renew⟩, 8, _, TX8, 3, rfl, rfl⟩)⟩
theorem ck_RX11_414_2717 : COK2 RX11 vwCl gTbl 414 1 con_2717 := ⟨wd_1210, wd_131, mh_X8_isSlot, .inl ⟨rfl, wd_1208, wd_1209, pd_X8_isSlot⟩⟩
noncomputable def ct_2719 : CTB2 := [(1, 414, 1, con_2717, []), (39, 417, 0, con_2718, [1, 2, 3, 4])]
noncomputable def cu_2719 : List CUT2 := []
theorem ch_2719 : staG tb_X11_row 1 bt_RX11 [] ct_2719 [] [] cu_2719 23 con_2719 = true := by decide +kernel
theorem cto_2719 (l : Launch) : CTOK2 l RX11 vwCl gTbl ct_2719 := ct2_cons (vl_2717 l) ck_RX11_414_2717 (ct2_cons (vl_2718 l) ck_RX11_417_2718 (ct2_nil))
theorem vl_2719 (l : Launch) : Vld2 l vwCl gTbl con_2719 := conR_ok3 gT_all (hd_2719) rfl pn_RX11 tk_X11_row bo_RX11 xo_RX11 (cto_2719 l) ch_2719 cut_nil
/-- RookHustingModel isSlot -/
noncomputable def con_2720 : Con2 := ((yX12_isSlot, cX12_isSlot, 1, (some .boolean)), (1, 25), ([(1, 0, 0)], [((-2147483648), 2147483647)], [], []), [((0, 0, 0), [((-2147483648), 2147483647), (0, 0)], [], [], [1]), ((0, 1, 0), [(0, 3), (0, 0)], [], [], [1])])
theorem hd_2720 : con_2720.1 = (yX12_isSlot, cX12_isSlot, 1, (some .boolean)) := rfl
noncomputable def ct_2720 : CTB2 := [(6, 91, 1, con_332, [])]
noncomputable def cu_2720 : List CUT2 := []
theorem ch_2720 : staG tb_X12_isSlot 1 bt_RX12 [] ct_2720 [] [] cu_2720 8 con_2720 = true := by decide +kernel
theorem cto_2720 (l : Launch) : CTOK2 l RX12 vwCl gTbl ct_2720 := ct2_cons (vl_332 l) ck_RX12_91_332 (ct2_nil)
theorem vl_2720 (l : Launch) : Vld2 l vwCl gTbl con_2720 := conR_ok3 gT_all (hd_2720) rfl pn_RX12 tk_X12_isSlot bo_RX12 xo_RX12 (cto_2720 l) ch_2720 cut_nil
/-- RookHustingModel row -/
noncomputable def gi_3148 : GI := jl_n [jl_z 1, jl_r 3 (jl_t), jl_z 45, jl_r 4 (jl_m 0 60), jl_r 4 (jl_i 0 3)]
noncomputable def ac_1561 : AC := .inl (12, jl_n [jl_8 45 41, jl_6 4 3, jl_8 49 1])
noncomputable def ac_1562 : AC := .inr (1, jl_n [js_1 53 4])
noncomputable def ac_1563 : AC := .inr (1, jl_n [js_1 57 4])
noncomputable def gi_3149 : GI := jl_n [jl_z 1, jl_r 3 (jl_t), jl_z 45, jl_r 4 (jl_m 0 60), jl_r 4 (jl_i 0 3), jl_m 2 0, jl_r 4 (jl_m 0 60), jl_r 4 (jl_i 0 3)]
noncomputable def ac_1564 : AC := .inr (1, jl_n [js_1 62 4])
noncomputable def ac_1565 : AC := .inr (1, jl_n [js_1 66 4])
noncomputable def hq_1025 : HP := [(false, ac_1561), (true, ac_1564), (true, ac_1565), (true, ac_807)]
noncomputable def con_2721 : Con2 := ((yX12_row, cX12_row, 5, (some .int)), (2, 45), ([(6, 0, 0), (1, 1, 0), (1, 2, 0), (1, 3, 0)], gi_3148, [ac_1561, ac_1562, ac_1563, ac_807], []), [((1, 57, 0), gi_3149, hq_1025, [], [1, 1, 1, 1, 1, 1, 1, 1, 1])])
theorem hd_2721 : con_2721.1 = (yX12_row, cX12_row, 5, (some .int)) := rfl
theorem ck_RX12_414_2720 : COK2 RX12 vwCl gTbl 414 1 con_2720 := ⟨wd_2057, wd_137, mh_X12_isSlot, .inl ⟨rfl, wd_2055, wd_2056, pd_X12_isSlot⟩⟩
noncomputable def ct_2721 : CTB2 := [(1, 414, 1, con_2720, []), (13, 91, 1, con_332, [])]
noncomputable def gi_3150 : GI := jl_n [jl_z 1, jl_r 2 (jl_i 0 3), jl_i 0 60, jl_z 45, jl_r 4 (jl_m 0 60), jl_r 4 (jl_i 0 3), jl_z 4, jl_i 0 60, jl_r 4 (jl_m 0 60), jl_r 4 (jl_i 0 3)]
noncomputable def ac_1566 : AC := .inr (1, jl_n [js_1 70 4])
noncomputable def hq_1026 : HP := [(false, ac_1561), (true, ac_1565), (true, ac_1566), (true, ac_807)]
noncomputable def cu_2721 : List CUT2 := [((52, [(0, (6, 0, 0)), (1, (1, 1, 0)), (2, (1, 2, 0)), (3, (1, 3, 0)), (4, (1, 61, 0))], [], gi_3150, hq_1026), [], ([(61, (-1))], 60))]
theorem ch_2721 : staG tb_X12_row 1 bt_RX12 [] ct_2721 [] [] cu_2721 29 con_2721 = true := by decide +kernel
theorem cc_2721 : cu_2721.all (cutG tb_X12_row 1 bt_RX12 [] ct_2721 [] [] cu_2721 29 con_2721) = true := by decide +kernel
theorem cto_2721 (l : Launch) : CTOK2 l RX12 vwCl gTbl ct_2721 := ct2_cons (vl_2720 l) ck_RX12_414_2720 (ct2_cons (vl_332 l) ck_RX12_91_332 (ct2_nil))
theorem vl_2721 (l : Launch) : Vld2 l vwCl gTbl con_2721 := conR_ok3 gT_all (hd_2721) rfl pn_RX12 tk_X12_row bo_RX12 xo_RX12 (cto_2721 l) ch_2721 (cut_all cc_2721)
/-- RookHusting$Slots cut -/
noncomputable def gi_3151 : GI := jl_n [jl_u, jl_i 0 3, jl_u]
noncomputable def con_2722 : Con2 := ((yX8_cut, cX8_cut, 3, (some .long)), (0, 0), ([(4, 0, 0), (1, 1, 0)], [((-9223372036854775808), 9223372036854775807), (0, 3)], [], []), [((4, 2, 0), gi_3151, [], [], [4])])
theorem hd_2722 : con_2722.1 = (yX8_cut, cX8_cut, 3, (some .long)) := rfl
noncomputable def ct_2722 : CTB2 := []
noncomputable def cu_2722 : List CUT2 := []
theorem ch_2722 : staG tb_X8_cut 1 bt_RX8 [] ct_2722 [] [] cu_2722 9 con_2722 = true := by decide +kernel
theorem cto_2722 (l : Launch) : CTOK2 l RX8 vwCl gTbl ct_2722 := ct2_nil
theorem vl_2722 (l : Launch) : Vld2 l vwCl gTbl con_2722 := conR_ok3 gT_all (hd_2722) rfl pn_RX8 tk_X8_cut bo_RX8 xo_RX8 (cto_2722 l) ch_2722 cut_nil
/-- RookHusting$Slots set -/
noncomputable def gi_3152 : GI := jl_n [jl_z 1, jl_i 0 3, jl_i 0 59, jl_u, jl_z 3, jl_r 4 (jl_i 0 3)]
noncomputable def hc_262 : List AC := [.inl (8, [(6, 2, 0), (6, 1, 0), (8, 6, 0)]), ac_1550, ac_807]
noncomputable def hq_1027 : HP := [(false, .inl (8, [(6, 2, 0), (6, 1, 0), (8, 6, 0)])), (false, ac_1550), (true, ac_807)]
noncomputable def con_2723 : Con2 := ((yX8_set, cX8_set, 5, none), (1, 22), ([(6, 0, 0), (1, 1, 0), (1, 2, 0), (4, 3, 0)], gi_3152, hc_262, []), [((9, 0, 0), gi_3152, hq_1027, [], [])])
theorem hd_2723 : con_2723.1 = (yX8_set, cX8_set, 5, none) := rfl
theorem ck_RX8_26_2722 : COK2 RX8 vwCl gTbl 26 1 con_2722 := ⟨wd_1385, wd_131, mh_X8_cut, .inl ⟨rfl, wd_1383, wd_1384, pd_X8_cut⟩⟩
noncomputable def ct_2723 : CTB2 := [(17, 26, 1, con_2722, [])]
noncomputable def cu_2723 : List CUT2 := []
theorem ch_2723 : staG tb_X8_set 1 bt_RX8 [] ct_2723 [] [] cu_2723 17 con_2723 = true := by decide +kernel
theorem cto_2723 (l : Launch) : CTOK2 l RX8 vwCl gTbl ct_2723 := ct2_cons (vl_2722 l) ck_RX8_26_2722 (ct2_nil)
theorem vl_2723 (l : Launch) : Vld2 l vwCl gTbl con_2723 := conR_ok3 gT_all (hd_2723) rfl pn_RX8 tk_X8_set bo_RX8 xo_RX8 (cto_2723 l) ch_2723 cut_nil
/-- RookHusting write -/
noncomputable def gi_3153 : GI := jl_n [jl_z 1, jl_r 2 (jl_t), jl_u, jl_z 19, jl_r 4 (jl_m 0 60), jl_r 4 (jl_i 0 3)]
noncomputable def hc_263 : List AC := [ac_1556, .inl (8, [(6, 4, 0), (6, 3, 0), (6, 2, 0)]), ac_1557, ac_1558, ac_807]
noncomputable def gi_3154 : GI := jl_n [jl_z 1, jl_r 2 (jl_t), jl_u, jl_z 19, jl_r 4 (jl_m 0 60), jl_r 4 (jl_i 0 3), jl_m 6 0]
noncomputable def hq_1028 : HP := [(false, ac_1556), (false, .inl (8, [(6, 4, 0), (6, 3, 0), (6, 2, 0)])), (false, ac_1557), (false, ac_1558), (true, ac_807)]
noncomputable def con_2724 : Con2 := ((yX11_write, cX11_write, 5, (some .int)), (2, 46), ([(6, 0, 0), (1, 1, 0), (1, 2, 0), (4, 3, 0)], gi_3153, hc_263, []), [((1, 31, 0), gi_3154, hq_1028, [], [1])])
theorem hd_2724 : con_2724.1 = (yX11_write, cX11_write, 5, (some .int)) := rfl
theorem ck_RX11_426_2723 : COK2 RX11 vwCl gTbl 426 0 con_2723 := ⟨wd_1382, wd_131, mh_X8_set, .inr (.inr ⟨rfl, wd_1379, wd_1380, wd_1381, ⟨_, rfl, pd_X8_set⟩, 8, _, TX8, 3, rfl, rfl⟩)⟩
theorem ck_RX11_420_2704 : COK2 RX11 vwCl gTbl 420 0 con_2704 := ⟨wd_1214, wd_131, mh_X8_hasRow, .inr (.inr ⟨rfl, wd_1211, wd_1212, wd_1213, ⟨_, rfl, pd_X8_hasRow⟩, 8, _, TX8, 3, rfl, rfl⟩)⟩
noncomputable def ct_2724 : CTB2 := [(1, 414, 1, con_2717, []), (15, 420, 0, con_2704, [1, 2]), (51, 426, 0, con_2723, [1, 3, 4])]
noncomputable def cu_2724 : List CUT2 := []
theorem ch_2724 : staG tb_X11_write 1 bt_RX11 [] ct_2724 [] [] cu_2724 27 con_2724 = true := by decide +kernel
theorem cto_2724 (l : Launch) : CTOK2 l RX11 vwCl gTbl ct_2724 := ct2_cons (vl_2717 l) ck_RX11_414_2717 (ct2_cons (vl_2704 l) ck_RX11_420_2704 (ct2_cons (vl_2723 l) ck_RX11_426_2723 (ct2_nil)))
theorem vl_2724 (l : Launch) : Vld2 l vwCl gTbl con_2724 := conR_ok3 gT_all (hd_2724) rfl pn_RX11 tk_X11_write bo_RX11 xo_RX11 (cto_2724 l) ch_2724 cut_nil
/-- RookHustingModel in -/
noncomputable def gi_3155 : GI := jl_n [jl_u, jl_z 1, jl_m 1 59]
noncomputable def gi_3156 : GI := jl_n [jl_u, jl_z 1, jl_m 1 59, jl_z 1]
noncomputable def con_2725 : Con2 := ((yX12_in, cX12_in, 6, (some .boolean)), (0, 0), ([(4, 0, 0), (3, 0, 0), (4, 2, 0)], gi_3155, [], []), [((0, 0, 0), gi_3156, [], [], [1]), ((0, 1, 0), [(0, 59), (0, 0), (0, 59), (0, 0)], [], [], [1])])
theorem hd_2725 : con_2725.1 = (yX12_in, cX12_in, 6, (some .boolean)) := rfl
noncomputable def ct_2725 : CTB2 := []
noncomputable def cu_2725 : List CUT2 := []
theorem ch_2725 : staG tb_X12_in 1 bt_RX12 [] ct_2725 [] [] cu_2725 11 con_2725 = true := by decide +kernel
theorem cto_2725 (l : Launch) : CTOK2 l RX12 vwCl gTbl ct_2725 := ct2_nil
theorem vl_2725 (l : Launch) : Vld2 l vwCl gTbl con_2725 := conR_ok3 gT_all (hd_2725) rfl pn_RX12 tk_X12_in bo_RX12 xo_RX12 (cto_2725 l) ch_2725 cut_nil
/-- RookHustingModel clipped -/
noncomputable def con_2726 : Con2 := ((yX12_clipped, cX12_clipped, 4, (some .long)), (0, 0), ([(4, 0, 0), (1, 1, 0)], [((-9223372036854775808), 9223372036854775807), (0, 3)], [], []), [((4, 2, 0), gi_3151, [], [], [4])])
theorem hd_2726 : con_2726.1 = (yX12_clipped, cX12_clipped, 4, (some .long)) := rfl
noncomputable def ct_2726 : CTB2 := []
noncomputable def cu_2726 : List CUT2 := []
theorem ch_2726 : staG tb_X12_clipped 1 bt_RX12 [] ct_2726 [] [] cu_2726 14 con_2726 = true := by decide +kernel
theorem cto_2726 (l : Launch) : CTOK2 l RX12 vwCl gTbl ct_2726 := ct2_nil
theorem vl_2726 (l : Launch) : Vld2 l vwCl gTbl con_2726 := conR_ok3 gT_all (hd_2726) rfl pn_RX12 tk_X12_clipped bo_RX12 xo_RX12 (cto_2726 l) ch_2726 cut_nil
/-- RookHustingModel write -/
noncomputable def gi_3157 : GI := jl_n [jl_z 1, jl_r 2 (jl_t), jl_u, jl_z 45, jl_r 4 (jl_m 0 60), jl_r 4 (jl_i 0 3)]
noncomputable def gi_3158 : GI := jl_n [jl_z 1, jl_r 2 (jl_t), jl_u, jl_z 45, jl_r 4 (jl_m 0 60), jl_r 4 (jl_i 0 3), jl_m 6 0]
noncomputable def hq_1029 : HP := [(false, ac_1561), (false, ac_1562), (false, ac_1563), (true, ac_807)]
noncomputable def con_2727 : Con2 := ((yX12_write, cX12_write, 5, (some .int)), (2, 45), ([(6, 0, 0), (1, 1, 0), (1, 2, 0), (4, 3, 0)], gi_3157, [ac_1561, ac_1562, ac_1563, ac_807], []), [((1, 57, 0), gi_3158, hq_1029, [], [1])])
theorem hd_2727 : con_2727.1 = (yX12_write, cX12_write, 5, (some .int)) := rfl
theorem ck_RX12_502_2726 : COK2 RX12 vwCl gTbl 502 1 con_2726 := ⟨wd_2180, wd_137, mh_X12_clipped, .inl ⟨rfl, wd_2178, wd_2179, pd_X12_clipped⟩⟩
theorem ck_RX12_91_2725 : COK2 RX12 vwCl gTbl 91 1 con_2725 := ⟨wd_1544, wd_137, mh_X12_in, .inl ⟨rfl, wd_1542, wd_1543, pd_X12_in⟩⟩
noncomputable def ct_2727 : CTB2 := [(1, 414, 1, con_2720, []), (35, 91, 1, con_2725, []), (61, 502, 1, con_2726, [])]
noncomputable def cu_2727 : List CUT2 := []
theorem ch_2727 : staG tb_X12_write 1 bt_RX12 [] ct_2727 [] [] cu_2727 39 con_2727 = true := by decide +kernel
theorem cto_2727 (l : Launch) : CTOK2 l RX12 vwCl gTbl ct_2727 := ct2_cons (vl_2720 l) ck_RX12_414_2720 (ct2_cons (vl_2725 l) ck_RX12_91_2725 (ct2_cons (vl_2726 l) ck_RX12_502_2726 (ct2_nil)))
theorem vl_2727 (l : Launch) : Vld2 l vwCl gTbl con_2727 := conR_ok3 gT_all (hd_2727) rfl pn_RX12 tk_X12_write bo_RX12 xo_RX12 (cto_2727 l) ch_2727 cut_nil
/-- RookHusting$Slots holds -/
noncomputable def gi_3159 : GI := jl_n [jl_z 1, jl_i 0 3, jl_r 2 (jl_t), jl_z 3, jl_r 4 (jl_m 0 60)]
noncomputable def gi_3160 : GI := jl_n [jl_z 1, jl_i 0 3, jl_r 2 (jl_t), jl_z 3, jl_r 4 (jl_m 0 60), jl_z 1]
noncomputable def hq_1030 : HP := [(false, .inl (8, [(8, 4, 0), (8, 5, 0), (6, 1, 0)])), (false, ac_1550)]
noncomputable def gi_3161 : GI := jl_n [jl_z 1, jl_i 0 3, jl_r 2 (jl_i 0 2147483647), jl_z 3, jl_r 4 (jl_m 0 60), jl_z 1]
noncomputable def con_2728 : Con2 := ((yX8_holds, cX8_holds, 4, (some .boolean)), (0, 0), ([(6, 0, 0), (1, 1, 0), (1, 2, 0), (1, 3, 0)], gi_3159, [.inl (8, [(8, 4, 0), (8, 5, 0), (6, 1, 0)]), ac_1550], []), [((0, 0, 0), gi_3160, hq_1030, [], [1]), ((0, 1, 0), gi_3161, hq_1030, [([(2, (-1)), (3, (-1))], 60)], [1])])
theorem hd_2728 : con_2728.1 = (yX8_holds, cX8_holds, 4, (some .boolean)) := rfl
noncomputable def ct_2728 : CTB2 := []
noncomputable def cu_2728 : List CUT2 := []
theorem ch_2728 : staG tb_X8_holds 2 bt_RX8 [] ct_2728 [] [12, 20] cu_2728 20 con_2728 = true := by decide +kernel
theorem cto_2728 (l : Launch) : CTOK2 l RX8 vwCl gTbl ct_2728 := ct2_nil
theorem vl_2728 (l : Launch) : Vld2 l vwCl gTbl con_2728 := conR_ok3 gT_all (hd_2728) rfl pn_RX8 tk_X8_holds bo_RX8 xo_RX8 (cto_2728 l) ch_2728 cut_nil
/-- RookHusting$Slots holds -/
noncomputable def gi_3162 : GI := jl_n [jl_z 1, jl_i 0 3, jl_t, jl_i 0 2147483647, jl_z 3, jl_r 4 (jl_m 0 60)]
noncomputable def gi_3163 : GI := jl_n [jl_z 1, jl_i 0 3, jl_t, jl_i 0 2147483647, jl_z 3, jl_r 4 (jl_m 0 60), jl_z 1]
noncomputable def con_2729 : Con2 := ((yX8_holds, cX8_holds, 4, (some .boolean)), (0, 0), ([(6, 0, 0), (1, 1, 0), (1, 2, 0), (1, 3, 0)], gi_3162, [.inl (8, [(8, 4, 0), (8, 5, 0), (6, 1, 0)]), ac_1550], []), [((0, 0, 0), gi_3163, hq_1030, [], [1]), ((0, 1, 0), gi_3161, hq_1030, [([(2, (-1)), (3, (-1))], 60)], [1])])
theorem hd_2729 : con_2729.1 = (yX8_holds, cX8_holds, 4, (some .boolean)) := rfl
noncomputable def ct_2729 : CTB2 := []
noncomputable def cu_2729 : List CUT2 := []
theorem ch_2729 : staG tb_X8_holds 2 bt_RX8 [] ct_2729 [] [12, 20] cu_2729 20 con_2729 = true := by decide +kernel
theorem cto_2729 (l : Launch) : CTOK2 l RX8 vwCl gTbl ct_2729 := ct2_nil
theorem vl_2729 (l : Launch) : Vld2 l vwCl gTbl con_2729 := conR_ok3 gT_all (hd_2729) rfl pn_RX8 tk_X8_holds bo_RX8 xo_RX8 (cto_2729 l) ch_2729 cut_nil
/-- RookHusting paste -/
noncomputable def gi_3164 : GI := jl_n [jl_z 1, jl_r 5 (jl_t), jl_z 19, jl_r 4 (jl_m 0 60), jl_r 4 (jl_i 0 3)]
noncomputable def ac_1567 : AC := .inl (11, jl_n [jl_8 10 4, jl_6 2 1, jl_8 22 11])
noncomputable def ac_1568 : AC := .inr (1, jl_n [js_1 29 4])
noncomputable def ac_1569 : AC := .inr (1, jl_n [js_1 33 4])
noncomputable def hc_264 : List AC := [ac_1567, .inl (8, [(6, 4, 0), (6, 3, 0), (6, 2, 0)]), ac_1568, ac_1569, ac_807]
noncomputable def gi_3165 : GI := jl_n [jl_z 1, jl_r 5 (jl_t), jl_z 19, jl_r 4 (jl_m 0 60), jl_r 4 (jl_i 0 3), jl_m 7 0]
noncomputable def hq_1031 : HP := [(false, ac_1567), (false, .inl (8, [(6, 4, 0), (6, 3, 0), (6, 2, 0)])), (false, ac_1568), (false, ac_1569), (true, ac_807)]
noncomputable def con_2730 : Con2 := ((yX11_paste, cX11_paste, 6, (some .int)), (1, 23), ([(6, 0, 0), (1, 1, 0), (1, 2, 0), (1, 3, 0), (1, 4, 0), (1, 5, 0)], gi_3164, hc_264, []), [((1, 33, 0), gi_3165, hq_1031, [], [1])])
theorem hd_2730 : con_2730.1 = (yX11_paste, cX11_paste, 6, (some .int)) := rfl
theorem ck_RX11_433_2729 : COK2 RX11 vwCl gTbl 433 0 con_2729 := ⟨wd_1393, wd_131, mh_X8_holds, .inr (.inr ⟨rfl, wd_1390, wd_1391, wd_1392, ⟨_, rfl, pd_X8_holds⟩, 8, _, TX8, 3, rfl, rfl⟩)⟩
theorem ck_RX11_433_2728 : COK2 RX11 vwCl gTbl 433 0 con_2728 := ⟨wd_1393, wd_131, mh_X8_holds, .inr (.inr ⟨rfl, wd_1390, wd_1391, wd_1392, ⟨_, rfl, pd_X8_holds⟩, 8, _, TX8, 3, rfl, rfl⟩)⟩
noncomputable def ct_2730 : CTB2 := [(1, 414, 1, con_2717, []), (8, 414, 1, con_2717, []), (22, 420, 0, con_2704, [1, 2]), (33, 420, 0, con_2704, [1, 2]), (74, 433, 0, con_2728, [1, 2]), (89, 433, 0, con_2729, [1, 2])]
noncomputable def rf_2730 : List (Nat × List POP) := [(98, [(0, (1, 2, 0), 0, 60), (0, (1, 4, 0), 0, 60), (0, (1, 5, 0), 0, 60)])]
noncomputable def cu_2730 : List CUT2 := []
theorem ch_2730 : staG tb_X11_paste 2 bt_RX11 [] ct_2730 rf_2730 [110, 124] cu_2730 63 con_2730 = true := by decide +kernel
theorem cto_2730 (l : Launch) : CTOK2 l RX11 vwCl gTbl ct_2730 := ct2_cons (vl_2717 l) ck_RX11_414_2717 (ct2_cons (vl_2717 l) ck_RX11_414_2717 (ct2_cons (vl_2704 l) ck_RX11_420_2704 (ct2_cons (vl_2704 l) ck_RX11_420_2704 (ct2_cons (vl_2728 l) ck_RX11_433_2728 (ct2_cons (vl_2729 l) ck_RX11_433_2729 (ct2_nil))))))
theorem vl_2730 (l : Launch) : Vld2 l vwCl gTbl con_2730 := conR_ok3 gT_all (hd_2730) rfl pn_RX11 tk_X11_paste bo_RX11 xo_RX11 (cto_2730 l) ch_2730 cut_nil
/-- RookHustingModel paste -/
noncomputable def gi_3166 : GI := jl_n [jl_z 1, jl_r 5 (jl_t), jl_z 45, jl_r 4 (jl_m 0 60), jl_r 4 (jl_i 0 3)]
noncomputable def ac_1570 : AC := .inl (12, jl_n [jl_8 47 41, jl_6 5 4])
noncomputable def ac_1571 : AC := .inr (1, jl_n [js_1 55 4])
noncomputable def ac_1572 : AC := .inr (1, jl_n [js_1 59 4])
noncomputable def ac_1573 : AC := .inr (2, jl_n [js_5 60 9223372036854775807 9223372036854775807])
noncomputable def gi_3167 : GI := jl_n [jl_z 1, jl_r 5 (jl_t), jl_z 45, jl_r 4 (jl_m 0 60), jl_r 4 (jl_i 0 3), jl_m 7 0]
noncomputable def hq_1032 : HP := [(false, ac_1570), (false, ac_1571), (false, ac_1572), (true, ac_807), (true, ac_1573)]
noncomputable def con_2731 : Con2 := ((yX12_paste, cX12_paste, 7, (some .int)), (2, 45), ([(6, 0, 0), (1, 1, 0), (1, 2, 0), (1, 3, 0), (1, 4, 0), (1, 5, 0)], gi_3166, [ac_1570, ac_1571, ac_1572, ac_807, ac_1573], []), [((1, 59, 0), gi_3167, hq_1032, [], [1])])
theorem hd_2731 : con_2731.1 = (yX12_paste, cX12_paste, 7, (some .int)) := rfl
noncomputable def ct_2731 : CTB2 := [(1, 414, 1, con_2720, []), (8, 414, 1, con_2720, [])]
noncomputable def rf_2731 : List (Nat × List POP) := [(17, [(1, (1, 1, 0), 0, 0), (1, (1, 3, 0), 0, 0)]), (110, [(0, (1, 2, 0), 0, 60), (0, (1, 4, 0), 0, 60), (0, (1, 5, 0), 0, 60)]), (139, [(0, (0, 0, 0), 0, 239)]), (178, [(0, (0, 1, 0), 0, 239)])]
noncomputable def gi_3168 : GI := jl_n [jl_z 1, jl_i 3 3, jl_i 0 60, jl_i 3 3, jl_r 2 (jl_i 0 60), jl_z 45, jl_r 3 (jl_m 0 60), jl_i 0 60, jl_r 4 (jl_i 0 3), jl_z 6, jl_i 0 60]
noncomputable def hq_1033 : HP := [(false, ac_1570), (false, ac_1571), (false, ac_1572), (false, ac_807), (true, ac_1573)]
noncomputable def rq_24 : RLs := [([(2, (-1)), (5, (-1))], 60), ([(4, (-1)), (5, (-1))], 60)]
noncomputable def gi_3169 : GI := jl_n [jl_z 1, jl_i 3 3, jl_i 0 60, jl_i 2 2, jl_r 2 (jl_i 0 60), jl_z 45, jl_r 2 (jl_m 0 60), jl_r 2 (jl_i 0 60), jl_r 4 (jl_i 0 3), jl_z 6, jl_i 0 60]
noncomputable def gi_3170 : GI := jl_n [jl_z 1, jl_i 3 3, jl_i 0 60, jl_i 1 1, jl_r 2 (jl_i 0 60), jl_z 45, jl_m 0 60, jl_i 0 60, jl_m 0 60, jl_i 0 60, jl_r 4 (jl_i 0 3), jl_z 6, jl_i 0 60]
noncomputable def gi_3171 : GI := jl_n [jl_z 1, jl_i 3 3, jl_i 0 60, jl_z 1, jl_r 2 (jl_i 0 60), jl_z 45, jl_i 0 60, jl_r 2 (jl_m 0 60), jl_i 0 60, jl_r 4 (jl_i 0 3), jl_z 6, jl_i 0 60]
noncomputable def gi_3172 : GI := jl_n [jl_z 1, jl_i 2 2, jl_i 0 60, jl_i 3 3, jl_r 2 (jl_i 0 60), jl_z 45, jl_r 2 (jl_m 0 60), jl_r 2 (jl_i 0 60), jl_r 4 (jl_i 0 3), jl_z 6, jl_i 0 60]
noncomputable def gi_3173 : GI := jl_n [jl_z 1, jl_i 2 2, jl_i 0 60, jl_i 2 2, jl_r 2 (jl_i 0 60), jl_z 45, jl_r 2 (jl_m 0 60), jl_i 0 60, jl_m 0 60, jl_r 4 (jl_i 0 3), jl_z 6, jl_i 0 60]
noncomputable def gi_3174 : GI := jl_n [jl_z 1, jl_i 2 2, jl_i 0 60, jl_i 1 1, jl_r 2 (jl_i 0 60), jl_z 45, jl_m 0 60, jl_r 2 (jl_i 0 60), jl_m 0 60, jl_r 4 (jl_i 0 3), jl_z 6, jl_i 0 60]
noncomputable def gi_3175 : GI := jl_n [jl_z 1, jl_i 2 2, jl_i 0 60, jl_z 1, jl_r 2 (jl_i 0 60), jl_z 45, jl_i 0 60, jl_m 0 60, jl_i 0 60, jl_m 0 60, jl_r 4 (jl_i 0 3), jl_z 6, jl_i 0 60]
noncomputable def gi_3176 : GI := jl_n [jl_z 1, jl_i 1 1, jl_i 0 60, jl_i 3 3, jl_r 2 (jl_i 0 60), jl_z 45, jl_m 0 60, jl_i 0 60, jl_m 0 60, jl_i 0 60, jl_r 4 (jl_i 0 3), jl_z 6, jl_i 0 60]
noncomputable def gi_3177 : GI := jl_n [jl_z 1, jl_i 1 1, jl_i 0 60, jl_i 2 2, jl_r 2 (jl_i 0 60), jl_z 45, jl_m 0 60, jl_r 2 (jl_i 0 60), jl_m 0 60, jl_r 4 (jl_i 0 3), jl_z 6, jl_i 0 60]
noncomputable def gi_3178 : GI := jl_n [jl_z 1, jl_i 1 1, jl_i 0 60, jl_i 1 1, jl_r 2 (jl_i 0 60), jl_z 45, jl_m 0 60, jl_i 0 60, jl_r 2 (jl_m 0 60), jl_r 4 (jl_i 0 3), jl_z 6, jl_i 0 60]
noncomputable def gi_3179 : GI := jl_n [jl_z 1, jl_i 1 1, jl_i 0 60, jl_z 1, jl_r 2 (jl_i 0 60), jl_z 45, jl_r 2 (jl_i 0 60), jl_r 2 (jl_m 0 60), jl_r 4 (jl_i 0 3), jl_z 6, jl_i 0 60]
noncomputable def gi_3180 : GI := jl_n [jl_z 2, jl_i 0 60, jl_i 3 3, jl_r 2 (jl_i 0 60), jl_z 45, jl_i 0 60, jl_r 2 (jl_m 0 60), jl_i 0 60, jl_r 4 (jl_i 0 3), jl_z 6, jl_i 0 60]
noncomputable def gi_3181 : GI := jl_n [jl_z 2, jl_i 0 60, jl_i 2 2, jl_r 2 (jl_i 0 60), jl_z 45, jl_i 0 60, jl_m 0 60, jl_i 0 60, jl_m 0 60, jl_r 4 (jl_i 0 3), jl_z 6, jl_i 0 60]
noncomputable def gi_3182 : GI := jl_n [jl_z 2, jl_i 0 60, jl_i 1 1, jl_r 2 (jl_i 0 60), jl_z 45, jl_r 2 (jl_i 0 60), jl_r 2 (jl_m 0 60), jl_r 4 (jl_i 0 3), jl_z 6, jl_i 0 60]
noncomputable def gi_3183 : GI := jl_n [jl_z 2, jl_i 0 60, jl_z 1, jl_r 2 (jl_i 0 60), jl_z 45, jl_i 0 60, jl_r 3 (jl_m 0 60), jl_r 4 (jl_i 0 3), jl_z 6, jl_i 0 60]
noncomputable def cu_2731 : List CUT2 := [((113, [(0, (6, 0, 0)), (1, (1, 1, 0)), (2, (1, 2, 0)), (3, (1, 3, 0)), (4, (1, 4, 0)), (5, (1, 5, 0)), (6, (1, 65, 0))], [], gi_3168, hq_1033), rq_24, ([(65, (-1))], 121)), ((113, [(0, (6, 0, 0)), (1, (1, 1, 0)), (2, (1, 2, 0)), (3, (1, 3, 0)), (4, (1, 4, 0)), (5, (1, 5, 0)), (6, (1, 65, 0))], [], gi_3169, hq_1033), rq_24, ([(65, (-1))], 121)), ((113, [(0, (6, 0, 0)), (1, (1, 1, 0)), (2, (1, 2, 0)), (3, (1, 3, 0)), (4, (1, 4, 0)), (5, (1, 5, 0)), (6, (1, 65, 0))], [], gi_3170, hq_1033), rq_24, ([(65, (-1))], 121)), ((113, [(0, (6, 0, 0)), (1, (1, 1, 0)), (2, (1, 2, 0)), (3, (1, 3, 0)), (4, (1, 4, 0)), (5, (1, 5, 0)), (6, (1, 65, 0))], [], gi_3171, hq_1033), rq_24, ([(65, (-1))], 121)), ((113, [(0, (6, 0, 0)), (1, (1, 1, 0)), (2, (1, 2, 0)), (3, (1, 3, 0)), (4, (1, 4, 0)), (5, (1, 5, 0)), (6, (1, 65, 0))], [], gi_3172, hq_1033), rq_24, ([(65, (-1))], 121)), ((113, [(0, (6, 0, 0)), (1, (1, 1, 0)), (2, (1, 2, 0)), (3, (1, 3, 0)), (4, (1, 4, 0)), (5, (1, 5, 0)), (6, (1, 65, 0))], [], gi_3173, hq_1033), rq_24, ([(65, (-1))], 121)), ((113, [(0, (6, 0, 0)), (1, (1, 1, 0)), (2, (1, 2, 0)), (3, (1, 3, 0)), (4, (1, 4, 0)), (5, (1, 5, 0)), (6, (1, 65, 0))], [], gi_3174, hq_1033), rq_24, ([(65, (-1))], 121)), ((113, [(0, (6, 0, 0)), (1, (1, 1, 0)), (2, (1, 2, 0)), (3, (1, 3, 0)), (4, (1, 4, 0)), (5, (1, 5, 0)), (6, (1, 65, 0))], [], gi_3175, hq_1033), rq_24, ([(65, (-1))], 121)), ((113, [(0, (6, 0, 0)), (1, (1, 1, 0)), (2, (1, 2, 0)), (3, (1, 3, 0)), (4, (1, 4, 0)), (5, (1, 5, 0)), (6, (1, 65, 0))], [], gi_3176, hq_1033), rq_24, ([(65, (-1))], 121)), ((113, [(0, (6, 0, 0)), (1, (1, 1, 0)), (2, (1, 2, 0)), (3, (1, 3, 0)), (4, (1, 4, 0)), (5, (1, 5, 0)), (6, (1, 65, 0))], [], gi_3177, hq_1033), rq_24, ([(65, (-1))], 121)), ((113, [(0, (6, 0, 0)), (1, (1, 1, 0)), (2, (1, 2, 0)), (3, (1, 3, 0)), (4, (1, 4, 0)), (5, (1, 5, 0)), (6, (1, 65, 0))], [], gi_3178, hq_1033), rq_24, ([(65, (-1))], 121)), ((113, [(0, (6, 0, 0)), (1, (1, 1, 0)), (2, (1, 2, 0)), (3, (1, 3, 0)), (4, (1, 4, 0)), (5, (1, 5, 0)), (6, (1, 65, 0))], [], gi_3179, hq_1033), rq_24, ([(65, (-1))], 121)), ((113, [(0, (6, 0, 0)), (1, (1, 1, 0)), (2, (1, 2, 0)), (3, (1, 3, 0)), (4, (1, 4, 0)), (5, (1, 5, 0)), (6, (1, 65, 0))], [], gi_3180, hq_1033), rq_24, ([(65, (-1))], 121)), ((113, [(0, (6, 0, 0)), (1, (1, 1, 0)), (2, (1, 2, 0)), (3, (1, 3, 0)), (4, (1, 4, 0)), (5, (1, 5, 0)), (6, (1, 65, 0))], [], gi_3181, hq_1033), rq_24, ([(65, (-1))], 121)), ((113, [(0, (6, 0, 0)), (1, (1, 1, 0)), (2, (1, 2, 0)), (3, (1, 3, 0)), (4, (1, 4, 0)), (5, (1, 5, 0)), (6, (1, 65, 0))], [], gi_3182, hq_1033), rq_24, ([(65, (-1))], 121)), ((113, [(0, (6, 0, 0)), (1, (1, 1, 0)), (2, (1, 2, 0)), (3, (1, 3, 0)), (4, (1, 4, 0)), (5, (1, 5, 0)), (6, (1, 65, 0))], [], gi_3183, hq_1033), rq_24, ([(65, (-1))], 121)), ((150, [(0, (6, 0, 0)), (1, (1, 1, 0)), (2, (1, 2, 0)), (3, (1, 3, 0)), (4, (1, 4, 0)), (5, (1, 5, 0)), (6, (1, 65, 0))], [], gi_3168, hq_1032), rq_24, ([(65, (-1))], 60)), ((150, [(0, (6, 0, 0)), (1, (1, 1, 0)), (2, (1, 2, 0)), (3, (1, 3, 0)), (4, (1, 4, 0)), (5, (1, 5, 0)), (6, (1, 65, 0))], [], gi_3169, hq_1032), rq_24, ([(65, (-1))], 60)), ((150, [(0, (6, 0, 0)), (1, (1, 1, 0)), (2, (1, 2, 0)), (3, (1, 3, 0)), (4, (1, 4, 0)), (5, (1, 5, 0)), (6, (1, 65, 0))], [], gi_3170, hq_1032), rq_24, ([(65, (-1))], 60)), ((150, [(0, (6, 0, 0)), (1, (1, 1, 0)), (2, (1, 2, 0)), (3, (1, 3, 0)), (4, (1, 4, 0)), (5, (1, 5, 0)), (6, (1, 65, 0))], [], gi_3171, hq_1032), rq_24, ([(65, (-1))], 60)), ((150, [(0, (6, 0, 0)), (1, (1, 1, 0)), (2, (1, 2, 0)), (3, (1, 3, 0)), (4, (1, 4, 0)), (5, (1, 5, 0)), (6, (1, 65, 0))], [], gi_3172, hq_1032), rq_24, ([(65, (-1))], 60)), ((150, [(0, (6, 0, 0)), (1, (1, 1, 0)), (2, (1, 2, 0)), (3, (1, 3, 0)), (4, (1, 4, 0)), (5, (1, 5, 0)), (6, (1, 65, 0))], [], gi_3173, hq_1032), rq_24, ([(65, (-1))], 60)), ((150, [(0, (6, 0, 0)), (1, (1, 1, 0)), (2, (1, 2, 0)), (3, (1, 3, 0)), (4, (1, 4, 0)), (5, (1, 5, 0)), (6, (1, 65, 0))], [], gi_3174, hq_1032), rq_24, ([(65, (-1))], 60)), ((150, [(0, (6, 0, 0)), (1, (1, 1, 0)), (2, (1, 2, 0)), (3, (1, 3, 0)), (4, (1, 4, 0)), (5, (1, 5, 0)), (6, (1, 65, 0))], [], gi_3175, hq_1032), rq_24, ([(65, (-1))], 60)), ((150, [(0, (6, 0, 0)), (1, (1, 1, 0)), (2, (1, 2, 0)), (3, (1, 3, 0)), (4, (1, 4, 0)), (5, (1, 5, 0)), (6, (1, 65, 0))], [], gi_3176, hq_1032), rq_24, ([(65, (-1))], 60)), ((150, [(0, (6, 0, 0)), (1, (1, 1, 0)), (2, (1, 2, 0)), (3, (1, 3, 0)), (4, (1, 4, 0)), (5, (1, 5, 0)), (6, (1, 65, 0))], [], gi_3177, hq_1032), rq_24, ([(65, (-1))], 60)), ((150, [(0, (6, 0, 0)), (1, (1, 1, 0)), (2, (1, 2, 0)), (3, (1, 3, 0)), (4, (1, 4, 0)), (5, (1, 5, 0)), (6, (1, 65, 0))], [], gi_3178, hq_1032), rq_24, ([(65, (-1))], 60)), ((150, [(0, (6, 0, 0)), (1, (1, 1, 0)), (2, (1, 2, 0)), (3, (1, 3, 0)), (4, (1, 4, 0)), (5, (1, 5, 0)), (6, (1, 65, 0))], [], gi_3179, hq_1032), rq_24, ([(65, (-1))], 60)), ((150, [(0, (6, 0, 0)), (1, (1, 1, 0)), (2, (1, 2, 0)), (3, (1, 3, 0)), (4, (1, 4, 0)), (5, (1, 5, 0)), (6, (1, 65, 0))], [], gi_3180, hq_1032), rq_24, ([(65, (-1))], 60)), ((150, [(0, (6, 0, 0)), (1, (1, 1, 0)), (2, (1, 2, 0)), (3, (1, 3, 0)), (4, (1, 4, 0)), (5, (1, 5, 0)), (6, (1, 65, 0))], [], gi_3181, hq_1032), rq_24, ([(65, (-1))], 60)), ((150, [(0, (6, 0, 0)), (1, (1, 1, 0)), (2, (1, 2, 0)), (3, (1, 3, 0)), (4, (1, 4, 0)), (5, (1, 5, 0)), (6, (1, 65, 0))], [], gi_3182, hq_1032), rq_24, ([(65, (-1))], 60)), ((150, [(0, (6, 0, 0)), (1, (1, 1, 0)), (2, (1, 2, 0)), (3, (1, 3, 0)), (4, (1, 4, 0)), (5, (1, 5, 0)), (6, (1, 65, 0))], [], gi_3183, hq_1032), rq_24, ([(65, (-1))], 60))]
theorem ch_2731 : staG tb_X12_paste 3 bt_RX12 [] ct_2731 rf_2731 [77, 85, 95, 103, 117, 138, 154, 170] cu_2731 60 con_2731 = true := by decide +kernel
theorem cc_2731 : cu_2731.all (cutG tb_X12_paste 3 bt_RX12 [] ct_2731 rf_2731 [77, 85, 95, 103, 117, 138, 154, 170] cu_2731 60 con_2731) = true := by decide +kernel
theorem cto_2731 (l : Launch) : CTOK2 l RX12 vwCl gTbl ct_2731 := ct2_cons (vl_2720 l) ck_RX12_414_2720 (ct2_cons (vl_2720 l) ck_RX12_414_2720 (ct2_nil))
theorem vl_2731 (l : Launch) : Vld2 l vwCl gTbl con_2731 := conR_ok3 gT_all (hd_2731) rfl pn_RX12 tk_X12_paste bo_RX12 xo_RX12 (cto_2731 l) ch_2731 (cut_all cc_2731)
