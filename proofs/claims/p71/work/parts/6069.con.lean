/-! ===== contracts, 69 ===== -/
/-- RookHusting row -/
noncomputable def gi_3143 : GI := jl_n [gp_915, gp_917]
noncomputable def ac_1550 : AC := .inl (11, jl_n [vp_26, jl_8 20 11])
noncomputable def ac_1551 : AC := .inr (1, jl_n [js_1 27 4])
noncomputable def ac_1552 : AC := .inr (1, jl_n [js_1 31 4])
noncomputable def hc_260 : List AC := [ac_1550, .inl (8, [(6, 4, 0), (6, 2, 0), (6, 3, 0)]), ac_1551, ac_1552, ac_807]
noncomputable def gi_3144 : GI := jl_n [gp_915, gp_918]
noncomputable def hq_1022 : HP := [(false, ac_1550), (false, .inl (8, [(6, 4, 0), (6, 2, 0), (6, 3, 0)])), (false, ac_1551), (false, ac_1552), (false, ac_807)]
noncomputable def con_2717 : Con2 := ((yX11_row, cX11_row, 4, (some .int)), (1, 20), ([(6, 0, 0), (1, 1, 0), (1, 2, 0), (1, 3, 0)], gi_3143, hc_260, []), [((0, (-2), 0), gi_3144, hq_1022, [], [1])])
theorem hd_2717 : con_2717.1 = (yX11_row, cX11_row, 4, (some .int)) := rfl
noncomputable def cu_2717 : List CUT2 := []
theorem ch_2717 : staG tb_X11_row 1 bt_RX11 [] ct_1511 [] [] cu_2717 7 con_2717 = true := by decide +kernel
theorem vl_2717 (l : Launch) : Vld2 l vwCl gTbl con_2717 := conR_ok3 gT_all (hd_2717) rfl pn_RX11 tk_X11_row bo_RX11 xo_RX11 (cto_1511 l) ch_2717 cut_nil
/-- RookHusting$Slots isSlot -/
noncomputable def con_2718 : Con2 := ((yX8_isSlot, cX8_isSlot, 1, (some .boolean)), (0, 0), ([(1, 0, 0)], [(0, 3)], [], []), [((0, 1, 0), [(0, 3), (0, 0)], [], [], [1])])
theorem hd_2718 : con_2718.1 = (yX8_isSlot, cX8_isSlot, 1, (some .boolean)) := rfl
noncomputable def cu_2718 : List CUT2 := []
theorem ch_2718 : staG tb_X8_isSlot 1 bt_RX8 [] ct_1253 [] [] cu_2718 10 con_2718 = true := by decide +kernel
theorem vl_2718 (l : Launch) : Vld2 l vwCl gTbl con_2718 := conR_ok3 gT_all (hd_2718) rfl pn_RX8 tk_X8_isSlot bo_RX8 xo_RX8 (cto_1253 l) ch_2718 cut_nil
/-- RookHusting row -/
noncomputable def gi_3145 : GI := jl_n [gp_919, gp_917]
noncomputable def gi_3146 : GI := jl_n [gp_919, gp_918]
noncomputable def con_2719 : Con2 := ((yX11_row, cX11_row, 4, (some .int)), (1, 20), ([(6, 0, 0), (1, 1, 0), (1, 2, 0), (1, 3, 0)], gi_3145, hc_260, []), [((0, (-2), 0), gi_3146, hq_1022, [], [1])])
theorem hd_2719 : con_2719.1 = (yX11_row, cX11_row, 4, (some .int)) := rfl
theorem ck_RX11_414_2718 : COK2 RX11 vwCl gTbl 414 1 con_2718 := ⟨wd_1210, wd_131, mh_X8_isSlot, .inl ⟨rfl, wd_1208, wd_1209, pd_X8_isSlot⟩⟩
noncomputable def ct_2719 : CTB2 := [(1, 414, 1, con_2718, [])]
noncomputable def cu_2719 : List CUT2 := []
theorem ch_2719 : staG tb_X11_row 1 bt_RX11 [] ct_2719 [] [] cu_2719 9 con_2719 = true := by decide +kernel
theorem cto_2719 (l : Launch) : CTOK2 l RX11 vwCl gTbl ct_2719 := ct2_cons (vl_2718 l) ck_RX11_414_2718 (ct2_nil)
theorem vl_2719 (l : Launch) : Vld2 l vwCl gTbl con_2719 := conR_ok3 gT_all (hd_2719) rfl pn_RX11 tk_X11_row bo_RX11 xo_RX11 (cto_2719 l) ch_2719 cut_nil
/-- RookHusting row -/
noncomputable def gi_3147 : GI := jl_n [gp_920, gp_917]
noncomputable def gi_3148 : GI := jl_n [gp_920, gp_918]
noncomputable def con_2720 : Con2 := ((yX11_row, cX11_row, 4, (some .int)), (1, 20), ([(6, 0, 0), (1, 1, 0), (1, 2, 0), (1, 3, 0)], gi_3147, hc_260, []), [((0, (-2), 0), gi_3148, hq_1022, [], [1])])
theorem hd_2720 : con_2720.1 = (yX11_row, cX11_row, 4, (some .int)) := rfl
noncomputable def cu_2720 : List CUT2 := []
theorem ch_2720 : staG tb_X11_row 1 bt_RX11 [] ct_1254 [] [] cu_2720 7 con_2720 = true := by decide +kernel
theorem vl_2720 (l : Launch) : Vld2 l vwCl gTbl con_2720 := conR_ok3 gT_all (hd_2720) rfl pn_RX11 tk_X11_row bo_RX11 xo_RX11 (cto_1254 l) ch_2720 cut_nil
/-- RookHusting row -/
noncomputable def gi_3149 : GI := jl_n [gp_921, gp_922]
noncomputable def gi_3150 : GI := jl_n [gp_921, gp_923]
noncomputable def con_2721 : Con2 := ((yX11_row, cX11_row, 4, (some .int)), (1, 20), ([(6, 0, 0), (1, 1, 0), (1, 2, 0), (1, 3, 0)], gi_3149, hc_260, []), [((0, (-2), 0), gi_3150, hq_1022, [], [1])])
theorem hd_2721 : con_2721.1 = (yX11_row, cX11_row, 4, (some .int)) := rfl
noncomputable def cu_2721 : List CUT2 := []
theorem ch_2721 : staG tb_X11_row 1 bt_RX11 [] ct_1511 [] [] cu_2721 7 con_2721 = true := by decide +kernel
theorem vl_2721 (l : Launch) : Vld2 l vwCl gTbl con_2721 := conR_ok3 gT_all (hd_2721) rfl pn_RX11 tk_X11_row bo_RX11 xo_RX11 (cto_1511 l) ch_2721 cut_nil
/-- RookHusting row -/
noncomputable def gi_3151 : GI := jl_n [gp_924, gp_922]
noncomputable def gi_3152 : GI := jl_n [gp_924, gp_923]
noncomputable def con_2722 : Con2 := ((yX11_row, cX11_row, 4, (some .int)), (1, 20), ([(6, 0, 0), (1, 1, 0), (1, 2, 0), (1, 3, 0)], gi_3151, hc_260, []), [((0, (-3), 0), gi_3152, hq_1022, [], [1])])
theorem hd_2722 : con_2722.1 = (yX11_row, cX11_row, 4, (some .int)) := rfl
noncomputable def cu_2722 : List CUT2 := []
theorem ch_2722 : staG tb_X11_row 1 bt_RX11 [] ct_2719 [] [] cu_2722 17 con_2722 = true := by decide +kernel
theorem vl_2722 (l : Launch) : Vld2 l vwCl gTbl con_2722 := conR_ok3 gT_all (hd_2722) rfl pn_RX11 tk_X11_row bo_RX11 xo_RX11 (cto_2719 l) ch_2722 cut_nil
/-- RookHusting row -/
noncomputable def gi_3153 : GI := jl_n [gp_925, gp_922]
noncomputable def gi_3154 : GI := jl_n [gp_925, gp_923]
noncomputable def con_2723 : Con2 := ((yX11_row, cX11_row, 4, (some .int)), (1, 20), ([(6, 0, 0), (1, 1, 0), (1, 2, 0), (1, 3, 0)], gi_3153, hc_260, []), [((0, (-2), 0), gi_3154, hq_1022, [], [1])])
theorem hd_2723 : con_2723.1 = (yX11_row, cX11_row, 4, (some .int)) := rfl
noncomputable def cu_2723 : List CUT2 := []
theorem ch_2723 : staG tb_X11_row 1 bt_RX11 [] ct_1254 [] [] cu_2723 7 con_2723 = true := by decide +kernel
theorem vl_2723 (l : Launch) : Vld2 l vwCl gTbl con_2723 := conR_ok3 gT_all (hd_2723) rfl pn_RX11 tk_X11_row bo_RX11 xo_RX11 (cto_1254 l) ch_2723 cut_nil
/-- RookHusting row -/
noncomputable def gi_3155 : GI := jl_n [gp_926, gp_922]
noncomputable def gi_3156 : GI := jl_n [gp_926, gp_923]
noncomputable def con_2724 : Con2 := ((yX11_row, cX11_row, 4, (some .int)), (1, 20), ([(6, 0, 0), (1, 1, 0), (1, 2, 0), (1, 3, 0)], gi_3155, hc_260, []), [((0, (-2), 0), gi_3156, hq_1022, [], [1])])
theorem hd_2724 : con_2724.1 = (yX11_row, cX11_row, 4, (some .int)) := rfl
noncomputable def cu_2724 : List CUT2 := []
theorem ch_2724 : staG tb_X11_row 1 bt_RX11 [] ct_1511 [] [] cu_2724 7 con_2724 = true := by decide +kernel
theorem vl_2724 (l : Launch) : Vld2 l vwCl gTbl con_2724 := conR_ok3 gT_all (hd_2724) rfl pn_RX11 tk_X11_row bo_RX11 xo_RX11 (cto_1511 l) ch_2724 cut_nil
/-- RookHusting row -/
noncomputable def gi_3157 : GI := jl_n [gp_927, gp_922]
noncomputable def gi_3158 : GI := jl_n [gp_927, gp_923]
noncomputable def con_2725 : Con2 := ((yX11_row, cX11_row, 4, (some .int)), (1, 20), ([(6, 0, 0), (1, 1, 0), (1, 2, 0), (1, 3, 0)], gi_3157, hc_260, []), [((0, (-2), 0), gi_3158, hq_1022, [], [1])])
theorem hd_2725 : con_2725.1 = (yX11_row, cX11_row, 4, (some .int)) := rfl
noncomputable def cu_2725 : List CUT2 := []
theorem ch_2725 : staG tb_X11_row 1 bt_RX11 [] ct_2719 [] [] cu_2725 12 con_2725 = true := by decide +kernel
theorem vl_2725 (l : Launch) : Vld2 l vwCl gTbl con_2725 := conR_ok3 gT_all (hd_2725) rfl pn_RX11 tk_X11_row bo_RX11 xo_RX11 (cto_2719 l) ch_2725 cut_nil
/-- RookHusting row -/
noncomputable def gi_3159 : GI := jl_n [gp_928, gp_922]
noncomputable def gi_3160 : GI := jl_n [gp_928, gp_923]
noncomputable def con_2726 : Con2 := ((yX11_row, cX11_row, 4, (some .int)), (1, 20), ([(6, 0, 0), (1, 1, 0), (1, 2, 0), (1, 3, 0)], gi_3159, hc_260, []), [((0, (-2), 0), gi_3160, hq_1022, [], [1])])
theorem hd_2726 : con_2726.1 = (yX11_row, cX11_row, 4, (some .int)) := rfl
noncomputable def cu_2726 : List CUT2 := []
theorem ch_2726 : staG tb_X11_row 1 bt_RX11 [] ct_1254 [] [] cu_2726 7 con_2726 = true := by decide +kernel
theorem vl_2726 (l : Launch) : Vld2 l vwCl gTbl con_2726 := conR_ok3 gT_all (hd_2726) rfl pn_RX11 tk_X11_row bo_RX11 xo_RX11 (cto_1254 l) ch_2726 cut_nil
/-- RookHusting row -/
noncomputable def gi_3161 : GI := jl_n [gp_929, gp_930]
noncomputable def gi_3162 : GI := jl_n [gp_929, gp_931]
noncomputable def con_2727 : Con2 := ((yX11_row, cX11_row, 4, (some .int)), (1, 20), ([(6, 0, 0), (1, 1, 0), (1, 2, 0), (1, 3, 0)], gi_3161, hc_260, []), [((0, (-2), 0), gi_3162, hq_1022, [], [1])])
theorem hd_2727 : con_2727.1 = (yX11_row, cX11_row, 4, (some .int)) := rfl
noncomputable def cu_2727 : List CUT2 := []
theorem ch_2727 : staG tb_X11_row 1 bt_RX11 [] ct_1511 [] [] cu_2727 7 con_2727 = true := by decide +kernel
theorem vl_2727 (l : Launch) : Vld2 l vwCl gTbl con_2727 := conR_ok3 gT_all (hd_2727) rfl pn_RX11 tk_X11_row bo_RX11 xo_RX11 (cto_1511 l) ch_2727 cut_nil
/-- RookHusting row -/
noncomputable def gi_3163 : GI := jl_n [gp_932, gp_930]
noncomputable def gi_3164 : GI := jl_n [gp_932, gp_931]
noncomputable def con_2728 : Con2 := ((yX11_row, cX11_row, 4, (some .int)), (1, 20), ([(6, 0, 0), (1, 1, 0), (1, 2, 0), (1, 3, 0)], gi_3163, hc_260, []), [((0, (-2), 0), gi_3164, hq_1022, [], [1])])
theorem hd_2728 : con_2728.1 = (yX11_row, cX11_row, 4, (some .int)) := rfl
noncomputable def cu_2728 : List CUT2 := []
theorem ch_2728 : staG tb_X11_row 1 bt_RX11 [] ct_2719 [] [] cu_2728 9 con_2728 = true := by decide +kernel
theorem vl_2728 (l : Launch) : Vld2 l vwCl gTbl con_2728 := conR_ok3 gT_all (hd_2728) rfl pn_RX11 tk_X11_row bo_RX11 xo_RX11 (cto_2719 l) ch_2728 cut_nil
/-- RookHusting row -/
noncomputable def gi_3165 : GI := jl_n [gp_933, gp_930]
noncomputable def gi_3166 : GI := jl_n [gp_933, gp_931]
noncomputable def con_2729 : Con2 := ((yX11_row, cX11_row, 4, (some .int)), (1, 20), ([(6, 0, 0), (1, 1, 0), (1, 2, 0), (1, 3, 0)], gi_3165, hc_260, []), [((0, (-2), 0), gi_3166, hq_1022, [], [1])])
theorem hd_2729 : con_2729.1 = (yX11_row, cX11_row, 4, (some .int)) := rfl
noncomputable def cu_2729 : List CUT2 := []
theorem ch_2729 : staG tb_X11_row 1 bt_RX11 [] ct_1254 [] [] cu_2729 7 con_2729 = true := by decide +kernel
theorem vl_2729 (l : Launch) : Vld2 l vwCl gTbl con_2729 := conR_ok3 gT_all (hd_2729) rfl pn_RX11 tk_X11_row bo_RX11 xo_RX11 (cto_1254 l) ch_2729 cut_nil
/-- RookHusting row -/
noncomputable def gi_3167 : GI := jl_n [gp_921, gp_930]
noncomputable def gi_3168 : GI := jl_n [gp_921, gp_931]
noncomputable def con_2730 : Con2 := ((yX11_row, cX11_row, 4, (some .int)), (1, 20), ([(6, 0, 0), (1, 1, 0), (1, 2, 0), (1, 3, 0)], gi_3167, hc_260, []), [((0, (-2), 0), gi_3168, hq_1022, [], [1])])
theorem hd_2730 : con_2730.1 = (yX11_row, cX11_row, 4, (some .int)) := rfl
noncomputable def cu_2730 : List CUT2 := []
theorem ch_2730 : staG tb_X11_row 1 bt_RX11 [] ct_1511 [] [] cu_2730 7 con_2730 = true := by decide +kernel
theorem vl_2730 (l : Launch) : Vld2 l vwCl gTbl con_2730 := conR_ok3 gT_all (hd_2730) rfl pn_RX11 tk_X11_row bo_RX11 xo_RX11 (cto_1511 l) ch_2730 cut_nil
/-- RookHusting$Slots renew -/
noncomputable def gi_3169 : GI := jl_n [gp_924, jl_i 0 60, jl_z 3, gp_916]
noncomputable def ac_1553 : AC := .inr (1, jl_n [js_1 11 4])
noncomputable def ac_1554 : AC := .inr (1, jl_n [js_1 15 4])
noncomputable def hc_261 : List AC := [.inl (8, [(6, 3, 0), (6, 1, 0), (6, 2, 0)]), ac_1553, ac_1554, ac_807]
noncomputable def gi_3170 : GI := jl_n [gp_924, jl_i 0 60, jl_z 3, jl_r 4 (jl_i 0 3), gp_934, jl_r 4 (jl_m 0 60)]
noncomputable def ac_1555 : AC := .inr (1, jl_n [js_1 19 4])
noncomputable def ac_1556 : AC := .inr (1, jl_n [js_1 23 4])
noncomputable def hq_1023 : HP := [(false, .inl (8, [(6, 3, 0), (6, 1, 0), (6, 2, 0)])), (true, ac_1555), (true, ac_1556), (true, ac_807)]
noncomputable def con_2731 : Con2 := ((yX8_renew, cX8_renew, 5, none), (0, 0), ([(6, 0, 0), (1, 1, 0), (1, 2, 0), (1, 3, 0)], gi_3169, hc_261, []), [((9, 0, 0), gi_3170, hq_1023, [], tg_34)])
theorem hd_2731 : con_2731.1 = (yX8_renew, cX8_renew, 5, none) := rfl
noncomputable def gi_3171 : GI := jl_n [gp_924, jl_i 0 60, jl_z 3, gp_916, jl_z 4, jl_i 0 60, gp_916]
noncomputable def ac_1557 : AC := .inr (1, jl_n [js_1 24 4])
noncomputable def ac_1558 : AC := .inr (1, jl_n [js_1 28 4])
noncomputable def hq_1024 : HP := [(false, .inl (8, [(6, 3, 0), (6, 1, 0), (6, 2, 0)])), (true, ac_1557), (true, ac_1558), (true, ac_807)]
noncomputable def cu_2731 : List CUT2 := [((17, [lq 0 6 0, lq 1 1 1, lq 2 1 2, lq 3 1 3, lq 4 1 19], [], gi_3171, hq_1024), [], ([(19, (-1))], 60))]
theorem ch_2731 : staG tb_X8_renew 1 bt_RX8 [] ct_1253 [] [] cu_2731 17 con_2731 = true := by decide +kernel
theorem cc_2731 : cu_2731.all (cutG tb_X8_renew 1 bt_RX8 [] ct_1253 [] [] cu_2731 17 con_2731) = true := by decide +kernel
theorem vl_2731 (l : Launch) : Vld2 l vwCl gTbl con_2731 := conR_ok3 gT_all (hd_2731) rfl pn_RX8 tk_X8_renew bo_RX8 xo_RX8 (cto_1253 l) ch_2731 (cut_all cc_2731)
/-- RookHusting row -/
noncomputable def gi_3172 : GI := jl_n [gp_924, gp_930]
noncomputable def gi_3173 : GI := jl_n [gp_924, gp_931, gp_916]
noncomputable def ac_1559 : AC := .inr (1, jl_n [js_1 36 4])
noncomputable def ac_1560 : AC := .inr (1, jl_n [js_1 40 4])
noncomputable def hq_1025 : HP := [(false, ac_1550), (false, .inl (8, [(6, 4, 0), (6, 2, 0), (6, 3, 0)])), (true, ac_1559), (true, ac_1560), (true, ac_807)]
noncomputable def con_2732 : Con2 := ((yX11_row, cX11_row, 4, (some .int)), (1, 24), ([(6, 0, 0), (1, 1, 0), (1, 2, 0), (1, 3, 0)], gi_3172, hc_260, []), [((0, 0, 0), gi_3173, hq_1025, [], tg_13)])
theorem hd_2732 : con_2732.1 = (yX11_row, cX11_row, 4, (some .int)) := rfl
theorem ck_RX11_417_2731 : COK2 RX11 vwCl gTbl 417 0 con_2731 := ⟨wd_1374, wd_131, mh_X8_renew, .inr (.inr ⟨rfl, wd_1371, wd_1372, wd_1373, ⟨_, rfl, pd_X8_renew⟩, 8, _, TX8, 3, rfl, rfl⟩)⟩
noncomputable def ct_2732 : CTB2 := [(1, 414, 1, con_2718, []), (39, 417, 0, con_2731, [1, 2, 3, 4])]
noncomputable def cu_2732 : List CUT2 := []
theorem ch_2732 : staG tb_X11_row 1 bt_RX11 [] ct_2732 [] [] cu_2732 23 con_2732 = true := by decide +kernel
theorem cto_2732 (l : Launch) : CTOK2 l RX11 vwCl gTbl ct_2732 := ct2_cons (vl_2718 l) ck_RX11_414_2718 (ct2_cons (vl_2731 l) ck_RX11_417_2731 (ct2_nil))
theorem vl_2732 (l : Launch) : Vld2 l vwCl gTbl con_2732 := conR_ok3 gT_all (hd_2732) rfl pn_RX11 tk_X11_row bo_RX11 xo_RX11 (cto_2732 l) ch_2732 cut_nil
/-- RookHusting row -/
noncomputable def gi_3174 : GI := jl_n [gp_925, gp_930]
noncomputable def gi_3175 : GI := jl_n [gp_925, gp_931]
noncomputable def con_2733 : Con2 := ((yX11_row, cX11_row, 4, (some .int)), (1, 20), ([(6, 0, 0), (1, 1, 0), (1, 2, 0), (1, 3, 0)], gi_3174, hc_260, []), [((0, (-2), 0), gi_3175, hq_1022, [], [1])])
theorem hd_2733 : con_2733.1 = (yX11_row, cX11_row, 4, (some .int)) := rfl
noncomputable def cu_2733 : List CUT2 := []
theorem ch_2733 : staG tb_X11_row 1 bt_RX11 [] ct_1254 [] [] cu_2733 7 con_2733 = true := by decide +kernel
theorem vl_2733 (l : Launch) : Vld2 l vwCl gTbl con_2733 := conR_ok3 gT_all (hd_2733) rfl pn_RX11 tk_X11_row bo_RX11 xo_RX11 (cto_1254 l) ch_2733 cut_nil
/-- RookHusting row -/
noncomputable def gi_3176 : GI := jl_n [gp_926, gp_930]
noncomputable def gi_3177 : GI := jl_n [gp_926, gp_931]
noncomputable def con_2734 : Con2 := ((yX11_row, cX11_row, 4, (some .int)), (1, 20), ([(6, 0, 0), (1, 1, 0), (1, 2, 0), (1, 3, 0)], gi_3176, hc_260, []), [((0, (-2), 0), gi_3177, hq_1022, [], [1])])
theorem hd_2734 : con_2734.1 = (yX11_row, cX11_row, 4, (some .int)) := rfl
noncomputable def cu_2734 : List CUT2 := []
theorem ch_2734 : staG tb_X11_row 1 bt_RX11 [] ct_1511 [] [] cu_2734 7 con_2734 = true := by decide +kernel
theorem vl_2734 (l : Launch) : Vld2 l vwCl gTbl con_2734 := conR_ok3 gT_all (hd_2734) rfl pn_RX11 tk_X11_row bo_RX11 xo_RX11 (cto_1511 l) ch_2734 cut_nil
/-- RookHusting row -/
noncomputable def gi_3178 : GI := jl_n [gp_927, gp_930]
noncomputable def gi_3179 : GI := jl_n [gp_927, gp_931]
noncomputable def con_2735 : Con2 := ((yX11_row, cX11_row, 4, (some .int)), (1, 20), ([(6, 0, 0), (1, 1, 0), (1, 2, 0), (1, 3, 0)], gi_3178, hc_260, []), [((0, (-2), 0), gi_3179, hq_1022, [], [1])])
theorem hd_2735 : con_2735.1 = (yX11_row, cX11_row, 4, (some .int)) := rfl
noncomputable def cu_2735 : List CUT2 := []
theorem ch_2735 : staG tb_X11_row 1 bt_RX11 [] ct_2719 [] [] cu_2735 12 con_2735 = true := by decide +kernel
theorem vl_2735 (l : Launch) : Vld2 l vwCl gTbl con_2735 := conR_ok3 gT_all (hd_2735) rfl pn_RX11 tk_X11_row bo_RX11 xo_RX11 (cto_2719 l) ch_2735 cut_nil
/-- RookHusting row -/
noncomputable def gi_3180 : GI := jl_n [gp_928, gp_930]
noncomputable def gi_3181 : GI := jl_n [gp_928, gp_931]
noncomputable def con_2736 : Con2 := ((yX11_row, cX11_row, 4, (some .int)), (1, 20), ([(6, 0, 0), (1, 1, 0), (1, 2, 0), (1, 3, 0)], gi_3180, hc_260, []), [((0, (-2), 0), gi_3181, hq_1022, [], [1])])
theorem hd_2736 : con_2736.1 = (yX11_row, cX11_row, 4, (some .int)) := rfl
noncomputable def cu_2736 : List CUT2 := []
theorem ch_2736 : staG tb_X11_row 1 bt_RX11 [] ct_1254 [] [] cu_2736 7 con_2736 = true := by decide +kernel
theorem vl_2736 (l : Launch) : Vld2 l vwCl gTbl con_2736 := conR_ok3 gT_all (hd_2736) rfl pn_RX11 tk_X11_row bo_RX11 xo_RX11 (cto_1254 l) ch_2736 cut_nil
/-- RookHusting row -/
noncomputable def gi_3182 : GI := jl_n [gp_929, gp_935]
noncomputable def gi_3183 : GI := jl_n [gp_929, gp_936]
noncomputable def con_2737 : Con2 := ((yX11_row, cX11_row, 4, (some .int)), (1, 20), ([(6, 0, 0), (1, 1, 0), (1, 2, 0), (1, 3, 0)], gi_3182, hc_260, []), [((0, (-2), 0), gi_3183, hq_1022, [], [1])])
theorem hd_2737 : con_2737.1 = (yX11_row, cX11_row, 4, (some .int)) := rfl
noncomputable def cu_2737 : List CUT2 := []
theorem ch_2737 : staG tb_X11_row 1 bt_RX11 [] ct_1511 [] [] cu_2737 7 con_2737 = true := by decide +kernel
theorem vl_2737 (l : Launch) : Vld2 l vwCl gTbl con_2737 := conR_ok3 gT_all (hd_2737) rfl pn_RX11 tk_X11_row bo_RX11 xo_RX11 (cto_1511 l) ch_2737 cut_nil
/-- RookHusting row -/
noncomputable def gi_3184 : GI := jl_n [gp_932, gp_935]
noncomputable def gi_3185 : GI := jl_n [gp_932, gp_936]
noncomputable def con_2738 : Con2 := ((yX11_row, cX11_row, 4, (some .int)), (1, 20), ([(6, 0, 0), (1, 1, 0), (1, 2, 0), (1, 3, 0)], gi_3184, hc_260, []), [((0, (-2), 0), gi_3185, hq_1022, [], [1])])
theorem hd_2738 : con_2738.1 = (yX11_row, cX11_row, 4, (some .int)) := rfl
noncomputable def cu_2738 : List CUT2 := []
theorem ch_2738 : staG tb_X11_row 1 bt_RX11 [] ct_2719 [] [] cu_2738 9 con_2738 = true := by decide +kernel
theorem vl_2738 (l : Launch) : Vld2 l vwCl gTbl con_2738 := conR_ok3 gT_all (hd_2738) rfl pn_RX11 tk_X11_row bo_RX11 xo_RX11 (cto_2719 l) ch_2738 cut_nil
/-- RookHusting row -/
noncomputable def gi_3186 : GI := jl_n [gp_933, gp_935]
noncomputable def gi_3187 : GI := jl_n [gp_933, gp_936]
noncomputable def con_2739 : Con2 := ((yX11_row, cX11_row, 4, (some .int)), (1, 20), ([(6, 0, 0), (1, 1, 0), (1, 2, 0), (1, 3, 0)], gi_3186, hc_260, []), [((0, (-2), 0), gi_3187, hq_1022, [], [1])])
theorem hd_2739 : con_2739.1 = (yX11_row, cX11_row, 4, (some .int)) := rfl
noncomputable def cu_2739 : List CUT2 := []
theorem ch_2739 : staG tb_X11_row 1 bt_RX11 [] ct_1254 [] [] cu_2739 7 con_2739 = true := by decide +kernel
theorem vl_2739 (l : Launch) : Vld2 l vwCl gTbl con_2739 := conR_ok3 gT_all (hd_2739) rfl pn_RX11 tk_X11_row bo_RX11 xo_RX11 (cto_1254 l) ch_2739 cut_nil
/-- RookHusting row -/
noncomputable def gi_3188 : GI := jl_n [gp_921, gp_935]
noncomputable def gi_3189 : GI := jl_n [gp_921, gp_936]
noncomputable def con_2740 : Con2 := ((yX11_row, cX11_row, 4, (some .int)), (1, 20), ([(6, 0, 0), (1, 1, 0), (1, 2, 0), (1, 3, 0)], gi_3188, hc_260, []), [((0, (-2), 0), gi_3189, hq_1022, [], [1])])
theorem hd_2740 : con_2740.1 = (yX11_row, cX11_row, 4, (some .int)) := rfl
noncomputable def cu_2740 : List CUT2 := []
theorem ch_2740 : staG tb_X11_row 1 bt_RX11 [] ct_1511 [] [] cu_2740 7 con_2740 = true := by decide +kernel
theorem vl_2740 (l : Launch) : Vld2 l vwCl gTbl con_2740 := conR_ok3 gT_all (hd_2740) rfl pn_RX11 tk_X11_row bo_RX11 xo_RX11 (cto_1511 l) ch_2740 cut_nil
/-- RookHusting row -/
noncomputable def gi_3190 : GI := jl_n [gp_924, gp_935]
noncomputable def gi_3191 : GI := jl_n [gp_924, gp_936]
noncomputable def con_2741 : Con2 := ((yX11_row, cX11_row, 4, (some .int)), (1, 20), ([(6, 0, 0), (1, 1, 0), (1, 2, 0), (1, 3, 0)], gi_3190, hc_260, []), [((0, (-2), 0), gi_3191, hq_1022, [], [1])])
theorem hd_2741 : con_2741.1 = (yX11_row, cX11_row, 4, (some .int)) := rfl
noncomputable def cu_2741 : List CUT2 := []
theorem ch_2741 : staG tb_X11_row 1 bt_RX11 [] ct_2719 [] [] cu_2741 15 con_2741 = true := by decide +kernel
theorem vl_2741 (l : Launch) : Vld2 l vwCl gTbl con_2741 := conR_ok3 gT_all (hd_2741) rfl pn_RX11 tk_X11_row bo_RX11 xo_RX11 (cto_2719 l) ch_2741 cut_nil
/-- RookHusting row -/
noncomputable def gi_3192 : GI := jl_n [gp_925, gp_935]
noncomputable def gi_3193 : GI := jl_n [gp_925, gp_936]
noncomputable def con_2742 : Con2 := ((yX11_row, cX11_row, 4, (some .int)), (1, 20), ([(6, 0, 0), (1, 1, 0), (1, 2, 0), (1, 3, 0)], gi_3192, hc_260, []), [((0, (-2), 0), gi_3193, hq_1022, [], [1])])
theorem hd_2742 : con_2742.1 = (yX11_row, cX11_row, 4, (some .int)) := rfl
noncomputable def cu_2742 : List CUT2 := []
theorem ch_2742 : staG tb_X11_row 1 bt_RX11 [] ct_1254 [] [] cu_2742 7 con_2742 = true := by decide +kernel
theorem vl_2742 (l : Launch) : Vld2 l vwCl gTbl con_2742 := conR_ok3 gT_all (hd_2742) rfl pn_RX11 tk_X11_row bo_RX11 xo_RX11 (cto_1254 l) ch_2742 cut_nil
/-- RookHusting row -/
noncomputable def gi_3194 : GI := jl_n [gp_926, gp_935]
noncomputable def gi_3195 : GI := jl_n [gp_926, gp_936]
noncomputable def con_2743 : Con2 := ((yX11_row, cX11_row, 4, (some .int)), (1, 20), ([(6, 0, 0), (1, 1, 0), (1, 2, 0), (1, 3, 0)], gi_3194, hc_260, []), [((0, (-2), 0), gi_3195, hq_1022, [], [1])])
theorem hd_2743 : con_2743.1 = (yX11_row, cX11_row, 4, (some .int)) := rfl
noncomputable def cu_2743 : List CUT2 := []
theorem ch_2743 : staG tb_X11_row 1 bt_RX11 [] ct_1511 [] [] cu_2743 7 con_2743 = true := by decide +kernel
theorem vl_2743 (l : Launch) : Vld2 l vwCl gTbl con_2743 := conR_ok3 gT_all (hd_2743) rfl pn_RX11 tk_X11_row bo_RX11 xo_RX11 (cto_1511 l) ch_2743 cut_nil
/-- RookHusting row -/
noncomputable def gi_3196 : GI := jl_n [gp_927, gp_935]
noncomputable def gi_3197 : GI := jl_n [gp_927, gp_936]
noncomputable def con_2744 : Con2 := ((yX11_row, cX11_row, 4, (some .int)), (1, 20), ([(6, 0, 0), (1, 1, 0), (1, 2, 0), (1, 3, 0)], gi_3196, hc_260, []), [((0, (-2), 0), gi_3197, hq_1022, [], [1])])
theorem hd_2744 : con_2744.1 = (yX11_row, cX11_row, 4, (some .int)) := rfl
noncomputable def cu_2744 : List CUT2 := []
theorem ch_2744 : staG tb_X11_row 1 bt_RX11 [] ct_2719 [] [] cu_2744 12 con_2744 = true := by decide +kernel
theorem vl_2744 (l : Launch) : Vld2 l vwCl gTbl con_2744 := conR_ok3 gT_all (hd_2744) rfl pn_RX11 tk_X11_row bo_RX11 xo_RX11 (cto_2719 l) ch_2744 cut_nil
/-- RookHusting row -/
noncomputable def gi_3198 : GI := jl_n [gp_928, gp_935]
noncomputable def gi_3199 : GI := jl_n [gp_928, gp_936]
noncomputable def con_2745 : Con2 := ((yX11_row, cX11_row, 4, (some .int)), (1, 20), ([(6, 0, 0), (1, 1, 0), (1, 2, 0), (1, 3, 0)], gi_3198, hc_260, []), [((0, (-2), 0), gi_3199, hq_1022, [], [1])])
theorem hd_2745 : con_2745.1 = (yX11_row, cX11_row, 4, (some .int)) := rfl
noncomputable def cu_2745 : List CUT2 := []
theorem ch_2745 : staG tb_X11_row 1 bt_RX11 [] ct_1254 [] [] cu_2745 7 con_2745 = true := by decide +kernel
theorem vl_2745 (l : Launch) : Vld2 l vwCl gTbl con_2745 := conR_ok3 gT_all (hd_2745) rfl pn_RX11 tk_X11_row bo_RX11 xo_RX11 (cto_1254 l) ch_2745 cut_nil
/-- RookHustingModel row -/
noncomputable def gi_3200 : GI := jl_n [gp_928, gp_938]
noncomputable def ac_1561 : AC := .inl (12, jl_n [jl_8 45 41, jl_6 4 3, jl_8 49 1])
noncomputable def ac_1562 : AC := .inr (1, jl_n [js_1 53 4])
noncomputable def ac_1563 : AC := .inr (1, jl_n [js_1 57 4])
noncomputable def gi_3201 : GI := jl_n [gp_928, gp_940]
noncomputable def hq_1026 : HP := [(false, ac_1561), (false, ac_1562), (false, ac_1563), (false, ac_807)]
noncomputable def con_2746 : Con2 := ((yX12_row, cX12_row, 5, (some .int)), (2, 45), ([(6, 0, 0), (1, 1, 0), (1, 2, 0), (1, 3, 0)], gi_3200, [ac_1561, ac_1562, ac_1563, ac_807], []), [((0, (-2), 0), gi_3201, hq_1026, [], [1])])
theorem hd_2746 : con_2746.1 = (yX12_row, cX12_row, 5, (some .int)) := rfl
noncomputable def cu_2746 : List CUT2 := []
theorem ch_2746 : staG tb_X12_row 1 bt_RX12 [] ct_1928 [] [] cu_2746 7 con_2746 = true := by decide +kernel
theorem vl_2746 (l : Launch) : Vld2 l vwCl gTbl con_2746 := conR_ok3 gT_all (hd_2746) rfl pn_RX12 tk_X12_row bo_RX12 xo_RX12 (cto_1928 l) ch_2746 cut_nil
/-- RookHustingModel isSlot -/
noncomputable def con_2747 : Con2 := ((yX12_isSlot, cX12_isSlot, 1, (some .boolean)), (1, 25), ([(1, 0, 0)], [(0, 3)], [], []), [((0, 1, 0), [(0, 3), (0, 0)], [], [], [1])])
theorem hd_2747 : con_2747.1 = (yX12_isSlot, cX12_isSlot, 1, (some .boolean)) := rfl
noncomputable def cu_2747 : List CUT2 := []
theorem ch_2747 : staG tb_X12_isSlot 1 bt_RX12 [] ct_1927 [] [] cu_2747 8 con_2747 = true := by decide +kernel
theorem vl_2747 (l : Launch) : Vld2 l vwCl gTbl con_2747 := conR_ok3 gT_all (hd_2747) rfl pn_RX12 tk_X12_isSlot bo_RX12 xo_RX12 (cto_1927 l) ch_2747 cut_nil
/-- RookHustingModel row -/
noncomputable def gi_3202 : GI := jl_n [gp_927, gp_938]
noncomputable def gi_3203 : GI := jl_n [gp_927, gp_940]
noncomputable def con_2748 : Con2 := ((yX12_row, cX12_row, 5, (some .int)), (2, 45), ([(6, 0, 0), (1, 1, 0), (1, 2, 0), (1, 3, 0)], gi_3202, [ac_1561, ac_1562, ac_1563, ac_807], []), [((0, (-2), 0), gi_3203, hq_1026, [], [1])])
theorem hd_2748 : con_2748.1 = (yX12_row, cX12_row, 5, (some .int)) := rfl
theorem ck_RX12_414_2747 : COK2 RX12 vwCl gTbl 414 1 con_2747 := ⟨wd_2057, wd_137, mh_X12_isSlot, .inl ⟨rfl, wd_2055, wd_2056, pd_X12_isSlot⟩⟩
noncomputable def ct_2748 : CTB2 := [(1, 414, 1, con_2747, []), (13, 91, 1, con_332, [])]
noncomputable def cu_2748 : List CUT2 := []
theorem ch_2748 : staG tb_X12_row 1 bt_RX12 [] ct_2748 [] [] cu_2748 13 con_2748 = true := by decide +kernel
theorem cto_2748 (l : Launch) : CTOK2 l RX12 vwCl gTbl ct_2748 := ct2_cons (vl_2747 l) ck_RX12_414_2747 (ct2_cons (vl_332 l) ck_RX12_91_332 (ct2_nil))
theorem vl_2748 (l : Launch) : Vld2 l vwCl gTbl con_2748 := conR_ok3 gT_all (hd_2748) rfl pn_RX12 tk_X12_row bo_RX12 xo_RX12 (cto_2748 l) ch_2748 cut_nil
/-- RookHustingModel row -/
noncomputable def gi_3204 : GI := jl_n [gp_926, gp_938]
noncomputable def gi_3205 : GI := jl_n [gp_926, gp_940]
noncomputable def con_2749 : Con2 := ((yX12_row, cX12_row, 5, (some .int)), (2, 45), ([(6, 0, 0), (1, 1, 0), (1, 2, 0), (1, 3, 0)], gi_3204, [ac_1561, ac_1562, ac_1563, ac_807], []), [((0, (-2), 0), gi_3205, hq_1026, [], [1])])
theorem hd_2749 : con_2749.1 = (yX12_row, cX12_row, 5, (some .int)) := rfl
noncomputable def cu_2749 : List CUT2 := []
theorem ch_2749 : staG tb_X12_row 1 bt_RX12 [] ct_2515 [] [] cu_2749 7 con_2749 = true := by decide +kernel
theorem vl_2749 (l : Launch) : Vld2 l vwCl gTbl con_2749 := conR_ok3 gT_all (hd_2749) rfl pn_RX12 tk_X12_row bo_RX12 xo_RX12 (cto_2515 l) ch_2749 cut_nil
/-- RookHustingModel row -/
noncomputable def gi_3206 : GI := jl_n [gp_925, gp_938]
noncomputable def gi_3207 : GI := jl_n [gp_925, gp_940]
noncomputable def con_2750 : Con2 := ((yX12_row, cX12_row, 5, (some .int)), (2, 45), ([(6, 0, 0), (1, 1, 0), (1, 2, 0), (1, 3, 0)], gi_3206, [ac_1561, ac_1562, ac_1563, ac_807], []), [((0, (-2), 0), gi_3207, hq_1026, [], [1])])
theorem hd_2750 : con_2750.1 = (yX12_row, cX12_row, 5, (some .int)) := rfl
noncomputable def cu_2750 : List CUT2 := []
theorem ch_2750 : staG tb_X12_row 1 bt_RX12 [] ct_1928 [] [] cu_2750 7 con_2750 = true := by decide +kernel
theorem vl_2750 (l : Launch) : Vld2 l vwCl gTbl con_2750 := conR_ok3 gT_all (hd_2750) rfl pn_RX12 tk_X12_row bo_RX12 xo_RX12 (cto_1928 l) ch_2750 cut_nil
/-- RookHustingModel row -/
noncomputable def gi_3208 : GI := jl_n [gp_924, gp_938]
noncomputable def gi_3209 : GI := jl_n [gp_924, gp_940]
noncomputable def con_2751 : Con2 := ((yX12_row, cX12_row, 5, (some .int)), (2, 45), ([(6, 0, 0), (1, 1, 0), (1, 2, 0), (1, 3, 0)], gi_3208, [ac_1561, ac_1562, ac_1563, ac_807], []), [((0, (-2), 0), gi_3209, hq_1026, [], [1])])
theorem hd_2751 : con_2751.1 = (yX12_row, cX12_row, 5, (some .int)) := rfl
noncomputable def cu_2751 : List CUT2 := []
theorem ch_2751 : staG tb_X12_row 1 bt_RX12 [] ct_2748 [] [] cu_2751 16 con_2751 = true := by decide +kernel
theorem vl_2751 (l : Launch) : Vld2 l vwCl gTbl con_2751 := conR_ok3 gT_all (hd_2751) rfl pn_RX12 tk_X12_row bo_RX12 xo_RX12 (cto_2748 l) ch_2751 cut_nil
/-- RookHustingModel row -/
noncomputable def gi_3210 : GI := jl_n [gp_921, gp_938]
noncomputable def gi_3211 : GI := jl_n [gp_921, gp_940]
noncomputable def con_2752 : Con2 := ((yX12_row, cX12_row, 5, (some .int)), (2, 45), ([(6, 0, 0), (1, 1, 0), (1, 2, 0), (1, 3, 0)], gi_3210, [ac_1561, ac_1562, ac_1563, ac_807], []), [((0, (-2), 0), gi_3211, hq_1026, [], [1])])
theorem hd_2752 : con_2752.1 = (yX12_row, cX12_row, 5, (some .int)) := rfl
noncomputable def cu_2752 : List CUT2 := []
theorem ch_2752 : staG tb_X12_row 1 bt_RX12 [] ct_2515 [] [] cu_2752 7 con_2752 = true := by decide +kernel
theorem vl_2752 (l : Launch) : Vld2 l vwCl gTbl con_2752 := conR_ok3 gT_all (hd_2752) rfl pn_RX12 tk_X12_row bo_RX12 xo_RX12 (cto_2515 l) ch_2752 cut_nil
/-- RookHustingModel row -/
noncomputable def gi_3212 : GI := jl_n [gp_933, gp_938]
noncomputable def gi_3213 : GI := jl_n [gp_933, gp_940]
noncomputable def con_2753 : Con2 := ((yX12_row, cX12_row, 5, (some .int)), (2, 45), ([(6, 0, 0), (1, 1, 0), (1, 2, 0), (1, 3, 0)], gi_3212, [ac_1561, ac_1562, ac_1563, ac_807], []), [((0, (-2), 0), gi_3213, hq_1026, [], [1])])
theorem hd_2753 : con_2753.1 = (yX12_row, cX12_row, 5, (some .int)) := rfl
noncomputable def cu_2753 : List CUT2 := []
theorem ch_2753 : staG tb_X12_row 1 bt_RX12 [] ct_1928 [] [] cu_2753 7 con_2753 = true := by decide +kernel
theorem vl_2753 (l : Launch) : Vld2 l vwCl gTbl con_2753 := conR_ok3 gT_all (hd_2753) rfl pn_RX12 tk_X12_row bo_RX12 xo_RX12 (cto_1928 l) ch_2753 cut_nil
/-- RookHustingModel row -/
noncomputable def gi_3214 : GI := jl_n [gp_932, gp_938]
noncomputable def gi_3215 : GI := jl_n [gp_932, gp_940]
noncomputable def con_2754 : Con2 := ((yX12_row, cX12_row, 5, (some .int)), (2, 45), ([(6, 0, 0), (1, 1, 0), (1, 2, 0), (1, 3, 0)], gi_3214, [ac_1561, ac_1562, ac_1563, ac_807], []), [((0, (-2), 0), gi_3215, hq_1026, [], [1])])
theorem hd_2754 : con_2754.1 = (yX12_row, cX12_row, 5, (some .int)) := rfl
noncomputable def cu_2754 : List CUT2 := []
theorem ch_2754 : staG tb_X12_row 1 bt_RX12 [] ct_2748 [] [] cu_2754 13 con_2754 = true := by decide +kernel
theorem vl_2754 (l : Launch) : Vld2 l vwCl gTbl con_2754 := conR_ok3 gT_all (hd_2754) rfl pn_RX12 tk_X12_row bo_RX12 xo_RX12 (cto_2748 l) ch_2754 cut_nil
/-- RookHustingModel row -/
noncomputable def gi_3216 : GI := jl_n [gp_929, gp_938]
noncomputable def gi_3217 : GI := jl_n [gp_929, gp_940]
noncomputable def con_2755 : Con2 := ((yX12_row, cX12_row, 5, (some .int)), (2, 45), ([(6, 0, 0), (1, 1, 0), (1, 2, 0), (1, 3, 0)], gi_3216, [ac_1561, ac_1562, ac_1563, ac_807], []), [((0, (-2), 0), gi_3217, hq_1026, [], [1])])
theorem hd_2755 : con_2755.1 = (yX12_row, cX12_row, 5, (some .int)) := rfl
noncomputable def cu_2755 : List CUT2 := []
theorem ch_2755 : staG tb_X12_row 1 bt_RX12 [] ct_2515 [] [] cu_2755 7 con_2755 = true := by decide +kernel
theorem vl_2755 (l : Launch) : Vld2 l vwCl gTbl con_2755 := conR_ok3 gT_all (hd_2755) rfl pn_RX12 tk_X12_row bo_RX12 xo_RX12 (cto_2515 l) ch_2755 cut_nil
/-- RookHustingModel row -/
noncomputable def gi_3218 : GI := jl_n [gp_928, gp_941]
noncomputable def gi_3219 : GI := jl_n [gp_928, gp_942]
noncomputable def con_2756 : Con2 := ((yX12_row, cX12_row, 5, (some .int)), (2, 45), ([(6, 0, 0), (1, 1, 0), (1, 2, 0), (1, 3, 0)], gi_3218, [ac_1561, ac_1562, ac_1563, ac_807], []), [((0, (-2), 0), gi_3219, hq_1026, [], [1])])
theorem hd_2756 : con_2756.1 = (yX12_row, cX12_row, 5, (some .int)) := rfl
noncomputable def cu_2756 : List CUT2 := []
theorem ch_2756 : staG tb_X12_row 1 bt_RX12 [] ct_1928 [] [] cu_2756 7 con_2756 = true := by decide +kernel
theorem vl_2756 (l : Launch) : Vld2 l vwCl gTbl con_2756 := conR_ok3 gT_all (hd_2756) rfl pn_RX12 tk_X12_row bo_RX12 xo_RX12 (cto_1928 l) ch_2756 cut_nil
/-- RookHustingModel row -/
noncomputable def gi_3220 : GI := jl_n [gp_927, gp_941]
noncomputable def gi_3221 : GI := jl_n [gp_927, gp_942]
noncomputable def con_2757 : Con2 := ((yX12_row, cX12_row, 5, (some .int)), (2, 45), ([(6, 0, 0), (1, 1, 0), (1, 2, 0), (1, 3, 0)], gi_3220, [ac_1561, ac_1562, ac_1563, ac_807], []), [((0, (-2), 0), gi_3221, hq_1026, [], [1])])
theorem hd_2757 : con_2757.1 = (yX12_row, cX12_row, 5, (some .int)) := rfl
noncomputable def cu_2757 : List CUT2 := []
theorem ch_2757 : staG tb_X12_row 1 bt_RX12 [] ct_2748 [] [] cu_2757 13 con_2757 = true := by decide +kernel
theorem vl_2757 (l : Launch) : Vld2 l vwCl gTbl con_2757 := conR_ok3 gT_all (hd_2757) rfl pn_RX12 tk_X12_row bo_RX12 xo_RX12 (cto_2748 l) ch_2757 cut_nil
/-- RookHustingModel row -/
noncomputable def gi_3222 : GI := jl_n [gp_926, gp_941]
noncomputable def gi_3223 : GI := jl_n [gp_926, gp_942]
noncomputable def con_2758 : Con2 := ((yX12_row, cX12_row, 5, (some .int)), (2, 45), ([(6, 0, 0), (1, 1, 0), (1, 2, 0), (1, 3, 0)], gi_3222, [ac_1561, ac_1562, ac_1563, ac_807], []), [((0, (-2), 0), gi_3223, hq_1026, [], [1])])
theorem hd_2758 : con_2758.1 = (yX12_row, cX12_row, 5, (some .int)) := rfl
noncomputable def cu_2758 : List CUT2 := []
theorem ch_2758 : staG tb_X12_row 1 bt_RX12 [] ct_2515 [] [] cu_2758 7 con_2758 = true := by decide +kernel
theorem vl_2758 (l : Launch) : Vld2 l vwCl gTbl con_2758 := conR_ok3 gT_all (hd_2758) rfl pn_RX12 tk_X12_row bo_RX12 xo_RX12 (cto_2515 l) ch_2758 cut_nil
/-- RookHustingModel row -/
noncomputable def gi_3224 : GI := jl_n [gp_925, gp_941]
noncomputable def gi_3225 : GI := jl_n [gp_925, gp_942]
noncomputable def con_2759 : Con2 := ((yX12_row, cX12_row, 5, (some .int)), (2, 45), ([(6, 0, 0), (1, 1, 0), (1, 2, 0), (1, 3, 0)], gi_3224, [ac_1561, ac_1562, ac_1563, ac_807], []), [((0, (-2), 0), gi_3225, hq_1026, [], [1])])
theorem hd_2759 : con_2759.1 = (yX12_row, cX12_row, 5, (some .int)) := rfl
noncomputable def cu_2759 : List CUT2 := []
theorem ch_2759 : staG tb_X12_row 1 bt_RX12 [] ct_1928 [] [] cu_2759 7 con_2759 = true := by decide +kernel
theorem vl_2759 (l : Launch) : Vld2 l vwCl gTbl con_2759 := conR_ok3 gT_all (hd_2759) rfl pn_RX12 tk_X12_row bo_RX12 xo_RX12 (cto_1928 l) ch_2759 cut_nil
/-- RookHustingModel row -/
noncomputable def gi_3226 : GI := jl_n [gp_924, gp_941]
noncomputable def gi_3227 : GI := jl_n [gp_924, gp_942, gp_934]
noncomputable def ac_1564 : AC := .inr (1, jl_n [js_1 62 4])
noncomputable def ac_1565 : AC := .inr (1, jl_n [js_1 66 4])
noncomputable def hq_1027 : HP := [(false, ac_1561), (true, ac_1564), (true, ac_1565), (true, ac_807)]
noncomputable def con_2760 : Con2 := ((yX12_row, cX12_row, 5, (some .int)), (2, 45), ([(6, 0, 0), (1, 1, 0), (1, 2, 0), (1, 3, 0)], gi_3226, [ac_1561, ac_1562, ac_1563, ac_807], []), [((0, 0, 0), gi_3227, hq_1027, [], tg_13)])
theorem hd_2760 : con_2760.1 = (yX12_row, cX12_row, 5, (some .int)) := rfl
noncomputable def gi_3228 : GI := jl_n [gp_924, gp_941, jl_z 4, jl_i 0 60, gp_934]
noncomputable def ac_1566 : AC := .inr (1, jl_n [js_1 70 4])
noncomputable def hq_1028 : HP := [(false, ac_1561), (true, ac_1565), (true, ac_1566), (true, ac_807)]
noncomputable def cu_2760 : List CUT2 := [((52, [lq 0 6 0, lq 1 1 1, lq 2 1 2, lq 3 1 3, lq 4 1 61], [], gi_3228, hq_1028), [], ([(61, (-1))], 60))]
theorem ch_2760 : staG tb_X12_row 1 bt_RX12 [] ct_2748 [] [] cu_2760 29 con_2760 = true := by decide +kernel
theorem cc_2760 : cu_2760.all (cutG tb_X12_row 1 bt_RX12 [] ct_2748 [] [] cu_2760 29 con_2760) = true := by decide +kernel
theorem vl_2760 (l : Launch) : Vld2 l vwCl gTbl con_2760 := conR_ok3 gT_all (hd_2760) rfl pn_RX12 tk_X12_row bo_RX12 xo_RX12 (cto_2748 l) ch_2760 (cut_all cc_2760)
/-- RookHustingModel row -/
noncomputable def gi_3229 : GI := jl_n [gp_921, gp_941]
noncomputable def gi_3230 : GI := jl_n [gp_921, gp_942]
noncomputable def con_2761 : Con2 := ((yX12_row, cX12_row, 5, (some .int)), (2, 45), ([(6, 0, 0), (1, 1, 0), (1, 2, 0), (1, 3, 0)], gi_3229, [ac_1561, ac_1562, ac_1563, ac_807], []), [((0, (-2), 0), gi_3230, hq_1026, [], [1])])
theorem hd_2761 : con_2761.1 = (yX12_row, cX12_row, 5, (some .int)) := rfl
noncomputable def cu_2761 : List CUT2 := []
theorem ch_2761 : staG tb_X12_row 1 bt_RX12 [] ct_2515 [] [] cu_2761 7 con_2761 = true := by decide +kernel
theorem vl_2761 (l : Launch) : Vld2 l vwCl gTbl con_2761 := conR_ok3 gT_all (hd_2761) rfl pn_RX12 tk_X12_row bo_RX12 xo_RX12 (cto_2515 l) ch_2761 cut_nil
/-- RookHustingModel row -/
noncomputable def gi_3231 : GI := jl_n [gp_933, gp_941]
noncomputable def gi_3232 : GI := jl_n [gp_933, gp_942]
noncomputable def con_2762 : Con2 := ((yX12_row, cX12_row, 5, (some .int)), (2, 45), ([(6, 0, 0), (1, 1, 0), (1, 2, 0), (1, 3, 0)], gi_3231, [ac_1561, ac_1562, ac_1563, ac_807], []), [((0, (-2), 0), gi_3232, hq_1026, [], [1])])
theorem hd_2762 : con_2762.1 = (yX12_row, cX12_row, 5, (some .int)) := rfl
noncomputable def cu_2762 : List CUT2 := []
theorem ch_2762 : staG tb_X12_row 1 bt_RX12 [] ct_1928 [] [] cu_2762 7 con_2762 = true := by decide +kernel
theorem vl_2762 (l : Launch) : Vld2 l vwCl gTbl con_2762 := conR_ok3 gT_all (hd_2762) rfl pn_RX12 tk_X12_row bo_RX12 xo_RX12 (cto_1928 l) ch_2762 cut_nil
/-- RookHustingModel row -/
noncomputable def gi_3233 : GI := jl_n [gp_932, gp_941]
noncomputable def gi_3234 : GI := jl_n [gp_932, gp_942]
noncomputable def con_2763 : Con2 := ((yX12_row, cX12_row, 5, (some .int)), (2, 45), ([(6, 0, 0), (1, 1, 0), (1, 2, 0), (1, 3, 0)], gi_3233, [ac_1561, ac_1562, ac_1563, ac_807], []), [((0, (-2), 0), gi_3234, hq_1026, [], [1])])
theorem hd_2763 : con_2763.1 = (yX12_row, cX12_row, 5, (some .int)) := rfl
noncomputable def cu_2763 : List CUT2 := []
theorem ch_2763 : staG tb_X12_row 1 bt_RX12 [] ct_2748 [] [] cu_2763 13 con_2763 = true := by decide +kernel
theorem vl_2763 (l : Launch) : Vld2 l vwCl gTbl con_2763 := conR_ok3 gT_all (hd_2763) rfl pn_RX12 tk_X12_row bo_RX12 xo_RX12 (cto_2748 l) ch_2763 cut_nil
/-- RookHustingModel row -/
noncomputable def gi_3235 : GI := jl_n [gp_929, gp_941]
noncomputable def gi_3236 : GI := jl_n [gp_929, gp_942]
noncomputable def con_2764 : Con2 := ((yX12_row, cX12_row, 5, (some .int)), (2, 45), ([(6, 0, 0), (1, 1, 0), (1, 2, 0), (1, 3, 0)], gi_3235, [ac_1561, ac_1562, ac_1563, ac_807], []), [((0, (-2), 0), gi_3236, hq_1026, [], [1])])
theorem hd_2764 : con_2764.1 = (yX12_row, cX12_row, 5, (some .int)) := rfl
noncomputable def cu_2764 : List CUT2 := []
theorem ch_2764 : staG tb_X12_row 1 bt_RX12 [] ct_2515 [] [] cu_2764 7 con_2764 = true := by decide +kernel
theorem vl_2764 (l : Launch) : Vld2 l vwCl gTbl con_2764 := conR_ok3 gT_all (hd_2764) rfl pn_RX12 tk_X12_row bo_RX12 xo_RX12 (cto_2515 l) ch_2764 cut_nil
/-- RookHustingModel row -/
noncomputable def gi_3237 : GI := jl_n [gp_928, gp_943]
noncomputable def gi_3238 : GI := jl_n [gp_928, gp_944]
noncomputable def con_2765 : Con2 := ((yX12_row, cX12_row, 5, (some .int)), (2, 45), ([(6, 0, 0), (1, 1, 0), (1, 2, 0), (1, 3, 0)], gi_3237, [ac_1561, ac_1562, ac_1563, ac_807], []), [((0, (-2), 0), gi_3238, hq_1026, [], [1])])
theorem hd_2765 : con_2765.1 = (yX12_row, cX12_row, 5, (some .int)) := rfl
noncomputable def cu_2765 : List CUT2 := []
theorem ch_2765 : staG tb_X12_row 1 bt_RX12 [] ct_1928 [] [] cu_2765 7 con_2765 = true := by decide +kernel
theorem vl_2765 (l : Launch) : Vld2 l vwCl gTbl con_2765 := conR_ok3 gT_all (hd_2765) rfl pn_RX12 tk_X12_row bo_RX12 xo_RX12 (cto_1928 l) ch_2765 cut_nil
/-- RookHustingModel row -/
noncomputable def gi_3239 : GI := jl_n [gp_927, gp_943]
noncomputable def gi_3240 : GI := jl_n [gp_927, gp_944]
noncomputable def con_2766 : Con2 := ((yX12_row, cX12_row, 5, (some .int)), (2, 45), ([(6, 0, 0), (1, 1, 0), (1, 2, 0), (1, 3, 0)], gi_3239, [ac_1561, ac_1562, ac_1563, ac_807], []), [((0, (-2), 0), gi_3240, hq_1026, [], [1])])
theorem hd_2766 : con_2766.1 = (yX12_row, cX12_row, 5, (some .int)) := rfl
noncomputable def cu_2766 : List CUT2 := []
theorem ch_2766 : staG tb_X12_row 1 bt_RX12 [] ct_2748 [] [] cu_2766 13 con_2766 = true := by decide +kernel
theorem vl_2766 (l : Launch) : Vld2 l vwCl gTbl con_2766 := conR_ok3 gT_all (hd_2766) rfl pn_RX12 tk_X12_row bo_RX12 xo_RX12 (cto_2748 l) ch_2766 cut_nil
/-- RookHustingModel row -/
noncomputable def gi_3241 : GI := jl_n [gp_926, gp_943]
noncomputable def gi_3242 : GI := jl_n [gp_926, gp_944]
noncomputable def con_2767 : Con2 := ((yX12_row, cX12_row, 5, (some .int)), (2, 45), ([(6, 0, 0), (1, 1, 0), (1, 2, 0), (1, 3, 0)], gi_3241, [ac_1561, ac_1562, ac_1563, ac_807], []), [((0, (-2), 0), gi_3242, hq_1026, [], [1])])
theorem hd_2767 : con_2767.1 = (yX12_row, cX12_row, 5, (some .int)) := rfl
noncomputable def cu_2767 : List CUT2 := []
theorem ch_2767 : staG tb_X12_row 1 bt_RX12 [] ct_2515 [] [] cu_2767 7 con_2767 = true := by decide +kernel
theorem vl_2767 (l : Launch) : Vld2 l vwCl gTbl con_2767 := conR_ok3 gT_all (hd_2767) rfl pn_RX12 tk_X12_row bo_RX12 xo_RX12 (cto_2515 l) ch_2767 cut_nil
/-- RookHustingModel row -/
noncomputable def gi_3243 : GI := jl_n [gp_925, gp_943]
noncomputable def gi_3244 : GI := jl_n [gp_925, gp_944]
noncomputable def con_2768 : Con2 := ((yX12_row, cX12_row, 5, (some .int)), (2, 45), ([(6, 0, 0), (1, 1, 0), (1, 2, 0), (1, 3, 0)], gi_3243, [ac_1561, ac_1562, ac_1563, ac_807], []), [((0, (-2), 0), gi_3244, hq_1026, [], [1])])
theorem hd_2768 : con_2768.1 = (yX12_row, cX12_row, 5, (some .int)) := rfl
noncomputable def cu_2768 : List CUT2 := []
theorem ch_2768 : staG tb_X12_row 1 bt_RX12 [] ct_1928 [] [] cu_2768 7 con_2768 = true := by decide +kernel
theorem vl_2768 (l : Launch) : Vld2 l vwCl gTbl con_2768 := conR_ok3 gT_all (hd_2768) rfl pn_RX12 tk_X12_row bo_RX12 xo_RX12 (cto_1928 l) ch_2768 cut_nil
/-- RookHustingModel row -/
noncomputable def gi_3245 : GI := jl_n [gp_924, gp_943]
noncomputable def gi_3246 : GI := jl_n [gp_924, gp_944]
noncomputable def con_2769 : Con2 := ((yX12_row, cX12_row, 5, (some .int)), (2, 45), ([(6, 0, 0), (1, 1, 0), (1, 2, 0), (1, 3, 0)], gi_3245, [ac_1561, ac_1562, ac_1563, ac_807], []), [((0, (-3), 0), gi_3246, hq_1026, [], [1])])
theorem hd_2769 : con_2769.1 = (yX12_row, cX12_row, 5, (some .int)) := rfl
noncomputable def cu_2769 : List CUT2 := []
theorem ch_2769 : staG tb_X12_row 1 bt_RX12 [] ct_2748 [] [] cu_2769 18 con_2769 = true := by decide +kernel
theorem vl_2769 (l : Launch) : Vld2 l vwCl gTbl con_2769 := conR_ok3 gT_all (hd_2769) rfl pn_RX12 tk_X12_row bo_RX12 xo_RX12 (cto_2748 l) ch_2769 cut_nil
/-- RookHustingModel row -/
noncomputable def gi_3247 : GI := jl_n [gp_921, gp_943]
noncomputable def gi_3248 : GI := jl_n [gp_921, gp_944]
noncomputable def con_2770 : Con2 := ((yX12_row, cX12_row, 5, (some .int)), (2, 45), ([(6, 0, 0), (1, 1, 0), (1, 2, 0), (1, 3, 0)], gi_3247, [ac_1561, ac_1562, ac_1563, ac_807], []), [((0, (-2), 0), gi_3248, hq_1026, [], [1])])
theorem hd_2770 : con_2770.1 = (yX12_row, cX12_row, 5, (some .int)) := rfl
noncomputable def cu_2770 : List CUT2 := []
theorem ch_2770 : staG tb_X12_row 1 bt_RX12 [] ct_2515 [] [] cu_2770 7 con_2770 = true := by decide +kernel
theorem vl_2770 (l : Launch) : Vld2 l vwCl gTbl con_2770 := conR_ok3 gT_all (hd_2770) rfl pn_RX12 tk_X12_row bo_RX12 xo_RX12 (cto_2515 l) ch_2770 cut_nil
/-- RookHustingModel row -/
noncomputable def gi_3249 : GI := jl_n [gp_920, gp_937]
noncomputable def gi_3250 : GI := jl_n [gp_920, gp_939]
noncomputable def con_2771 : Con2 := ((yX12_row, cX12_row, 5, (some .int)), (2, 45), ([(6, 0, 0), (1, 1, 0), (1, 2, 0), (1, 3, 0)], gi_3249, [ac_1561, ac_1562, ac_1563, ac_807], []), [((0, (-2), 0), gi_3250, hq_1026, [], [1])])
theorem hd_2771 : con_2771.1 = (yX12_row, cX12_row, 5, (some .int)) := rfl
noncomputable def cu_2771 : List CUT2 := []
theorem ch_2771 : staG tb_X12_row 1 bt_RX12 [] ct_1928 [] [] cu_2771 7 con_2771 = true := by decide +kernel
theorem vl_2771 (l : Launch) : Vld2 l vwCl gTbl con_2771 := conR_ok3 gT_all (hd_2771) rfl pn_RX12 tk_X12_row bo_RX12 xo_RX12 (cto_1928 l) ch_2771 cut_nil
/-- RookHustingModel row -/
noncomputable def gi_3251 : GI := jl_n [gp_919, gp_937]
noncomputable def gi_3252 : GI := jl_n [gp_919, gp_939]
noncomputable def con_2772 : Con2 := ((yX12_row, cX12_row, 5, (some .int)), (2, 45), ([(6, 0, 0), (1, 1, 0), (1, 2, 0), (1, 3, 0)], gi_3251, [ac_1561, ac_1562, ac_1563, ac_807], []), [((0, (-2), 0), gi_3252, hq_1026, [], [1])])
theorem hd_2772 : con_2772.1 = (yX12_row, cX12_row, 5, (some .int)) := rfl
noncomputable def cu_2772 : List CUT2 := []
theorem ch_2772 : staG tb_X12_row 1 bt_RX12 [] ct_2748 [] [] cu_2772 13 con_2772 = true := by decide +kernel
theorem vl_2772 (l : Launch) : Vld2 l vwCl gTbl con_2772 := conR_ok3 gT_all (hd_2772) rfl pn_RX12 tk_X12_row bo_RX12 xo_RX12 (cto_2748 l) ch_2772 cut_nil
/-- RookHustingModel row -/
noncomputable def gi_3253 : GI := jl_n [gp_915, gp_937]
noncomputable def gi_3254 : GI := jl_n [gp_915, gp_939]
noncomputable def con_2773 : Con2 := ((yX12_row, cX12_row, 5, (some .int)), (2, 45), ([(6, 0, 0), (1, 1, 0), (1, 2, 0), (1, 3, 0)], gi_3253, [ac_1561, ac_1562, ac_1563, ac_807], []), [((0, (-2), 0), gi_3254, hq_1026, [], [1])])
theorem hd_2773 : con_2773.1 = (yX12_row, cX12_row, 5, (some .int)) := rfl
noncomputable def cu_2773 : List CUT2 := []
theorem ch_2773 : staG tb_X12_row 1 bt_RX12 [] ct_2515 [] [] cu_2773 7 con_2773 = true := by decide +kernel
theorem vl_2773 (l : Launch) : Vld2 l vwCl gTbl con_2773 := conR_ok3 gT_all (hd_2773) rfl pn_RX12 tk_X12_row bo_RX12 xo_RX12 (cto_2515 l) ch_2773 cut_nil
/-- RookHusting$Slots isSlot -/
noncomputable def con_2774 : Con2 := ((yX8_isSlot, cX8_isSlot, 1, (some .boolean)), (0, 0), ([(1, 0, 0)], [((-2147483648), 2147483647)], [], []), [((0, 0, 0), [((-2147483648), 2147483647), (0, 0)], [], [], [1]), ((0, 1, 0), [(0, 3), (0, 0)], [], [], [1])])
theorem hd_2774 : con_2774.1 = (yX8_isSlot, cX8_isSlot, 1, (some .boolean)) := rfl
noncomputable def cu_2774 : List CUT2 := []
theorem ch_2774 : staG tb_X8_isSlot 1 bt_RX8 [] ct_1253 [] [] cu_2774 10 con_2774 = true := by decide +kernel
theorem vl_2774 (l : Launch) : Vld2 l vwCl gTbl con_2774 := conR_ok3 gT_all (hd_2774) rfl pn_RX8 tk_X8_isSlot bo_RX8 xo_RX8 (cto_1253 l) ch_2774 cut_nil
/-- RookHusting$Slots cut -/
noncomputable def gi_3255 : GI := jl_n [jl_u, jl_i 0 3, jl_u]
noncomputable def con_2775 : Con2 := ((yX8_cut, cX8_cut, 3, (some .long)), (0, 0), ([(4, 0, 0), (1, 1, 0)], [((-9223372036854775808), 9223372036854775807), (0, 3)], [], []), [((4, 2, 0), gi_3255, [], [], [4])])
theorem hd_2775 : con_2775.1 = (yX8_cut, cX8_cut, 3, (some .long)) := rfl
noncomputable def cu_2775 : List CUT2 := []
theorem ch_2775 : staG tb_X8_cut 1 bt_RX8 [] ct_1253 [] [] cu_2775 9 con_2775 = true := by decide +kernel
theorem vl_2775 (l : Launch) : Vld2 l vwCl gTbl con_2775 := conR_ok3 gT_all (hd_2775) rfl pn_RX8 tk_X8_cut bo_RX8 xo_RX8 (cto_1253 l) ch_2775 cut_nil
/-- RookHusting$Slots set -/
noncomputable def gi_3256 : GI := jl_n [gp_211, jl_i 0 59, jl_u, jl_z 3, jl_r 4 (jl_i 0 3)]
noncomputable def hc_262 : List AC := [.inl (8, [(6, 2, 0), (6, 1, 0), (8, 6, 0)]), ac_1553, ac_807]
noncomputable def hq_1029 : HP := [(false, .inl (8, [(6, 2, 0), (6, 1, 0), (8, 6, 0)])), (false, ac_1553), (true, ac_807)]
noncomputable def con_2776 : Con2 := ((yX8_set, cX8_set, 5, none), (1, 22), ([(6, 0, 0), (1, 1, 0), (1, 2, 0), (4, 3, 0)], gi_3256, hc_262, []), [((9, 0, 0), gi_3256, hq_1029, [], [])])
theorem hd_2776 : con_2776.1 = (yX8_set, cX8_set, 5, none) := rfl
theorem ck_RX8_26_2775 : COK2 RX8 vwCl gTbl 26 1 con_2775 := ⟨wd_1385, wd_131, mh_X8_cut, .inl ⟨rfl, wd_1383, wd_1384, pd_X8_cut⟩⟩
noncomputable def ct_2776 : CTB2 := [(17, 26, 1, con_2775, [])]
noncomputable def cu_2776 : List CUT2 := []
theorem ch_2776 : staG tb_X8_set 1 bt_RX8 [] ct_2776 [] [] cu_2776 17 con_2776 = true := by decide +kernel
theorem cto_2776 (l : Launch) : CTOK2 l RX8 vwCl gTbl ct_2776 := ct2_cons (vl_2775 l) ck_RX8_26_2775 (ct2_nil)
theorem vl_2776 (l : Launch) : Vld2 l vwCl gTbl con_2776 := conR_ok3 gT_all (hd_2776) rfl pn_RX8 tk_X8_set bo_RX8 xo_RX8 (cto_2776 l) ch_2776 cut_nil
/-- RookHusting write -/
noncomputable def gi_3257 : GI := jl_n [gp_945, gp_946]
noncomputable def hc_263 : List AC := [ac_1550, .inl (8, [(6, 4, 0), (6, 3, 0), (6, 2, 0)]), ac_1551, ac_1552, ac_807]
noncomputable def gi_3258 : GI := jl_n [gp_945, gp_946, jl_m 6 0]
noncomputable def hq_1030 : HP := [(false, ac_1550), (false, .inl (8, [(6, 4, 0), (6, 3, 0), (6, 2, 0)])), (false, ac_1551), (false, ac_1552), (true, ac_807)]
noncomputable def con_2777 : Con2 := ((yX11_write, cX11_write, 5, (some .int)), (2, 46), ([(6, 0, 0), (1, 1, 0), (1, 2, 0), (4, 3, 0)], gi_3257, hc_263, []), [((1, 31, 0), gi_3258, hq_1030, [], [1])])
theorem hd_2777 : con_2777.1 = (yX11_write, cX11_write, 5, (some .int)) := rfl
theorem ck_RX11_426_2776 : COK2 RX11 vwCl gTbl 426 0 con_2776 := ⟨wd_1382, wd_131, mh_X8_set, .inr (.inr ⟨rfl, wd_1379, wd_1380, wd_1381, ⟨_, rfl, pd_X8_set⟩, 8, _, TX8, 3, rfl, rfl⟩)⟩
theorem ck_RX11_420_2704 : COK2 RX11 vwCl gTbl 420 0 con_2704 := ⟨wd_1214, wd_131, mh_X8_hasRow, .inr (.inr ⟨rfl, wd_1211, wd_1212, wd_1213, ⟨_, rfl, pd_X8_hasRow⟩, 8, _, TX8, 3, rfl, rfl⟩)⟩
theorem ck_RX11_414_2774 : COK2 RX11 vwCl gTbl 414 1 con_2774 := ⟨wd_1210, wd_131, mh_X8_isSlot, .inl ⟨rfl, wd_1208, wd_1209, pd_X8_isSlot⟩⟩
noncomputable def ct_2777 : CTB2 := [(1, 414, 1, con_2774, []), (15, 420, 0, con_2704, [1, 2]), (51, 426, 0, con_2776, [1, 3, 4])]
noncomputable def cu_2777 : List CUT2 := []
theorem ch_2777 : staG tb_X11_write 1 bt_RX11 [] ct_2777 [] [] cu_2777 27 con_2777 = true := by decide +kernel
theorem cto_2777 (l : Launch) : CTOK2 l RX11 vwCl gTbl ct_2777 := ct2_cons (vl_2774 l) ck_RX11_414_2774 (ct2_cons (vl_2704 l) ck_RX11_420_2704 (ct2_cons (vl_2776 l) ck_RX11_426_2776 (ct2_nil)))
theorem vl_2777 (l : Launch) : Vld2 l vwCl gTbl con_2777 := conR_ok3 gT_all (hd_2777) rfl pn_RX11 tk_X11_write bo_RX11 xo_RX11 (cto_2777 l) ch_2777 cut_nil
/-- RookHustingModel isSlot -/
noncomputable def con_2778 : Con2 := ((yX12_isSlot, cX12_isSlot, 1, (some .boolean)), (1, 25), ([(1, 0, 0)], [((-2147483648), 2147483647)], [], []), [((0, 0, 0), [((-2147483648), 2147483647), (0, 0)], [], [], [1]), ((0, 1, 0), [(0, 3), (0, 0)], [], [], [1])])
theorem hd_2778 : con_2778.1 = (yX12_isSlot, cX12_isSlot, 1, (some .boolean)) := rfl
noncomputable def cu_2778 : List CUT2 := []
theorem ch_2778 : staG tb_X12_isSlot 1 bt_RX12 [] ct_1927 [] [] cu_2778 8 con_2778 = true := by decide +kernel
theorem vl_2778 (l : Launch) : Vld2 l vwCl gTbl con_2778 := conR_ok3 gT_all (hd_2778) rfl pn_RX12 tk_X12_isSlot bo_RX12 xo_RX12 (cto_1927 l) ch_2778 cut_nil
/-- RookHustingModel in -/
noncomputable def gi_3259 : GI := jl_n [gp_129, jl_m 1 59]
noncomputable def gi_3260 : GI := jl_n [gp_129, jl_m 1 59, jl_z 1]
noncomputable def con_2779 : Con2 := ((yX12_in, cX12_in, 6, (some .boolean)), (0, 0), ([(4, 0, 0), (3, 0, 0), (4, 2, 0)], gi_3259, [], []), [((0, 0, 0), gi_3260, [], [], [1]), ((0, 1, 0), [(0, 59), (0, 0), (0, 59), (0, 0)], [], [], [1])])
theorem hd_2779 : con_2779.1 = (yX12_in, cX12_in, 6, (some .boolean)) := rfl
noncomputable def cu_2779 : List CUT2 := []
theorem ch_2779 : staG tb_X12_in 1 bt_RX12 [] ct_2 [] [] cu_2779 11 con_2779 = true := by decide +kernel
theorem vl_2779 (l : Launch) : Vld2 l vwCl gTbl con_2779 := conR_ok3 gT_all (hd_2779) rfl pn_RX12 tk_X12_in bo_RX12 xo_RX12 (cto_2 l) ch_2779 cut_nil
/-- RookHustingModel clipped -/
noncomputable def con_2780 : Con2 := ((yX12_clipped, cX12_clipped, 4, (some .long)), (0, 0), ([(4, 0, 0), (1, 1, 0)], [((-9223372036854775808), 9223372036854775807), (0, 3)], [], []), [((4, 2, 0), gi_3255, [], [], [4])])
theorem hd_2780 : con_2780.1 = (yX12_clipped, cX12_clipped, 4, (some .long)) := rfl
noncomputable def cu_2780 : List CUT2 := []
theorem ch_2780 : staG tb_X12_clipped 1 bt_RX12 [] ct_2 [] [] cu_2780 14 con_2780 = true := by decide +kernel
theorem vl_2780 (l : Launch) : Vld2 l vwCl gTbl con_2780 := conR_ok3 gT_all (hd_2780) rfl pn_RX12 tk_X12_clipped bo_RX12 xo_RX12 (cto_2 l) ch_2780 cut_nil
/-- RookHustingModel write -/
noncomputable def gi_3261 : GI := jl_n [gp_945, gp_937]
noncomputable def gi_3262 : GI := jl_n [gp_945, gp_937, jl_m 6 0]
noncomputable def hq_1031 : HP := [(false, ac_1561), (false, ac_1562), (false, ac_1563), (true, ac_807)]
noncomputable def con_2781 : Con2 := ((yX12_write, cX12_write, 5, (some .int)), (2, 45), ([(6, 0, 0), (1, 1, 0), (1, 2, 0), (4, 3, 0)], gi_3261, [ac_1561, ac_1562, ac_1563, ac_807], []), [((1, 57, 0), gi_3262, hq_1031, [], [1])])
theorem hd_2781 : con_2781.1 = (yX12_write, cX12_write, 5, (some .int)) := rfl
theorem ck_RX12_502_2780 : COK2 RX12 vwCl gTbl 502 1 con_2780 := ⟨wd_2180, wd_137, mh_X12_clipped, .inl ⟨rfl, wd_2178, wd_2179, pd_X12_clipped⟩⟩
theorem ck_RX12_91_2779 : COK2 RX12 vwCl gTbl 91 1 con_2779 := ⟨wd_1544, wd_137, mh_X12_in, .inl ⟨rfl, wd_1542, wd_1543, pd_X12_in⟩⟩
theorem ck_RX12_414_2778 : COK2 RX12 vwCl gTbl 414 1 con_2778 := ⟨wd_2057, wd_137, mh_X12_isSlot, .inl ⟨rfl, wd_2055, wd_2056, pd_X12_isSlot⟩⟩
noncomputable def ct_2781 : CTB2 := [(1, 414, 1, con_2778, []), (35, 91, 1, con_2779, []), (61, 502, 1, con_2780, [])]
noncomputable def cu_2781 : List CUT2 := []
theorem ch_2781 : staG tb_X12_write 1 bt_RX12 [] ct_2781 [] [] cu_2781 39 con_2781 = true := by decide +kernel
theorem cto_2781 (l : Launch) : CTOK2 l RX12 vwCl gTbl ct_2781 := ct2_cons (vl_2778 l) ck_RX12_414_2778 (ct2_cons (vl_2779 l) ck_RX12_91_2779 (ct2_cons (vl_2780 l) ck_RX12_502_2780 (ct2_nil)))
theorem vl_2781 (l : Launch) : Vld2 l vwCl gTbl con_2781 := conR_ok3 gT_all (hd_2781) rfl pn_RX12 tk_X12_write bo_RX12 xo_RX12 (cto_2781 l) ch_2781 cut_nil
/-- RookHusting$Slots holds -/
noncomputable def gi_3263 : GI := jl_n [gp_211, jl_r 2 (jl_t), gp_903]
noncomputable def gi_3264 : GI := jl_n [gp_211, jl_r 2 (jl_t), gp_904]
noncomputable def hq_1032 : HP := [(false, .inl (8, [(8, 4, 0), (8, 5, 0), (6, 1, 0)])), (false, ac_1553)]
noncomputable def gi_3265 : GI := jl_n [gp_211, jl_r 2 (jl_i 0 2147483647), gp_904]
noncomputable def con_2782 : Con2 := ((yX8_holds, cX8_holds, 4, (some .boolean)), (0, 0), ([(6, 0, 0), (1, 1, 0), (1, 2, 0), (1, 3, 0)], gi_3263, [.inl (8, [(8, 4, 0), (8, 5, 0), (6, 1, 0)]), ac_1553], []), [((0, 0, 0), gi_3264, hq_1032, [], [1]), ((0, 1, 0), gi_3265, hq_1032, [([(2, (-1)), (3, (-1))], 60)], [1])])
theorem hd_2782 : con_2782.1 = (yX8_holds, cX8_holds, 4, (some .boolean)) := rfl
noncomputable def cu_2782 : List CUT2 := []
theorem ch_2782 : staG tb_X8_holds 2 bt_RX8 [] ct_1253 [] [12, 20] cu_2782 20 con_2782 = true := by decide +kernel
theorem vl_2782 (l : Launch) : Vld2 l vwCl gTbl con_2782 := conR_ok3 gT_all (hd_2782) rfl pn_RX8 tk_X8_holds bo_RX8 xo_RX8 (cto_1253 l) ch_2782 cut_nil
/-- RookHusting$Slots holds -/
noncomputable def gi_3266 : GI := jl_n [gp_211, jl_t, jl_i 0 2147483647, gp_903]
noncomputable def gi_3267 : GI := jl_n [gp_211, jl_t, jl_i 0 2147483647, gp_904]
noncomputable def con_2783 : Con2 := ((yX8_holds, cX8_holds, 4, (some .boolean)), (0, 0), ([(6, 0, 0), (1, 1, 0), (1, 2, 0), (1, 3, 0)], gi_3266, [.inl (8, [(8, 4, 0), (8, 5, 0), (6, 1, 0)]), ac_1553], []), [((0, 0, 0), gi_3267, hq_1032, [], [1]), ((0, 1, 0), gi_3265, hq_1032, [([(2, (-1)), (3, (-1))], 60)], [1])])
theorem hd_2783 : con_2783.1 = (yX8_holds, cX8_holds, 4, (some .boolean)) := rfl
noncomputable def cu_2783 : List CUT2 := []
theorem ch_2783 : staG tb_X8_holds 2 bt_RX8 [] ct_1253 [] [12, 20] cu_2783 20 con_2783 = true := by decide +kernel
theorem vl_2783 (l : Launch) : Vld2 l vwCl gTbl con_2783 := conR_ok3 gT_all (hd_2783) rfl pn_RX8 tk_X8_holds bo_RX8 xo_RX8 (cto_1253 l) ch_2783 cut_nil
/-- RookHusting paste -/
noncomputable def gi_3268 : GI := jl_n [gp_4, gp_946]
noncomputable def ac_1567 : AC := .inl (11, jl_n [jl_8 10 4, jl_6 2 1, jl_8 22 11])
noncomputable def ac_1568 : AC := .inr (1, jl_n [js_1 29 4])
noncomputable def ac_1569 : AC := .inr (1, jl_n [js_1 33 4])
noncomputable def hc_264 : List AC := [ac_1567, .inl (8, [(6, 4, 0), (6, 3, 0), (6, 2, 0)]), ac_1568, ac_1569, ac_807]
noncomputable def gi_3269 : GI := jl_n [gp_4, gp_946, jl_m 7 0]
noncomputable def hq_1033 : HP := [(false, ac_1567), (false, .inl (8, [(6, 4, 0), (6, 3, 0), (6, 2, 0)])), (false, ac_1568), (false, ac_1569), (true, ac_807)]
noncomputable def con_2784 : Con2 := ((yX11_paste, cX11_paste, 6, (some .int)), (1, 23), ([(6, 0, 0), (1, 1, 0), (1, 2, 0), (1, 3, 0), (1, 4, 0), (1, 5, 0)], gi_3268, hc_264, []), [((1, 33, 0), gi_3269, hq_1033, [], [1])])
theorem hd_2784 : con_2784.1 = (yX11_paste, cX11_paste, 6, (some .int)) := rfl
theorem ck_RX11_433_2783 : COK2 RX11 vwCl gTbl 433 0 con_2783 := ⟨wd_1393, wd_131, mh_X8_holds, .inr (.inr ⟨rfl, wd_1390, wd_1391, wd_1392, ⟨_, rfl, pd_X8_holds⟩, 8, _, TX8, 3, rfl, rfl⟩)⟩
theorem ck_RX11_433_2782 : COK2 RX11 vwCl gTbl 433 0 con_2782 := ⟨wd_1393, wd_131, mh_X8_holds, .inr (.inr ⟨rfl, wd_1390, wd_1391, wd_1392, ⟨_, rfl, pd_X8_holds⟩, 8, _, TX8, 3, rfl, rfl⟩)⟩
noncomputable def ct_2784 : CTB2 := [(1, 414, 1, con_2774, []), (8, 414, 1, con_2774, []), (22, 420, 0, con_2704, [1, 2]), (33, 420, 0, con_2704, [1, 2]), (74, 433, 0, con_2782, [1, 2]), (89, 433, 0, con_2783, [1, 2])]
noncomputable def rf_2784 : List (Nat × List POP) := [(98, [(0, (1, 2, 0), 0, 60), (0, (1, 4, 0), 0, 60), (0, (1, 5, 0), 0, 60)])]
noncomputable def cu_2784 : List CUT2 := []
theorem ch_2784 : staG tb_X11_paste 2 bt_RX11 [] ct_2784 rf_2784 [110, 124] cu_2784 63 con_2784 = true := by decide +kernel
theorem cto_2784 (l : Launch) : CTOK2 l RX11 vwCl gTbl ct_2784 := ct2_cons (vl_2774 l) ck_RX11_414_2774 (ct2_cons (vl_2774 l) ck_RX11_414_2774 (ct2_cons (vl_2704 l) ck_RX11_420_2704 (ct2_cons (vl_2704 l) ck_RX11_420_2704 (ct2_cons (vl_2782 l) ck_RX11_433_2782 (ct2_cons (vl_2783 l) ck_RX11_433_2783 (ct2_nil))))))
theorem vl_2784 (l : Launch) : Vld2 l vwCl gTbl con_2784 := conR_ok3 gT_all (hd_2784) rfl pn_RX11 tk_X11_paste bo_RX11 xo_RX11 (cto_2784 l) ch_2784 cut_nil
/-- RookHustingModel paste -/
noncomputable def gi_3270 : GI := jl_n [gp_4, gp_937]
noncomputable def ac_1570 : AC := .inl (12, jl_n [jl_8 47 41, jl_6 5 4])
noncomputable def ac_1571 : AC := .inr (1, jl_n [js_1 55 4])
noncomputable def ac_1572 : AC := .inr (1, jl_n [js_1 59 4])
noncomputable def ac_1573 : AC := .inr (2, jl_n [js_5 60 9223372036854775807 9223372036854775807])
noncomputable def gi_3271 : GI := jl_n [gp_4, gp_937, jl_m 7 0]
noncomputable def hq_1034 : HP := [(false, ac_1570), (false, ac_1571), (false, ac_1572), (true, ac_807), (true, ac_1573)]
noncomputable def con_2785 : Con2 := ((yX12_paste, cX12_paste, 7, (some .int)), (2, 45), ([(6, 0, 0), (1, 1, 0), (1, 2, 0), (1, 3, 0), (1, 4, 0), (1, 5, 0)], gi_3270, [ac_1570, ac_1571, ac_1572, ac_807, ac_1573], []), [((1, 59, 0), gi_3271, hq_1034, [], [1])])
theorem hd_2785 : con_2785.1 = (yX12_paste, cX12_paste, 7, (some .int)) := rfl
noncomputable def ct_2785 : CTB2 := [(1, 414, 1, con_2778, []), (8, 414, 1, con_2778, [])]
noncomputable def rf_2785 : List (Nat × List POP) := [(17, [(1, (1, 1, 0), 0, 0), (1, (1, 3, 0), 0, 0)]), (110, [(0, (1, 2, 0), 0, 60), (0, (1, 4, 0), 0, 60), (0, (1, 5, 0), 0, 60)]), (139, [(0, (0, 0, 0), 0, 239)]), (178, [(0, (0, 1, 0), 0, 239)])]
noncomputable def gi_3272 : GI := jl_n [gp_947, jl_i 3 3, gp_948, gp_425, gp_949]
noncomputable def hq_1035 : HP := [(false, ac_1570), (false, ac_1571), (false, ac_1572), (false, ac_807), (true, ac_1573)]
noncomputable def rq_24 : RLs := [([(2, (-1)), (5, (-1))], 60), ([(4, (-1)), (5, (-1))], 60)]
noncomputable def gi_3273 : GI := jl_n [gp_947, jl_i 2 2, gp_948, jl_r 2 (jl_m 0 60), jl_r 2 (jl_i 0 60), gp_949]
noncomputable def gi_3274 : GI := jl_n [gp_947, gp_950, gp_533, gp_533, gp_949]
noncomputable def gi_3275 : GI := jl_n [gp_947, jl_z 1, gp_951, gp_489, gp_949]
noncomputable def gi_3276 : GI := jl_n [gp_952, jl_i 3 3, gp_948, jl_r 2 (jl_m 0 60), jl_r 2 (jl_i 0 60), gp_949]
noncomputable def gi_3277 : GI := jl_n [gp_952, jl_i 2 2, gp_948, gp_489, gp_953]
noncomputable def gi_3278 : GI := jl_n [gp_952, gp_950, jl_m 0 60, jl_r 2 (jl_i 0 60), gp_953]
noncomputable def gi_3279 : GI := jl_n [gp_952, jl_z 1, gp_951, gp_533, gp_953]
noncomputable def gi_3280 : GI := jl_n [gp_954, jl_i 3 3, gp_948, gp_533, gp_533, gp_949]
noncomputable def gi_3281 : GI := jl_n [gp_954, jl_i 2 2, gp_948, jl_m 0 60, jl_r 2 (jl_i 0 60), gp_953]
noncomputable def gi_3282 : GI := jl_n [gp_954, gp_950, gp_533, jl_r 2 (jl_m 0 60), gp_949]
noncomputable def gi_3283 : GI := jl_n [gp_954, jl_z 1, gp_948, jl_r 2 (jl_i 0 60), jl_r 2 (jl_m 0 60), gp_949]
noncomputable def gi_3284 : GI := jl_n [gp_955, jl_i 3 3, gp_951, gp_489, gp_949]
noncomputable def gi_3285 : GI := jl_n [gp_955, jl_i 2 2, gp_951, gp_533, gp_953]
noncomputable def gi_3286 : GI := jl_n [gp_955, gp_950, jl_r 2 (jl_i 0 60), jl_r 2 (jl_m 0 60), gp_949]
noncomputable def gi_3287 : GI := jl_n [gp_955, jl_z 1, gp_951, jl_r 3 (jl_m 0 60), gp_949]
noncomputable def cu_2785 : List CUT2 := [((113, [lq 0 6 0, lq 1 1 1, lq 2 1 2, lq 3 1 3, lq 4 1 4, lq 5 1 5, lq 6 1 65], [], gi_3272, hq_1035), rq_24, ([(65, (-1))], 121)), ((113, [lq 0 6 0, lq 1 1 1, lq 2 1 2, lq 3 1 3, lq 4 1 4, lq 5 1 5, lq 6 1 65], [], gi_3273, hq_1035), rq_24, ([(65, (-1))], 121)), ((113, [lq 0 6 0, lq 1 1 1, lq 2 1 2, lq 3 1 3, lq 4 1 4, lq 5 1 5, lq 6 1 65], [], gi_3274, hq_1035), rq_24, ([(65, (-1))], 121)), ((113, [lq 0 6 0, lq 1 1 1, lq 2 1 2, lq 3 1 3, lq 4 1 4, lq 5 1 5, lq 6 1 65], [], gi_3275, hq_1035), rq_24, ([(65, (-1))], 121)), ((113, [lq 0 6 0, lq 1 1 1, lq 2 1 2, lq 3 1 3, lq 4 1 4, lq 5 1 5, lq 6 1 65], [], gi_3276, hq_1035), rq_24, ([(65, (-1))], 121)), ((113, [lq 0 6 0, lq 1 1 1, lq 2 1 2, lq 3 1 3, lq 4 1 4, lq 5 1 5, lq 6 1 65], [], gi_3277, hq_1035), rq_24, ([(65, (-1))], 121)), ((113, [lq 0 6 0, lq 1 1 1, lq 2 1 2, lq 3 1 3, lq 4 1 4, lq 5 1 5, lq 6 1 65], [], gi_3278, hq_1035), rq_24, ([(65, (-1))], 121)), ((113, [lq 0 6 0, lq 1 1 1, lq 2 1 2, lq 3 1 3, lq 4 1 4, lq 5 1 5, lq 6 1 65], [], gi_3279, hq_1035), rq_24, ([(65, (-1))], 121)), ((113, [lq 0 6 0, lq 1 1 1, lq 2 1 2, lq 3 1 3, lq 4 1 4, lq 5 1 5, lq 6 1 65], [], gi_3280, hq_1035), rq_24, ([(65, (-1))], 121)), ((113, [lq 0 6 0, lq 1 1 1, lq 2 1 2, lq 3 1 3, lq 4 1 4, lq 5 1 5, lq 6 1 65], [], gi_3281, hq_1035), rq_24, ([(65, (-1))], 121)), ((113, [lq 0 6 0, lq 1 1 1, lq 2 1 2, lq 3 1 3, lq 4 1 4, lq 5 1 5, lq 6 1 65], [], gi_3282, hq_1035), rq_24, ([(65, (-1))], 121)), ((113, [lq 0 6 0, lq 1 1 1, lq 2 1 2, lq 3 1 3, lq 4 1 4, lq 5 1 5, lq 6 1 65], [], gi_3283, hq_1035), rq_24, ([(65, (-1))], 121)), ((113, [lq 0 6 0, lq 1 1 1, lq 2 1 2, lq 3 1 3, lq 4 1 4, lq 5 1 5, lq 6 1 65], [], gi_3284, hq_1035), rq_24, ([(65, (-1))], 121)), ((113, [lq 0 6 0, lq 1 1 1, lq 2 1 2, lq 3 1 3, lq 4 1 4, lq 5 1 5, lq 6 1 65], [], gi_3285, hq_1035), rq_24, ([(65, (-1))], 121)), ((113, [lq 0 6 0, lq 1 1 1, lq 2 1 2, lq 3 1 3, lq 4 1 4, lq 5 1 5, lq 6 1 65], [], gi_3286, hq_1035), rq_24, ([(65, (-1))], 121)), ((113, [lq 0 6 0, lq 1 1 1, lq 2 1 2, lq 3 1 3, lq 4 1 4, lq 5 1 5, lq 6 1 65], [], gi_3287, hq_1035), rq_24, ([(65, (-1))], 121)), ((150, [lq 0 6 0, lq 1 1 1, lq 2 1 2, lq 3 1 3, lq 4 1 4, lq 5 1 5, lq 6 1 65], [], gi_3272, hq_1034), rq_24, ([(65, (-1))], 60)), ((150, [lq 0 6 0, lq 1 1 1, lq 2 1 2, lq 3 1 3, lq 4 1 4, lq 5 1 5, lq 6 1 65], [], gi_3273, hq_1034), rq_24, ([(65, (-1))], 60)), ((150, [lq 0 6 0, lq 1 1 1, lq 2 1 2, lq 3 1 3, lq 4 1 4, lq 5 1 5, lq 6 1 65], [], gi_3274, hq_1034), rq_24, ([(65, (-1))], 60)), ((150, [lq 0 6 0, lq 1 1 1, lq 2 1 2, lq 3 1 3, lq 4 1 4, lq 5 1 5, lq 6 1 65], [], gi_3275, hq_1034), rq_24, ([(65, (-1))], 60)), ((150, [lq 0 6 0, lq 1 1 1, lq 2 1 2, lq 3 1 3, lq 4 1 4, lq 5 1 5, lq 6 1 65], [], gi_3276, hq_1034), rq_24, ([(65, (-1))], 60)), ((150, [lq 0 6 0, lq 1 1 1, lq 2 1 2, lq 3 1 3, lq 4 1 4, lq 5 1 5, lq 6 1 65], [], gi_3277, hq_1034), rq_24, ([(65, (-1))], 60)), ((150, [lq 0 6 0, lq 1 1 1, lq 2 1 2, lq 3 1 3, lq 4 1 4, lq 5 1 5, lq 6 1 65], [], gi_3278, hq_1034), rq_24, ([(65, (-1))], 60)), ((150, [lq 0 6 0, lq 1 1 1, lq 2 1 2, lq 3 1 3, lq 4 1 4, lq 5 1 5, lq 6 1 65], [], gi_3279, hq_1034), rq_24, ([(65, (-1))], 60)), ((150, [lq 0 6 0, lq 1 1 1, lq 2 1 2, lq 3 1 3, lq 4 1 4, lq 5 1 5, lq 6 1 65], [], gi_3280, hq_1034), rq_24, ([(65, (-1))], 60)), ((150, [lq 0 6 0, lq 1 1 1, lq 2 1 2, lq 3 1 3, lq 4 1 4, lq 5 1 5, lq 6 1 65], [], gi_3281, hq_1034), rq_24, ([(65, (-1))], 60)), ((150, [lq 0 6 0, lq 1 1 1, lq 2 1 2, lq 3 1 3, lq 4 1 4, lq 5 1 5, lq 6 1 65], [], gi_3282, hq_1034), rq_24, ([(65, (-1))], 60)), ((150, [lq 0 6 0, lq 1 1 1, lq 2 1 2, lq 3 1 3, lq 4 1 4, lq 5 1 5, lq 6 1 65], [], gi_3283, hq_1034), rq_24, ([(65, (-1))], 60)), ((150, [lq 0 6 0, lq 1 1 1, lq 2 1 2, lq 3 1 3, lq 4 1 4, lq 5 1 5, lq 6 1 65], [], gi_3284, hq_1034), rq_24, ([(65, (-1))], 60)), ((150, [lq 0 6 0, lq 1 1 1, lq 2 1 2, lq 3 1 3, lq 4 1 4, lq 5 1 5, lq 6 1 65], [], gi_3285, hq_1034), rq_24, ([(65, (-1))], 60)), ((150, [lq 0 6 0, lq 1 1 1, lq 2 1 2, lq 3 1 3, lq 4 1 4, lq 5 1 5, lq 6 1 65], [], gi_3286, hq_1034), rq_24, ([(65, (-1))], 60)), ((150, [lq 0 6 0, lq 1 1 1, lq 2 1 2, lq 3 1 3, lq 4 1 4, lq 5 1 5, lq 6 1 65], [], gi_3287, hq_1034), rq_24, ([(65, (-1))], 60))]
theorem ch_2785 : staG tb_X12_paste 3 bt_RX12 [] ct_2785 rf_2785 [77, 85, 95, 103, 117, 138, 154, 170] cu_2785 60 con_2785 = true := by decide +kernel
theorem cc_2785 : cu_2785.all (cutG tb_X12_paste 3 bt_RX12 [] ct_2785 rf_2785 [77, 85, 95, 103, 117, 138, 154, 170] cu_2785 60 con_2785) = true := by decide +kernel
theorem cto_2785 (l : Launch) : CTOK2 l RX12 vwCl gTbl ct_2785 := ct2_cons (vl_2778 l) ck_RX12_414_2778 (ct2_cons (vl_2778 l) ck_RX12_414_2778 (ct2_nil))
theorem vl_2785 (l : Launch) : Vld2 l vwCl gTbl con_2785 := conR_ok3 gT_all (hd_2785) rfl pn_RX12 tk_X12_paste bo_RX12 xo_RX12 (cto_2785 l) ch_2785 (cut_all cc_2785)
