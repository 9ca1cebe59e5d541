/-! ===== contracts, 69 ===== -/
/-- RookHusting row -/
noncomputable def gi_3143 : GI := jl_n [gp_921, gp_923]
noncomputable def ac_1550 : AC := .inl (11, jl_n [vp_26, jl_8 20 11])
noncomputable def ac_1551 : AC := .inr (1, jl_n [js_1 27 4])
noncomputable def ac_1552 : AC := .inr (1, jl_n [js_1 31 4])
noncomputable def hc_260 : List AC := [ac_1550, .inl (8, [(6, 4, 0), (6, 2, 0), (6, 3, 0)]), ac_1551, ac_1552, ac_807]
noncomputable def gi_3144 : GI := jl_n [gp_921, gp_924]
noncomputable def hq_1022 : HP := [(false, ac_1550), (false, .inl (8, [(6, 4, 0), (6, 2, 0), (6, 3, 0)])), (false, ac_1551), (false, ac_1552), (false, ac_807)]
noncomputable def con_2717 : Con2 := ((yX11_row, cX11_row, 4, (some .int)), (1, 20), ([(6, 0, 0), (1, 1, 0), (1, 2, 0), (1, 3, 0)], gi_3143, hc_260, []), [((0, (-2), 0), gi_3144, hq_1022, [], [1])])
theorem hd_2717 : con_2717.1 = (yX11_row, cX11_row, 4, (some .int)) := rfl
noncomputable def cu_2717 : List CUT2 := []
theorem ch_2717 : staG tb_X11_row 1 bt_RX11 [] ct_1511 [] [] cu_2717 7 con_2717 = true := by decide +kernel
theorem vl_2717 (l : Launch) : Vld2 l vwCl gTbl con_2717 := conR_ok3 gT_all (hd_2717) rfl pn_RX11 tk_X11_row bo_RX11 xo_RX11 (cto_1511 l) ch_2717 cut_nil
/-- RookHusting row -/
noncomputable def gi_3145 : GI := jl_n [gp_925, gp_926]
noncomputable def gi_3146 : GI := jl_n [gp_925, gp_927]
noncomputable def con_2718 : Con2 := ((yX11_row, cX11_row, 4, (some .int)), (1, 20), ([(6, 0, 0), (1, 1, 0), (1, 2, 0), (1, 3, 0)], gi_3145, hc_260, []), [((0, (-2), 0), gi_3146, hq_1022, [], [1])])
theorem hd_2718 : con_2718.1 = (yX11_row, cX11_row, 4, (some .int)) := rfl
noncomputable def cu_2718 : List CUT2 := []
theorem ch_2718 : staG tb_X11_row 1 bt_RX11 [] ct_1511 [] [] cu_2718 7 con_2718 = true := by decide +kernel
theorem vl_2718 (l : Launch) : Vld2 l vwCl gTbl con_2718 := conR_ok3 gT_all (hd_2718) rfl pn_RX11 tk_X11_row bo_RX11 xo_RX11 (cto_1511 l) ch_2718 cut_nil
/-- RookHusting row -/
noncomputable def gi_3147 : GI := jl_n [gp_928, gp_926]
noncomputable def gi_3148 : GI := jl_n [gp_928, gp_927]
noncomputable def con_2719 : Con2 := ((yX11_row, cX11_row, 4, (some .int)), (1, 20), ([(6, 0, 0), (1, 1, 0), (1, 2, 0), (1, 3, 0)], gi_3147, hc_260, []), [((0, (-2), 0), gi_3148, hq_1022, [], [1])])
theorem hd_2719 : con_2719.1 = (yX11_row, cX11_row, 4, (some .int)) := rfl
noncomputable def cu_2719 : List CUT2 := []
theorem ch_2719 : staG tb_X11_row 1 bt_RX11 [] ct_1511 [] [] cu_2719 7 con_2719 = true := by decide +kernel
theorem vl_2719 (l : Launch) : Vld2 l vwCl gTbl con_2719 := conR_ok3 gT_all (hd_2719) rfl pn_RX11 tk_X11_row bo_RX11 xo_RX11 (cto_1511 l) ch_2719 cut_nil
/-- RookHusting row -/
noncomputable def gi_3149 : GI := jl_n [gp_929, gp_930]
noncomputable def gi_3150 : GI := jl_n [gp_929, gp_931]
noncomputable def con_2720 : Con2 := ((yX11_row, cX11_row, 4, (some .int)), (1, 20), ([(6, 0, 0), (1, 1, 0), (1, 2, 0), (1, 3, 0)], gi_3149, hc_260, []), [((0, (-2), 0), gi_3150, hq_1022, [], [1])])
theorem hd_2720 : con_2720.1 = (yX11_row, cX11_row, 4, (some .int)) := rfl
noncomputable def cu_2720 : List CUT2 := []
theorem ch_2720 : staG tb_X11_row 1 bt_RX11 [] ct_1511 [] [] cu_2720 7 con_2720 = true := by decide +kernel
theorem vl_2720 (l : Launch) : Vld2 l vwCl gTbl con_2720 := conR_ok3 gT_all (hd_2720) rfl pn_RX11 tk_X11_row bo_RX11 xo_RX11 (cto_1511 l) ch_2720 cut_nil
/-- RookHusting row -/
noncomputable def gi_3151 : GI := jl_n [gp_925, gp_930]
noncomputable def gi_3152 : GI := jl_n [gp_925, gp_931]
noncomputable def con_2721 : Con2 := ((yX11_row, cX11_row, 4, (some .int)), (1, 20), ([(6, 0, 0), (1, 1, 0), (1, 2, 0), (1, 3, 0)], gi_3151, hc_260, []), [((0, (-2), 0), gi_3152, hq_1022, [], [1])])
theorem hd_2721 : con_2721.1 = (yX11_row, cX11_row, 4, (some .int)) := rfl
noncomputable def cu_2721 : List CUT2 := []
theorem ch_2721 : staG tb_X11_row 1 bt_RX11 [] ct_1511 [] [] cu_2721 7 con_2721 = true := by decide +kernel
theorem vl_2721 (l : Launch) : Vld2 l vwCl gTbl con_2721 := conR_ok3 gT_all (hd_2721) rfl pn_RX11 tk_X11_row bo_RX11 xo_RX11 (cto_1511 l) ch_2721 cut_nil
/-- RookHusting row -/
noncomputable def gi_3153 : GI := jl_n [gp_928, gp_930]
noncomputable def gi_3154 : GI := jl_n [gp_928, gp_931]
noncomputable def con_2722 : Con2 := ((yX11_row, cX11_row, 4, (some .int)), (1, 20), ([(6, 0, 0), (1, 1, 0), (1, 2, 0), (1, 3, 0)], gi_3153, hc_260, []), [((0, (-2), 0), gi_3154, hq_1022, [], [1])])
theorem hd_2722 : con_2722.1 = (yX11_row, cX11_row, 4, (some .int)) := rfl
noncomputable def cu_2722 : List CUT2 := []
theorem ch_2722 : staG tb_X11_row 1 bt_RX11 [] ct_1511 [] [] cu_2722 7 con_2722 = true := by decide +kernel
theorem vl_2722 (l : Launch) : Vld2 l vwCl gTbl con_2722 := conR_ok3 gT_all (hd_2722) rfl pn_RX11 tk_X11_row bo_RX11 xo_RX11 (cto_1511 l) ch_2722 cut_nil
/-- RookHusting row -/
noncomputable def gi_3155 : GI := jl_n [gp_929, gp_932]
noncomputable def gi_3156 : GI := jl_n [gp_929, gp_933]
noncomputable def con_2723 : Con2 := ((yX11_row, cX11_row, 4, (some .int)), (1, 20), ([(6, 0, 0), (1, 1, 0), (1, 2, 0), (1, 3, 0)], gi_3155, hc_260, []), [((0, (-2), 0), gi_3156, hq_1022, [], [1])])
theorem hd_2723 : con_2723.1 = (yX11_row, cX11_row, 4, (some .int)) := rfl
noncomputable def cu_2723 : List CUT2 := []
theorem ch_2723 : staG tb_X11_row 1 bt_RX11 [] ct_1511 [] [] cu_2723 7 con_2723 = true := by decide +kernel
theorem vl_2723 (l : Launch) : Vld2 l vwCl gTbl con_2723 := conR_ok3 gT_all (hd_2723) rfl pn_RX11 tk_X11_row bo_RX11 xo_RX11 (cto_1511 l) ch_2723 cut_nil
/-- RookHusting row -/
noncomputable def gi_3157 : GI := jl_n [gp_925, gp_932]
noncomputable def gi_3158 : GI := jl_n [gp_925, gp_933]
noncomputable def con_2724 : Con2 := ((yX11_row, cX11_row, 4, (some .int)), (1, 20), ([(6, 0, 0), (1, 1, 0), (1, 2, 0), (1, 3, 0)], gi_3157, hc_260, []), [((0, (-2), 0), gi_3158, hq_1022, [], [1])])
theorem hd_2724 : con_2724.1 = (yX11_row, cX11_row, 4, (some .int)) := rfl
noncomputable def cu_2724 : List CUT2 := []
theorem ch_2724 : staG tb_X11_row 1 bt_RX11 [] ct_1511 [] [] cu_2724 7 con_2724 = true := by decide +kernel
theorem vl_2724 (l : Launch) : Vld2 l vwCl gTbl con_2724 := conR_ok3 gT_all (hd_2724) rfl pn_RX11 tk_X11_row bo_RX11 xo_RX11 (cto_1511 l) ch_2724 cut_nil
/-- RookHusting row -/
noncomputable def gi_3159 : GI := jl_n [gp_928, gp_932]
noncomputable def gi_3160 : GI := jl_n [gp_928, gp_933]
noncomputable def con_2725 : Con2 := ((yX11_row, cX11_row, 4, (some .int)), (1, 20), ([(6, 0, 0), (1, 1, 0), (1, 2, 0), (1, 3, 0)], gi_3159, hc_260, []), [((0, (-2), 0), gi_3160, hq_1022, [], [1])])
theorem hd_2725 : con_2725.1 = (yX11_row, cX11_row, 4, (some .int)) := rfl
noncomputable def cu_2725 : List CUT2 := []
theorem ch_2725 : staG tb_X11_row 1 bt_RX11 [] ct_1511 [] [] cu_2725 7 con_2725 = true := by decide +kernel
theorem vl_2725 (l : Launch) : Vld2 l vwCl gTbl con_2725 := conR_ok3 gT_all (hd_2725) rfl pn_RX11 tk_X11_row bo_RX11 xo_RX11 (cto_1511 l) ch_2725 cut_nil
/-- RookHusting row -/
noncomputable def gi_3161 : GI := jl_n [gp_934, gp_923]
noncomputable def gi_3162 : GI := jl_n [gp_934, gp_924]
noncomputable def con_2726 : Con2 := ((yX11_row, cX11_row, 4, (some .int)), (1, 20), ([(6, 0, 0), (0, 0, 0), (1, 2, 0), (1, 3, 0)], gi_3161, hc_260, []), [((0, (-2), 0), gi_3162, hq_1022, [], [1])])
theorem hd_2726 : con_2726.1 = (yX11_row, cX11_row, 4, (some .int)) := rfl
noncomputable def ct_2726 : CTB2 := [(1, 414, 1, con_1447, [])]
noncomputable def cu_2726 : List CUT2 := []
theorem ch_2726 : staG tb_X11_row 1 bt_RX11 [] ct_2726 [] [] cu_2726 9 con_2726 = true := by decide +kernel
theorem cto_2726 (l : Launch) : CTOK2 l RX11 vwCl gTbl ct_2726 := ct2_cons (vl_1447 l) ck_RX11_414_1447 (ct2_nil)
theorem vl_2726 (l : Launch) : Vld2 l vwCl gTbl con_2726 := conR_ok3 gT_all (hd_2726) rfl pn_RX11 tk_X11_row bo_RX11 xo_RX11 (cto_2726 l) ch_2726 cut_nil
/-- RookHusting row -/
noncomputable def gi_3163 : GI := jl_n [gp_28, gp_926]
noncomputable def gi_3164 : GI := jl_n [gp_28, gp_927]
noncomputable def con_2727 : Con2 := ((yX11_row, cX11_row, 4, (some .int)), (1, 20), ([(6, 0, 0), (0, 0, 0), (1, 2, 0), (1, 3, 0)], gi_3163, hc_260, []), [((0, (-3), 0), gi_3164, hq_1022, [], [1])])
theorem hd_2727 : con_2727.1 = (yX11_row, cX11_row, 4, (some .int)) := rfl
noncomputable def cu_2727 : List CUT2 := []
theorem ch_2727 : staG tb_X11_row 1 bt_RX11 [] ct_2726 [] [] cu_2727 17 con_2727 = true := by decide +kernel
theorem vl_2727 (l : Launch) : Vld2 l vwCl gTbl con_2727 := conR_ok3 gT_all (hd_2727) rfl pn_RX11 tk_X11_row bo_RX11 xo_RX11 (cto_2726 l) ch_2727 cut_nil
/-- RookHusting row -/
noncomputable def gi_3165 : GI := jl_n [gp_935, gp_926]
noncomputable def gi_3166 : GI := jl_n [gp_935, gp_927]
noncomputable def con_2728 : Con2 := ((yX11_row, cX11_row, 4, (some .int)), (1, 20), ([(6, 0, 0), (0, 0, 0), (1, 2, 0), (1, 3, 0)], gi_3165, hc_260, []), [((0, (-2), 0), gi_3166, hq_1022, [], [1])])
theorem hd_2728 : con_2728.1 = (yX11_row, cX11_row, 4, (some .int)) := rfl
noncomputable def cu_2728 : List CUT2 := []
theorem ch_2728 : staG tb_X11_row 1 bt_RX11 [] ct_2726 [] [] cu_2728 12 con_2728 = true := by decide +kernel
theorem vl_2728 (l : Launch) : Vld2 l vwCl gTbl con_2728 := conR_ok3 gT_all (hd_2728) rfl pn_RX11 tk_X11_row bo_RX11 xo_RX11 (cto_2726 l) ch_2728 cut_nil
/-- RookHusting row -/
noncomputable def gi_3167 : GI := jl_n [gp_936, gp_930]
noncomputable def gi_3168 : GI := jl_n [gp_936, gp_931]
noncomputable def con_2729 : Con2 := ((yX11_row, cX11_row, 4, (some .int)), (1, 20), ([(6, 0, 0), (0, 0, 0), (1, 2, 0), (1, 3, 0)], gi_3167, hc_260, []), [((0, (-2), 0), gi_3168, hq_1022, [], [1])])
theorem hd_2729 : con_2729.1 = (yX11_row, cX11_row, 4, (some .int)) := rfl
noncomputable def cu_2729 : List CUT2 := []
theorem ch_2729 : staG tb_X11_row 1 bt_RX11 [] ct_2726 [] [] cu_2729 9 con_2729 = true := by decide +kernel
theorem vl_2729 (l : Launch) : Vld2 l vwCl gTbl con_2729 := conR_ok3 gT_all (hd_2729) rfl pn_RX11 tk_X11_row bo_RX11 xo_RX11 (cto_2726 l) ch_2729 cut_nil
/-- RookHusting$Slots renew -/
noncomputable def gi_3169 : GI := jl_n [gp_28, jl_i 0 60, jl_z 3, gp_922]
noncomputable def ac_1553 : AC := .inr (1, jl_n [js_1 11 4])
noncomputable def ac_1554 : AC := .inr (1, jl_n [js_1 15 4])
noncomputable def hc_261 : List AC := [.inl (8, [(6, 3, 0), (6, 1, 0), (6, 2, 0)]), ac_1553, ac_1554, ac_807]
noncomputable def gi_3170 : GI := jl_n [gp_28, jl_i 0 60, jl_z 3, gp_922, jl_z 8]
noncomputable def ac_1555 : AC := .inr (1, jl_n [js_1 3 1, js_1 11 3])
noncomputable def ac_1556 : AC := .inr (1, jl_n [js_1 4 1, js_1 15 3])
noncomputable def hq_1023 : HP := [(false, .inl (8, [(6, 3, 0), (6, 1, 0), (6, 2, 0)])), (true, ac_1555), (true, ac_1556), (true, ac_807)]
noncomputable def con_2730 : Con2 := ((yX8_renew, cX8_renew, 5, none), (0, 0), ([(6, 0, 0), (0, 0, 0), (1, 2, 0), (1, 3, 0)], gi_3169, hc_261, []), [((9, 0, 0), gi_3170, hq_1023, [], tg_34)])
theorem hd_2730 : con_2730.1 = (yX8_renew, cX8_renew, 5, none) := rfl
noncomputable def gi_3171 : GI := jl_n [gp_28, jl_i 0 60, jl_z 3, gp_922, jl_z 4, jl_i 0 60, jl_z 8]
noncomputable def cu_2730 : List CUT2 := [((17, [lq 0 6 0, lq 1 0 0, lq 2 1 2, lq 3 1 3, lq 4 1 19], [], gi_3171, hq_1023), [], ([(19, (-1))], 60))]
theorem ch_2730 : staG tb_X8_renew 1 bt_RX8 [] ct_1253 [] [] cu_2730 17 con_2730 = true := by decide +kernel
theorem cc_2730 : cu_2730.all (cutG tb_X8_renew 1 bt_RX8 [] ct_1253 [] [] cu_2730 17 con_2730) = true := by decide +kernel
theorem vl_2730 (l : Launch) : Vld2 l vwCl gTbl con_2730 := conR_ok3 gT_all (hd_2730) rfl pn_RX8 tk_X8_renew bo_RX8 xo_RX8 (cto_1253 l) ch_2730 (cut_all cc_2730)
/-- RookHusting row -/
noncomputable def gi_3172 : GI := jl_n [gp_28, gp_930]
noncomputable def gi_3173 : GI := jl_n [gp_28, gp_930, jl_z 9]
noncomputable def ac_1557 : AC := .inr (1, jl_n [js_1 3 1, js_1 27 3])
noncomputable def ac_1558 : AC := .inr (1, jl_n [js_1 4 1, js_1 31 3])
noncomputable def hq_1024 : HP := [(false, ac_1550), (false, .inl (8, [(6, 4, 0), (6, 2, 0), (6, 3, 0)])), (true, ac_1557), (true, ac_1558), (true, ac_807)]
noncomputable def con_2731 : Con2 := ((yX11_row, cX11_row, 4, (some .int)), (1, 24), ([(6, 0, 0), (0, 0, 0), (1, 2, 0), (1, 3, 0)], gi_3172, hc_260, []), [((0, 0, 0), gi_3173, hq_1024, [], tg_13)])
theorem hd_2731 : con_2731.1 = (yX11_row, cX11_row, 4, (some .int)) := rfl
theorem ck_RX11_417_2730 : COK2 RX11 vwCl gTbl 417 0 con_2730 := ⟨wd_1374, wd_131, mh_X8_renew, .inr (.inr ⟨rfl, wd_1371, wd_1372, wd_1373, ⟨_, rfl, pd_X8_renew⟩, 8, _, TX8, 3, rfl, rfl⟩)⟩
noncomputable def ct_2731 : CTB2 := [(1, 414, 1, con_1447, []), (39, 417, 0, con_2730, [1, 2, 3, 4])]
noncomputable def cu_2731 : List CUT2 := []
theorem ch_2731 : staG tb_X11_row 1 bt_RX11 [] ct_2731 [] [] cu_2731 23 con_2731 = true := by decide +kernel
theorem cto_2731 (l : Launch) : CTOK2 l RX11 vwCl gTbl ct_2731 := ct2_cons (vl_1447 l) ck_RX11_414_1447 (ct2_cons (vl_2730 l) ck_RX11_417_2730 (ct2_nil))
theorem vl_2731 (l : Launch) : Vld2 l vwCl gTbl con_2731 := conR_ok3 gT_all (hd_2731) rfl pn_RX11 tk_X11_row bo_RX11 xo_RX11 (cto_2731 l) ch_2731 cut_nil
/-- RookHusting row -/
noncomputable def gi_3174 : GI := jl_n [gp_935, gp_930]
noncomputable def gi_3175 : GI := jl_n [gp_935, gp_931]
noncomputable def con_2732 : Con2 := ((yX11_row, cX11_row, 4, (some .int)), (1, 20), ([(6, 0, 0), (0, 0, 0), (1, 2, 0), (1, 3, 0)], gi_3174, hc_260, []), [((0, (-2), 0), gi_3175, hq_1022, [], [1])])
theorem hd_2732 : con_2732.1 = (yX11_row, cX11_row, 4, (some .int)) := rfl
noncomputable def cu_2732 : List CUT2 := []
theorem ch_2732 : staG tb_X11_row 1 bt_RX11 [] ct_2726 [] [] cu_2732 12 con_2732 = true := by decide +kernel
theorem vl_2732 (l : Launch) : Vld2 l vwCl gTbl con_2732 := conR_ok3 gT_all (hd_2732) rfl pn_RX11 tk_X11_row bo_RX11 xo_RX11 (cto_2726 l) ch_2732 cut_nil
/-- RookHusting row -/
noncomputable def gi_3176 : GI := jl_n [gp_936, gp_932]
noncomputable def gi_3177 : GI := jl_n [gp_936, gp_933]
noncomputable def con_2733 : Con2 := ((yX11_row, cX11_row, 4, (some .int)), (1, 20), ([(6, 0, 0), (0, 0, 0), (1, 2, 0), (1, 3, 0)], gi_3176, hc_260, []), [((0, (-2), 0), gi_3177, hq_1022, [], [1])])
theorem hd_2733 : con_2733.1 = (yX11_row, cX11_row, 4, (some .int)) := rfl
noncomputable def cu_2733 : List CUT2 := []
theorem ch_2733 : staG tb_X11_row 1 bt_RX11 [] ct_2726 [] [] cu_2733 9 con_2733 = true := by decide +kernel
theorem vl_2733 (l : Launch) : Vld2 l vwCl gTbl con_2733 := conR_ok3 gT_all (hd_2733) rfl pn_RX11 tk_X11_row bo_RX11 xo_RX11 (cto_2726 l) ch_2733 cut_nil
/-- RookHusting row -/
noncomputable def gi_3178 : GI := jl_n [gp_28, gp_932]
noncomputable def gi_3179 : GI := jl_n [gp_28, gp_933]
noncomputable def con_2734 : Con2 := ((yX11_row, cX11_row, 4, (some .int)), (1, 20), ([(6, 0, 0), (0, 0, 0), (1, 2, 0), (1, 3, 0)], gi_3178, hc_260, []), [((0, (-2), 0), gi_3179, hq_1022, [], [1])])
theorem hd_2734 : con_2734.1 = (yX11_row, cX11_row, 4, (some .int)) := rfl
noncomputable def cu_2734 : List CUT2 := []
theorem ch_2734 : staG tb_X11_row 1 bt_RX11 [] ct_2726 [] [] cu_2734 15 con_2734 = true := by decide +kernel
theorem vl_2734 (l : Launch) : Vld2 l vwCl gTbl con_2734 := conR_ok3 gT_all (hd_2734) rfl pn_RX11 tk_X11_row bo_RX11 xo_RX11 (cto_2726 l) ch_2734 cut_nil
/-- RookHusting row -/
noncomputable def gi_3180 : GI := jl_n [gp_935, gp_932]
noncomputable def gi_3181 : GI := jl_n [gp_935, gp_933]
noncomputable def con_2735 : Con2 := ((yX11_row, cX11_row, 4, (some .int)), (1, 20), ([(6, 0, 0), (0, 0, 0), (1, 2, 0), (1, 3, 0)], gi_3180, hc_260, []), [((0, (-2), 0), gi_3181, hq_1022, [], [1])])
theorem hd_2735 : con_2735.1 = (yX11_row, cX11_row, 4, (some .int)) := rfl
noncomputable def cu_2735 : List CUT2 := []
theorem ch_2735 : staG tb_X11_row 1 bt_RX11 [] ct_2726 [] [] cu_2735 12 con_2735 = true := by decide +kernel
theorem vl_2735 (l : Launch) : Vld2 l vwCl gTbl con_2735 := conR_ok3 gT_all (hd_2735) rfl pn_RX11 tk_X11_row bo_RX11 xo_RX11 (cto_2726 l) ch_2735 cut_nil
/-- RookHusting row -/
noncomputable def con_2736 : Con2 := ((yX11_row, cX11_row, 4, (some .int)), (1, 20), ([(6, 0, 0), (0, 1, 0), (1, 2, 0), (1, 3, 0)], gi_3161, hc_260, []), [((0, (-2), 0), gi_3162, hq_1022, [], [1])])
theorem hd_2736 : con_2736.1 = (yX11_row, cX11_row, 4, (some .int)) := rfl
noncomputable def ct_2736 : CTB2 := [(1, 414, 1, con_1384, [])]
noncomputable def cu_2736 : List CUT2 := []
theorem ch_2736 : staG tb_X11_row 1 bt_RX11 [] ct_2736 [] [] cu_2736 9 con_2736 = true := by decide +kernel
theorem cto_2736 (l : Launch) : CTOK2 l RX11 vwCl gTbl ct_2736 := ct2_cons (vl_1384 l) ck_RX11_414_1384 (ct2_nil)
theorem vl_2736 (l : Launch) : Vld2 l vwCl gTbl con_2736 := conR_ok3 gT_all (hd_2736) rfl pn_RX11 tk_X11_row bo_RX11 xo_RX11 (cto_2736 l) ch_2736 cut_nil
/-- RookHusting row -/
noncomputable def con_2737 : Con2 := ((yX11_row, cX11_row, 4, (some .int)), (1, 20), ([(6, 0, 0), (0, 1, 0), (1, 2, 0), (1, 3, 0)], gi_3163, hc_260, []), [((0, (-3), 0), gi_3164, hq_1022, [], [1])])
theorem hd_2737 : con_2737.1 = (yX11_row, cX11_row, 4, (some .int)) := rfl
noncomputable def cu_2737 : List CUT2 := []
theorem ch_2737 : staG tb_X11_row 1 bt_RX11 [] ct_2736 [] [] cu_2737 17 con_2737 = true := by decide +kernel
theorem vl_2737 (l : Launch) : Vld2 l vwCl gTbl con_2737 := conR_ok3 gT_all (hd_2737) rfl pn_RX11 tk_X11_row bo_RX11 xo_RX11 (cto_2736 l) ch_2737 cut_nil
/-- RookHusting row -/
noncomputable def con_2738 : Con2 := ((yX11_row, cX11_row, 4, (some .int)), (1, 20), ([(6, 0, 0), (0, 1, 0), (1, 2, 0), (1, 3, 0)], gi_3165, hc_260, []), [((0, (-2), 0), gi_3166, hq_1022, [], [1])])
theorem hd_2738 : con_2738.1 = (yX11_row, cX11_row, 4, (some .int)) := rfl
noncomputable def cu_2738 : List CUT2 := []
theorem ch_2738 : staG tb_X11_row 1 bt_RX11 [] ct_2736 [] [] cu_2738 12 con_2738 = true := by decide +kernel
theorem vl_2738 (l : Launch) : Vld2 l vwCl gTbl con_2738 := conR_ok3 gT_all (hd_2738) rfl pn_RX11 tk_X11_row bo_RX11 xo_RX11 (cto_2736 l) ch_2738 cut_nil
/-- RookHusting row -/
noncomputable def con_2739 : Con2 := ((yX11_row, cX11_row, 4, (some .int)), (1, 20), ([(6, 0, 0), (0, 1, 0), (1, 2, 0), (1, 3, 0)], gi_3167, hc_260, []), [((0, (-2), 0), gi_3168, hq_1022, [], [1])])
theorem hd_2739 : con_2739.1 = (yX11_row, cX11_row, 4, (some .int)) := rfl
noncomputable def cu_2739 : List CUT2 := []
theorem ch_2739 : staG tb_X11_row 1 bt_RX11 [] ct_2736 [] [] cu_2739 9 con_2739 = true := by decide +kernel
theorem vl_2739 (l : Launch) : Vld2 l vwCl gTbl con_2739 := conR_ok3 gT_all (hd_2739) rfl pn_RX11 tk_X11_row bo_RX11 xo_RX11 (cto_2736 l) ch_2739 cut_nil
/-- RookHusting$Slots renew -/
noncomputable def ac_1559 : AC := .inr (1, jl_n [js_1 8 1, js_1 3 1, js_1 11 2])
noncomputable def ac_1560 : AC := .inr (1, jl_n [js_1 12 1, js_1 4 1, js_1 15 2])
noncomputable def hq_1025 : HP := [(false, .inl (8, [(6, 3, 0), (6, 1, 0), (6, 2, 0)])), (true, ac_1559), (true, ac_1560), (true, ac_807)]
noncomputable def con_2740 : Con2 := ((yX8_renew, cX8_renew, 5, none), (0, 0), ([(6, 0, 0), (0, 1, 0), (1, 2, 0), (1, 3, 0)], gi_3169, hc_261, []), [((9, 0, 0), gi_3170, hq_1025, [], tg_34)])
theorem hd_2740 : con_2740.1 = (yX8_renew, cX8_renew, 5, none) := rfl
noncomputable def cu_2740 : List CUT2 := [((17, [lq 0 6 0, lq 1 0 1, lq 2 1 2, lq 3 1 3, lq 4 1 19], [], gi_3171, hq_1025), [], ([(19, (-1))], 60))]
theorem ch_2740 : staG tb_X8_renew 1 bt_RX8 [] ct_1253 [] [] cu_2740 17 con_2740 = true := by decide +kernel
theorem cc_2740 : cu_2740.all (cutG tb_X8_renew 1 bt_RX8 [] ct_1253 [] [] cu_2740 17 con_2740) = true := by decide +kernel
theorem vl_2740 (l : Launch) : Vld2 l vwCl gTbl con_2740 := conR_ok3 gT_all (hd_2740) rfl pn_RX8 tk_X8_renew bo_RX8 xo_RX8 (cto_1253 l) ch_2740 (cut_all cc_2740)
/-- RookHusting row -/
noncomputable def ac_1561 : AC := .inr (1, jl_n [js_1 24 1, js_1 3 1, js_1 27 2])
noncomputable def ac_1562 : AC := .inr (1, jl_n [js_1 28 1, js_1 4 1, js_1 31 2])
noncomputable def hq_1026 : HP := [(false, ac_1550), (false, .inl (8, [(6, 4, 0), (6, 2, 0), (6, 3, 0)])), (true, ac_1561), (true, ac_1562), (true, ac_807)]
noncomputable def con_2741 : Con2 := ((yX11_row, cX11_row, 4, (some .int)), (1, 24), ([(6, 0, 0), (0, 1, 0), (1, 2, 0), (1, 3, 0)], gi_3172, hc_260, []), [((0, 0, 0), gi_3173, hq_1026, [], tg_13)])
theorem hd_2741 : con_2741.1 = (yX11_row, cX11_row, 4, (some .int)) := rfl
theorem ck_RX11_417_2740 : COK2 RX11 vwCl gTbl 417 0 con_2740 := ⟨wd_1374, wd_131, mh_X8_renew, .inr (.inr ⟨rfl, wd_1371, wd_1372, wd_1373, ⟨_, rfl, pd_X8_renew⟩, 8, _, TX8, 3, rfl, rfl⟩)⟩
noncomputable def ct_2741 : CTB2 := [(1, 414, 1, con_1384, []), (39, 417, 0, con_2740, [1, 2, 3, 4])]
noncomputable def cu_2741 : List CUT2 := []
theorem ch_2741 : staG tb_X11_row 1 bt_RX11 [] ct_2741 [] [] cu_2741 23 con_2741 = true := by decide +kernel
theorem cto_2741 (l : Launch) : CTOK2 l RX11 vwCl gTbl ct_2741 := ct2_cons (vl_1384 l) ck_RX11_414_1384 (ct2_cons (vl_2740 l) ck_RX11_417_2740 (ct2_nil))
theorem vl_2741 (l : Launch) : Vld2 l vwCl gTbl con_2741 := conR_ok3 gT_all (hd_2741) rfl pn_RX11 tk_X11_row bo_RX11 xo_RX11 (cto_2741 l) ch_2741 cut_nil
/-- RookHusting row -/
noncomputable def con_2742 : Con2 := ((yX11_row, cX11_row, 4, (some .int)), (1, 20), ([(6, 0, 0), (0, 1, 0), (1, 2, 0), (1, 3, 0)], gi_3174, hc_260, []), [((0, (-2), 0), gi_3175, hq_1022, [], [1])])
theorem hd_2742 : con_2742.1 = (yX11_row, cX11_row, 4, (some .int)) := rfl
noncomputable def cu_2742 : List CUT2 := []
theorem ch_2742 : staG tb_X11_row 1 bt_RX11 [] ct_2736 [] [] cu_2742 12 con_2742 = true := by decide +kernel
theorem vl_2742 (l : Launch) : Vld2 l vwCl gTbl con_2742 := conR_ok3 gT_all (hd_2742) rfl pn_RX11 tk_X11_row bo_RX11 xo_RX11 (cto_2736 l) ch_2742 cut_nil
/-- RookHusting row -/
noncomputable def con_2743 : Con2 := ((yX11_row, cX11_row, 4, (some .int)), (1, 20), ([(6, 0, 0), (0, 1, 0), (1, 2, 0), (1, 3, 0)], gi_3176, hc_260, []), [((0, (-2), 0), gi_3177, hq_1022, [], [1])])
theorem hd_2743 : con_2743.1 = (yX11_row, cX11_row, 4, (some .int)) := rfl
noncomputable def cu_2743 : List CUT2 := []
theorem ch_2743 : staG tb_X11_row 1 bt_RX11 [] ct_2736 [] [] cu_2743 9 con_2743 = true := by decide +kernel
theorem vl_2743 (l : Launch) : Vld2 l vwCl gTbl con_2743 := conR_ok3 gT_all (hd_2743) rfl pn_RX11 tk_X11_row bo_RX11 xo_RX11 (cto_2736 l) ch_2743 cut_nil
/-- RookHusting row -/
noncomputable def con_2744 : Con2 := ((yX11_row, cX11_row, 4, (some .int)), (1, 20), ([(6, 0, 0), (0, 1, 0), (1, 2, 0), (1, 3, 0)], gi_3178, hc_260, []), [((0, (-2), 0), gi_3179, hq_1022, [], [1])])
theorem hd_2744 : con_2744.1 = (yX11_row, cX11_row, 4, (some .int)) := rfl
noncomputable def cu_2744 : List CUT2 := []
theorem ch_2744 : staG tb_X11_row 1 bt_RX11 [] ct_2736 [] [] cu_2744 15 con_2744 = true := by decide +kernel
theorem vl_2744 (l : Launch) : Vld2 l vwCl gTbl con_2744 := conR_ok3 gT_all (hd_2744) rfl pn_RX11 tk_X11_row bo_RX11 xo_RX11 (cto_2736 l) ch_2744 cut_nil
/-- RookHusting row -/
noncomputable def con_2745 : Con2 := ((yX11_row, cX11_row, 4, (some .int)), (1, 20), ([(6, 0, 0), (0, 1, 0), (1, 2, 0), (1, 3, 0)], gi_3180, hc_260, []), [((0, (-2), 0), gi_3181, hq_1022, [], [1])])
theorem hd_2745 : con_2745.1 = (yX11_row, cX11_row, 4, (some .int)) := rfl
noncomputable def cu_2745 : List CUT2 := []
theorem ch_2745 : staG tb_X11_row 1 bt_RX11 [] ct_2736 [] [] cu_2745 12 con_2745 = true := by decide +kernel
theorem vl_2745 (l : Launch) : Vld2 l vwCl gTbl con_2745 := conR_ok3 gT_all (hd_2745) rfl pn_RX11 tk_X11_row bo_RX11 xo_RX11 (cto_2736 l) ch_2745 cut_nil
/-- RookHusting row -/
noncomputable def con_2746 : Con2 := ((yX11_row, cX11_row, 4, (some .int)), (1, 20), ([(6, 0, 0), (0, 2, 0), (1, 2, 0), (1, 3, 0)], gi_3161, hc_260, []), [((0, (-2), 0), gi_3162, hq_1022, [], [1])])
theorem hd_2746 : con_2746.1 = (yX11_row, cX11_row, 4, (some .int)) := rfl
noncomputable def ct_2746 : CTB2 := [(1, 414, 1, con_1321, [])]
noncomputable def cu_2746 : List CUT2 := []
theorem ch_2746 : staG tb_X11_row 1 bt_RX11 [] ct_2746 [] [] cu_2746 9 con_2746 = true := by decide +kernel
theorem cto_2746 (l : Launch) : CTOK2 l RX11 vwCl gTbl ct_2746 := ct2_cons (vl_1321 l) ck_RX11_414_1321 (ct2_nil)
theorem vl_2746 (l : Launch) : Vld2 l vwCl gTbl con_2746 := conR_ok3 gT_all (hd_2746) rfl pn_RX11 tk_X11_row bo_RX11 xo_RX11 (cto_2746 l) ch_2746 cut_nil
/-- RookHusting row -/
noncomputable def con_2747 : Con2 := ((yX11_row, cX11_row, 4, (some .int)), (1, 20), ([(6, 0, 0), (0, 2, 0), (1, 2, 0), (1, 3, 0)], gi_3163, hc_260, []), [((0, (-3), 0), gi_3164, hq_1022, [], [1])])
theorem hd_2747 : con_2747.1 = (yX11_row, cX11_row, 4, (some .int)) := rfl
noncomputable def cu_2747 : List CUT2 := []
theorem ch_2747 : staG tb_X11_row 1 bt_RX11 [] ct_2746 [] [] cu_2747 17 con_2747 = true := by decide +kernel
theorem vl_2747 (l : Launch) : Vld2 l vwCl gTbl con_2747 := conR_ok3 gT_all (hd_2747) rfl pn_RX11 tk_X11_row bo_RX11 xo_RX11 (cto_2746 l) ch_2747 cut_nil
/-- RookHusting row -/
noncomputable def con_2748 : Con2 := ((yX11_row, cX11_row, 4, (some .int)), (1, 20), ([(6, 0, 0), (0, 2, 0), (1, 2, 0), (1, 3, 0)], gi_3165, hc_260, []), [((0, (-2), 0), gi_3166, hq_1022, [], [1])])
theorem hd_2748 : con_2748.1 = (yX11_row, cX11_row, 4, (some .int)) := rfl
noncomputable def cu_2748 : List CUT2 := []
theorem ch_2748 : staG tb_X11_row 1 bt_RX11 [] ct_2746 [] [] cu_2748 12 con_2748 = true := by decide +kernel
theorem vl_2748 (l : Launch) : Vld2 l vwCl gTbl con_2748 := conR_ok3 gT_all (hd_2748) rfl pn_RX11 tk_X11_row bo_RX11 xo_RX11 (cto_2746 l) ch_2748 cut_nil
/-- RookHusting row -/
noncomputable def con_2749 : Con2 := ((yX11_row, cX11_row, 4, (some .int)), (1, 20), ([(6, 0, 0), (0, 2, 0), (1, 2, 0), (1, 3, 0)], gi_3167, hc_260, []), [((0, (-2), 0), gi_3168, hq_1022, [], [1])])
theorem hd_2749 : con_2749.1 = (yX11_row, cX11_row, 4, (some .int)) := rfl
noncomputable def cu_2749 : List CUT2 := []
theorem ch_2749 : staG tb_X11_row 1 bt_RX11 [] ct_2746 [] [] cu_2749 9 con_2749 = true := by decide +kernel
theorem vl_2749 (l : Launch) : Vld2 l vwCl gTbl con_2749 := conR_ok3 gT_all (hd_2749) rfl pn_RX11 tk_X11_row bo_RX11 xo_RX11 (cto_2746 l) ch_2749 cut_nil
/-- RookHusting$Slots renew -/
noncomputable def ac_1563 : AC := .inr (1, jl_n [js_1 9 2, js_1 3 1, js_1 11 1])
noncomputable def ac_1564 : AC := .inr (1, jl_n [js_1 13 2, js_1 4 1, js_1 15 1])
noncomputable def hq_1027 : HP := [(false, .inl (8, [(6, 3, 0), (6, 1, 0), (6, 2, 0)])), (true, ac_1563), (true, ac_1564), (true, ac_807)]
noncomputable def con_2750 : Con2 := ((yX8_renew, cX8_renew, 5, none), (0, 0), ([(6, 0, 0), (0, 2, 0), (1, 2, 0), (1, 3, 0)], gi_3169, hc_261, []), [((9, 0, 0), gi_3170, hq_1027, [], tg_34)])
theorem hd_2750 : con_2750.1 = (yX8_renew, cX8_renew, 5, none) := rfl
noncomputable def cu_2750 : List CUT2 := [((17, [lq 0 6 0, lq 1 0 2, lq 2 1 2, lq 3 1 3, lq 4 1 19], [], gi_3171, hq_1027), [], ([(19, (-1))], 60))]
theorem ch_2750 : staG tb_X8_renew 1 bt_RX8 [] ct_1253 [] [] cu_2750 17 con_2750 = true := by decide +kernel
theorem cc_2750 : cu_2750.all (cutG tb_X8_renew 1 bt_RX8 [] ct_1253 [] [] cu_2750 17 con_2750) = true := by decide +kernel
theorem vl_2750 (l : Launch) : Vld2 l vwCl gTbl con_2750 := conR_ok3 gT_all (hd_2750) rfl pn_RX8 tk_X8_renew bo_RX8 xo_RX8 (cto_1253 l) ch_2750 (cut_all cc_2750)
/-- RookHusting row -/
noncomputable def ac_1565 : AC := .inr (1, jl_n [js_1 25 2, js_1 3 1, js_1 27 1])
noncomputable def ac_1566 : AC := .inr (1, jl_n [js_1 29 2, js_1 4 1, js_1 31 1])
noncomputable def hq_1028 : HP := [(false, ac_1550), (false, .inl (8, [(6, 4, 0), (6, 2, 0), (6, 3, 0)])), (true, ac_1565), (true, ac_1566), (true, ac_807)]
noncomputable def con_2751 : Con2 := ((yX11_row, cX11_row, 4, (some .int)), (1, 24), ([(6, 0, 0), (0, 2, 0), (1, 2, 0), (1, 3, 0)], gi_3172, hc_260, []), [((0, 0, 0), gi_3173, hq_1028, [], tg_13)])
theorem hd_2751 : con_2751.1 = (yX11_row, cX11_row, 4, (some .int)) := rfl
theorem ck_RX11_417_2750 : COK2 RX11 vwCl gTbl 417 0 con_2750 := ⟨wd_1374, wd_131, mh_X8_renew, .inr (.inr ⟨rfl, wd_1371, wd_1372, wd_1373, ⟨_, rfl, pd_X8_renew⟩, 8, _, TX8, 3, rfl, rfl⟩)⟩
noncomputable def ct_2751 : CTB2 := [(1, 414, 1, con_1321, []), (39, 417, 0, con_2750, [1, 2, 3, 4])]
noncomputable def cu_2751 : List CUT2 := []
theorem ch_2751 : staG tb_X11_row 1 bt_RX11 [] ct_2751 [] [] cu_2751 23 con_2751 = true := by decide +kernel
theorem cto_2751 (l : Launch) : CTOK2 l RX11 vwCl gTbl ct_2751 := ct2_cons (vl_1321 l) ck_RX11_414_1321 (ct2_cons (vl_2750 l) ck_RX11_417_2750 (ct2_nil))
theorem vl_2751 (l : Launch) : Vld2 l vwCl gTbl con_2751 := conR_ok3 gT_all (hd_2751) rfl pn_RX11 tk_X11_row bo_RX11 xo_RX11 (cto_2751 l) ch_2751 cut_nil
/-- RookHusting row -/
noncomputable def con_2752 : Con2 := ((yX11_row, cX11_row, 4, (some .int)), (1, 20), ([(6, 0, 0), (0, 2, 0), (1, 2, 0), (1, 3, 0)], gi_3174, hc_260, []), [((0, (-2), 0), gi_3175, hq_1022, [], [1])])
theorem hd_2752 : con_2752.1 = (yX11_row, cX11_row, 4, (some .int)) := rfl
noncomputable def cu_2752 : List CUT2 := []
theorem ch_2752 : staG tb_X11_row 1 bt_RX11 [] ct_2746 [] [] cu_2752 12 con_2752 = true := by decide +kernel
theorem vl_2752 (l : Launch) : Vld2 l vwCl gTbl con_2752 := conR_ok3 gT_all (hd_2752) rfl pn_RX11 tk_X11_row bo_RX11 xo_RX11 (cto_2746 l) ch_2752 cut_nil
/-- RookHusting row -/
noncomputable def con_2753 : Con2 := ((yX11_row, cX11_row, 4, (some .int)), (1, 20), ([(6, 0, 0), (0, 2, 0), (1, 2, 0), (1, 3, 0)], gi_3176, hc_260, []), [((0, (-2), 0), gi_3177, hq_1022, [], [1])])
theorem hd_2753 : con_2753.1 = (yX11_row, cX11_row, 4, (some .int)) := rfl
noncomputable def cu_2753 : List CUT2 := []
theorem ch_2753 : staG tb_X11_row 1 bt_RX11 [] ct_2746 [] [] cu_2753 9 con_2753 = true := by decide +kernel
theorem vl_2753 (l : Launch) : Vld2 l vwCl gTbl con_2753 := conR_ok3 gT_all (hd_2753) rfl pn_RX11 tk_X11_row bo_RX11 xo_RX11 (cto_2746 l) ch_2753 cut_nil
/-- RookHusting row -/
noncomputable def con_2754 : Con2 := ((yX11_row, cX11_row, 4, (some .int)), (1, 20), ([(6, 0, 0), (0, 2, 0), (1, 2, 0), (1, 3, 0)], gi_3178, hc_260, []), [((0, (-2), 0), gi_3179, hq_1022, [], [1])])
theorem hd_2754 : con_2754.1 = (yX11_row, cX11_row, 4, (some .int)) := rfl
noncomputable def cu_2754 : List CUT2 := []
theorem ch_2754 : staG tb_X11_row 1 bt_RX11 [] ct_2746 [] [] cu_2754 15 con_2754 = true := by decide +kernel
theorem vl_2754 (l : Launch) : Vld2 l vwCl gTbl con_2754 := conR_ok3 gT_all (hd_2754) rfl pn_RX11 tk_X11_row bo_RX11 xo_RX11 (cto_2746 l) ch_2754 cut_nil
/-- RookHusting row -/
noncomputable def con_2755 : Con2 := ((yX11_row, cX11_row, 4, (some .int)), (1, 20), ([(6, 0, 0), (0, 2, 0), (1, 2, 0), (1, 3, 0)], gi_3180, hc_260, []), [((0, (-2), 0), gi_3181, hq_1022, [], [1])])
theorem hd_2755 : con_2755.1 = (yX11_row, cX11_row, 4, (some .int)) := rfl
noncomputable def cu_2755 : List CUT2 := []
theorem ch_2755 : staG tb_X11_row 1 bt_RX11 [] ct_2746 [] [] cu_2755 12 con_2755 = true := by decide +kernel
theorem vl_2755 (l : Launch) : Vld2 l vwCl gTbl con_2755 := conR_ok3 gT_all (hd_2755) rfl pn_RX11 tk_X11_row bo_RX11 xo_RX11 (cto_2746 l) ch_2755 cut_nil
/-- RookHusting row -/
noncomputable def con_2756 : Con2 := ((yX11_row, cX11_row, 4, (some .int)), (1, 20), ([(6, 0, 0), (0, 3, 0), (1, 2, 0), (1, 3, 0)], gi_3161, hc_260, []), [((0, (-2), 0), gi_3162, hq_1022, [], [1])])
theorem hd_2756 : con_2756.1 = (yX11_row, cX11_row, 4, (some .int)) := rfl
noncomputable def ct_2756 : CTB2 := [(1, 414, 1, con_1255, [])]
noncomputable def cu_2756 : List CUT2 := []
theorem ch_2756 : staG tb_X11_row 1 bt_RX11 [] ct_2756 [] [] cu_2756 9 con_2756 = true := by decide +kernel
theorem cto_2756 (l : Launch) : CTOK2 l RX11 vwCl gTbl ct_2756 := ct2_cons (vl_1255 l) ck_RX11_414_1255 (ct2_nil)
theorem vl_2756 (l : Launch) : Vld2 l vwCl gTbl con_2756 := conR_ok3 gT_all (hd_2756) rfl pn_RX11 tk_X11_row bo_RX11 xo_RX11 (cto_2756 l) ch_2756 cut_nil
/-- RookHusting row -/
noncomputable def con_2757 : Con2 := ((yX11_row, cX11_row, 4, (some .int)), (1, 20), ([(6, 0, 0), (0, 3, 0), (1, 2, 0), (1, 3, 0)], gi_3163, hc_260, []), [((0, (-3), 0), gi_3164, hq_1022, [], [1])])
theorem hd_2757 : con_2757.1 = (yX11_row, cX11_row, 4, (some .int)) := rfl
noncomputable def cu_2757 : List CUT2 := []
theorem ch_2757 : staG tb_X11_row 1 bt_RX11 [] ct_2756 [] [] cu_2757 17 con_2757 = true := by decide +kernel
theorem vl_2757 (l : Launch) : Vld2 l vwCl gTbl con_2757 := conR_ok3 gT_all (hd_2757) rfl pn_RX11 tk_X11_row bo_RX11 xo_RX11 (cto_2756 l) ch_2757 cut_nil
/-- RookHusting row -/
noncomputable def con_2758 : Con2 := ((yX11_row, cX11_row, 4, (some .int)), (1, 20), ([(6, 0, 0), (0, 3, 0), (1, 2, 0), (1, 3, 0)], gi_3165, hc_260, []), [((0, (-2), 0), gi_3166, hq_1022, [], [1])])
theorem hd_2758 : con_2758.1 = (yX11_row, cX11_row, 4, (some .int)) := rfl
noncomputable def cu_2758 : List CUT2 := []
theorem ch_2758 : staG tb_X11_row 1 bt_RX11 [] ct_2756 [] [] cu_2758 12 con_2758 = true := by decide +kernel
theorem vl_2758 (l : Launch) : Vld2 l vwCl gTbl con_2758 := conR_ok3 gT_all (hd_2758) rfl pn_RX11 tk_X11_row bo_RX11 xo_RX11 (cto_2756 l) ch_2758 cut_nil
/-- RookHusting row -/
noncomputable def con_2759 : Con2 := ((yX11_row, cX11_row, 4, (some .int)), (1, 20), ([(6, 0, 0), (0, 3, 0), (1, 2, 0), (1, 3, 0)], gi_3167, hc_260, []), [((0, (-2), 0), gi_3168, hq_1022, [], [1])])
theorem hd_2759 : con_2759.1 = (yX11_row, cX11_row, 4, (some .int)) := rfl
noncomputable def cu_2759 : List CUT2 := []
theorem ch_2759 : staG tb_X11_row 1 bt_RX11 [] ct_2756 [] [] cu_2759 9 con_2759 = true := by decide +kernel
theorem vl_2759 (l : Launch) : Vld2 l vwCl gTbl con_2759 := conR_ok3 gT_all (hd_2759) rfl pn_RX11 tk_X11_row bo_RX11 xo_RX11 (cto_2756 l) ch_2759 cut_nil
/-- RookHusting$Slots renew -/
noncomputable def ac_1567 : AC := .inr (1, jl_n [js_1 10 3, js_1 3 1])
noncomputable def ac_1568 : AC := .inr (1, jl_n [js_1 14 3, js_1 4 1])
noncomputable def hq_1029 : HP := [(false, .inl (8, [(6, 3, 0), (6, 1, 0), (6, 2, 0)])), (true, ac_1567), (true, ac_1568), (true, ac_807)]
noncomputable def con_2760 : Con2 := ((yX8_renew, cX8_renew, 5, none), (0, 0), ([(6, 0, 0), (0, 3, 0), (1, 2, 0), (1, 3, 0)], gi_3169, hc_261, []), [((9, 0, 0), gi_3170, hq_1029, [], tg_34)])
theorem hd_2760 : con_2760.1 = (yX8_renew, cX8_renew, 5, none) := rfl
noncomputable def cu_2760 : List CUT2 := [((17, [lq 0 6 0, lq 1 0 3, lq 2 1 2, lq 3 1 3, lq 4 1 19], [], gi_3171, hq_1029), [], ([(19, (-1))], 60))]
theorem ch_2760 : staG tb_X8_renew 1 bt_RX8 [] ct_1253 [] [] cu_2760 17 con_2760 = true := by decide +kernel
theorem cc_2760 : cu_2760.all (cutG tb_X8_renew 1 bt_RX8 [] ct_1253 [] [] cu_2760 17 con_2760) = true := by decide +kernel
theorem vl_2760 (l : Launch) : Vld2 l vwCl gTbl con_2760 := conR_ok3 gT_all (hd_2760) rfl pn_RX8 tk_X8_renew bo_RX8 xo_RX8 (cto_1253 l) ch_2760 (cut_all cc_2760)
/-- RookHusting row -/
noncomputable def ac_1569 : AC := .inr (1, jl_n [js_1 26 3, js_1 3 1])
noncomputable def ac_1570 : AC := .inr (1, jl_n [js_1 30 3, js_1 4 1])
noncomputable def hq_1030 : HP := [(false, ac_1550), (false, .inl (8, [(6, 4, 0), (6, 2, 0), (6, 3, 0)])), (true, ac_1569), (true, ac_1570), (true, ac_807)]
noncomputable def con_2761 : Con2 := ((yX11_row, cX11_row, 4, (some .int)), (1, 24), ([(6, 0, 0), (0, 3, 0), (1, 2, 0), (1, 3, 0)], gi_3172, hc_260, []), [((0, 0, 0), gi_3173, hq_1030, [], tg_13)])
theorem hd_2761 : con_2761.1 = (yX11_row, cX11_row, 4, (some .int)) := rfl
theorem ck_RX11_417_2760 : COK2 RX11 vwCl gTbl 417 0 con_2760 := ⟨wd_1374, wd_131, mh_X8_renew, .inr (.inr ⟨rfl, wd_1371, wd_1372, wd_1373, ⟨_, rfl, pd_X8_renew⟩, 8, _, TX8, 3, rfl, rfl⟩)⟩
noncomputable def ct_2761 : CTB2 := [(1, 414, 1, con_1255, []), (39, 417, 0, con_2760, [1, 2, 3, 4])]
noncomputable def cu_2761 : List CUT2 := []
theorem ch_2761 : staG tb_X11_row 1 bt_RX11 [] ct_2761 [] [] cu_2761 23 con_2761 = true := by decide +kernel
theorem cto_2761 (l : Launch) : CTOK2 l RX11 vwCl gTbl ct_2761 := ct2_cons (vl_1255 l) ck_RX11_414_1255 (ct2_cons (vl_2760 l) ck_RX11_417_2760 (ct2_nil))
theorem vl_2761 (l : Launch) : Vld2 l vwCl gTbl con_2761 := conR_ok3 gT_all (hd_2761) rfl pn_RX11 tk_X11_row bo_RX11 xo_RX11 (cto_2761 l) ch_2761 cut_nil
/-- RookHusting row -/
noncomputable def con_2762 : Con2 := ((yX11_row, cX11_row, 4, (some .int)), (1, 20), ([(6, 0, 0), (0, 3, 0), (1, 2, 0), (1, 3, 0)], gi_3174, hc_260, []), [((0, (-2), 0), gi_3175, hq_1022, [], [1])])
theorem hd_2762 : con_2762.1 = (yX11_row, cX11_row, 4, (some .int)) := rfl
noncomputable def cu_2762 : List CUT2 := []
theorem ch_2762 : staG tb_X11_row 1 bt_RX11 [] ct_2756 [] [] cu_2762 12 con_2762 = true := by decide +kernel
theorem vl_2762 (l : Launch) : Vld2 l vwCl gTbl con_2762 := conR_ok3 gT_all (hd_2762) rfl pn_RX11 tk_X11_row bo_RX11 xo_RX11 (cto_2756 l) ch_2762 cut_nil
/-- RookHusting row -/
noncomputable def con_2763 : Con2 := ((yX11_row, cX11_row, 4, (some .int)), (1, 20), ([(6, 0, 0), (0, 3, 0), (1, 2, 0), (1, 3, 0)], gi_3176, hc_260, []), [((0, (-2), 0), gi_3177, hq_1022, [], [1])])
theorem hd_2763 : con_2763.1 = (yX11_row, cX11_row, 4, (some .int)) := rfl
noncomputable def cu_2763 : List CUT2 := []
theorem ch_2763 : staG tb_X11_row 1 bt_RX11 [] ct_2756 [] [] cu_2763 9 con_2763 = true := by decide +kernel
theorem vl_2763 (l : Launch) : Vld2 l vwCl gTbl con_2763 := conR_ok3 gT_all (hd_2763) rfl pn_RX11 tk_X11_row bo_RX11 xo_RX11 (cto_2756 l) ch_2763 cut_nil
/-- RookHusting row -/
noncomputable def con_2764 : Con2 := ((yX11_row, cX11_row, 4, (some .int)), (1, 20), ([(6, 0, 0), (0, 3, 0), (1, 2, 0), (1, 3, 0)], gi_3178, hc_260, []), [((0, (-2), 0), gi_3179, hq_1022, [], [1])])
theorem hd_2764 : con_2764.1 = (yX11_row, cX11_row, 4, (some .int)) := rfl
noncomputable def cu_2764 : List CUT2 := []
theorem ch_2764 : staG tb_X11_row 1 bt_RX11 [] ct_2756 [] [] cu_2764 15 con_2764 = true := by decide +kernel
theorem vl_2764 (l : Launch) : Vld2 l vwCl gTbl con_2764 := conR_ok3 gT_all (hd_2764) rfl pn_RX11 tk_X11_row bo_RX11 xo_RX11 (cto_2756 l) ch_2764 cut_nil
/-- RookHusting row -/
noncomputable def con_2765 : Con2 := ((yX11_row, cX11_row, 4, (some .int)), (1, 20), ([(6, 0, 0), (0, 3, 0), (1, 2, 0), (1, 3, 0)], gi_3180, hc_260, []), [((0, (-2), 0), gi_3181, hq_1022, [], [1])])
theorem hd_2765 : con_2765.1 = (yX11_row, cX11_row, 4, (some .int)) := rfl
noncomputable def cu_2765 : List CUT2 := []
theorem ch_2765 : staG tb_X11_row 1 bt_RX11 [] ct_2756 [] [] cu_2765 12 con_2765 = true := by decide +kernel
theorem vl_2765 (l : Launch) : Vld2 l vwCl gTbl con_2765 := conR_ok3 gT_all (hd_2765) rfl pn_RX11 tk_X11_row bo_RX11 xo_RX11 (cto_2756 l) ch_2765 cut_nil
/-- RookHusting row -/
noncomputable def gi_3182 : GI := jl_n [gp_937, gp_923]
noncomputable def gi_3183 : GI := jl_n [gp_937, gp_924]
noncomputable def con_2766 : Con2 := ((yX11_row, cX11_row, 4, (some .int)), (1, 20), ([(6, 0, 0), (1, 1, 0), (1, 2, 0), (1, 3, 0)], gi_3182, hc_260, []), [((0, (-2), 0), gi_3183, hq_1022, [], [1])])
theorem hd_2766 : con_2766.1 = (yX11_row, cX11_row, 4, (some .int)) := rfl
noncomputable def cu_2766 : List CUT2 := []
theorem ch_2766 : staG tb_X11_row 1 bt_RX11 [] ct_1254 [] [] cu_2766 7 con_2766 = true := by decide +kernel
theorem vl_2766 (l : Launch) : Vld2 l vwCl gTbl con_2766 := conR_ok3 gT_all (hd_2766) rfl pn_RX11 tk_X11_row bo_RX11 xo_RX11 (cto_1254 l) ch_2766 cut_nil
/-- RookHusting row -/
noncomputable def gi_3184 : GI := jl_n [gp_938, gp_926]
noncomputable def gi_3185 : GI := jl_n [gp_938, gp_927]
noncomputable def con_2767 : Con2 := ((yX11_row, cX11_row, 4, (some .int)), (1, 20), ([(6, 0, 0), (1, 1, 0), (1, 2, 0), (1, 3, 0)], gi_3184, hc_260, []), [((0, (-2), 0), gi_3185, hq_1022, [], [1])])
theorem hd_2767 : con_2767.1 = (yX11_row, cX11_row, 4, (some .int)) := rfl
noncomputable def cu_2767 : List CUT2 := []
theorem ch_2767 : staG tb_X11_row 1 bt_RX11 [] ct_1254 [] [] cu_2767 7 con_2767 = true := by decide +kernel
theorem vl_2767 (l : Launch) : Vld2 l vwCl gTbl con_2767 := conR_ok3 gT_all (hd_2767) rfl pn_RX11 tk_X11_row bo_RX11 xo_RX11 (cto_1254 l) ch_2767 cut_nil
/-- RookHusting row -/
noncomputable def gi_3186 : GI := jl_n [gp_939, gp_926]
noncomputable def gi_3187 : GI := jl_n [gp_939, gp_927]
noncomputable def con_2768 : Con2 := ((yX11_row, cX11_row, 4, (some .int)), (1, 20), ([(6, 0, 0), (1, 1, 0), (1, 2, 0), (1, 3, 0)], gi_3186, hc_260, []), [((0, (-2), 0), gi_3187, hq_1022, [], [1])])
theorem hd_2768 : con_2768.1 = (yX11_row, cX11_row, 4, (some .int)) := rfl
noncomputable def cu_2768 : List CUT2 := []
theorem ch_2768 : staG tb_X11_row 1 bt_RX11 [] ct_1254 [] [] cu_2768 7 con_2768 = true := by decide +kernel
theorem vl_2768 (l : Launch) : Vld2 l vwCl gTbl con_2768 := conR_ok3 gT_all (hd_2768) rfl pn_RX11 tk_X11_row bo_RX11 xo_RX11 (cto_1254 l) ch_2768 cut_nil
/-- RookHusting row -/
noncomputable def gi_3188 : GI := jl_n [gp_940, gp_930]
noncomputable def gi_3189 : GI := jl_n [gp_940, gp_931]
noncomputable def con_2769 : Con2 := ((yX11_row, cX11_row, 4, (some .int)), (1, 20), ([(6, 0, 0), (1, 1, 0), (1, 2, 0), (1, 3, 0)], gi_3188, hc_260, []), [((0, (-2), 0), gi_3189, hq_1022, [], [1])])
theorem hd_2769 : con_2769.1 = (yX11_row, cX11_row, 4, (some .int)) := rfl
noncomputable def cu_2769 : List CUT2 := []
theorem ch_2769 : staG tb_X11_row 1 bt_RX11 [] ct_1254 [] [] cu_2769 7 con_2769 = true := by decide +kernel
theorem vl_2769 (l : Launch) : Vld2 l vwCl gTbl con_2769 := conR_ok3 gT_all (hd_2769) rfl pn_RX11 tk_X11_row bo_RX11 xo_RX11 (cto_1254 l) ch_2769 cut_nil
/-- RookHusting row -/
noncomputable def gi_3190 : GI := jl_n [gp_938, gp_930]
noncomputable def gi_3191 : GI := jl_n [gp_938, gp_931]
noncomputable def con_2770 : Con2 := ((yX11_row, cX11_row, 4, (some .int)), (1, 20), ([(6, 0, 0), (1, 1, 0), (1, 2, 0), (1, 3, 0)], gi_3190, hc_260, []), [((0, (-2), 0), gi_3191, hq_1022, [], [1])])
theorem hd_2770 : con_2770.1 = (yX11_row, cX11_row, 4, (some .int)) := rfl
noncomputable def cu_2770 : List CUT2 := []
theorem ch_2770 : staG tb_X11_row 1 bt_RX11 [] ct_1254 [] [] cu_2770 7 con_2770 = true := by decide +kernel
theorem vl_2770 (l : Launch) : Vld2 l vwCl gTbl con_2770 := conR_ok3 gT_all (hd_2770) rfl pn_RX11 tk_X11_row bo_RX11 xo_RX11 (cto_1254 l) ch_2770 cut_nil
/-- RookHusting row -/
noncomputable def gi_3192 : GI := jl_n [gp_939, gp_930]
noncomputable def gi_3193 : GI := jl_n [gp_939, gp_931]
noncomputable def con_2771 : Con2 := ((yX11_row, cX11_row, 4, (some .int)), (1, 20), ([(6, 0, 0), (1, 1, 0), (1, 2, 0), (1, 3, 0)], gi_3192, hc_260, []), [((0, (-2), 0), gi_3193, hq_1022, [], [1])])
theorem hd_2771 : con_2771.1 = (yX11_row, cX11_row, 4, (some .int)) := rfl
noncomputable def cu_2771 : List CUT2 := []
theorem ch_2771 : staG tb_X11_row 1 bt_RX11 [] ct_1254 [] [] cu_2771 7 con_2771 = true := by decide +kernel
theorem vl_2771 (l : Launch) : Vld2 l vwCl gTbl con_2771 := conR_ok3 gT_all (hd_2771) rfl pn_RX11 tk_X11_row bo_RX11 xo_RX11 (cto_1254 l) ch_2771 cut_nil
/-- RookHusting row -/
noncomputable def gi_3194 : GI := jl_n [gp_940, gp_932]
noncomputable def gi_3195 : GI := jl_n [gp_940, gp_933]
noncomputable def con_2772 : Con2 := ((yX11_row, cX11_row, 4, (some .int)), (1, 20), ([(6, 0, 0), (1, 1, 0), (1, 2, 0), (1, 3, 0)], gi_3194, hc_260, []), [((0, (-2), 0), gi_3195, hq_1022, [], [1])])
theorem hd_2772 : con_2772.1 = (yX11_row, cX11_row, 4, (some .int)) := rfl
noncomputable def cu_2772 : List CUT2 := []
theorem ch_2772 : staG tb_X11_row 1 bt_RX11 [] ct_1254 [] [] cu_2772 7 con_2772 = true := by decide +kernel
theorem vl_2772 (l : Launch) : Vld2 l vwCl gTbl con_2772 := conR_ok3 gT_all (hd_2772) rfl pn_RX11 tk_X11_row bo_RX11 xo_RX11 (cto_1254 l) ch_2772 cut_nil
/-- RookHusting row -/
noncomputable def gi_3196 : GI := jl_n [gp_938, gp_932]
noncomputable def gi_3197 : GI := jl_n [gp_938, gp_933]
noncomputable def con_2773 : Con2 := ((yX11_row, cX11_row, 4, (some .int)), (1, 20), ([(6, 0, 0), (1, 1, 0), (1, 2, 0), (1, 3, 0)], gi_3196, hc_260, []), [((0, (-2), 0), gi_3197, hq_1022, [], [1])])
theorem hd_2773 : con_2773.1 = (yX11_row, cX11_row, 4, (some .int)) := rfl
noncomputable def cu_2773 : List CUT2 := []
theorem ch_2773 : staG tb_X11_row 1 bt_RX11 [] ct_1254 [] [] cu_2773 7 con_2773 = true := by decide +kernel
theorem vl_2773 (l : Launch) : Vld2 l vwCl gTbl con_2773 := conR_ok3 gT_all (hd_2773) rfl pn_RX11 tk_X11_row bo_RX11 xo_RX11 (cto_1254 l) ch_2773 cut_nil
/-- RookHusting row -/
noncomputable def gi_3198 : GI := jl_n [gp_939, gp_932]
noncomputable def gi_3199 : GI := jl_n [gp_939, gp_933]
noncomputable def con_2774 : Con2 := ((yX11_row, cX11_row, 4, (some .int)), (1, 20), ([(6, 0, 0), (1, 1, 0), (1, 2, 0), (1, 3, 0)], gi_3198, hc_260, []), [((0, (-2), 0), gi_3199, hq_1022, [], [1])])
theorem hd_2774 : con_2774.1 = (yX11_row, cX11_row, 4, (some .int)) := rfl
noncomputable def cu_2774 : List CUT2 := []
theorem ch_2774 : staG tb_X11_row 1 bt_RX11 [] ct_1254 [] [] cu_2774 7 con_2774 = true := by decide +kernel
theorem vl_2774 (l : Launch) : Vld2 l vwCl gTbl con_2774 := conR_ok3 gT_all (hd_2774) rfl pn_RX11 tk_X11_row bo_RX11 xo_RX11 (cto_1254 l) ch_2774 cut_nil
/-- RookHustingModel row -/
noncomputable def gi_3200 : GI := jl_n [gp_939, gp_943]
noncomputable def ac_1571 : AC := .inl (12, jl_n [jl_8 45 41, jl_6 4 3, jl_8 49 1])
noncomputable def ac_1572 : AC := .inr (1, jl_n [js_1 53 4])
noncomputable def ac_1573 : AC := .inr (1, jl_n [js_1 57 4])
noncomputable def gi_3201 : GI := jl_n [gp_939, gp_946]
noncomputable def hq_1031 : HP := [(false, ac_1571), (false, ac_1572), (false, ac_1573), (false, ac_807)]
noncomputable def con_2775 : Con2 := ((yX12_row, cX12_row, 5, (some .int)), (2, 45), ([(6, 0, 0), (1, 1, 0), (1, 2, 0), (1, 3, 0)], gi_3200, [ac_1571, ac_1572, ac_1573, ac_807], []), [((0, (-2), 0), gi_3201, hq_1031, [], [1])])
theorem hd_2775 : con_2775.1 = (yX12_row, cX12_row, 5, (some .int)) := rfl
noncomputable def cu_2775 : List CUT2 := []
theorem ch_2775 : staG tb_X12_row 1 bt_RX12 [] ct_1928 [] [] cu_2775 7 con_2775 = true := by decide +kernel
theorem vl_2775 (l : Launch) : Vld2 l vwCl gTbl con_2775 := conR_ok3 gT_all (hd_2775) rfl pn_RX12 tk_X12_row bo_RX12 xo_RX12 (cto_1928 l) ch_2775 cut_nil
/-- RookHustingModel row -/
noncomputable def gi_3202 : GI := jl_n [gp_938, gp_943]
noncomputable def gi_3203 : GI := jl_n [gp_938, gp_946]
noncomputable def con_2776 : Con2 := ((yX12_row, cX12_row, 5, (some .int)), (2, 45), ([(6, 0, 0), (1, 1, 0), (1, 2, 0), (1, 3, 0)], gi_3202, [ac_1571, ac_1572, ac_1573, ac_807], []), [((0, (-2), 0), gi_3203, hq_1031, [], [1])])
theorem hd_2776 : con_2776.1 = (yX12_row, cX12_row, 5, (some .int)) := rfl
noncomputable def cu_2776 : List CUT2 := []
theorem ch_2776 : staG tb_X12_row 1 bt_RX12 [] ct_1928 [] [] cu_2776 7 con_2776 = true := by decide +kernel
theorem vl_2776 (l : Launch) : Vld2 l vwCl gTbl con_2776 := conR_ok3 gT_all (hd_2776) rfl pn_RX12 tk_X12_row bo_RX12 xo_RX12 (cto_1928 l) ch_2776 cut_nil
/-- RookHustingModel row -/
noncomputable def gi_3204 : GI := jl_n [gp_940, gp_943]
noncomputable def gi_3205 : GI := jl_n [gp_940, gp_946]
noncomputable def con_2777 : Con2 := ((yX12_row, cX12_row, 5, (some .int)), (2, 45), ([(6, 0, 0), (1, 1, 0), (1, 2, 0), (1, 3, 0)], gi_3204, [ac_1571, ac_1572, ac_1573, ac_807], []), [((0, (-2), 0), gi_3205, hq_1031, [], [1])])
theorem hd_2777 : con_2777.1 = (yX12_row, cX12_row, 5, (some .int)) := rfl
noncomputable def cu_2777 : List CUT2 := []
theorem ch_2777 : staG tb_X12_row 1 bt_RX12 [] ct_1928 [] [] cu_2777 7 con_2777 = true := by decide +kernel
theorem vl_2777 (l : Launch) : Vld2 l vwCl gTbl con_2777 := conR_ok3 gT_all (hd_2777) rfl pn_RX12 tk_X12_row bo_RX12 xo_RX12 (cto_1928 l) ch_2777 cut_nil
/-- RookHustingModel row -/
noncomputable def gi_3206 : GI := jl_n [gp_939, gp_947]
noncomputable def gi_3207 : GI := jl_n [gp_939, gp_948]
noncomputable def con_2778 : Con2 := ((yX12_row, cX12_row, 5, (some .int)), (2, 45), ([(6, 0, 0), (1, 1, 0), (1, 2, 0), (1, 3, 0)], gi_3206, [ac_1571, ac_1572, ac_1573, ac_807], []), [((0, (-2), 0), gi_3207, hq_1031, [], [1])])
theorem hd_2778 : con_2778.1 = (yX12_row, cX12_row, 5, (some .int)) := rfl
noncomputable def cu_2778 : List CUT2 := []
theorem ch_2778 : staG tb_X12_row 1 bt_RX12 [] ct_1928 [] [] cu_2778 7 con_2778 = true := by decide +kernel
theorem vl_2778 (l : Launch) : Vld2 l vwCl gTbl con_2778 := conR_ok3 gT_all (hd_2778) rfl pn_RX12 tk_X12_row bo_RX12 xo_RX12 (cto_1928 l) ch_2778 cut_nil
/-- RookHustingModel row -/
noncomputable def gi_3208 : GI := jl_n [gp_938, gp_947]
noncomputable def gi_3209 : GI := jl_n [gp_938, gp_948]
noncomputable def con_2779 : Con2 := ((yX12_row, cX12_row, 5, (some .int)), (2, 45), ([(6, 0, 0), (1, 1, 0), (1, 2, 0), (1, 3, 0)], gi_3208, [ac_1571, ac_1572, ac_1573, ac_807], []), [((0, (-2), 0), gi_3209, hq_1031, [], [1])])
theorem hd_2779 : con_2779.1 = (yX12_row, cX12_row, 5, (some .int)) := rfl
noncomputable def cu_2779 : List CUT2 := []
theorem ch_2779 : staG tb_X12_row 1 bt_RX12 [] ct_1928 [] [] cu_2779 7 con_2779 = true := by decide +kernel
theorem vl_2779 (l : Launch) : Vld2 l vwCl gTbl con_2779 := conR_ok3 gT_all (hd_2779) rfl pn_RX12 tk_X12_row bo_RX12 xo_RX12 (cto_1928 l) ch_2779 cut_nil
/-- RookHustingModel row -/
noncomputable def gi_3210 : GI := jl_n [gp_940, gp_947]
noncomputable def gi_3211 : GI := jl_n [gp_940, gp_948]
noncomputable def con_2780 : Con2 := ((yX12_row, cX12_row, 5, (some .int)), (2, 45), ([(6, 0, 0), (1, 1, 0), (1, 2, 0), (1, 3, 0)], gi_3210, [ac_1571, ac_1572, ac_1573, ac_807], []), [((0, (-2), 0), gi_3211, hq_1031, [], [1])])
theorem hd_2780 : con_2780.1 = (yX12_row, cX12_row, 5, (some .int)) := rfl
noncomputable def cu_2780 : List CUT2 := []
theorem ch_2780 : staG tb_X12_row 1 bt_RX12 [] ct_1928 [] [] cu_2780 7 con_2780 = true := by decide +kernel
theorem vl_2780 (l : Launch) : Vld2 l vwCl gTbl con_2780 := conR_ok3 gT_all (hd_2780) rfl pn_RX12 tk_X12_row bo_RX12 xo_RX12 (cto_1928 l) ch_2780 cut_nil
/-- RookHustingModel row -/
noncomputable def gi_3212 : GI := jl_n [gp_939, gp_949]
noncomputable def gi_3213 : GI := jl_n [gp_939, gp_950]
noncomputable def con_2781 : Con2 := ((yX12_row, cX12_row, 5, (some .int)), (2, 45), ([(6, 0, 0), (1, 1, 0), (1, 2, 0), (1, 3, 0)], gi_3212, [ac_1571, ac_1572, ac_1573, ac_807], []), [((0, (-2), 0), gi_3213, hq_1031, [], [1])])
theorem hd_2781 : con_2781.1 = (yX12_row, cX12_row, 5, (some .int)) := rfl
noncomputable def cu_2781 : List CUT2 := []
theorem ch_2781 : staG tb_X12_row 1 bt_RX12 [] ct_1928 [] [] cu_2781 7 con_2781 = true := by decide +kernel
theorem vl_2781 (l : Launch) : Vld2 l vwCl gTbl con_2781 := conR_ok3 gT_all (hd_2781) rfl pn_RX12 tk_X12_row bo_RX12 xo_RX12 (cto_1928 l) ch_2781 cut_nil
/-- RookHustingModel row -/
noncomputable def gi_3214 : GI := jl_n [gp_938, gp_949]
noncomputable def gi_3215 : GI := jl_n [gp_938, gp_950]
noncomputable def con_2782 : Con2 := ((yX12_row, cX12_row, 5, (some .int)), (2, 45), ([(6, 0, 0), (1, 1, 0), (1, 2, 0), (1, 3, 0)], gi_3214, [ac_1571, ac_1572, ac_1573, ac_807], []), [((0, (-2), 0), gi_3215, hq_1031, [], [1])])
theorem hd_2782 : con_2782.1 = (yX12_row, cX12_row, 5, (some .int)) := rfl
noncomputable def cu_2782 : List CUT2 := []
theorem ch_2782 : staG tb_X12_row 1 bt_RX12 [] ct_1928 [] [] cu_2782 7 con_2782 = true := by decide +kernel
theorem vl_2782 (l : Launch) : Vld2 l vwCl gTbl con_2782 := conR_ok3 gT_all (hd_2782) rfl pn_RX12 tk_X12_row bo_RX12 xo_RX12 (cto_1928 l) ch_2782 cut_nil
/-- RookHustingModel row -/
noncomputable def gi_3216 : GI := jl_n [gp_937, gp_942]
noncomputable def gi_3217 : GI := jl_n [gp_937, gp_945]
noncomputable def con_2783 : Con2 := ((yX12_row, cX12_row, 5, (some .int)), (2, 45), ([(6, 0, 0), (1, 1, 0), (1, 2, 0), (1, 3, 0)], gi_3216, [ac_1571, ac_1572, ac_1573, ac_807], []), [((0, (-2), 0), gi_3217, hq_1031, [], [1])])
theorem hd_2783 : con_2783.1 = (yX12_row, cX12_row, 5, (some .int)) := rfl
noncomputable def cu_2783 : List CUT2 := []
theorem ch_2783 : staG tb_X12_row 1 bt_RX12 [] ct_1928 [] [] cu_2783 7 con_2783 = true := by decide +kernel
theorem vl_2783 (l : Launch) : Vld2 l vwCl gTbl con_2783 := conR_ok3 gT_all (hd_2783) rfl pn_RX12 tk_X12_row bo_RX12 xo_RX12 (cto_1928 l) ch_2783 cut_nil
/-- RookHustingModel row -/
noncomputable def gi_3218 : GI := jl_n [gp_935, gp_943]
noncomputable def gi_3219 : GI := jl_n [gp_935, gp_946]
noncomputable def con_2784 : Con2 := ((yX12_row, cX12_row, 5, (some .int)), (2, 45), ([(6, 0, 0), (0, 3, 0), (1, 2, 0), (1, 3, 0)], gi_3218, [ac_1571, ac_1572, ac_1573, ac_807], []), [((0, (-2), 0), gi_3219, hq_1031, [], [1])])
theorem hd_2784 : con_2784.1 = (yX12_row, cX12_row, 5, (some .int)) := rfl
noncomputable def ct_2784 : CTB2 := [(1, 414, 1, con_1930, []), (13, 91, 1, con_332, [])]
noncomputable def cu_2784 : List CUT2 := []
theorem ch_2784 : staG tb_X12_row 1 bt_RX12 [] ct_2784 [] [] cu_2784 13 con_2784 = true := by decide +kernel
theorem cto_2784 (l : Launch) : CTOK2 l RX12 vwCl gTbl ct_2784 := ct2_cons (vl_1930 l) ck_RX12_414_1930 (ct2_cons (vl_332 l) ck_RX12_91_332 (ct2_nil))
theorem vl_2784 (l : Launch) : Vld2 l vwCl gTbl con_2784 := conR_ok3 gT_all (hd_2784) rfl pn_RX12 tk_X12_row bo_RX12 xo_RX12 (cto_2784 l) ch_2784 cut_nil
/-- RookHustingModel row -/
noncomputable def gi_3220 : GI := jl_n [gp_28, gp_943]
noncomputable def gi_3221 : GI := jl_n [gp_28, gp_946]
noncomputable def con_2785 : Con2 := ((yX12_row, cX12_row, 5, (some .int)), (2, 45), ([(6, 0, 0), (0, 3, 0), (1, 2, 0), (1, 3, 0)], gi_3220, [ac_1571, ac_1572, ac_1573, ac_807], []), [((0, (-2), 0), gi_3221, hq_1031, [], [1])])
theorem hd_2785 : con_2785.1 = (yX12_row, cX12_row, 5, (some .int)) := rfl
noncomputable def cu_2785 : List CUT2 := []
theorem ch_2785 : staG tb_X12_row 1 bt_RX12 [] ct_2784 [] [] cu_2785 16 con_2785 = true := by decide +kernel
theorem vl_2785 (l : Launch) : Vld2 l vwCl gTbl con_2785 := conR_ok3 gT_all (hd_2785) rfl pn_RX12 tk_X12_row bo_RX12 xo_RX12 (cto_2784 l) ch_2785 cut_nil
/-- RookHustingModel row -/
noncomputable def gi_3222 : GI := jl_n [gp_936, gp_943]
noncomputable def gi_3223 : GI := jl_n [gp_936, gp_946]
noncomputable def con_2786 : Con2 := ((yX12_row, cX12_row, 5, (some .int)), (2, 45), ([(6, 0, 0), (0, 3, 0), (1, 2, 0), (1, 3, 0)], gi_3222, [ac_1571, ac_1572, ac_1573, ac_807], []), [((0, (-2), 0), gi_3223, hq_1031, [], [1])])
theorem hd_2786 : con_2786.1 = (yX12_row, cX12_row, 5, (some .int)) := rfl
noncomputable def cu_2786 : List CUT2 := []
theorem ch_2786 : staG tb_X12_row 1 bt_RX12 [] ct_2784 [] [] cu_2786 13 con_2786 = true := by decide +kernel
theorem vl_2786 (l : Launch) : Vld2 l vwCl gTbl con_2786 := conR_ok3 gT_all (hd_2786) rfl pn_RX12 tk_X12_row bo_RX12 xo_RX12 (cto_2784 l) ch_2786 cut_nil
/-- RookHustingModel row -/
noncomputable def gi_3224 : GI := jl_n [gp_935, gp_947]
noncomputable def gi_3225 : GI := jl_n [gp_935, gp_948]
noncomputable def con_2787 : Con2 := ((yX12_row, cX12_row, 5, (some .int)), (2, 45), ([(6, 0, 0), (0, 3, 0), (1, 2, 0), (1, 3, 0)], gi_3224, [ac_1571, ac_1572, ac_1573, ac_807], []), [((0, (-2), 0), gi_3225, hq_1031, [], [1])])
theorem hd_2787 : con_2787.1 = (yX12_row, cX12_row, 5, (some .int)) := rfl
noncomputable def cu_2787 : List CUT2 := []
theorem ch_2787 : staG tb_X12_row 1 bt_RX12 [] ct_2784 [] [] cu_2787 13 con_2787 = true := by decide +kernel
theorem vl_2787 (l : Launch) : Vld2 l vwCl gTbl con_2787 := conR_ok3 gT_all (hd_2787) rfl pn_RX12 tk_X12_row bo_RX12 xo_RX12 (cto_2784 l) ch_2787 cut_nil
/-- RookHustingModel row -/
noncomputable def gi_3226 : GI := jl_n [gp_28, gp_947]
noncomputable def gi_3227 : GI := jl_n [gp_28, gp_947, jl_z 9]
noncomputable def ac_1574 : AC := .inr (1, jl_n [js_1 52 3, js_1 4 1])
noncomputable def ac_1575 : AC := .inr (1, jl_n [js_1 56 3, js_1 3 1])
noncomputable def hq_1032 : HP := [(false, ac_1571), (true, ac_1574), (true, ac_1575), (true, ac_807)]
noncomputable def con_2788 : Con2 := ((yX12_row, cX12_row, 5, (some .int)), (2, 45), ([(6, 0, 0), (0, 3, 0), (1, 2, 0), (1, 3, 0)], gi_3226, [ac_1571, ac_1572, ac_1573, ac_807], []), [((0, 0, 0), gi_3227, hq_1032, [], tg_13)])
theorem hd_2788 : con_2788.1 = (yX12_row, cX12_row, 5, (some .int)) := rfl
noncomputable def gi_3228 : GI := jl_n [gp_28, gp_947, jl_z 4, jl_i 0 60, jl_z 8]
noncomputable def cu_2788 : List CUT2 := [((52, [lq 0 6 0, lq 1 0 3, lq 2 1 2, lq 3 1 3, lq 4 1 61], [], gi_3228, hq_1032), [], ([(61, (-1))], 60))]
theorem ch_2788 : staG tb_X12_row 1 bt_RX12 [] ct_2784 [] [] cu_2788 29 con_2788 = true := by decide +kernel
theorem cc_2788 : cu_2788.all (cutG tb_X12_row 1 bt_RX12 [] ct_2784 [] [] cu_2788 29 con_2788) = true := by decide +kernel
theorem vl_2788 (l : Launch) : Vld2 l vwCl gTbl con_2788 := conR_ok3 gT_all (hd_2788) rfl pn_RX12 tk_X12_row bo_RX12 xo_RX12 (cto_2784 l) ch_2788 (cut_all cc_2788)
/-- RookHustingModel row -/
noncomputable def gi_3229 : GI := jl_n [gp_936, gp_947]
noncomputable def gi_3230 : GI := jl_n [gp_936, gp_948]
noncomputable def con_2789 : Con2 := ((yX12_row, cX12_row, 5, (some .int)), (2, 45), ([(6, 0, 0), (0, 3, 0), (1, 2, 0), (1, 3, 0)], gi_3229, [ac_1571, ac_1572, ac_1573, ac_807], []), [((0, (-2), 0), gi_3230, hq_1031, [], [1])])
theorem hd_2789 : con_2789.1 = (yX12_row, cX12_row, 5, (some .int)) := rfl
noncomputable def cu_2789 : List CUT2 := []
theorem ch_2789 : staG tb_X12_row 1 bt_RX12 [] ct_2784 [] [] cu_2789 13 con_2789 = true := by decide +kernel
theorem vl_2789 (l : Launch) : Vld2 l vwCl gTbl con_2789 := conR_ok3 gT_all (hd_2789) rfl pn_RX12 tk_X12_row bo_RX12 xo_RX12 (cto_2784 l) ch_2789 cut_nil
/-- RookHustingModel row -/
noncomputable def gi_3231 : GI := jl_n [gp_935, gp_949]
noncomputable def gi_3232 : GI := jl_n [gp_935, gp_950]
noncomputable def con_2790 : Con2 := ((yX12_row, cX12_row, 5, (some .int)), (2, 45), ([(6, 0, 0), (0, 3, 0), (1, 2, 0), (1, 3, 0)], gi_3231, [ac_1571, ac_1572, ac_1573, ac_807], []), [((0, (-2), 0), gi_3232, hq_1031, [], [1])])
theorem hd_2790 : con_2790.1 = (yX12_row, cX12_row, 5, (some .int)) := rfl
noncomputable def cu_2790 : List CUT2 := []
theorem ch_2790 : staG tb_X12_row 1 bt_RX12 [] ct_2784 [] [] cu_2790 13 con_2790 = true := by decide +kernel
theorem vl_2790 (l : Launch) : Vld2 l vwCl gTbl con_2790 := conR_ok3 gT_all (hd_2790) rfl pn_RX12 tk_X12_row bo_RX12 xo_RX12 (cto_2784 l) ch_2790 cut_nil
/-- RookHustingModel row -/
noncomputable def gi_3233 : GI := jl_n [gp_28, gp_949]
noncomputable def gi_3234 : GI := jl_n [gp_28, gp_950]
noncomputable def con_2791 : Con2 := ((yX12_row, cX12_row, 5, (some .int)), (2, 45), ([(6, 0, 0), (0, 3, 0), (1, 2, 0), (1, 3, 0)], gi_3233, [ac_1571, ac_1572, ac_1573, ac_807], []), [((0, (-3), 0), gi_3234, hq_1031, [], [1])])
theorem hd_2791 : con_2791.1 = (yX12_row, cX12_row, 5, (some .int)) := rfl
noncomputable def cu_2791 : List CUT2 := []
theorem ch_2791 : staG tb_X12_row 1 bt_RX12 [] ct_2784 [] [] cu_2791 18 con_2791 = true := by decide +kernel
theorem vl_2791 (l : Launch) : Vld2 l vwCl gTbl con_2791 := conR_ok3 gT_all (hd_2791) rfl pn_RX12 tk_X12_row bo_RX12 xo_RX12 (cto_2784 l) ch_2791 cut_nil
/-- RookHustingModel row -/
noncomputable def gi_3235 : GI := jl_n [gp_934, gp_942]
noncomputable def gi_3236 : GI := jl_n [gp_934, gp_945]
noncomputable def con_2792 : Con2 := ((yX12_row, cX12_row, 5, (some .int)), (2, 45), ([(6, 0, 0), (0, 3, 0), (1, 2, 0), (1, 3, 0)], gi_3235, [ac_1571, ac_1572, ac_1573, ac_807], []), [((0, (-2), 0), gi_3236, hq_1031, [], [1])])
theorem hd_2792 : con_2792.1 = (yX12_row, cX12_row, 5, (some .int)) := rfl
noncomputable def cu_2792 : List CUT2 := []
theorem ch_2792 : staG tb_X12_row 1 bt_RX12 [] ct_2784 [] [] cu_2792 13 con_2792 = true := by decide +kernel
theorem vl_2792 (l : Launch) : Vld2 l vwCl gTbl con_2792 := conR_ok3 gT_all (hd_2792) rfl pn_RX12 tk_X12_row bo_RX12 xo_RX12 (cto_2784 l) ch_2792 cut_nil
/-- RookHustingModel row -/
noncomputable def con_2793 : Con2 := ((yX12_row, cX12_row, 5, (some .int)), (2, 45), ([(6, 0, 0), (0, 2, 0), (1, 2, 0), (1, 3, 0)], gi_3218, [ac_1571, ac_1572, ac_1573, ac_807], []), [((0, (-2), 0), gi_3219, hq_1031, [], [1])])
theorem hd_2793 : con_2793.1 = (yX12_row, cX12_row, 5, (some .int)) := rfl
noncomputable def ct_2793 : CTB2 := [(1, 414, 1, con_2082, []), (13, 91, 1, con_332, [])]
noncomputable def cu_2793 : List CUT2 := []
theorem ch_2793 : staG tb_X12_row 1 bt_RX12 [] ct_2793 [] [] cu_2793 13 con_2793 = true := by decide +kernel
theorem cto_2793 (l : Launch) : CTOK2 l RX12 vwCl gTbl ct_2793 := ct2_cons (vl_2082 l) ck_RX12_414_2082 (ct2_cons (vl_332 l) ck_RX12_91_332 (ct2_nil))
theorem vl_2793 (l : Launch) : Vld2 l vwCl gTbl con_2793 := conR_ok3 gT_all (hd_2793) rfl pn_RX12 tk_X12_row bo_RX12 xo_RX12 (cto_2793 l) ch_2793 cut_nil
/-- RookHustingModel row -/
noncomputable def con_2794 : Con2 := ((yX12_row, cX12_row, 5, (some .int)), (2, 45), ([(6, 0, 0), (0, 2, 0), (1, 2, 0), (1, 3, 0)], gi_3220, [ac_1571, ac_1572, ac_1573, ac_807], []), [((0, (-2), 0), gi_3221, hq_1031, [], [1])])
theorem hd_2794 : con_2794.1 = (yX12_row, cX12_row, 5, (some .int)) := rfl
noncomputable def cu_2794 : List CUT2 := []
theorem ch_2794 : staG tb_X12_row 1 bt_RX12 [] ct_2793 [] [] cu_2794 16 con_2794 = true := by decide +kernel
theorem vl_2794 (l : Launch) : Vld2 l vwCl gTbl con_2794 := conR_ok3 gT_all (hd_2794) rfl pn_RX12 tk_X12_row bo_RX12 xo_RX12 (cto_2793 l) ch_2794 cut_nil
/-- RookHustingModel row -/
noncomputable def con_2795 : Con2 := ((yX12_row, cX12_row, 5, (some .int)), (2, 45), ([(6, 0, 0), (0, 2, 0), (1, 2, 0), (1, 3, 0)], gi_3222, [ac_1571, ac_1572, ac_1573, ac_807], []), [((0, (-2), 0), gi_3223, hq_1031, [], [1])])
theorem hd_2795 : con_2795.1 = (yX12_row, cX12_row, 5, (some .int)) := rfl
noncomputable def cu_2795 : List CUT2 := []
theorem ch_2795 : staG tb_X12_row 1 bt_RX12 [] ct_2793 [] [] cu_2795 13 con_2795 = true := by decide +kernel
theorem vl_2795 (l : Launch) : Vld2 l vwCl gTbl con_2795 := conR_ok3 gT_all (hd_2795) rfl pn_RX12 tk_X12_row bo_RX12 xo_RX12 (cto_2793 l) ch_2795 cut_nil
/-- RookHustingModel row -/
noncomputable def con_2796 : Con2 := ((yX12_row, cX12_row, 5, (some .int)), (2, 45), ([(6, 0, 0), (0, 2, 0), (1, 2, 0), (1, 3, 0)], gi_3224, [ac_1571, ac_1572, ac_1573, ac_807], []), [((0, (-2), 0), gi_3225, hq_1031, [], [1])])
theorem hd_2796 : con_2796.1 = (yX12_row, cX12_row, 5, (some .int)) := rfl
noncomputable def cu_2796 : List CUT2 := []
theorem ch_2796 : staG tb_X12_row 1 bt_RX12 [] ct_2793 [] [] cu_2796 13 con_2796 = true := by decide +kernel
theorem vl_2796 (l : Launch) : Vld2 l vwCl gTbl con_2796 := conR_ok3 gT_all (hd_2796) rfl pn_RX12 tk_X12_row bo_RX12 xo_RX12 (cto_2793 l) ch_2796 cut_nil
/-- RookHustingModel row -/
noncomputable def ac_1576 : AC := .inr (1, jl_n [js_1 51 2, js_1 4 1, js_1 53 1])
noncomputable def ac_1577 : AC := .inr (1, jl_n [js_1 55 2, js_1 3 1, js_1 57 1])
noncomputable def hq_1033 : HP := [(false, ac_1571), (true, ac_1576), (true, ac_1577), (true, ac_807)]
noncomputable def con_2797 : Con2 := ((yX12_row, cX12_row, 5, (some .int)), (2, 45), ([(6, 0, 0), (0, 2, 0), (1, 2, 0), (1, 3, 0)], gi_3226, [ac_1571, ac_1572, ac_1573, ac_807], []), [((0, 0, 0), gi_3227, hq_1033, [], tg_13)])
theorem hd_2797 : con_2797.1 = (yX12_row, cX12_row, 5, (some .int)) := rfl
noncomputable def cu_2797 : List CUT2 := [((52, [lq 0 6 0, lq 1 0 2, lq 2 1 2, lq 3 1 3, lq 4 1 61], [], gi_3228, hq_1033), [], ([(61, (-1))], 60))]
theorem ch_2797 : staG tb_X12_row 1 bt_RX12 [] ct_2793 [] [] cu_2797 29 con_2797 = true := by decide +kernel
theorem cc_2797 : cu_2797.all (cutG tb_X12_row 1 bt_RX12 [] ct_2793 [] [] cu_2797 29 con_2797) = true := by decide +kernel
theorem vl_2797 (l : Launch) : Vld2 l vwCl gTbl con_2797 := conR_ok3 gT_all (hd_2797) rfl pn_RX12 tk_X12_row bo_RX12 xo_RX12 (cto_2793 l) ch_2797 (cut_all cc_2797)
/-- RookHustingModel row -/
noncomputable def con_2798 : Con2 := ((yX12_row, cX12_row, 5, (some .int)), (2, 45), ([(6, 0, 0), (0, 2, 0), (1, 2, 0), (1, 3, 0)], gi_3229, [ac_1571, ac_1572, ac_1573, ac_807], []), [((0, (-2), 0), gi_3230, hq_1031, [], [1])])
theorem hd_2798 : con_2798.1 = (yX12_row, cX12_row, 5, (some .int)) := rfl
noncomputable def cu_2798 : List CUT2 := []
theorem ch_2798 : staG tb_X12_row 1 bt_RX12 [] ct_2793 [] [] cu_2798 13 con_2798 = true := by decide +kernel
theorem vl_2798 (l : Launch) : Vld2 l vwCl gTbl con_2798 := conR_ok3 gT_all (hd_2798) rfl pn_RX12 tk_X12_row bo_RX12 xo_RX12 (cto_2793 l) ch_2798 cut_nil
/-- RookHustingModel row -/
noncomputable def con_2799 : Con2 := ((yX12_row, cX12_row, 5, (some .int)), (2, 45), ([(6, 0, 0), (0, 2, 0), (1, 2, 0), (1, 3, 0)], gi_3231, [ac_1571, ac_1572, ac_1573, ac_807], []), [((0, (-2), 0), gi_3232, hq_1031, [], [1])])
theorem hd_2799 : con_2799.1 = (yX12_row, cX12_row, 5, (some .int)) := rfl
noncomputable def cu_2799 : List CUT2 := []
theorem ch_2799 : staG tb_X12_row 1 bt_RX12 [] ct_2793 [] [] cu_2799 13 con_2799 = true := by decide +kernel
theorem vl_2799 (l : Launch) : Vld2 l vwCl gTbl con_2799 := conR_ok3 gT_all (hd_2799) rfl pn_RX12 tk_X12_row bo_RX12 xo_RX12 (cto_2793 l) ch_2799 cut_nil
/-- RookHustingModel row -/
noncomputable def con_2800 : Con2 := ((yX12_row, cX12_row, 5, (some .int)), (2, 45), ([(6, 0, 0), (0, 2, 0), (1, 2, 0), (1, 3, 0)], gi_3233, [ac_1571, ac_1572, ac_1573, ac_807], []), [((0, (-3), 0), gi_3234, hq_1031, [], [1])])
theorem hd_2800 : con_2800.1 = (yX12_row, cX12_row, 5, (some .int)) := rfl
noncomputable def cu_2800 : List CUT2 := []
theorem ch_2800 : staG tb_X12_row 1 bt_RX12 [] ct_2793 [] [] cu_2800 18 con_2800 = true := by decide +kernel
theorem vl_2800 (l : Launch) : Vld2 l vwCl gTbl con_2800 := conR_ok3 gT_all (hd_2800) rfl pn_RX12 tk_X12_row bo_RX12 xo_RX12 (cto_2793 l) ch_2800 cut_nil
/-- RookHustingModel row -/
noncomputable def con_2801 : Con2 := ((yX12_row, cX12_row, 5, (some .int)), (2, 45), ([(6, 0, 0), (0, 2, 0), (1, 2, 0), (1, 3, 0)], gi_3235, [ac_1571, ac_1572, ac_1573, ac_807], []), [((0, (-2), 0), gi_3236, hq_1031, [], [1])])
theorem hd_2801 : con_2801.1 = (yX12_row, cX12_row, 5, (some .int)) := rfl
noncomputable def cu_2801 : List CUT2 := []
theorem ch_2801 : staG tb_X12_row 1 bt_RX12 [] ct_2793 [] [] cu_2801 13 con_2801 = true := by decide +kernel
theorem vl_2801 (l : Launch) : Vld2 l vwCl gTbl con_2801 := conR_ok3 gT_all (hd_2801) rfl pn_RX12 tk_X12_row bo_RX12 xo_RX12 (cto_2793 l) ch_2801 cut_nil
/-- RookHustingModel row -/
noncomputable def con_2802 : Con2 := ((yX12_row, cX12_row, 5, (some .int)), (2, 45), ([(6, 0, 0), (0, 1, 0), (1, 2, 0), (1, 3, 0)], gi_3218, [ac_1571, ac_1572, ac_1573, ac_807], []), [((0, (-2), 0), gi_3219, hq_1031, [], [1])])
theorem hd_2802 : con_2802.1 = (yX12_row, cX12_row, 5, (some .int)) := rfl
noncomputable def ct_2802 : CTB2 := [(1, 414, 1, con_2226, []), (13, 91, 1, con_332, [])]
noncomputable def cu_2802 : List CUT2 := []
theorem ch_2802 : staG tb_X12_row 1 bt_RX12 [] ct_2802 [] [] cu_2802 13 con_2802 = true := by decide +kernel
theorem cto_2802 (l : Launch) : CTOK2 l RX12 vwCl gTbl ct_2802 := ct2_cons (vl_2226 l) ck_RX12_414_2226 (ct2_cons (vl_332 l) ck_RX12_91_332 (ct2_nil))
theorem vl_2802 (l : Launch) : Vld2 l vwCl gTbl con_2802 := conR_ok3 gT_all (hd_2802) rfl pn_RX12 tk_X12_row bo_RX12 xo_RX12 (cto_2802 l) ch_2802 cut_nil
/-- RookHustingModel row -/
noncomputable def con_2803 : Con2 := ((yX12_row, cX12_row, 5, (some .int)), (2, 45), ([(6, 0, 0), (0, 1, 0), (1, 2, 0), (1, 3, 0)], gi_3220, [ac_1571, ac_1572, ac_1573, ac_807], []), [((0, (-2), 0), gi_3221, hq_1031, [], [1])])
theorem hd_2803 : con_2803.1 = (yX12_row, cX12_row, 5, (some .int)) := rfl
noncomputable def cu_2803 : List CUT2 := []
theorem ch_2803 : staG tb_X12_row 1 bt_RX12 [] ct_2802 [] [] cu_2803 16 con_2803 = true := by decide +kernel
theorem vl_2803 (l : Launch) : Vld2 l vwCl gTbl con_2803 := conR_ok3 gT_all (hd_2803) rfl pn_RX12 tk_X12_row bo_RX12 xo_RX12 (cto_2802 l) ch_2803 cut_nil
/-- RookHustingModel row -/
noncomputable def con_2804 : Con2 := ((yX12_row, cX12_row, 5, (some .int)), (2, 45), ([(6, 0, 0), (0, 1, 0), (1, 2, 0), (1, 3, 0)], gi_3222, [ac_1571, ac_1572, ac_1573, ac_807], []), [((0, (-2), 0), gi_3223, hq_1031, [], [1])])
theorem hd_2804 : con_2804.1 = (yX12_row, cX12_row, 5, (some .int)) := rfl
noncomputable def cu_2804 : List CUT2 := []
theorem ch_2804 : staG tb_X12_row 1 bt_RX12 [] ct_2802 [] [] cu_2804 13 con_2804 = true := by decide +kernel
theorem vl_2804 (l : Launch) : Vld2 l vwCl gTbl con_2804 := conR_ok3 gT_all (hd_2804) rfl pn_RX12 tk_X12_row bo_RX12 xo_RX12 (cto_2802 l) ch_2804 cut_nil
/-- RookHustingModel row -/
noncomputable def con_2805 : Con2 := ((yX12_row, cX12_row, 5, (some .int)), (2, 45), ([(6, 0, 0), (0, 1, 0), (1, 2, 0), (1, 3, 0)], gi_3224, [ac_1571, ac_1572, ac_1573, ac_807], []), [((0, (-2), 0), gi_3225, hq_1031, [], [1])])
theorem hd_2805 : con_2805.1 = (yX12_row, cX12_row, 5, (some .int)) := rfl
noncomputable def cu_2805 : List CUT2 := []
theorem ch_2805 : staG tb_X12_row 1 bt_RX12 [] ct_2802 [] [] cu_2805 13 con_2805 = true := by decide +kernel
theorem vl_2805 (l : Launch) : Vld2 l vwCl gTbl con_2805 := conR_ok3 gT_all (hd_2805) rfl pn_RX12 tk_X12_row bo_RX12 xo_RX12 (cto_2802 l) ch_2805 cut_nil
/-- RookHustingModel row -/
noncomputable def ac_1578 : AC := .inr (1, jl_n [js_1 50 1, js_1 4 1, js_1 53 2])
noncomputable def ac_1579 : AC := .inr (1, jl_n [js_1 54 1, js_1 3 1, js_1 57 2])
noncomputable def hq_1034 : HP := [(false, ac_1571), (true, ac_1578), (true, ac_1579), (true, ac_807)]
noncomputable def con_2806 : Con2 := ((yX12_row, cX12_row, 5, (some .int)), (2, 45), ([(6, 0, 0), (0, 1, 0), (1, 2, 0), (1, 3, 0)], gi_3226, [ac_1571, ac_1572, ac_1573, ac_807], []), [((0, 0, 0), gi_3227, hq_1034, [], tg_13)])
theorem hd_2806 : con_2806.1 = (yX12_row, cX12_row, 5, (some .int)) := rfl
noncomputable def cu_2806 : List CUT2 := [((52, [lq 0 6 0, lq 1 0 1, lq 2 1 2, lq 3 1 3, lq 4 1 61], [], gi_3228, hq_1034), [], ([(61, (-1))], 60))]
theorem ch_2806 : staG tb_X12_row 1 bt_RX12 [] ct_2802 [] [] cu_2806 29 con_2806 = true := by decide +kernel
theorem cc_2806 : cu_2806.all (cutG tb_X12_row 1 bt_RX12 [] ct_2802 [] [] cu_2806 29 con_2806) = true := by decide +kernel
theorem vl_2806 (l : Launch) : Vld2 l vwCl gTbl con_2806 := conR_ok3 gT_all (hd_2806) rfl pn_RX12 tk_X12_row bo_RX12 xo_RX12 (cto_2802 l) ch_2806 (cut_all cc_2806)
/-- RookHustingModel row -/
noncomputable def con_2807 : Con2 := ((yX12_row, cX12_row, 5, (some .int)), (2, 45), ([(6, 0, 0), (0, 1, 0), (1, 2, 0), (1, 3, 0)], gi_3229, [ac_1571, ac_1572, ac_1573, ac_807], []), [((0, (-2), 0), gi_3230, hq_1031, [], [1])])
theorem hd_2807 : con_2807.1 = (yX12_row, cX12_row, 5, (some .int)) := rfl
noncomputable def cu_2807 : List CUT2 := []
theorem ch_2807 : staG tb_X12_row 1 bt_RX12 [] ct_2802 [] [] cu_2807 13 con_2807 = true := by decide +kernel
theorem vl_2807 (l : Launch) : Vld2 l vwCl gTbl con_2807 := conR_ok3 gT_all (hd_2807) rfl pn_RX12 tk_X12_row bo_RX12 xo_RX12 (cto_2802 l) ch_2807 cut_nil
/-- RookHustingModel row -/
noncomputable def con_2808 : Con2 := ((yX12_row, cX12_row, 5, (some .int)), (2, 45), ([(6, 0, 0), (0, 1, 0), (1, 2, 0), (1, 3, 0)], gi_3231, [ac_1571, ac_1572, ac_1573, ac_807], []), [((0, (-2), 0), gi_3232, hq_1031, [], [1])])
theorem hd_2808 : con_2808.1 = (yX12_row, cX12_row, 5, (some .int)) := rfl
noncomputable def cu_2808 : List CUT2 := []
theorem ch_2808 : staG tb_X12_row 1 bt_RX12 [] ct_2802 [] [] cu_2808 13 con_2808 = true := by decide +kernel
theorem vl_2808 (l : Launch) : Vld2 l vwCl gTbl con_2808 := conR_ok3 gT_all (hd_2808) rfl pn_RX12 tk_X12_row bo_RX12 xo_RX12 (cto_2802 l) ch_2808 cut_nil
/-- RookHustingModel row -/
noncomputable def con_2809 : Con2 := ((yX12_row, cX12_row, 5, (some .int)), (2, 45), ([(6, 0, 0), (0, 1, 0), (1, 2, 0), (1, 3, 0)], gi_3233, [ac_1571, ac_1572, ac_1573, ac_807], []), [((0, (-3), 0), gi_3234, hq_1031, [], [1])])
theorem hd_2809 : con_2809.1 = (yX12_row, cX12_row, 5, (some .int)) := rfl
noncomputable def cu_2809 : List CUT2 := []
theorem ch_2809 : staG tb_X12_row 1 bt_RX12 [] ct_2802 [] [] cu_2809 18 con_2809 = true := by decide +kernel
theorem vl_2809 (l : Launch) : Vld2 l vwCl gTbl con_2809 := conR_ok3 gT_all (hd_2809) rfl pn_RX12 tk_X12_row bo_RX12 xo_RX12 (cto_2802 l) ch_2809 cut_nil
/-- RookHustingModel row -/
noncomputable def con_2810 : Con2 := ((yX12_row, cX12_row, 5, (some .int)), (2, 45), ([(6, 0, 0), (0, 1, 0), (1, 2, 0), (1, 3, 0)], gi_3235, [ac_1571, ac_1572, ac_1573, ac_807], []), [((0, (-2), 0), gi_3236, hq_1031, [], [1])])
theorem hd_2810 : con_2810.1 = (yX12_row, cX12_row, 5, (some .int)) := rfl
noncomputable def cu_2810 : List CUT2 := []
theorem ch_2810 : staG tb_X12_row 1 bt_RX12 [] ct_2802 [] [] cu_2810 13 con_2810 = true := by decide +kernel
theorem vl_2810 (l : Launch) : Vld2 l vwCl gTbl con_2810 := conR_ok3 gT_all (hd_2810) rfl pn_RX12 tk_X12_row bo_RX12 xo_RX12 (cto_2802 l) ch_2810 cut_nil
/-- RookHustingModel row -/
noncomputable def con_2811 : Con2 := ((yX12_row, cX12_row, 5, (some .int)), (2, 45), ([(6, 0, 0), (0, 0, 0), (1, 2, 0), (1, 3, 0)], gi_3218, [ac_1571, ac_1572, ac_1573, ac_807], []), [((0, (-2), 0), gi_3219, hq_1031, [], [1])])
theorem hd_2811 : con_2811.1 = (yX12_row, cX12_row, 5, (some .int)) := rfl
noncomputable def ct_2811 : CTB2 := [(1, 414, 1, con_2370, []), (13, 91, 1, con_332, [])]
noncomputable def cu_2811 : List CUT2 := []
theorem ch_2811 : staG tb_X12_row 1 bt_RX12 [] ct_2811 [] [] cu_2811 13 con_2811 = true := by decide +kernel
theorem cto_2811 (l : Launch) : CTOK2 l RX12 vwCl gTbl ct_2811 := ct2_cons (vl_2370 l) ck_RX12_414_2370 (ct2_cons (vl_332 l) ck_RX12_91_332 (ct2_nil))
theorem vl_2811 (l : Launch) : Vld2 l vwCl gTbl con_2811 := conR_ok3 gT_all (hd_2811) rfl pn_RX12 tk_X12_row bo_RX12 xo_RX12 (cto_2811 l) ch_2811 cut_nil
/-- RookHustingModel row -/
noncomputable def con_2812 : Con2 := ((yX12_row, cX12_row, 5, (some .int)), (2, 45), ([(6, 0, 0), (0, 0, 0), (1, 2, 0), (1, 3, 0)], gi_3220, [ac_1571, ac_1572, ac_1573, ac_807], []), [((0, (-2), 0), gi_3221, hq_1031, [], [1])])
theorem hd_2812 : con_2812.1 = (yX12_row, cX12_row, 5, (some .int)) := rfl
noncomputable def cu_2812 : List CUT2 := []
theorem ch_2812 : staG tb_X12_row 1 bt_RX12 [] ct_2811 [] [] cu_2812 16 con_2812 = true := by decide +kernel
theorem vl_2812 (l : Launch) : Vld2 l vwCl gTbl con_2812 := conR_ok3 gT_all (hd_2812) rfl pn_RX12 tk_X12_row bo_RX12 xo_RX12 (cto_2811 l) ch_2812 cut_nil
/-- RookHustingModel row -/
noncomputable def con_2813 : Con2 := ((yX12_row, cX12_row, 5, (some .int)), (2, 45), ([(6, 0, 0), (0, 0, 0), (1, 2, 0), (1, 3, 0)], gi_3222, [ac_1571, ac_1572, ac_1573, ac_807], []), [((0, (-2), 0), gi_3223, hq_1031, [], [1])])
theorem hd_2813 : con_2813.1 = (yX12_row, cX12_row, 5, (some .int)) := rfl
noncomputable def cu_2813 : List CUT2 := []
theorem ch_2813 : staG tb_X12_row 1 bt_RX12 [] ct_2811 [] [] cu_2813 13 con_2813 = true := by decide +kernel
theorem vl_2813 (l : Launch) : Vld2 l vwCl gTbl con_2813 := conR_ok3 gT_all (hd_2813) rfl pn_RX12 tk_X12_row bo_RX12 xo_RX12 (cto_2811 l) ch_2813 cut_nil
/-- RookHustingModel row -/
noncomputable def con_2814 : Con2 := ((yX12_row, cX12_row, 5, (some .int)), (2, 45), ([(6, 0, 0), (0, 0, 0), (1, 2, 0), (1, 3, 0)], gi_3224, [ac_1571, ac_1572, ac_1573, ac_807], []), [((0, (-2), 0), gi_3225, hq_1031, [], [1])])
theorem hd_2814 : con_2814.1 = (yX12_row, cX12_row, 5, (some .int)) := rfl
noncomputable def cu_2814 : List CUT2 := []
theorem ch_2814 : staG tb_X12_row 1 bt_RX12 [] ct_2811 [] [] cu_2814 13 con_2814 = true := by decide +kernel
theorem vl_2814 (l : Launch) : Vld2 l vwCl gTbl con_2814 := conR_ok3 gT_all (hd_2814) rfl pn_RX12 tk_X12_row bo_RX12 xo_RX12 (cto_2811 l) ch_2814 cut_nil
/-- RookHustingModel row -/
noncomputable def ac_1580 : AC := .inr (1, jl_n [js_1 4 1, js_1 53 3])
noncomputable def ac_1581 : AC := .inr (1, jl_n [js_1 3 1, js_1 57 3])
noncomputable def hq_1035 : HP := [(false, ac_1571), (true, ac_1580), (true, ac_1581), (true, ac_807)]
noncomputable def con_2815 : Con2 := ((yX12_row, cX12_row, 5, (some .int)), (2, 45), ([(6, 0, 0), (0, 0, 0), (1, 2, 0), (1, 3, 0)], gi_3226, [ac_1571, ac_1572, ac_1573, ac_807], []), [((0, 0, 0), gi_3227, hq_1035, [], tg_13)])
theorem hd_2815 : con_2815.1 = (yX12_row, cX12_row, 5, (some .int)) := rfl
noncomputable def cu_2815 : List CUT2 := [((52, [lq 0 6 0, lq 1 0 0, lq 2 1 2, lq 3 1 3, lq 4 1 61], [], gi_3228, hq_1035), [], ([(61, (-1))], 60))]
theorem ch_2815 : staG tb_X12_row 1 bt_RX12 [] ct_2811 [] [] cu_2815 29 con_2815 = true := by decide +kernel
theorem cc_2815 : cu_2815.all (cutG tb_X12_row 1 bt_RX12 [] ct_2811 [] [] cu_2815 29 con_2815) = true := by decide +kernel
theorem vl_2815 (l : Launch) : Vld2 l vwCl gTbl con_2815 := conR_ok3 gT_all (hd_2815) rfl pn_RX12 tk_X12_row bo_RX12 xo_RX12 (cto_2811 l) ch_2815 (cut_all cc_2815)
/-- RookHustingModel row -/
noncomputable def con_2816 : Con2 := ((yX12_row, cX12_row, 5, (some .int)), (2, 45), ([(6, 0, 0), (0, 0, 0), (1, 2, 0), (1, 3, 0)], gi_3229, [ac_1571, ac_1572, ac_1573, ac_807], []), [((0, (-2), 0), gi_3230, hq_1031, [], [1])])
theorem hd_2816 : con_2816.1 = (yX12_row, cX12_row, 5, (some .int)) := rfl
noncomputable def cu_2816 : List CUT2 := []
theorem ch_2816 : staG tb_X12_row 1 bt_RX12 [] ct_2811 [] [] cu_2816 13 con_2816 = true := by decide +kernel
theorem vl_2816 (l : Launch) : Vld2 l vwCl gTbl con_2816 := conR_ok3 gT_all (hd_2816) rfl pn_RX12 tk_X12_row bo_RX12 xo_RX12 (cto_2811 l) ch_2816 cut_nil
/-- RookHustingModel row -/
noncomputable def con_2817 : Con2 := ((yX12_row, cX12_row, 5, (some .int)), (2, 45), ([(6, 0, 0), (0, 0, 0), (1, 2, 0), (1, 3, 0)], gi_3231, [ac_1571, ac_1572, ac_1573, ac_807], []), [((0, (-2), 0), gi_3232, hq_1031, [], [1])])
theorem hd_2817 : con_2817.1 = (yX12_row, cX12_row, 5, (some .int)) := rfl
noncomputable def cu_2817 : List CUT2 := []
theorem ch_2817 : staG tb_X12_row 1 bt_RX12 [] ct_2811 [] [] cu_2817 13 con_2817 = true := by decide +kernel
theorem vl_2817 (l : Launch) : Vld2 l vwCl gTbl con_2817 := conR_ok3 gT_all (hd_2817) rfl pn_RX12 tk_X12_row bo_RX12 xo_RX12 (cto_2811 l) ch_2817 cut_nil
/-- RookHustingModel row -/
noncomputable def con_2818 : Con2 := ((yX12_row, cX12_row, 5, (some .int)), (2, 45), ([(6, 0, 0), (0, 0, 0), (1, 2, 0), (1, 3, 0)], gi_3233, [ac_1571, ac_1572, ac_1573, ac_807], []), [((0, (-3), 0), gi_3234, hq_1031, [], [1])])
theorem hd_2818 : con_2818.1 = (yX12_row, cX12_row, 5, (some .int)) := rfl
noncomputable def cu_2818 : List CUT2 := []
theorem ch_2818 : staG tb_X12_row 1 bt_RX12 [] ct_2811 [] [] cu_2818 18 con_2818 = true := by decide +kernel
theorem vl_2818 (l : Launch) : Vld2 l vwCl gTbl con_2818 := conR_ok3 gT_all (hd_2818) rfl pn_RX12 tk_X12_row bo_RX12 xo_RX12 (cto_2811 l) ch_2818 cut_nil
/-- RookHustingModel row -/
noncomputable def con_2819 : Con2 := ((yX12_row, cX12_row, 5, (some .int)), (2, 45), ([(6, 0, 0), (0, 0, 0), (1, 2, 0), (1, 3, 0)], gi_3235, [ac_1571, ac_1572, ac_1573, ac_807], []), [((0, (-2), 0), gi_3236, hq_1031, [], [1])])
theorem hd_2819 : con_2819.1 = (yX12_row, cX12_row, 5, (some .int)) := rfl
noncomputable def cu_2819 : List CUT2 := []
theorem ch_2819 : staG tb_X12_row 1 bt_RX12 [] ct_2811 [] [] cu_2819 13 con_2819 = true := by decide +kernel
theorem vl_2819 (l : Launch) : Vld2 l vwCl gTbl con_2819 := conR_ok3 gT_all (hd_2819) rfl pn_RX12 tk_X12_row bo_RX12 xo_RX12 (cto_2811 l) ch_2819 cut_nil
/-- RookHustingModel row -/
noncomputable def gi_3237 : GI := jl_n [gp_928, gp_943]
noncomputable def gi_3238 : GI := jl_n [gp_928, gp_946]
noncomputable def con_2820 : Con2 := ((yX12_row, cX12_row, 5, (some .int)), (2, 45), ([(6, 0, 0), (1, 1, 0), (1, 2, 0), (1, 3, 0)], gi_3237, [ac_1571, ac_1572, ac_1573, ac_807], []), [((0, (-2), 0), gi_3238, hq_1031, [], [1])])
theorem hd_2820 : con_2820.1 = (yX12_row, cX12_row, 5, (some .int)) := rfl
noncomputable def cu_2820 : List CUT2 := []
theorem ch_2820 : staG tb_X12_row 1 bt_RX12 [] ct_2515 [] [] cu_2820 7 con_2820 = true := by decide +kernel
theorem vl_2820 (l : Launch) : Vld2 l vwCl gTbl con_2820 := conR_ok3 gT_all (hd_2820) rfl pn_RX12 tk_X12_row bo_RX12 xo_RX12 (cto_2515 l) ch_2820 cut_nil
/-- RookHustingModel row -/
noncomputable def gi_3239 : GI := jl_n [gp_925, gp_943]
noncomputable def gi_3240 : GI := jl_n [gp_925, gp_946]
noncomputable def con_2821 : Con2 := ((yX12_row, cX12_row, 5, (some .int)), (2, 45), ([(6, 0, 0), (1, 1, 0), (1, 2, 0), (1, 3, 0)], gi_3239, [ac_1571, ac_1572, ac_1573, ac_807], []), [((0, (-2), 0), gi_3240, hq_1031, [], [1])])
theorem hd_2821 : con_2821.1 = (yX12_row, cX12_row, 5, (some .int)) := rfl
noncomputable def cu_2821 : List CUT2 := []
theorem ch_2821 : staG tb_X12_row 1 bt_RX12 [] ct_2515 [] [] cu_2821 7 con_2821 = true := by decide +kernel
theorem vl_2821 (l : Launch) : Vld2 l vwCl gTbl con_2821 := conR_ok3 gT_all (hd_2821) rfl pn_RX12 tk_X12_row bo_RX12 xo_RX12 (cto_2515 l) ch_2821 cut_nil
/-- RookHustingModel row -/
noncomputable def gi_3241 : GI := jl_n [gp_929, gp_943]
noncomputable def gi_3242 : GI := jl_n [gp_929, gp_946]
noncomputable def con_2822 : Con2 := ((yX12_row, cX12_row, 5, (some .int)), (2, 45), ([(6, 0, 0), (1, 1, 0), (1, 2, 0), (1, 3, 0)], gi_3241, [ac_1571, ac_1572, ac_1573, ac_807], []), [((0, (-2), 0), gi_3242, hq_1031, [], [1])])
theorem hd_2822 : con_2822.1 = (yX12_row, cX12_row, 5, (some .int)) := rfl
noncomputable def cu_2822 : List CUT2 := []
theorem ch_2822 : staG tb_X12_row 1 bt_RX12 [] ct_2515 [] [] cu_2822 7 con_2822 = true := by decide +kernel
theorem vl_2822 (l : Launch) : Vld2 l vwCl gTbl con_2822 := conR_ok3 gT_all (hd_2822) rfl pn_RX12 tk_X12_row bo_RX12 xo_RX12 (cto_2515 l) ch_2822 cut_nil
/-- RookHustingModel row -/
noncomputable def gi_3243 : GI := jl_n [gp_928, gp_947]
noncomputable def gi_3244 : GI := jl_n [gp_928, gp_948]
noncomputable def con_2823 : Con2 := ((yX12_row, cX12_row, 5, (some .int)), (2, 45), ([(6, 0, 0), (1, 1, 0), (1, 2, 0), (1, 3, 0)], gi_3243, [ac_1571, ac_1572, ac_1573, ac_807], []), [((0, (-2), 0), gi_3244, hq_1031, [], [1])])
theorem hd_2823 : con_2823.1 = (yX12_row, cX12_row, 5, (some .int)) := rfl
noncomputable def cu_2823 : List CUT2 := []
theorem ch_2823 : staG tb_X12_row 1 bt_RX12 [] ct_2515 [] [] cu_2823 7 con_2823 = true := by decide +kernel
theorem vl_2823 (l : Launch) : Vld2 l vwCl gTbl con_2823 := conR_ok3 gT_all (hd_2823) rfl pn_RX12 tk_X12_row bo_RX12 xo_RX12 (cto_2515 l) ch_2823 cut_nil
/-- RookHustingModel row -/
noncomputable def gi_3245 : GI := jl_n [gp_925, gp_947]
noncomputable def gi_3246 : GI := jl_n [gp_925, gp_948]
noncomputable def con_2824 : Con2 := ((yX12_row, cX12_row, 5, (some .int)), (2, 45), ([(6, 0, 0), (1, 1, 0), (1, 2, 0), (1, 3, 0)], gi_3245, [ac_1571, ac_1572, ac_1573, ac_807], []), [((0, (-2), 0), gi_3246, hq_1031, [], [1])])
theorem hd_2824 : con_2824.1 = (yX12_row, cX12_row, 5, (some .int)) := rfl
noncomputable def cu_2824 : List CUT2 := []
theorem ch_2824 : staG tb_X12_row 1 bt_RX12 [] ct_2515 [] [] cu_2824 7 con_2824 = true := by decide +kernel
theorem vl_2824 (l : Launch) : Vld2 l vwCl gTbl con_2824 := conR_ok3 gT_all (hd_2824) rfl pn_RX12 tk_X12_row bo_RX12 xo_RX12 (cto_2515 l) ch_2824 cut_nil
/-- RookHustingModel row -/
noncomputable def gi_3247 : GI := jl_n [gp_929, gp_947]
noncomputable def gi_3248 : GI := jl_n [gp_929, gp_948]
noncomputable def con_2825 : Con2 := ((yX12_row, cX12_row, 5, (some .int)), (2, 45), ([(6, 0, 0), (1, 1, 0), (1, 2, 0), (1, 3, 0)], gi_3247, [ac_1571, ac_1572, ac_1573, ac_807], []), [((0, (-2), 0), gi_3248, hq_1031, [], [1])])
theorem hd_2825 : con_2825.1 = (yX12_row, cX12_row, 5, (some .int)) := rfl
noncomputable def cu_2825 : List CUT2 := []
theorem ch_2825 : staG tb_X12_row 1 bt_RX12 [] ct_2515 [] [] cu_2825 7 con_2825 = true := by decide +kernel
theorem vl_2825 (l : Launch) : Vld2 l vwCl gTbl con_2825 := conR_ok3 gT_all (hd_2825) rfl pn_RX12 tk_X12_row bo_RX12 xo_RX12 (cto_2515 l) ch_2825 cut_nil
/-- RookHustingModel row -/
noncomputable def gi_3249 : GI := jl_n [gp_928, gp_949]
noncomputable def gi_3250 : GI := jl_n [gp_928, gp_950]
noncomputable def con_2826 : Con2 := ((yX12_row, cX12_row, 5, (some .int)), (2, 45), ([(6, 0, 0), (1, 1, 0), (1, 2, 0), (1, 3, 0)], gi_3249, [ac_1571, ac_1572, ac_1573, ac_807], []), [((0, (-2), 0), gi_3250, hq_1031, [], [1])])
theorem hd_2826 : con_2826.1 = (yX12_row, cX12_row, 5, (some .int)) := rfl
noncomputable def cu_2826 : List CUT2 := []
theorem ch_2826 : staG tb_X12_row 1 bt_RX12 [] ct_2515 [] [] cu_2826 7 con_2826 = true := by decide +kernel
theorem vl_2826 (l : Launch) : Vld2 l vwCl gTbl con_2826 := conR_ok3 gT_all (hd_2826) rfl pn_RX12 tk_X12_row bo_RX12 xo_RX12 (cto_2515 l) ch_2826 cut_nil
/-- RookHustingModel row -/
noncomputable def gi_3251 : GI := jl_n [gp_925, gp_949]
noncomputable def gi_3252 : GI := jl_n [gp_925, gp_950]
noncomputable def con_2827 : Con2 := ((yX12_row, cX12_row, 5, (some .int)), (2, 45), ([(6, 0, 0), (1, 1, 0), (1, 2, 0), (1, 3, 0)], gi_3251, [ac_1571, ac_1572, ac_1573, ac_807], []), [((0, (-2), 0), gi_3252, hq_1031, [], [1])])
theorem hd_2827 : con_2827.1 = (yX12_row, cX12_row, 5, (some .int)) := rfl
noncomputable def cu_2827 : List CUT2 := []
theorem ch_2827 : staG tb_X12_row 1 bt_RX12 [] ct_2515 [] [] cu_2827 7 con_2827 = true := by decide +kernel
theorem vl_2827 (l : Launch) : Vld2 l vwCl gTbl con_2827 := conR_ok3 gT_all (hd_2827) rfl pn_RX12 tk_X12_row bo_RX12 xo_RX12 (cto_2515 l) ch_2827 cut_nil
/-- RookHustingModel row -/
noncomputable def gi_3253 : GI := jl_n [gp_921, gp_942]
noncomputable def gi_3254 : GI := jl_n [gp_921, gp_945]
noncomputable def con_2828 : Con2 := ((yX12_row, cX12_row, 5, (some .int)), (2, 45), ([(6, 0, 0), (1, 1, 0), (1, 2, 0), (1, 3, 0)], gi_3253, [ac_1571, ac_1572, ac_1573, ac_807], []), [((0, (-2), 0), gi_3254, hq_1031, [], [1])])
theorem hd_2828 : con_2828.1 = (yX12_row, cX12_row, 5, (some .int)) := rfl
noncomputable def cu_2828 : List CUT2 := []
theorem ch_2828 : staG tb_X12_row 1 bt_RX12 [] ct_2515 [] [] cu_2828 7 con_2828 = true := by decide +kernel
theorem vl_2828 (l : Launch) : Vld2 l vwCl gTbl con_2828 := conR_ok3 gT_all (hd_2828) rfl pn_RX12 tk_X12_row bo_RX12 xo_RX12 (cto_2515 l) ch_2828 cut_nil
/-- RookHusting$Slots isSlot -/
noncomputable def con_2829 : Con2 := ((yX8_isSlot, cX8_isSlot, 1, (some .boolean)), (0, 0), ([(1, 0, 0)], [((-2147483648), 2147483647)], [], []), [((0, 0, 0), [((-2147483648), 2147483647), (0, 0)], [], [], [1]), ((0, 1, 0), [(0, 3), (0, 0)], [], [], [1])])
theorem hd_2829 : con_2829.1 = (yX8_isSlot, cX8_isSlot, 1, (some .boolean)) := rfl
noncomputable def cu_2829 : List CUT2 := []
theorem ch_2829 : staG tb_X8_isSlot 1 bt_RX8 [] ct_1253 [] [] cu_2829 10 con_2829 = true := by decide +kernel
theorem vl_2829 (l : Launch) : Vld2 l vwCl gTbl con_2829 := conR_ok3 gT_all (hd_2829) rfl pn_RX8 tk_X8_isSlot bo_RX8 xo_RX8 (cto_1253 l) ch_2829 cut_nil
/-- RookHusting$Slots cut -/
noncomputable def gi_3255 : GI := jl_n [jl_u, jl_i 0 3, jl_u]
noncomputable def con_2830 : Con2 := ((yX8_cut, cX8_cut, 3, (some .long)), (0, 0), ([(4, 0, 0), (1, 1, 0)], [((-9223372036854775808), 9223372036854775807), (0, 3)], [], []), [((4, 2, 0), gi_3255, [], [], [4])])
theorem hd_2830 : con_2830.1 = (yX8_cut, cX8_cut, 3, (some .long)) := rfl
noncomputable def cu_2830 : List CUT2 := []
theorem ch_2830 : staG tb_X8_cut 1 bt_RX8 [] ct_1253 [] [] cu_2830 9 con_2830 = true := by decide +kernel
theorem vl_2830 (l : Launch) : Vld2 l vwCl gTbl con_2830 := conR_ok3 gT_all (hd_2830) rfl pn_RX8 tk_X8_cut bo_RX8 xo_RX8 (cto_1253 l) ch_2830 cut_nil
/-- RookHusting$Slots set -/
noncomputable def gi_3256 : GI := jl_n [gp_211, jl_i 0 59, jl_u, jl_z 3, jl_r 4 (jl_i 0 3)]
noncomputable def hc_262 : List AC := [.inl (8, [(6, 2, 0), (6, 1, 0), (8, 6, 0)]), ac_1553, ac_807]
noncomputable def hq_1036 : HP := [(false, .inl (8, [(6, 2, 0), (6, 1, 0), (8, 6, 0)])), (false, ac_1553), (true, ac_807)]
noncomputable def con_2831 : Con2 := ((yX8_set, cX8_set, 5, none), (1, 22), ([(6, 0, 0), (1, 1, 0), (1, 2, 0), (4, 3, 0)], gi_3256, hc_262, []), [((9, 0, 0), gi_3256, hq_1036, [], [])])
theorem hd_2831 : con_2831.1 = (yX8_set, cX8_set, 5, none) := rfl
theorem ck_RX8_26_2830 : COK2 RX8 vwCl gTbl 26 1 con_2830 := ⟨wd_1385, wd_131, mh_X8_cut, .inl ⟨rfl, wd_1383, wd_1384, pd_X8_cut⟩⟩
noncomputable def ct_2831 : CTB2 := [(17, 26, 1, con_2830, [])]
noncomputable def cu_2831 : List CUT2 := []
theorem ch_2831 : staG tb_X8_set 1 bt_RX8 [] ct_2831 [] [] cu_2831 17 con_2831 = true := by decide +kernel
theorem cto_2831 (l : Launch) : CTOK2 l RX8 vwCl gTbl ct_2831 := ct2_cons (vl_2830 l) ck_RX8_26_2830 (ct2_nil)
theorem vl_2831 (l : Launch) : Vld2 l vwCl gTbl con_2831 := conR_ok3 gT_all (hd_2831) rfl pn_RX8 tk_X8_set bo_RX8 xo_RX8 (cto_2831 l) ch_2831 cut_nil
/-- RookHusting write -/
noncomputable def gi_3257 : GI := jl_n [gp_951, gp_952]
noncomputable def hc_263 : List AC := [ac_1550, .inl (8, [(6, 4, 0), (6, 3, 0), (6, 2, 0)]), ac_1551, ac_1552, ac_807]
noncomputable def gi_3258 : GI := jl_n [gp_951, gp_952, jl_m 6 0]
noncomputable def hq_1037 : HP := [(false, ac_1550), (false, .inl (8, [(6, 4, 0), (6, 3, 0), (6, 2, 0)])), (false, ac_1551), (false, ac_1552), (true, ac_807)]
noncomputable def con_2832 : Con2 := ((yX11_write, cX11_write, 5, (some .int)), (2, 46), ([(6, 0, 0), (1, 1, 0), (1, 2, 0), (4, 3, 0)], gi_3257, hc_263, []), [((1, 31, 0), gi_3258, hq_1037, [], [1])])
theorem hd_2832 : con_2832.1 = (yX11_write, cX11_write, 5, (some .int)) := rfl
theorem ck_RX11_426_2831 : COK2 RX11 vwCl gTbl 426 0 con_2831 := ⟨wd_1382, wd_131, mh_X8_set, .inr (.inr ⟨rfl, wd_1379, wd_1380, wd_1381, ⟨_, rfl, pd_X8_set⟩, 8, _, TX8, 3, rfl, rfl⟩)⟩
theorem ck_RX11_420_2704 : COK2 RX11 vwCl gTbl 420 0 con_2704 := ⟨wd_1214, wd_131, mh_X8_hasRow, .inr (.inr ⟨rfl, wd_1211, wd_1212, wd_1213, ⟨_, rfl, pd_X8_hasRow⟩, 8, _, TX8, 3, rfl, rfl⟩)⟩
theorem ck_RX11_414_2829 : COK2 RX11 vwCl gTbl 414 1 con_2829 := ⟨wd_1210, wd_131, mh_X8_isSlot, .inl ⟨rfl, wd_1208, wd_1209, pd_X8_isSlot⟩⟩
noncomputable def ct_2832 : CTB2 := [(1, 414, 1, con_2829, []), (15, 420, 0, con_2704, [1, 2]), (51, 426, 0, con_2831, [1, 3, 4])]
noncomputable def cu_2832 : List CUT2 := []
theorem ch_2832 : staG tb_X11_write 1 bt_RX11 [] ct_2832 [] [] cu_2832 27 con_2832 = true := by decide +kernel
theorem cto_2832 (l : Launch) : CTOK2 l RX11 vwCl gTbl ct_2832 := ct2_cons (vl_2829 l) ck_RX11_414_2829 (ct2_cons (vl_2704 l) ck_RX11_420_2704 (ct2_cons (vl_2831 l) ck_RX11_426_2831 (ct2_nil)))
theorem vl_2832 (l : Launch) : Vld2 l vwCl gTbl con_2832 := conR_ok3 gT_all (hd_2832) rfl pn_RX11 tk_X11_write bo_RX11 xo_RX11 (cto_2832 l) ch_2832 cut_nil
/-- RookHustingModel isSlot -/
noncomputable def con_2833 : Con2 := ((yX12_isSlot, cX12_isSlot, 1, (some .boolean)), (1, 25), ([(1, 0, 0)], [((-2147483648), 2147483647)], [], []), [((0, 0, 0), [((-2147483648), 2147483647), (0, 0)], [], [], [1]), ((0, 1, 0), [(0, 3), (0, 0)], [], [], [1])])
theorem hd_2833 : con_2833.1 = (yX12_isSlot, cX12_isSlot, 1, (some .boolean)) := rfl
noncomputable def cu_2833 : List CUT2 := []
theorem ch_2833 : staG tb_X12_isSlot 1 bt_RX12 [] ct_1927 [] [] cu_2833 8 con_2833 = true := by decide +kernel
theorem vl_2833 (l : Launch) : Vld2 l vwCl gTbl con_2833 := conR_ok3 gT_all (hd_2833) rfl pn_RX12 tk_X12_isSlot bo_RX12 xo_RX12 (cto_1927 l) ch_2833 cut_nil
/-- RookHustingModel in -/
noncomputable def gi_3259 : GI := jl_n [gp_129, jl_m 1 59]
noncomputable def gi_3260 : GI := jl_n [gp_129, jl_m 1 59, jl_z 1]
noncomputable def con_2834 : Con2 := ((yX12_in, cX12_in, 6, (some .boolean)), (0, 0), ([(4, 0, 0), (3, 0, 0), (4, 2, 0)], gi_3259, [], []), [((0, 0, 0), gi_3260, [], [], [1]), ((0, 1, 0), [(0, 59), (0, 0), (0, 59), (0, 0)], [], [], [1])])
theorem hd_2834 : con_2834.1 = (yX12_in, cX12_in, 6, (some .boolean)) := rfl
noncomputable def cu_2834 : List CUT2 := []
theorem ch_2834 : staG tb_X12_in 1 bt_RX12 [] ct_2 [] [] cu_2834 11 con_2834 = true := by decide +kernel
theorem vl_2834 (l : Launch) : Vld2 l vwCl gTbl con_2834 := conR_ok3 gT_all (hd_2834) rfl pn_RX12 tk_X12_in bo_RX12 xo_RX12 (cto_2 l) ch_2834 cut_nil
/-- RookHustingModel clipped -/
noncomputable def con_2835 : Con2 := ((yX12_clipped, cX12_clipped, 4, (some .long)), (0, 0), ([(4, 0, 0), (1, 1, 0)], [((-9223372036854775808), 9223372036854775807), (0, 3)], [], []), [((4, 2, 0), gi_3255, [], [], [4])])
theorem hd_2835 : con_2835.1 = (yX12_clipped, cX12_clipped, 4, (some .long)) := rfl
noncomputable def cu_2835 : List CUT2 := []
theorem ch_2835 : staG tb_X12_clipped 1 bt_RX12 [] ct_2 [] [] cu_2835 14 con_2835 = true := by decide +kernel
theorem vl_2835 (l : Launch) : Vld2 l vwCl gTbl con_2835 := conR_ok3 gT_all (hd_2835) rfl pn_RX12 tk_X12_clipped bo_RX12 xo_RX12 (cto_2 l) ch_2835 cut_nil
/-- RookHustingModel write -/
noncomputable def gi_3261 : GI := jl_n [gp_951, gp_942]
noncomputable def gi_3262 : GI := jl_n [gp_951, gp_942, jl_m 6 0]
noncomputable def hq_1038 : HP := [(false, ac_1571), (false, ac_1572), (false, ac_1573), (true, ac_807)]
noncomputable def con_2836 : Con2 := ((yX12_write, cX12_write, 5, (some .int)), (2, 45), ([(6, 0, 0), (1, 1, 0), (1, 2, 0), (4, 3, 0)], gi_3261, [ac_1571, ac_1572, ac_1573, ac_807], []), [((1, 57, 0), gi_3262, hq_1038, [], [1])])
theorem hd_2836 : con_2836.1 = (yX12_write, cX12_write, 5, (some .int)) := rfl
theorem ck_RX12_502_2835 : COK2 RX12 vwCl gTbl 502 1 con_2835 := ⟨wd_2180, wd_137, mh_X12_clipped, .inl ⟨rfl, wd_2178, wd_2179, pd_X12_clipped⟩⟩
theorem ck_RX12_91_2834 : COK2 RX12 vwCl gTbl 91 1 con_2834 := ⟨wd_1544, wd_137, mh_X12_in, .inl ⟨rfl, wd_1542, wd_1543, pd_X12_in⟩⟩
theorem ck_RX12_414_2833 : COK2 RX12 vwCl gTbl 414 1 con_2833 := ⟨wd_2057, wd_137, mh_X12_isSlot, .inl ⟨rfl, wd_2055, wd_2056, pd_X12_isSlot⟩⟩
noncomputable def ct_2836 : CTB2 := [(1, 414, 1, con_2833, []), (35, 91, 1, con_2834, []), (61, 502, 1, con_2835, [])]
noncomputable def cu_2836 : List CUT2 := []
theorem ch_2836 : staG tb_X12_write 1 bt_RX12 [] ct_2836 [] [] cu_2836 39 con_2836 = true := by decide +kernel
theorem cto_2836 (l : Launch) : CTOK2 l RX12 vwCl gTbl ct_2836 := ct2_cons (vl_2833 l) ck_RX12_414_2833 (ct2_cons (vl_2834 l) ck_RX12_91_2834 (ct2_cons (vl_2835 l) ck_RX12_502_2835 (ct2_nil)))
theorem vl_2836 (l : Launch) : Vld2 l vwCl gTbl con_2836 := conR_ok3 gT_all (hd_2836) rfl pn_RX12 tk_X12_write bo_RX12 xo_RX12 (cto_2836 l) ch_2836 cut_nil
/-- RookHusting paste -/
noncomputable def gi_3263 : GI := jl_n [gp_421, gp_954, jl_r 4 (jl_i 0 3)]
noncomputable def ac_1582 : AC := .inl (11, jl_n [jl_8 10 4, jl_6 2 1, jl_8 22 11])
noncomputable def ac_1583 : AC := .inr (1, jl_n [js_1 29 4])
noncomputable def ac_1584 : AC := .inr (1, jl_n [js_1 33 4])
noncomputable def hc_264 : List AC := [ac_1582, .inl (8, [(6, 4, 0), (6, 3, 0), (6, 2, 0)]), ac_1583, ac_1584, ac_807]
noncomputable def gi_3264 : GI := jl_n [gp_421, gp_954, gp_944]
noncomputable def hq_1039 : HP := [(false, ac_1582), (false, .inl (8, [(6, 4, 0), (6, 3, 0), (6, 2, 0)])), (false, ac_1583), (false, ac_1584), (false, ac_807)]
noncomputable def con_2837 : Con2 := ((yX11_paste, cX11_paste, 6, (some .int)), (1, 20), ([(6, 0, 0), (1, 1, 0), (1, 2, 0), (1, 3, 0), (1, 4, 0), (1, 5, 0)], gi_3263, hc_264, []), [((0, (-2), 0), gi_3264, hq_1039, [], [1])])
theorem hd_2837 : con_2837.1 = (yX11_paste, cX11_paste, 6, (some .int)) := rfl
noncomputable def rf_2837 : List (Nat × List POP) := [(60, [(1, (0, 1, 0), 0, 0)]), (98, [(0, (1, 2, 0), 0, 60), (0, (1, 4, 0), 0, 60), (0, (1, 5, 0), 0, 60)])]
noncomputable def cu_2837 : List CUT2 := []
theorem ch_2837 : staG tb_X11_paste 2 bt_RX11 [] ct_1254 rf_2837 [110, 124] cu_2837 7 con_2837 = true := by decide +kernel
theorem vl_2837 (l : Launch) : Vld2 l vwCl gTbl con_2837 := conR_ok3 gT_all (hd_2837) rfl pn_RX11 tk_X11_paste bo_RX11 xo_RX11 (cto_1254 l) ch_2837 cut_nil
/-- RookHustingModel paste -/
noncomputable def gi_3265 : GI := jl_n [gp_421, jl_i 4 2147483647, gp_955]
noncomputable def ac_1585 : AC := .inl (12, jl_n [jl_8 47 41, jl_6 5 4])
noncomputable def ac_1586 : AC := .inr (1, jl_n [js_1 55 4])
noncomputable def ac_1587 : AC := .inr (1, jl_n [js_1 59 4])
noncomputable def ac_1588 : AC := .inr (2, jl_n [js_5 60 9223372036854775807 9223372036854775807])
noncomputable def gi_3266 : GI := jl_n [gp_421, jl_i 4 2147483647, gp_956]
noncomputable def hq_1040 : HP := [(false, ac_1585), (false, ac_1586), (false, ac_1587), (false, ac_807), (false, ac_1588)]
noncomputable def con_2838 : Con2 := ((yX12_paste, cX12_paste, 7, (some .int)), (2, 45), ([(6, 0, 0), (1, 1, 0), (1, 2, 0), (1, 3, 0), (1, 4, 0), (1, 5, 0)], gi_3265, [ac_1585, ac_1586, ac_1587, ac_807, ac_1588], []), [((0, (-2), 0), gi_3266, hq_1040, [], [1])])
theorem hd_2838 : con_2838.1 = (yX12_paste, cX12_paste, 7, (some .int)) := rfl
noncomputable def rf_2838 : List (Nat × List POP) := [(17, [(1, (1, 1, 0), 0, 0), (1, (1, 3, 0), 0, 0)]), (52, [(1, (0, 1, 0), 0, 0)]), (110, [(0, (1, 2, 0), 0, 60), (0, (1, 4, 0), 0, 60), (0, (1, 5, 0), 0, 60)]), (139, [(0, (0, 0, 0), 0, 239)]), (178, [(0, (0, 1, 0), 0, 239)])]
noncomputable def cu_2838 : List CUT2 := []
theorem ch_2838 : staG tb_X12_paste 3 bt_RX12 [] ct_1928 rf_2838 [77, 85, 95, 103, 117, 138, 154, 170] cu_2838 7 con_2838 = true := by decide +kernel
theorem vl_2838 (l : Launch) : Vld2 l vwCl gTbl con_2838 := conR_ok3 gT_all (hd_2838) rfl pn_RX12 tk_X12_paste bo_RX12 xo_RX12 (cto_1928 l) ch_2838 cut_nil
/-- RookHusting paste -/
noncomputable def gi_3267 : GI := jl_n [gp_958, gp_952]
noncomputable def gi_3268 : GI := jl_n [gp_958, gp_910, gp_944]
noncomputable def con_2839 : Con2 := ((yX11_paste, cX11_paste, 6, (some .int)), (1, 20), ([(6, 0, 0), (1, 1, 0), (1, 2, 0), (0, 3, 0), (1, 4, 0), (1, 5, 0)], gi_3267, hc_264, []), [((0, (-2), 0), gi_3268, hq_1039, [], [1])])
theorem hd_2839 : con_2839.1 = (yX11_paste, cX11_paste, 6, (some .int)) := rfl
noncomputable def rf_2839 : List (Nat × List POP) := [(60, [(1, (0, 1, 0), 0, 0)]), (98, [(0, (1, 2, 0), 0, 60), (0, (1, 4, 0), 0, 60), (0, (1, 5, 0), 0, 60)])]
noncomputable def cu_2839 : List CUT2 := []
theorem ch_2839 : staG tb_X11_paste 2 bt_RX11 [] ct_1254 rf_2839 [110, 124] cu_2839 7 con_2839 = true := by decide +kernel
theorem vl_2839 (l : Launch) : Vld2 l vwCl gTbl con_2839 := conR_ok3 gT_all (hd_2839) rfl pn_RX11 tk_X11_paste bo_RX11 xo_RX11 (cto_1254 l) ch_2839 cut_nil
/-- RookHustingModel paste -/
noncomputable def gi_3269 : GI := jl_n [gp_958, gp_942]
noncomputable def gi_3270 : GI := jl_n [gp_958, gp_945]
noncomputable def con_2840 : Con2 := ((yX12_paste, cX12_paste, 7, (some .int)), (2, 45), ([(6, 0, 0), (1, 1, 0), (1, 2, 0), (0, 3, 0), (1, 4, 0), (1, 5, 0)], gi_3269, [ac_1585, ac_1586, ac_1587, ac_807, ac_1588], []), [((0, (-2), 0), gi_3270, hq_1040, [], [1])])
theorem hd_2840 : con_2840.1 = (yX12_paste, cX12_paste, 7, (some .int)) := rfl
noncomputable def rf_2840 : List (Nat × List POP) := [(17, [(1, (1, 1, 0), 0, 0), (1, (1, 3, 0), 0, 0)]), (52, [(1, (0, 1, 0), 0, 0)]), (110, [(0, (1, 2, 0), 0, 60), (0, (1, 4, 0), 0, 60), (0, (1, 5, 0), 0, 60)]), (139, [(0, (0, 0, 0), 0, 239)]), (178, [(0, (0, 1, 0), 0, 239)])]
noncomputable def cu_2840 : List CUT2 := []
theorem ch_2840 : staG tb_X12_paste 3 bt_RX12 [] ct_1928 rf_2840 [77, 85, 95, 103, 117, 138, 154, 170] cu_2840 7 con_2840 = true := by decide +kernel
theorem vl_2840 (l : Launch) : Vld2 l vwCl gTbl con_2840 := conR_ok3 gT_all (hd_2840) rfl pn_RX12 tk_X12_paste bo_RX12 xo_RX12 (cto_1928 l) ch_2840 cut_nil
/-- RookHusting paste -/
noncomputable def con_2841 : Con2 := ((yX11_paste, cX11_paste, 6, (some .int)), (1, 20), ([(6, 0, 0), (1, 1, 0), (1, 2, 0), (0, 2, 0), (1, 4, 0), (1, 5, 0)], gi_3267, hc_264, []), [((0, (-2), 0), gi_3268, hq_1039, [], [1])])
theorem hd_2841 : con_2841.1 = (yX11_paste, cX11_paste, 6, (some .int)) := rfl
noncomputable def rf_2841 : List (Nat × List POP) := [(60, [(1, (0, 1, 0), 0, 0)]), (98, [(0, (1, 2, 0), 0, 60), (0, (1, 4, 0), 0, 60), (0, (1, 5, 0), 0, 60)])]
noncomputable def cu_2841 : List CUT2 := []
theorem ch_2841 : staG tb_X11_paste 2 bt_RX11 [] ct_1254 rf_2841 [110, 124] cu_2841 7 con_2841 = true := by decide +kernel
theorem vl_2841 (l : Launch) : Vld2 l vwCl gTbl con_2841 := conR_ok3 gT_all (hd_2841) rfl pn_RX11 tk_X11_paste bo_RX11 xo_RX11 (cto_1254 l) ch_2841 cut_nil
/-- RookHustingModel paste -/
noncomputable def con_2842 : Con2 := ((yX12_paste, cX12_paste, 7, (some .int)), (2, 45), ([(6, 0, 0), (1, 1, 0), (1, 2, 0), (0, 2, 0), (1, 4, 0), (1, 5, 0)], gi_3269, [ac_1585, ac_1586, ac_1587, ac_807, ac_1588], []), [((0, (-2), 0), gi_3270, hq_1040, [], [1])])
theorem hd_2842 : con_2842.1 = (yX12_paste, cX12_paste, 7, (some .int)) := rfl
noncomputable def rf_2842 : List (Nat × List POP) := [(17, [(1, (1, 1, 0), 0, 0), (1, (1, 3, 0), 0, 0)]), (52, [(1, (0, 1, 0), 0, 0)]), (110, [(0, (1, 2, 0), 0, 60), (0, (1, 4, 0), 0, 60), (0, (1, 5, 0), 0, 60)]), (139, [(0, (0, 0, 0), 0, 239)]), (178, [(0, (0, 1, 0), 0, 239)])]
noncomputable def cu_2842 : List CUT2 := []
theorem ch_2842 : staG tb_X12_paste 3 bt_RX12 [] ct_1928 rf_2842 [77, 85, 95, 103, 117, 138, 154, 170] cu_2842 7 con_2842 = true := by decide +kernel
theorem vl_2842 (l : Launch) : Vld2 l vwCl gTbl con_2842 := conR_ok3 gT_all (hd_2842) rfl pn_RX12 tk_X12_paste bo_RX12 xo_RX12 (cto_1928 l) ch_2842 cut_nil
/-- RookHusting paste -/
noncomputable def con_2843 : Con2 := ((yX11_paste, cX11_paste, 6, (some .int)), (1, 20), ([(6, 0, 0), (1, 1, 0), (1, 2, 0), (0, 1, 0), (1, 4, 0), (1, 5, 0)], gi_3267, hc_264, []), [((0, (-2), 0), gi_3268, hq_1039, [], [1])])
theorem hd_2843 : con_2843.1 = (yX11_paste, cX11_paste, 6, (some .int)) := rfl
noncomputable def rf_2843 : List (Nat × List POP) := [(60, [(1, (0, 1, 0), 0, 0)]), (98, [(0, (1, 2, 0), 0, 60), (0, (1, 4, 0), 0, 60), (0, (1, 5, 0), 0, 60)])]
noncomputable def cu_2843 : List CUT2 := []
theorem ch_2843 : staG tb_X11_paste 2 bt_RX11 [] ct_1254 rf_2843 [110, 124] cu_2843 7 con_2843 = true := by decide +kernel
theorem vl_2843 (l : Launch) : Vld2 l vwCl gTbl con_2843 := conR_ok3 gT_all (hd_2843) rfl pn_RX11 tk_X11_paste bo_RX11 xo_RX11 (cto_1254 l) ch_2843 cut_nil
/-- RookHustingModel paste -/
noncomputable def con_2844 : Con2 := ((yX12_paste, cX12_paste, 7, (some .int)), (2, 45), ([(6, 0, 0), (1, 1, 0), (1, 2, 0), (0, 1, 0), (1, 4, 0), (1, 5, 0)], gi_3269, [ac_1585, ac_1586, ac_1587, ac_807, ac_1588], []), [((0, (-2), 0), gi_3270, hq_1040, [], [1])])
theorem hd_2844 : con_2844.1 = (yX12_paste, cX12_paste, 7, (some .int)) := rfl
noncomputable def rf_2844 : List (Nat × List POP) := [(17, [(1, (1, 1, 0), 0, 0), (1, (1, 3, 0), 0, 0)]), (52, [(1, (0, 1, 0), 0, 0)]), (110, [(0, (1, 2, 0), 0, 60), (0, (1, 4, 0), 0, 60), (0, (1, 5, 0), 0, 60)]), (139, [(0, (0, 0, 0), 0, 239)]), (178, [(0, (0, 1, 0), 0, 239)])]
noncomputable def cu_2844 : List CUT2 := []
theorem ch_2844 : staG tb_X12_paste 3 bt_RX12 [] ct_1928 rf_2844 [77, 85, 95, 103, 117, 138, 154, 170] cu_2844 7 con_2844 = true := by decide +kernel
theorem vl_2844 (l : Launch) : Vld2 l vwCl gTbl con_2844 := conR_ok3 gT_all (hd_2844) rfl pn_RX12 tk_X12_paste bo_RX12 xo_RX12 (cto_1928 l) ch_2844 cut_nil
/-- RookHusting paste -/
noncomputable def con_2845 : Con2 := ((yX11_paste, cX11_paste, 6, (some .int)), (1, 20), ([(6, 0, 0), (1, 1, 0), (1, 2, 0), (0, 0, 0), (1, 4, 0), (1, 5, 0)], gi_3267, hc_264, []), [((0, (-2), 0), gi_3268, hq_1039, [], [1])])
theorem hd_2845 : con_2845.1 = (yX11_paste, cX11_paste, 6, (some .int)) := rfl
noncomputable def rf_2845 : List (Nat × List POP) := [(60, [(1, (0, 1, 0), 0, 0)]), (98, [(0, (1, 2, 0), 0, 60), (0, (1, 4, 0), 0, 60), (0, (1, 5, 0), 0, 60)])]
noncomputable def cu_2845 : List CUT2 := []
theorem ch_2845 : staG tb_X11_paste 2 bt_RX11 [] ct_1254 rf_2845 [110, 124] cu_2845 7 con_2845 = true := by decide +kernel
theorem vl_2845 (l : Launch) : Vld2 l vwCl gTbl con_2845 := conR_ok3 gT_all (hd_2845) rfl pn_RX11 tk_X11_paste bo_RX11 xo_RX11 (cto_1254 l) ch_2845 cut_nil
/-- RookHustingModel paste -/
noncomputable def con_2846 : Con2 := ((yX12_paste, cX12_paste, 7, (some .int)), (2, 45), ([(6, 0, 0), (1, 1, 0), (1, 2, 0), (0, 0, 0), (1, 4, 0), (1, 5, 0)], gi_3269, [ac_1585, ac_1586, ac_1587, ac_807, ac_1588], []), [((0, (-2), 0), gi_3270, hq_1040, [], [1])])
theorem hd_2846 : con_2846.1 = (yX12_paste, cX12_paste, 7, (some .int)) := rfl
noncomputable def rf_2846 : List (Nat × List POP) := [(17, [(1, (1, 1, 0), 0, 0), (1, (1, 3, 0), 0, 0)]), (52, [(1, (0, 1, 0), 0, 0)]), (110, [(0, (1, 2, 0), 0, 60), (0, (1, 4, 0), 0, 60), (0, (1, 5, 0), 0, 60)]), (139, [(0, (0, 0, 0), 0, 239)]), (178, [(0, (0, 1, 0), 0, 239)])]
noncomputable def cu_2846 : List CUT2 := []
theorem ch_2846 : staG tb_X12_paste 3 bt_RX12 [] ct_1928 rf_2846 [77, 85, 95, 103, 117, 138, 154, 170] cu_2846 7 con_2846 = true := by decide +kernel
theorem vl_2846 (l : Launch) : Vld2 l vwCl gTbl con_2846 := conR_ok3 gT_all (hd_2846) rfl pn_RX12 tk_X12_paste bo_RX12 xo_RX12 (cto_1928 l) ch_2846 cut_nil
/-- RookHusting paste -/
noncomputable def gi_3271 : GI := jl_n [gp_421, gp_959, jl_r 4 (jl_i 0 3)]
noncomputable def gi_3272 : GI := jl_n [gp_421, gp_959, gp_944]
noncomputable def con_2847 : Con2 := ((yX11_paste, cX11_paste, 6, (some .int)), (1, 20), ([(6, 0, 0), (1, 1, 0), (1, 2, 0), (1, 3, 0), (1, 4, 0), (1, 5, 0)], gi_3271, hc_264, []), [((0, (-2), 0), gi_3272, hq_1039, [], [1])])
theorem hd_2847 : con_2847.1 = (yX11_paste, cX11_paste, 6, (some .int)) := rfl
noncomputable def rf_2847 : List (Nat × List POP) := [(60, [(1, (0, 1, 0), 0, 0)]), (98, [(0, (1, 2, 0), 0, 60), (0, (1, 4, 0), 0, 60), (0, (1, 5, 0), 0, 60)])]
noncomputable def cu_2847 : List CUT2 := []
theorem ch_2847 : staG tb_X11_paste 2 bt_RX11 [] ct_1254 rf_2847 [110, 124] cu_2847 7 con_2847 = true := by decide +kernel
theorem vl_2847 (l : Launch) : Vld2 l vwCl gTbl con_2847 := conR_ok3 gT_all (hd_2847) rfl pn_RX11 tk_X11_paste bo_RX11 xo_RX11 (cto_1254 l) ch_2847 cut_nil
/-- RookHustingModel paste -/
noncomputable def gi_3273 : GI := jl_n [gp_421, jl_k 2147483647 0, gp_955]
noncomputable def gi_3274 : GI := jl_n [gp_421, jl_k 2147483647 0, gp_956]
noncomputable def con_2848 : Con2 := ((yX12_paste, cX12_paste, 7, (some .int)), (2, 45), ([(6, 0, 0), (1, 1, 0), (1, 2, 0), (1, 3, 0), (1, 4, 0), (1, 5, 0)], gi_3273, [ac_1585, ac_1586, ac_1587, ac_807, ac_1588], []), [((0, (-2), 0), gi_3274, hq_1040, [], [1])])
theorem hd_2848 : con_2848.1 = (yX12_paste, cX12_paste, 7, (some .int)) := rfl
noncomputable def rf_2848 : List (Nat × List POP) := [(17, [(1, (1, 1, 0), 0, 0), (1, (1, 3, 0), 0, 0)]), (52, [(1, (0, 1, 0), 0, 0)]), (110, [(0, (1, 2, 0), 0, 60), (0, (1, 4, 0), 0, 60), (0, (1, 5, 0), 0, 60)]), (139, [(0, (0, 0, 0), 0, 239)]), (178, [(0, (0, 1, 0), 0, 239)])]
noncomputable def cu_2848 : List CUT2 := []
theorem ch_2848 : staG tb_X12_paste 3 bt_RX12 [] ct_1928 rf_2848 [77, 85, 95, 103, 117, 138, 154, 170] cu_2848 7 con_2848 = true := by decide +kernel
theorem vl_2848 (l : Launch) : Vld2 l vwCl gTbl con_2848 := conR_ok3 gT_all (hd_2848) rfl pn_RX12 tk_X12_paste bo_RX12 xo_RX12 (cto_1928 l) ch_2848 cut_nil
/-- RookHusting paste -/
noncomputable def gi_3275 : GI := jl_n [gp_194, gp_954, jl_r 4 (jl_i 0 3)]
noncomputable def gi_3276 : GI := jl_n [gp_194, gp_954, gp_944]
noncomputable def con_2849 : Con2 := ((yX11_paste, cX11_paste, 6, (some .int)), (1, 20), ([(6, 0, 0), (0, 3, 0), (1, 2, 0), (1, 3, 0), (1, 4, 0), (1, 5, 0)], gi_3275, hc_264, []), [((0, (-2), 0), gi_3276, hq_1039, [], [1])])
theorem hd_2849 : con_2849.1 = (yX11_paste, cX11_paste, 6, (some .int)) := rfl
noncomputable def ct_2849 : CTB2 := [(1, 414, 1, con_1255, []), (8, 414, 1, con_1253, [])]
noncomputable def rf_2849 : List (Nat × List POP) := [(60, [(1, (0, 1, 0), 0, 0)]), (98, [(0, (1, 2, 0), 0, 60), (0, (1, 4, 0), 0, 60), (0, (1, 5, 0), 0, 60)])]
noncomputable def cu_2849 : List CUT2 := []
theorem ch_2849 : staG tb_X11_paste 2 bt_RX11 [] ct_2849 rf_2849 [110, 124] cu_2849 10 con_2849 = true := by decide +kernel
theorem cto_2849 (l : Launch) : CTOK2 l RX11 vwCl gTbl ct_2849 := ct2_cons (vl_1255 l) ck_RX11_414_1255 (ct2_cons (vl_1253 l) ck_RX11_414_1253 (ct2_nil))
theorem vl_2849 (l : Launch) : Vld2 l vwCl gTbl con_2849 := conR_ok3 gT_all (hd_2849) rfl pn_RX11 tk_X11_paste bo_RX11 xo_RX11 (cto_2849 l) ch_2849 cut_nil
/-- RookHustingModel paste -/
noncomputable def gi_3277 : GI := jl_n [gp_194, jl_i 4 2147483647, gp_955]
noncomputable def gi_3278 : GI := jl_n [gp_194, jl_i 4 2147483647, gp_956]
noncomputable def con_2850 : Con2 := ((yX12_paste, cX12_paste, 7, (some .int)), (2, 45), ([(6, 0, 0), (0, 3, 0), (1, 2, 0), (1, 3, 0), (1, 4, 0), (1, 5, 0)], gi_3277, [ac_1585, ac_1586, ac_1587, ac_807, ac_1588], []), [((0, (-2), 0), gi_3278, hq_1040, [], [1])])
theorem hd_2850 : con_2850.1 = (yX12_paste, cX12_paste, 7, (some .int)) := rfl
noncomputable def ct_2850 : CTB2 := [(1, 414, 1, con_1930, []), (8, 414, 1, con_1927, [])]
noncomputable def rf_2850 : List (Nat × List POP) := [(17, [(1, (1, 1, 0), 0, 0), (1, (1, 3, 0), 0, 0)]), (52, [(1, (0, 1, 0), 0, 0)]), (110, [(0, (1, 2, 0), 0, 60), (0, (1, 4, 0), 0, 60), (0, (1, 5, 0), 0, 60)]), (139, [(0, (0, 0, 0), 0, 239)]), (178, [(0, (0, 1, 0), 0, 239)])]
noncomputable def cu_2850 : List CUT2 := []
theorem ch_2850 : staG tb_X12_paste 3 bt_RX12 [] ct_2850 rf_2850 [77, 85, 95, 103, 117, 138, 154, 170] cu_2850 10 con_2850 = true := by decide +kernel
theorem cto_2850 (l : Launch) : CTOK2 l RX12 vwCl gTbl ct_2850 := ct2_cons (vl_1930 l) ck_RX12_414_1930 (ct2_cons (vl_1927 l) ck_RX12_414_1927 (ct2_nil))
theorem vl_2850 (l : Launch) : Vld2 l vwCl gTbl con_2850 := conR_ok3 gT_all (hd_2850) rfl pn_RX12 tk_X12_paste bo_RX12 xo_RX12 (cto_2850 l) ch_2850 cut_nil
/-- RookHusting$Slots holds -/
noncomputable def gi_3279 : GI := jl_n [gp_216, jl_z 3, jl_r 4 (jl_m 0 60)]
noncomputable def gi_3280 : GI := jl_n [gp_936, gp_383, gp_425]
noncomputable def hq_1041 : HP := [(false, .inl (8, [(8, 4, 0), (8, 5, 0), (6, 1, 0)])), (false, ac_1553)]
noncomputable def gi_3281 : GI := jl_n [gp_960, gp_425]
noncomputable def gi_3282 : GI := jl_n [gp_961, jl_k 2147483647 0, jl_z 3, gp_425]
noncomputable def gi_3283 : GI := jl_n [gp_960, gp_426, jl_z 1]
noncomputable def rq_24 : RLs := [([(2, (-1)), (3, (-1))], 60), ([(2, (-1)), (3, (-1)), (10, 1)], 0)]
noncomputable def con_2851 : Con2 := ((yX8_holds, cX8_holds, 4, (some .boolean)), (0, 0), ([(6, 0, 0), (0, 3, 0), (1, 2, 0), (1, 3, 0)], gi_3279, [.inl (8, [(8, 4, 0), (8, 5, 0), (6, 1, 0)]), ac_1553], []), [((0, 0, 0), gi_3280, hq_1041, [], [1]), ((0, 0, 0), gi_3281, hq_1041, [([(2, 1), (3, 1), (10, (-1))], (-1))], [1]), ((0, 0, 0), gi_3282, hq_1041, [], [1]), ((0, 1, 0), gi_3283, hq_1041, rq_24, [1])])
theorem hd_2851 : con_2851.1 = (yX8_holds, cX8_holds, 4, (some .boolean)) := rfl
noncomputable def cu_2851 : List CUT2 := []
theorem ch_2851 : staG tb_X8_holds 2 bt_RX8 [] ct_1253 [] [12, 20] cu_2851 20 con_2851 = true := by decide +kernel
theorem vl_2851 (l : Launch) : Vld2 l vwCl gTbl con_2851 := conR_ok3 gT_all (hd_2851) rfl pn_RX8 tk_X8_holds bo_RX8 xo_RX8 (cto_1253 l) ch_2851 cut_nil
/-- RookHusting$Slots holds -/
noncomputable def gi_3284 : GI := jl_n [gp_194, jl_i 0 2147483647, jl_z 3, jl_r 4 (jl_m 0 60)]
noncomputable def gi_3285 : GI := jl_n [gp_936, jl_i 0 2147483647, jl_z 3, gp_425]
noncomputable def con_2852 : Con2 := ((yX8_holds, cX8_holds, 4, (some .boolean)), (0, 0), ([(6, 0, 0), (0, 3, 0), (1, 2, 0), (1, 3, 0)], gi_3284, [.inl (8, [(8, 4, 0), (8, 5, 0), (6, 1, 0)]), ac_1553], []), [((0, 0, 0), gi_3285, hq_1041, [], [1]), ((0, 0, 0), gi_3281, hq_1041, [([(2, 1), (3, 1), (10, (-1))], (-1))], [1]), ((0, 1, 0), gi_3283, hq_1041, rq_24, [1])])
theorem hd_2852 : con_2852.1 = (yX8_holds, cX8_holds, 4, (some .boolean)) := rfl
noncomputable def cu_2852 : List CUT2 := []
theorem ch_2852 : staG tb_X8_holds 2 bt_RX8 [] ct_1253 [] [12, 20] cu_2852 20 con_2852 = true := by decide +kernel
theorem vl_2852 (l : Launch) : Vld2 l vwCl gTbl con_2852 := conR_ok3 gT_all (hd_2852) rfl pn_RX8 tk_X8_holds bo_RX8 xo_RX8 (cto_1253 l) ch_2852 cut_nil
/-- RookHusting paste -/
noncomputable def gi_3286 : GI := jl_n [gp_963, jl_r 4 (jl_m 0 60), jl_r 4 (jl_i 0 3)]
noncomputable def gi_3287 : GI := jl_n [gp_963, gp_965]
noncomputable def gi_3288 : GI := jl_n [gp_968, gp_970]
noncomputable def gi_3289 : GI := jl_n [gp_973, gp_970]
noncomputable def gi_3290 : GI := jl_n [gp_975, gp_970]
noncomputable def gi_3291 : GI := jl_n [gp_977, gp_970]
noncomputable def gi_3292 : GI := jl_n [gp_979, gp_970]
noncomputable def gi_3293 : GI := jl_n [gp_982, gp_970]
noncomputable def hq_1042 : HP := [(false, ac_1582), (false, .inl (8, [(6, 4, 0), (6, 3, 0), (6, 2, 0)])), (false, ac_1583), (false, ac_1584), (true, ac_807)]
noncomputable def rq_25 : RLs := [([(2, (-1)), (5, (-1)), (28, 1)], 0), ([(4, (-1)), (5, (-1)), (28, 1)], 0)]
noncomputable def con_2853 : Con2 := ((yX11_paste, cX11_paste, 6, (some .int)), (1, 23), ([(6, 0, 0), (0, 3, 0), (1, 2, 0), (0, 3, 0), (1, 4, 0), (1, 5, 0)], gi_3286, hc_264, []), [((0, (-6), 0), gi_3287, hq_1039, [], [1]), ((0, (-7), 0), gi_3288, hq_1039, [([(2, 1), (5, 1), (28, (-1))], (-1))], [1]), ((0, (-7), 0), gi_3289, hq_1039, [([(4, 1), (5, 1), (28, (-1))], (-1))], [1]), ((0, (-7), 0), gi_3290, hq_1039, [], [1]), ((0, (-7), 0), gi_3291, hq_1039, [], [1]), ((0, (-7), 0), gi_3292, hq_1039, [], [1]), ((0, 0, 0), gi_3293, hq_1042, rq_25, [1])])
theorem hd_2853 : con_2853.1 = (yX11_paste, cX11_paste, 6, (some .int)) := rfl
theorem ck_RX11_433_2852 : COK2 RX11 vwCl gTbl 433 0 con_2852 := ⟨wd_1393, wd_131, mh_X8_holds, .inr (.inr ⟨rfl, wd_1390, wd_1391, wd_1392, ⟨_, rfl, pd_X8_holds⟩, 8, _, TX8, 3, rfl, rfl⟩)⟩
theorem ck_RX11_433_2851 : COK2 RX11 vwCl gTbl 433 0 con_2851 := ⟨wd_1393, wd_131, mh_X8_holds, .inr (.inr ⟨rfl, wd_1390, wd_1391, wd_1392, ⟨_, rfl, pd_X8_holds⟩, 8, _, TX8, 3, rfl, rfl⟩)⟩
noncomputable def ct_2853 : CTB2 := [(1, 414, 1, con_1255, []), (8, 414, 1, con_1255, []), (22, 420, 0, con_1256, [1, 2]), (33, 420, 0, con_1256, [1, 2]), (74, 433, 0, con_2851, [1, 2]), (89, 433, 0, con_2852, [1, 2])]
noncomputable def rf_2853 : List (Nat × List POP) := [(60, [(1, (0, 1, 0), 0, 0)]), (98, [(0, (1, 2, 0), 0, 60), (0, (1, 4, 0), 0, 60), (0, (1, 5, 0), 0, 60)])]
noncomputable def cu_2853 : List CUT2 := []
theorem ch_2853 : staG tb_X11_paste 2 bt_RX11 [] ct_2853 rf_2853 [110, 124] cu_2853 63 con_2853 = true := by decide +kernel
theorem cto_2853 (l : Launch) : CTOK2 l RX11 vwCl gTbl ct_2853 := ct2_cons (vl_1255 l) ck_RX11_414_1255 (ct2_cons (vl_1255 l) ck_RX11_414_1255 (ct2_cons (vl_1256 l) ck_RX11_420_1256 (ct2_cons (vl_1256 l) ck_RX11_420_1256 (ct2_cons (vl_2851 l) ck_RX11_433_2851 (ct2_cons (vl_2852 l) ck_RX11_433_2852 (ct2_nil))))))
theorem vl_2853 (l : Launch) : Vld2 l vwCl gTbl con_2853 := conR_ok3 gT_all (hd_2853) rfl pn_RX11 tk_X11_paste bo_RX11 xo_RX11 (cto_2853 l) ch_2853 cut_nil
/-- RookHustingModel paste -/
noncomputable def gi_3294 : GI := jl_n [gp_981, gp_942]
noncomputable def gi_3295 : GI := jl_n [gp_983, gp_965]
noncomputable def gi_3296 : GI := jl_n [gp_983, gp_970]
noncomputable def hq_1043 : HP := [(false, ac_1585), (false, ac_1586), (false, ac_1587), (true, ac_807), (true, ac_1588)]
noncomputable def rq_26 : RLs := [([(2, (-1)), (5, (-1)), (54, 1)], 0), ([(4, (-1)), (5, (-1)), (54, 1)], 0)]
noncomputable def con_2854 : Con2 := ((yX12_paste, cX12_paste, 7, (some .int)), (2, 45), ([(6, 0, 0), (0, 3, 0), (1, 2, 0), (0, 3, 0), (1, 4, 0), (1, 5, 0)], gi_3294, [ac_1585, ac_1586, ac_1587, ac_807, ac_1588], []), [((0, (-6), 0), gi_3295, hq_1040, [], [1]), ((0, (-7), 0), gi_3296, hq_1040, [([(2, 1), (5, 1), (54, (-1))], (-1))], [1]), ((0, (-7), 0), gi_3296, hq_1040, [([(4, 1), (5, 1), (54, (-1))], (-1))], [1]), ((0, 0, 0), gi_3296, hq_1043, rq_26, [1])])
theorem hd_2854 : con_2854.1 = (yX12_paste, cX12_paste, 7, (some .int)) := rfl
noncomputable def ct_2854 : CTB2 := [(1, 414, 1, con_1930, []), (8, 414, 1, con_1930, [])]
noncomputable def rf_2854 : List (Nat × List POP) := [(17, [(1, (1, 1, 0), 0, 0), (1, (1, 3, 0), 0, 0)]), (52, [(1, (0, 1, 0), 0, 0)]), (110, [(0, (1, 2, 0), 0, 60), (0, (1, 4, 0), 0, 60), (0, (1, 5, 0), 0, 60)]), (139, [(0, (0, 0, 0), 0, 239)]), (178, [(0, (0, 1, 0), 0, 239)])]
noncomputable def gi_3297 : GI := jl_n [gp_983, gp_426, gp_984]
noncomputable def hq_1044 : HP := [(false, ac_1585), (false, ac_1586), (false, ac_1587), (false, ac_807), (true, ac_1588)]
noncomputable def rq_27 : RLs := [([(2, (-1)), (5, (-1))], 60), ([(4, (-1)), (5, (-1))], 60), ([(2, (-1)), (5, (-1)), (54, 1)], 0), ([(4, (-1)), (5, (-1)), (54, 1)], 0)]
noncomputable def cu_2854 : List CUT2 := [((113, [lq 0 6 0, lq 1 0 3, lq 2 1 2, lq 3 0 3, lq 4 1 4, lq 5 1 5, lq 6 1 65], [], gi_3297, hq_1044), rq_27, ([(65, (-1))], 121)), ((150, [lq 0 6 0, lq 1 0 3, lq 2 1 2, lq 3 0 3, lq 4 1 4, lq 5 1 5, lq 6 1 65], [], gi_3297, hq_1043), rq_27, ([(65, (-1))], 60))]
theorem ch_2854 : staG tb_X12_paste 3 bt_RX12 [] ct_2854 rf_2854 [77, 85, 95, 103, 117, 138, 154, 170] cu_2854 60 con_2854 = true := by decide +kernel
theorem cc_2854 : cu_2854.all (cutG tb_X12_paste 3 bt_RX12 [] ct_2854 rf_2854 [77, 85, 95, 103, 117, 138, 154, 170] cu_2854 60 con_2854) = true := by decide +kernel
theorem cto_2854 (l : Launch) : CTOK2 l RX12 vwCl gTbl ct_2854 := ct2_cons (vl_1930 l) ck_RX12_414_1930 (ct2_cons (vl_1930 l) ck_RX12_414_1930 (ct2_nil))
theorem vl_2854 (l : Launch) : Vld2 l vwCl gTbl con_2854 := conR_ok3 gT_all (hd_2854) rfl pn_RX12 tk_X12_paste bo_RX12 xo_RX12 (cto_2854 l) ch_2854 (cut_all cc_2854)
/-- RookHustingModel paste -/
noncomputable def gi_3298 : GI := jl_n [gp_978, gp_942]
noncomputable def gi_3299 : GI := jl_n [gp_985, gp_965]
noncomputable def gi_3300 : GI := jl_n [gp_986, gp_970]
noncomputable def gi_3301 : GI := jl_n [gp_987, gp_970]
noncomputable def con_2855 : Con2 := ((yX12_paste, cX12_paste, 7, (some .int)), (2, 45), ([(6, 0, 0), (0, 3, 0), (1, 2, 0), (0, 3, 0), (1, 4, 0), (1, 5, 0)], gi_3298, [ac_1585, ac_1586, ac_1587, ac_807, ac_1588], []), [((0, (-6), 0), gi_3299, hq_1040, [], [1]), ((0, (-7), 0), gi_3300, hq_1040, [], [1]), ((0, (-7), 0), gi_3301, hq_1040, [], [1])])
theorem hd_2855 : con_2855.1 = (yX12_paste, cX12_paste, 7, (some .int)) := rfl
noncomputable def rf_2855 : List (Nat × List POP) := [(17, [(1, (1, 1, 0), 0, 0), (1, (1, 3, 0), 0, 0)]), (52, [(1, (0, 1, 0), 0, 0)]), (110, [(0, (1, 2, 0), 0, 60), (0, (1, 4, 0), 0, 60), (0, (1, 5, 0), 0, 60)]), (139, [(0, (0, 0, 0), 0, 239)]), (178, [(0, (0, 1, 0), 0, 239)])]
noncomputable def cu_2855 : List CUT2 := []
theorem ch_2855 : staG tb_X12_paste 3 bt_RX12 [] ct_2854 rf_2855 [77, 85, 95, 103, 117, 138, 154, 170] cu_2855 37 con_2855 = true := by decide +kernel
theorem vl_2855 (l : Launch) : Vld2 l vwCl gTbl con_2855 := conR_ok3 gT_all (hd_2855) rfl pn_RX12 tk_X12_paste bo_RX12 xo_RX12 (cto_2854 l) ch_2855 cut_nil
/-- RookHustingModel paste -/
noncomputable def gi_3302 : GI := jl_n [gp_976, jl_i 0 2147483647, gp_942]
noncomputable def gi_3303 : GI := jl_n [gp_989, gp_965]
noncomputable def gi_3304 : GI := jl_n [gp_989, gp_970]
noncomputable def con_2856 : Con2 := ((yX12_paste, cX12_paste, 7, (some .int)), (2, 45), ([(6, 0, 0), (0, 3, 0), (1, 2, 0), (0, 3, 0), (1, 4, 0), (1, 5, 0)], gi_3302, [ac_1585, ac_1586, ac_1587, ac_807, ac_1588], []), [((0, (-6), 0), gi_3303, hq_1040, [], [1]), ((0, (-7), 0), gi_3304, hq_1040, [], [1])])
theorem hd_2856 : con_2856.1 = (yX12_paste, cX12_paste, 7, (some .int)) := rfl
noncomputable def rf_2856 : List (Nat × List POP) := [(17, [(1, (1, 1, 0), 0, 0), (1, (1, 3, 0), 0, 0)]), (52, [(1, (0, 1, 0), 0, 0)]), (110, [(0, (1, 2, 0), 0, 60), (0, (1, 4, 0), 0, 60), (0, (1, 5, 0), 0, 60)]), (139, [(0, (0, 0, 0), 0, 239)]), (178, [(0, (0, 1, 0), 0, 239)])]
noncomputable def cu_2856 : List CUT2 := []
theorem ch_2856 : staG tb_X12_paste 3 bt_RX12 [] ct_2854 rf_2856 [77, 85, 95, 103, 117, 138, 154, 170] cu_2856 35 con_2856 = true := by decide +kernel
theorem vl_2856 (l : Launch) : Vld2 l vwCl gTbl con_2856 := conR_ok3 gT_all (hd_2856) rfl pn_RX12 tk_X12_paste bo_RX12 xo_RX12 (cto_2854 l) ch_2856 cut_nil
/-- RookHustingModel paste -/
noncomputable def gi_3305 : GI := jl_n [gp_974, gp_942]
noncomputable def gi_3306 : GI := jl_n [gp_990, gp_965]
noncomputable def gi_3307 : GI := jl_n [gp_990, gp_970]
noncomputable def con_2857 : Con2 := ((yX12_paste, cX12_paste, 7, (some .int)), (2, 45), ([(6, 0, 0), (0, 3, 0), (1, 2, 0), (0, 3, 0), (1, 4, 0), (1, 5, 0)], gi_3305, [ac_1585, ac_1586, ac_1587, ac_807, ac_1588], []), [((0, (-6), 0), gi_3306, hq_1040, [], [1]), ((0, (-7), 0), gi_3307, hq_1040, [], [1])])
theorem hd_2857 : con_2857.1 = (yX12_paste, cX12_paste, 7, (some .int)) := rfl
noncomputable def rf_2857 : List (Nat × List POP) := [(17, [(1, (1, 1, 0), 0, 0), (1, (1, 3, 0), 0, 0)]), (52, [(1, (0, 1, 0), 0, 0)]), (110, [(0, (1, 2, 0), 0, 60), (0, (1, 4, 0), 0, 60), (0, (1, 5, 0), 0, 60)]), (139, [(0, (0, 0, 0), 0, 239)]), (178, [(0, (0, 1, 0), 0, 239)])]
noncomputable def cu_2857 : List CUT2 := []
theorem ch_2857 : staG tb_X12_paste 3 bt_RX12 [] ct_2854 rf_2857 [77, 85, 95, 103, 117, 138, 154, 170] cu_2857 33 con_2857 = true := by decide +kernel
theorem vl_2857 (l : Launch) : Vld2 l vwCl gTbl con_2857 := conR_ok3 gT_all (hd_2857) rfl pn_RX12 tk_X12_paste bo_RX12 xo_RX12 (cto_2854 l) ch_2857 cut_nil
/-- RookHustingModel paste -/
noncomputable def gi_3308 : GI := jl_n [gp_972, gp_942]
noncomputable def gi_3309 : GI := jl_n [gp_991, gp_965]
noncomputable def gi_3310 : GI := jl_n [gp_991, gp_970]
noncomputable def con_2858 : Con2 := ((yX12_paste, cX12_paste, 7, (some .int)), (2, 45), ([(6, 0, 0), (0, 3, 0), (1, 2, 0), (0, 3, 0), (1, 4, 0), (1, 5, 0)], gi_3308, [ac_1585, ac_1586, ac_1587, ac_807, ac_1588], []), [((0, (-6), 0), gi_3309, hq_1040, [], [1]), ((0, (-7), 0), gi_3310, hq_1040, [([(2, 1), (5, 1), (54, (-1))], (-1))], [1]), ((0, (-7), 0), gi_3310, hq_1040, [([(4, 1), (5, 1), (54, (-1))], (-1))], [1]), ((0, 0, 0), gi_3296, hq_1043, rq_26, [1])])
theorem hd_2858 : con_2858.1 = (yX12_paste, cX12_paste, 7, (some .int)) := rfl
noncomputable def rf_2858 : List (Nat × List POP) := [(17, [(1, (1, 1, 0), 0, 0), (1, (1, 3, 0), 0, 0)]), (52, [(1, (0, 1, 0), 0, 0)]), (110, [(0, (1, 2, 0), 0, 60), (0, (1, 4, 0), 0, 60), (0, (1, 5, 0), 0, 60)]), (139, [(0, (0, 0, 0), 0, 239)]), (178, [(0, (0, 1, 0), 0, 239)])]
noncomputable def cu_2858 : List CUT2 := [((113, [lq 0 6 0, lq 1 0 3, lq 2 1 2, lq 3 0 3, lq 4 1 4, lq 5 1 5, lq 6 1 65], [], gi_3297, hq_1044), rq_27, ([(65, (-1))], 121)), ((150, [lq 0 6 0, lq 1 0 3, lq 2 1 2, lq 3 0 3, lq 4 1 4, lq 5 1 5, lq 6 1 65], [], gi_3297, hq_1043), rq_27, ([(65, (-1))], 60))]
theorem ch_2858 : staG tb_X12_paste 3 bt_RX12 [] ct_2854 rf_2858 [77, 85, 95, 103, 117, 138, 154, 170] cu_2858 60 con_2858 = true := by decide +kernel
theorem cc_2858 : cu_2858.all (cutG tb_X12_paste 3 bt_RX12 [] ct_2854 rf_2858 [77, 85, 95, 103, 117, 138, 154, 170] cu_2858 60 con_2858) = true := by decide +kernel
theorem vl_2858 (l : Launch) : Vld2 l vwCl gTbl con_2858 := conR_ok3 gT_all (hd_2858) rfl pn_RX12 tk_X12_paste bo_RX12 xo_RX12 (cto_2854 l) ch_2858 (cut_all cc_2858)
/-- RookHustingModel paste -/
noncomputable def gi_3311 : GI := jl_n [gp_966, jl_i 0 2147483647, gp_942]
noncomputable def gi_3312 : GI := jl_n [gp_992, gp_965]
noncomputable def con_2859 : Con2 := ((yX12_paste, cX12_paste, 7, (some .int)), (2, 45), ([(6, 0, 0), (0, 3, 0), (1, 2, 0), (0, 3, 0), (1, 4, 0), (1, 5, 0)], gi_3311, [ac_1585, ac_1586, ac_1587, ac_807, ac_1588], []), [((0, (-6), 0), gi_3312, hq_1040, [], [1]), ((0, (-7), 0), gi_3310, hq_1040, [([(2, 1), (5, 1), (54, (-1))], (-1))], [1]), ((0, (-7), 0), gi_3310, hq_1040, [([(4, 1), (5, 1), (54, (-1))], (-1))], [1]), ((0, (-7), 0), gi_3304, hq_1040, [], [1]), ((0, 0, 0), gi_3296, hq_1043, rq_26, [1])])
theorem hd_2859 : con_2859.1 = (yX12_paste, cX12_paste, 7, (some .int)) := rfl
noncomputable def rf_2859 : List (Nat × List POP) := [(17, [(1, (1, 1, 0), 0, 0), (1, (1, 3, 0), 0, 0)]), (52, [(1, (0, 1, 0), 0, 0)]), (110, [(0, (1, 2, 0), 0, 60), (0, (1, 4, 0), 0, 60), (0, (1, 5, 0), 0, 60)]), (139, [(0, (0, 0, 0), 0, 239)]), (178, [(0, (0, 1, 0), 0, 239)])]
noncomputable def cu_2859 : List CUT2 := [((113, [lq 0 6 0, lq 1 0 3, lq 2 1 2, lq 3 0 3, lq 4 1 4, lq 5 1 5, lq 6 1 65], [], gi_3297, hq_1044), rq_27, ([(65, (-1))], 121)), ((150, [lq 0 6 0, lq 1 0 3, lq 2 1 2, lq 3 0 3, lq 4 1 4, lq 5 1 5, lq 6 1 65], [], gi_3297, hq_1043), rq_27, ([(65, (-1))], 60))]
theorem ch_2859 : staG tb_X12_paste 3 bt_RX12 [] ct_2854 rf_2859 [77, 85, 95, 103, 117, 138, 154, 170] cu_2859 60 con_2859 = true := by decide +kernel
theorem cc_2859 : cu_2859.all (cutG tb_X12_paste 3 bt_RX12 [] ct_2854 rf_2859 [77, 85, 95, 103, 117, 138, 154, 170] cu_2859 60 con_2859) = true := by decide +kernel
theorem vl_2859 (l : Launch) : Vld2 l vwCl gTbl con_2859 := conR_ok3 gT_all (hd_2859) rfl pn_RX12 tk_X12_paste bo_RX12 xo_RX12 (cto_2854 l) ch_2859 (cut_all cc_2859)
/-- RookHustingModel paste -/
noncomputable def gi_3313 : GI := jl_n [gp_962, gp_942]
noncomputable def gi_3314 : GI := jl_n [gp_993, gp_965]
noncomputable def gi_3315 : GI := jl_n [gp_994, gp_970]
noncomputable def con_2860 : Con2 := ((yX12_paste, cX12_paste, 7, (some .int)), (2, 45), ([(6, 0, 0), (0, 3, 0), (1, 2, 0), (0, 3, 0), (1, 4, 0), (1, 5, 0)], gi_3313, [ac_1585, ac_1586, ac_1587, ac_807, ac_1588], []), [((0, (-6), 0), gi_3314, hq_1040, [], [1]), ((0, (-7), 0), gi_3310, hq_1040, [([(2, 1), (5, 1), (54, (-1))], (-1))], [1]), ((0, (-7), 0), gi_3310, hq_1040, [([(4, 1), (5, 1), (54, (-1))], (-1))], [1]), ((0, (-7), 0), gi_3307, hq_1040, [], [1]), ((0, (-7), 0), gi_3315, hq_1040, [], [1]), ((0, (-7), 0), gi_3301, hq_1040, [], [1]), ((0, 0, 0), gi_3296, hq_1043, rq_26, [1])])
theorem hd_2860 : con_2860.1 = (yX12_paste, cX12_paste, 7, (some .int)) := rfl
noncomputable def rf_2860 : List (Nat × List POP) := [(17, [(1, (1, 1, 0), 0, 0), (1, (1, 3, 0), 0, 0)]), (52, [(1, (0, 1, 0), 0, 0)]), (110, [(0, (1, 2, 0), 0, 60), (0, (1, 4, 0), 0, 60), (0, (1, 5, 0), 0, 60)]), (139, [(0, (0, 0, 0), 0, 239)]), (178, [(0, (0, 1, 0), 0, 239)])]
noncomputable def cu_2860 : List CUT2 := [((113, [lq 0 6 0, lq 1 0 3, lq 2 1 2, lq 3 0 3, lq 4 1 4, lq 5 1 5, lq 6 1 65], [], gi_3297, hq_1044), rq_27, ([(65, (-1))], 121)), ((150, [lq 0 6 0, lq 1 0 3, lq 2 1 2, lq 3 0 3, lq 4 1 4, lq 5 1 5, lq 6 1 65], [], gi_3297, hq_1043), rq_27, ([(65, (-1))], 60))]
theorem ch_2860 : staG tb_X12_paste 3 bt_RX12 [] ct_2854 rf_2860 [77, 85, 95, 103, 117, 138, 154, 170] cu_2860 60 con_2860 = true := by decide +kernel
theorem cc_2860 : cu_2860.all (cutG tb_X12_paste 3 bt_RX12 [] ct_2854 rf_2860 [77, 85, 95, 103, 117, 138, 154, 170] cu_2860 60 con_2860) = true := by decide +kernel
theorem vl_2860 (l : Launch) : Vld2 l vwCl gTbl con_2860 := conR_ok3 gT_all (hd_2860) rfl pn_RX12 tk_X12_paste bo_RX12 xo_RX12 (cto_2854 l) ch_2860 (cut_all cc_2860)
/-- RookHusting$Slots holds -/
noncomputable def gi_3316 : GI := jl_n [gp_960, gp_493, jl_z 1]
noncomputable def rq_28 : RLs := [([(2, (-1)), (3, (-1))], 60), ([(2, (-1)), (3, (-1)), (9, 1)], 0)]
noncomputable def con_2861 : Con2 := ((yX8_holds, cX8_holds, 4, (some .boolean)), (0, 0), ([(6, 0, 0), (0, 2, 0), (1, 2, 0), (1, 3, 0)], gi_3284, [.inl (8, [(8, 4, 0), (8, 5, 0), (6, 1, 0)]), ac_1553], []), [((0, 0, 0), gi_3285, hq_1041, [], [1]), ((0, 0, 0), gi_3281, hq_1041, [([(2, 1), (3, 1), (9, (-1))], (-1))], [1]), ((0, 1, 0), gi_3316, hq_1041, rq_28, [1])])
theorem hd_2861 : con_2861.1 = (yX8_holds, cX8_holds, 4, (some .boolean)) := rfl
noncomputable def cu_2861 : List CUT2 := []
theorem ch_2861 : staG tb_X8_holds 2 bt_RX8 [] ct_1253 [] [12, 20] cu_2861 20 con_2861 = true := by decide +kernel
theorem vl_2861 (l : Launch) : Vld2 l vwCl gTbl con_2861 := conR_ok3 gT_all (hd_2861) rfl pn_RX8 tk_X8_holds bo_RX8 xo_RX8 (cto_1253 l) ch_2861 cut_nil
/-- RookHusting paste -/
noncomputable def gi_3317 : GI := jl_n [gp_963, gp_491, gp_969]
noncomputable def gi_3318 : GI := jl_n [gp_968, gp_996]
noncomputable def rq_29 : RLs := [([(31, (-1)), (32, 1)], 0), ([(31, 1), (32, (-1))], 0), ([(2, 1), (5, 1), (28, (-1))], (-1))]
noncomputable def gi_3319 : GI := jl_n [gp_973, gp_996]
noncomputable def rq_30 : RLs := [([(31, (-1)), (32, 1)], 0), ([(31, 1), (32, (-1))], 0), ([(4, 1), (5, 1), (27, (-1))], (-1))]
noncomputable def gi_3320 : GI := jl_n [gp_975, gp_996]
noncomputable def gi_3321 : GI := jl_n [gp_977, gp_996]
noncomputable def gi_3322 : GI := jl_n [gp_979, gp_996]
noncomputable def gi_3323 : GI := jl_n [gp_963, gp_997, gp_998, jl_z 1]
noncomputable def gi_3324 : GI := jl_n [gp_963, gp_997, gp_999, jl_z 1]
noncomputable def gi_3325 : GI := jl_n [gp_982, gp_996]
noncomputable def rq_31 : RLs := [([(31, (-1)), (32, 1)], 0), ([(31, 1), (32, (-1))], 0), ([(2, (-1)), (5, (-1)), (28, 1)], 0), ([(4, (-1)), (5, (-1)), (27, 1)], 0)]
noncomputable def con_2862 : Con2 := ((yX11_paste, cX11_paste, 6, (some .int)), (1, 23), ([(6, 0, 0), (0, 3, 0), (1, 2, 0), (0, 2, 0), (1, 4, 0), (1, 5, 0)], gi_3286, hc_264, []), [((0, (-6), 0), gi_3287, hq_1039, [], [1]), ((0, (-6), 0), gi_3317, hq_1039, [], [1]), ((0, (-7), 0), gi_3318, hq_1039, rq_29, [1]), ((0, (-7), 0), gi_3319, hq_1039, rq_30, [1]), ((0, (-7), 0), gi_3320, hq_1039, [([(31, (-1)), (32, 1)], 0), ([(31, 1), (32, (-1))], 0)], [1]), ((0, (-7), 0), gi_3321, hq_1039, [([(31, (-1)), (32, 1)], 0), ([(31, 1), (32, (-1))], 0)], [1]), ((0, (-7), 0), gi_3322, hq_1039, [([(31, (-1)), (32, 1)], 0), ([(31, 1), (32, (-1))], 0)], [1]), ((0, (-8), 0), gi_3323, hq_1039, [([(31, (-1)), (32, 1)], (-1))], [1]), ((0, (-8), 0), gi_3324, hq_1039, [([(31, 1), (32, (-1))], (-1))], [1]), ((0, 0, 0), gi_3325, hq_1042, rq_31, [1])])
theorem hd_2862 : con_2862.1 = (yX11_paste, cX11_paste, 6, (some .int)) := rfl
theorem ck_RX11_433_2861 : COK2 RX11 vwCl gTbl 433 0 con_2861 := ⟨wd_1393, wd_131, mh_X8_holds, .inr (.inr ⟨rfl, wd_1390, wd_1391, wd_1392, ⟨_, rfl, pd_X8_holds⟩, 8, _, TX8, 3, rfl, rfl⟩)⟩
noncomputable def ct_2862 : CTB2 := [(1, 414, 1, con_1255, []), (8, 414, 1, con_1321, []), (22, 420, 0, con_1256, [1, 2]), (33, 420, 0, con_1322, [1, 2]), (74, 433, 0, con_2851, [1, 2]), (89, 433, 0, con_2861, [1, 2])]
noncomputable def rf_2862 : List (Nat × List POP) := [(60, [(1, (0, 1, 0), 0, 0)]), (98, [(0, (1, 2, 0), 0, 60), (0, (1, 4, 0), 0, 60), (0, (1, 5, 0), 0, 60)])]
noncomputable def cu_2862 : List CUT2 := []
theorem ch_2862 : staG tb_X11_paste 2 bt_RX11 [] ct_2862 rf_2862 [110, 124] cu_2862 63 con_2862 = true := by decide +kernel
theorem cto_2862 (l : Launch) : CTOK2 l RX11 vwCl gTbl ct_2862 := ct2_cons (vl_1255 l) ck_RX11_414_1255 (ct2_cons (vl_1321 l) ck_RX11_414_1321 (ct2_cons (vl_1256 l) ck_RX11_420_1256 (ct2_cons (vl_1322 l) ck_RX11_420_1322 (ct2_cons (vl_2851 l) ck_RX11_433_2851 (ct2_cons (vl_2861 l) ck_RX11_433_2861 (ct2_nil))))))
theorem vl_2862 (l : Launch) : Vld2 l vwCl gTbl con_2862 := conR_ok3 gT_all (hd_2862) rfl pn_RX11 tk_X11_paste bo_RX11 xo_RX11 (cto_2862 l) ch_2862 cut_nil
/-- RookHustingModel paste -/
noncomputable def gi_3326 : GI := jl_n [gp_983, gp_491, gp_969]
noncomputable def gi_3327 : GI := jl_n [gp_983, gp_996]
noncomputable def rq_32 : RLs := [([(57, (-1)), (58, 1)], 0), ([(57, 1), (58, (-1))], 0), ([(2, 1), (5, 1), (54, (-1))], (-1))]
noncomputable def rq_33 : RLs := [([(57, (-1)), (58, 1)], 0), ([(57, 1), (58, (-1))], 0), ([(4, 1), (5, 1), (53, (-1))], (-1))]
noncomputable def gi_3328 : GI := jl_n [gp_983, gp_997, gp_998, jl_z 1]
noncomputable def gi_3329 : GI := jl_n [gp_983, gp_997, gp_999, jl_z 1]
noncomputable def rq_34 : RLs := [([(57, (-1)), (58, 1)], 0), ([(57, 1), (58, (-1))], 0), ([(2, (-1)), (5, (-1)), (54, 1)], 0), ([(4, (-1)), (5, (-1)), (53, 1)], 0)]
noncomputable def con_2863 : Con2 := ((yX12_paste, cX12_paste, 7, (some .int)), (2, 45), ([(6, 0, 0), (0, 3, 0), (1, 2, 0), (0, 2, 0), (1, 4, 0), (1, 5, 0)], gi_3294, [ac_1585, ac_1586, ac_1587, ac_807, ac_1588], []), [((0, (-6), 0), gi_3295, hq_1040, [], [1]), ((0, (-6), 0), gi_3326, hq_1040, [], [1]), ((0, (-7), 0), gi_3327, hq_1040, rq_32, [1]), ((0, (-7), 0), gi_3327, hq_1040, rq_33, [1]), ((0, (-8), 0), gi_3328, hq_1040, [([(57, (-1)), (58, 1)], (-1))], [1]), ((0, (-8), 0), gi_3329, hq_1040, [([(57, 1), (58, (-1))], (-1))], [1]), ((0, 0, 0), gi_3327, hq_1043, rq_34, [1])])
theorem hd_2863 : con_2863.1 = (yX12_paste, cX12_paste, 7, (some .int)) := rfl
noncomputable def ct_2863 : CTB2 := [(1, 414, 1, con_1930, []), (8, 414, 1, con_2082, [])]
noncomputable def rf_2863 : List (Nat × List POP) := [(17, [(1, (1, 1, 0), 0, 0), (1, (1, 3, 0), 0, 0)]), (52, [(1, (0, 1, 0), 0, 0)]), (110, [(0, (1, 2, 0), 0, 60), (0, (1, 4, 0), 0, 60), (0, (1, 5, 0), 0, 60)]), (139, [(0, (0, 0, 0), 0, 239)]), (178, [(0, (0, 1, 0), 0, 239)])]
noncomputable def gi_3330 : GI := jl_n [gp_983, gp_995, gp_984]
noncomputable def rq_35 : RLs := [([(2, (-1)), (5, (-1))], 60), ([(4, (-1)), (5, (-1))], 60), ([(2, (-1)), (5, (-1)), (54, 1)], 0), ([(4, (-1)), (5, (-1)), (53, 1)], 0), ([(57, (-1)), (58, 1)], 0), ([(57, 1), (58, (-1))], 0)]
noncomputable def cu_2863 : List CUT2 := [((113, [lq 0 6 0, lq 1 0 3, lq 2 1 2, lq 3 0 2, lq 4 1 4, lq 5 1 5, lq 6 1 65], [], gi_3330, hq_1044), rq_35, ([(65, (-1))], 121)), ((150, [lq 0 6 0, lq 1 0 3, lq 2 1 2, lq 3 0 2, lq 4 1 4, lq 5 1 5, lq 6 1 65], [], gi_3330, hq_1043), rq_35, ([(65, (-1))], 60))]
theorem ch_2863 : staG tb_X12_paste 3 bt_RX12 [] ct_2863 rf_2863 [77, 85, 95, 103, 117, 138, 154, 170] cu_2863 60 con_2863 = true := by decide +kernel
theorem cc_2863 : cu_2863.all (cutG tb_X12_paste 3 bt_RX12 [] ct_2863 rf_2863 [77, 85, 95, 103, 117, 138, 154, 170] cu_2863 60 con_2863) = true := by decide +kernel
theorem cto_2863 (l : Launch) : CTOK2 l RX12 vwCl gTbl ct_2863 := ct2_cons (vl_1930 l) ck_RX12_414_1930 (ct2_cons (vl_2082 l) ck_RX12_414_2082 (ct2_nil))
theorem vl_2863 (l : Launch) : Vld2 l vwCl gTbl con_2863 := conR_ok3 gT_all (hd_2863) rfl pn_RX12 tk_X12_paste bo_RX12 xo_RX12 (cto_2863 l) ch_2863 (cut_all cc_2863)
/-- RookHustingModel paste -/
noncomputable def gi_3331 : GI := jl_n [gp_993, gp_491, gp_969]
noncomputable def gi_3332 : GI := jl_n [gp_991, gp_996]
noncomputable def gi_3333 : GI := jl_n [gp_990, gp_996]
noncomputable def gi_3334 : GI := jl_n [gp_994, gp_996]
noncomputable def gi_3335 : GI := jl_n [gp_987, gp_996]
noncomputable def gi_3336 : GI := jl_n [gp_993, gp_997, gp_998, jl_z 1]
noncomputable def gi_3337 : GI := jl_n [gp_993, gp_997, gp_999, jl_z 1]
noncomputable def con_2864 : Con2 := ((yX12_paste, cX12_paste, 7, (some .int)), (2, 45), ([(6, 0, 0), (0, 3, 0), (1, 2, 0), (0, 2, 0), (1, 4, 0), (1, 5, 0)], gi_3313, [ac_1585, ac_1586, ac_1587, ac_807, ac_1588], []), [((0, (-6), 0), gi_3314, hq_1040, [], [1]), ((0, (-6), 0), gi_3331, hq_1040, [], [1]), ((0, (-7), 0), gi_3332, hq_1040, rq_32, [1]), ((0, (-7), 0), gi_3332, hq_1040, rq_33, [1]), ((0, (-7), 0), gi_3333, hq_1040, [([(57, (-1)), (58, 1)], 0), ([(57, 1), (58, (-1))], 0)], [1]), ((0, (-7), 0), gi_3334, hq_1040, [([(57, (-1)), (58, 1)], 0), ([(57, 1), (58, (-1))], 0)], [1]), ((0, (-7), 0), gi_3335, hq_1040, [([(57, (-1)), (58, 1)], 0), ([(57, 1), (58, (-1))], 0)], [1]), ((0, (-8), 0), gi_3336, hq_1040, [([(57, (-1)), (58, 1)], (-1))], [1]), ((0, (-8), 0), gi_3337, hq_1040, [([(57, 1), (58, (-1))], (-1))], [1]), ((0, 0, 0), gi_3327, hq_1043, rq_34, [1])])
theorem hd_2864 : con_2864.1 = (yX12_paste, cX12_paste, 7, (some .int)) := rfl
noncomputable def rf_2864 : List (Nat × List POP) := [(17, [(1, (1, 1, 0), 0, 0), (1, (1, 3, 0), 0, 0)]), (52, [(1, (0, 1, 0), 0, 0)]), (110, [(0, (1, 2, 0), 0, 60), (0, (1, 4, 0), 0, 60), (0, (1, 5, 0), 0, 60)]), (139, [(0, (0, 0, 0), 0, 239)]), (178, [(0, (0, 1, 0), 0, 239)])]
noncomputable def cu_2864 : List CUT2 := [((113, [lq 0 6 0, lq 1 0 3, lq 2 1 2, lq 3 0 2, lq 4 1 4, lq 5 1 5, lq 6 1 65], [], gi_3330, hq_1044), rq_35, ([(65, (-1))], 121)), ((150, [lq 0 6 0, lq 1 0 3, lq 2 1 2, lq 3 0 2, lq 4 1 4, lq 5 1 5, lq 6 1 65], [], gi_3330, hq_1043), rq_35, ([(65, (-1))], 60))]
theorem ch_2864 : staG tb_X12_paste 3 bt_RX12 [] ct_2863 rf_2864 [77, 85, 95, 103, 117, 138, 154, 170] cu_2864 60 con_2864 = true := by decide +kernel
theorem cc_2864 : cu_2864.all (cutG tb_X12_paste 3 bt_RX12 [] ct_2863 rf_2864 [77, 85, 95, 103, 117, 138, 154, 170] cu_2864 60 con_2864) = true := by decide +kernel
theorem vl_2864 (l : Launch) : Vld2 l vwCl gTbl con_2864 := conR_ok3 gT_all (hd_2864) rfl pn_RX12 tk_X12_paste bo_RX12 xo_RX12 (cto_2863 l) ch_2864 (cut_all cc_2864)
/-- RookHusting$Slots holds -/
noncomputable def gi_3338 : GI := jl_n [gp_960, jl_m 0 60, gp_538, jl_z 1]
noncomputable def rq_36 : RLs := [([(2, (-1)), (3, (-1))], 60), ([(2, (-1)), (3, (-1)), (8, 1)], 0)]
noncomputable def con_2865 : Con2 := ((yX8_holds, cX8_holds, 4, (some .boolean)), (0, 0), ([(6, 0, 0), (0, 1, 0), (1, 2, 0), (1, 3, 0)], gi_3284, [.inl (8, [(8, 4, 0), (8, 5, 0), (6, 1, 0)]), ac_1553], []), [((0, 0, 0), gi_3285, hq_1041, [], [1]), ((0, 0, 0), gi_3281, hq_1041, [([(2, 1), (3, 1), (8, (-1))], (-1))], [1]), ((0, 1, 0), gi_3338, hq_1041, rq_36, [1])])
theorem hd_2865 : con_2865.1 = (yX8_holds, cX8_holds, 4, (some .boolean)) := rfl
noncomputable def cu_2865 : List CUT2 := []
theorem ch_2865 : staG tb_X8_holds 2 bt_RX8 [] ct_1253 [] [12, 20] cu_2865 20 con_2865 = true := by decide +kernel
theorem vl_2865 (l : Launch) : Vld2 l vwCl gTbl con_2865 := conR_ok3 gT_all (hd_2865) rfl pn_RX8 tk_X8_holds bo_RX8 xo_RX8 (cto_1253 l) ch_2865 cut_nil
/-- RookHusting paste -/
noncomputable def gi_3339 : GI := jl_n [gp_963, gp_537, jl_m 0 60, gp_969]
noncomputable def gi_3340 : GI := jl_n [gp_968, gp_1001]
noncomputable def rq_37 : RLs := [([(30, (-1)), (32, 1)], 0), ([(30, 1), (32, (-1))], 0), ([(2, 1), (5, 1), (28, (-1))], (-1))]
noncomputable def gi_3341 : GI := jl_n [gp_973, gp_1001]
noncomputable def rq_38 : RLs := [([(30, (-1)), (32, 1)], 0), ([(30, 1), (32, (-1))], 0), ([(4, 1), (5, 1), (26, (-1))], (-1))]
noncomputable def gi_3342 : GI := jl_n [gp_975, gp_1001]
noncomputable def gi_3343 : GI := jl_n [gp_977, gp_1001]
noncomputable def gi_3344 : GI := jl_n [gp_979, gp_1001]
noncomputable def gi_3345 : GI := jl_n [gp_963, gp_1002, gp_1003, gp_1004, jl_z 1]
noncomputable def gi_3346 : GI := jl_n [gp_963, gp_1002, gp_1004, gp_1003, jl_z 1]
noncomputable def gi_3347 : GI := jl_n [gp_982, gp_1001]
noncomputable def rq_39 : RLs := [([(30, (-1)), (32, 1)], 0), ([(30, 1), (32, (-1))], 0), ([(2, (-1)), (5, (-1)), (28, 1)], 0), ([(4, (-1)), (5, (-1)), (26, 1)], 0)]
noncomputable def con_2866 : Con2 := ((yX11_paste, cX11_paste, 6, (some .int)), (1, 23), ([(6, 0, 0), (0, 3, 0), (1, 2, 0), (0, 1, 0), (1, 4, 0), (1, 5, 0)], gi_3286, hc_264, []), [((0, (-6), 0), gi_3287, hq_1039, [], [1]), ((0, (-6), 0), gi_3339, hq_1039, [], [1]), ((0, (-7), 0), gi_3340, hq_1039, rq_37, [1]), ((0, (-7), 0), gi_3341, hq_1039, rq_38, [1]), ((0, (-7), 0), gi_3342, hq_1039, [([(30, (-1)), (32, 1)], 0), ([(30, 1), (32, (-1))], 0)], [1]), ((0, (-7), 0), gi_3343, hq_1039, [([(30, (-1)), (32, 1)], 0), ([(30, 1), (32, (-1))], 0)], [1]), ((0, (-7), 0), gi_3344, hq_1039, [([(30, (-1)), (32, 1)], 0), ([(30, 1), (32, (-1))], 0)], [1]), ((0, (-8), 0), gi_3345, hq_1039, [([(30, (-1)), (32, 1)], (-1))], [1]), ((0, (-8), 0), gi_3346, hq_1039, [([(30, 1), (32, (-1))], (-1))], [1]), ((0, 0, 0), gi_3347, hq_1042, rq_39, [1])])
theorem hd_2866 : con_2866.1 = (yX11_paste, cX11_paste, 6, (some .int)) := rfl
theorem ck_RX11_433_2865 : COK2 RX11 vwCl gTbl 433 0 con_2865 := ⟨wd_1393, wd_131, mh_X8_holds, .inr (.inr ⟨rfl, wd_1390, wd_1391, wd_1392, ⟨_, rfl, pd_X8_holds⟩, 8, _, TX8, 3, rfl, rfl⟩)⟩
noncomputable def ct_2866 : CTB2 := [(1, 414, 1, con_1255, []), (8, 414, 1, con_1384, []), (22, 420, 0, con_1256, [1, 2]), (33, 420, 0, con_1385, [1, 2]), (74, 433, 0, con_2851, [1, 2]), (89, 433, 0, con_2865, [1, 2])]
noncomputable def rf_2866 : List (Nat × List POP) := [(60, [(1, (0, 1, 0), 0, 0)]), (98, [(0, (1, 2, 0), 0, 60), (0, (1, 4, 0), 0, 60), (0, (1, 5, 0), 0, 60)])]
noncomputable def cu_2866 : List CUT2 := []
theorem ch_2866 : staG tb_X11_paste 2 bt_RX11 [] ct_2866 rf_2866 [110, 124] cu_2866 63 con_2866 = true := by decide +kernel
theorem cto_2866 (l : Launch) : CTOK2 l RX11 vwCl gTbl ct_2866 := ct2_cons (vl_1255 l) ck_RX11_414_1255 (ct2_cons (vl_1384 l) ck_RX11_414_1384 (ct2_cons (vl_1256 l) ck_RX11_420_1256 (ct2_cons (vl_1385 l) ck_RX11_420_1385 (ct2_cons (vl_2851 l) ck_RX11_433_2851 (ct2_cons (vl_2865 l) ck_RX11_433_2865 (ct2_nil))))))
theorem vl_2866 (l : Launch) : Vld2 l vwCl gTbl con_2866 := conR_ok3 gT_all (hd_2866) rfl pn_RX11 tk_X11_paste bo_RX11 xo_RX11 (cto_2866 l) ch_2866 cut_nil
/-- RookHustingModel paste -/
noncomputable def gi_3348 : GI := jl_n [gp_983, gp_537, jl_m 0 60, gp_969]
noncomputable def gi_3349 : GI := jl_n [gp_983, gp_1001]
noncomputable def rq_40 : RLs := [([(56, (-1)), (58, 1)], 0), ([(56, 1), (58, (-1))], 0), ([(2, 1), (5, 1), (54, (-1))], (-1))]
noncomputable def rq_41 : RLs := [([(56, (-1)), (58, 1)], 0), ([(56, 1), (58, (-1))], 0), ([(4, 1), (5, 1), (52, (-1))], (-1))]
noncomputable def gi_3350 : GI := jl_n [gp_983, gp_1002, gp_1003, gp_1004, jl_z 1]
noncomputable def gi_3351 : GI := jl_n [gp_983, gp_1002, gp_1004, gp_1003, jl_z 1]
noncomputable def rq_42 : RLs := [([(56, (-1)), (58, 1)], 0), ([(56, 1), (58, (-1))], 0), ([(2, (-1)), (5, (-1)), (54, 1)], 0), ([(4, (-1)), (5, (-1)), (52, 1)], 0)]
noncomputable def con_2867 : Con2 := ((yX12_paste, cX12_paste, 7, (some .int)), (2, 45), ([(6, 0, 0), (0, 3, 0), (1, 2, 0), (0, 1, 0), (1, 4, 0), (1, 5, 0)], gi_3294, [ac_1585, ac_1586, ac_1587, ac_807, ac_1588], []), [((0, (-6), 0), gi_3295, hq_1040, [], [1]), ((0, (-6), 0), gi_3348, hq_1040, [], [1]), ((0, (-7), 0), gi_3349, hq_1040, rq_40, [1]), ((0, (-7), 0), gi_3349, hq_1040, rq_41, [1]), ((0, (-8), 0), gi_3350, hq_1040, [([(56, (-1)), (58, 1)], (-1))], [1]), ((0, (-8), 0), gi_3351, hq_1040, [([(56, 1), (58, (-1))], (-1))], [1]), ((0, 0, 0), gi_3349, hq_1043, rq_42, [1])])
theorem hd_2867 : con_2867.1 = (yX12_paste, cX12_paste, 7, (some .int)) := rfl
noncomputable def ct_2867 : CTB2 := [(1, 414, 1, con_1930, []), (8, 414, 1, con_2226, [])]
noncomputable def rf_2867 : List (Nat × List POP) := [(17, [(1, (1, 1, 0), 0, 0), (1, (1, 3, 0), 0, 0)]), (52, [(1, (0, 1, 0), 0, 0)]), (110, [(0, (1, 2, 0), 0, 60), (0, (1, 4, 0), 0, 60), (0, (1, 5, 0), 0, 60)]), (139, [(0, (0, 0, 0), 0, 239)]), (178, [(0, (0, 1, 0), 0, 239)])]
noncomputable def gi_3352 : GI := jl_n [gp_983, gp_1002, gp_984]
noncomputable def rq_43 : RLs := [([(2, (-1)), (5, (-1))], 60), ([(4, (-1)), (5, (-1))], 60), ([(2, (-1)), (5, (-1)), (54, 1)], 0), ([(4, (-1)), (5, (-1)), (52, 1)], 0), ([(56, (-1)), (58, 1)], 0), ([(56, 1), (58, (-1))], 0)]
noncomputable def cu_2867 : List CUT2 := [((113, [lq 0 6 0, lq 1 0 3, lq 2 1 2, lq 3 0 1, lq 4 1 4, lq 5 1 5, lq 6 1 65], [], gi_3352, hq_1044), rq_43, ([(65, (-1))], 121)), ((150, [lq 0 6 0, lq 1 0 3, lq 2 1 2, lq 3 0 1, lq 4 1 4, lq 5 1 5, lq 6 1 65], [], gi_3352, hq_1043), rq_43, ([(65, (-1))], 60))]
theorem ch_2867 : staG tb_X12_paste 3 bt_RX12 [] ct_2867 rf_2867 [77, 85, 95, 103, 117, 138, 154, 170] cu_2867 60 con_2867 = true := by decide +kernel
theorem cc_2867 : cu_2867.all (cutG tb_X12_paste 3 bt_RX12 [] ct_2867 rf_2867 [77, 85, 95, 103, 117, 138, 154, 170] cu_2867 60 con_2867) = true := by decide +kernel
theorem cto_2867 (l : Launch) : CTOK2 l RX12 vwCl gTbl ct_2867 := ct2_cons (vl_1930 l) ck_RX12_414_1930 (ct2_cons (vl_2226 l) ck_RX12_414_2226 (ct2_nil))
theorem vl_2867 (l : Launch) : Vld2 l vwCl gTbl con_2867 := conR_ok3 gT_all (hd_2867) rfl pn_RX12 tk_X12_paste bo_RX12 xo_RX12 (cto_2867 l) ch_2867 (cut_all cc_2867)
/-- RookHustingModel paste -/
noncomputable def gi_3353 : GI := jl_n [gp_993, gp_537, jl_m 0 60, gp_969]
noncomputable def gi_3354 : GI := jl_n [gp_991, gp_1001]
noncomputable def gi_3355 : GI := jl_n [gp_990, gp_1001]
noncomputable def gi_3356 : GI := jl_n [gp_994, gp_1001]
noncomputable def gi_3357 : GI := jl_n [gp_987, gp_1001]
noncomputable def gi_3358 : GI := jl_n [gp_993, gp_1002, gp_1003, gp_1004, jl_z 1]
noncomputable def gi_3359 : GI := jl_n [gp_993, gp_1002, gp_1004, gp_1003, jl_z 1]
noncomputable def con_2868 : Con2 := ((yX12_paste, cX12_paste, 7, (some .int)), (2, 45), ([(6, 0, 0), (0, 3, 0), (1, 2, 0), (0, 1, 0), (1, 4, 0), (1, 5, 0)], gi_3313, [ac_1585, ac_1586, ac_1587, ac_807, ac_1588], []), [((0, (-6), 0), gi_3314, hq_1040, [], [1]), ((0, (-6), 0), gi_3353, hq_1040, [], [1]), ((0, (-7), 0), gi_3354, hq_1040, rq_40, [1]), ((0, (-7), 0), gi_3354, hq_1040, rq_41, [1]), ((0, (-7), 0), gi_3355, hq_1040, [([(56, (-1)), (58, 1)], 0), ([(56, 1), (58, (-1))], 0)], [1]), ((0, (-7), 0), gi_3356, hq_1040, [([(56, (-1)), (58, 1)], 0), ([(56, 1), (58, (-1))], 0)], [1]), ((0, (-7), 0), gi_3357, hq_1040, [([(56, (-1)), (58, 1)], 0), ([(56, 1), (58, (-1))], 0)], [1]), ((0, (-8), 0), gi_3358, hq_1040, [([(56, (-1)), (58, 1)], (-1))], [1]), ((0, (-8), 0), gi_3359, hq_1040, [([(56, 1), (58, (-1))], (-1))], [1]), ((0, 0, 0), gi_3349, hq_1043, rq_42, [1])])
theorem hd_2868 : con_2868.1 = (yX12_paste, cX12_paste, 7, (some .int)) := rfl
noncomputable def rf_2868 : List (Nat × List POP) := [(17, [(1, (1, 1, 0), 0, 0), (1, (1, 3, 0), 0, 0)]), (52, [(1, (0, 1, 0), 0, 0)]), (110, [(0, (1, 2, 0), 0, 60), (0, (1, 4, 0), 0, 60), (0, (1, 5, 0), 0, 60)]), (139, [(0, (0, 0, 0), 0, 239)]), (178, [(0, (0, 1, 0), 0, 239)])]
noncomputable def cu_2868 : List CUT2 := [((113, [lq 0 6 0, lq 1 0 3, lq 2 1 2, lq 3 0 1, lq 4 1 4, lq 5 1 5, lq 6 1 65], [], gi_3352, hq_1044), rq_43, ([(65, (-1))], 121)), ((150, [lq 0 6 0, lq 1 0 3, lq 2 1 2, lq 3 0 1, lq 4 1 4, lq 5 1 5, lq 6 1 65], [], gi_3352, hq_1043), rq_43, ([(65, (-1))], 60))]
theorem ch_2868 : staG tb_X12_paste 3 bt_RX12 [] ct_2867 rf_2868 [77, 85, 95, 103, 117, 138, 154, 170] cu_2868 60 con_2868 = true := by decide +kernel
theorem cc_2868 : cu_2868.all (cutG tb_X12_paste 3 bt_RX12 [] ct_2867 rf_2868 [77, 85, 95, 103, 117, 138, 154, 170] cu_2868 60 con_2868) = true := by decide +kernel
theorem vl_2868 (l : Launch) : Vld2 l vwCl gTbl con_2868 := conR_ok3 gT_all (hd_2868) rfl pn_RX12 tk_X12_paste bo_RX12 xo_RX12 (cto_2867 l) ch_2868 (cut_all cc_2868)
/-- RookHusting$Slots holds -/
noncomputable def gi_3360 : GI := jl_n [gp_960, jl_i 0 60, jl_r 3 (jl_m 0 60), jl_z 1]
noncomputable def rq_44 : RLs := [([(2, (-1)), (3, (-1))], 60), ([(2, (-1)), (3, (-1)), (7, 1)], 0)]
noncomputable def con_2869 : Con2 := ((yX8_holds, cX8_holds, 4, (some .boolean)), (0, 0), ([(6, 0, 0), (0, 0, 0), (1, 2, 0), (1, 3, 0)], gi_3284, [.inl (8, [(8, 4, 0), (8, 5, 0), (6, 1, 0)]), ac_1553], []), [((0, 0, 0), gi_3285, hq_1041, [], [1]), ((0, 0, 0), gi_3281, hq_1041, [([(2, 1), (3, 1), (7, (-1))], (-1))], [1]), ((0, 1, 0), gi_3360, hq_1041, rq_44, [1])])
theorem hd_2869 : con_2869.1 = (yX8_holds, cX8_holds, 4, (some .boolean)) := rfl
noncomputable def cu_2869 : List CUT2 := []
theorem ch_2869 : staG tb_X8_holds 2 bt_RX8 [] ct_1253 [] [12, 20] cu_2869 20 con_2869 = true := by decide +kernel
theorem vl_2869 (l : Launch) : Vld2 l vwCl gTbl con_2869 := conR_ok3 gT_all (hd_2869) rfl pn_RX8 tk_X8_holds bo_RX8 xo_RX8 (cto_1253 l) ch_2869 cut_nil
/-- RookHusting paste -/
noncomputable def gi_3361 : GI := jl_n [gp_963, jl_k 0 0, jl_r 2 (jl_m 0 60), gp_969]
noncomputable def gi_3362 : GI := jl_n [gp_968, gp_1005]
noncomputable def rq_45 : RLs := [([(29, (-1)), (32, 1)], 0), ([(29, 1), (32, (-1))], 0), ([(2, 1), (5, 1), (28, (-1))], (-1))]
noncomputable def gi_3363 : GI := jl_n [gp_973, gp_1005]
noncomputable def rq_46 : RLs := [([(29, (-1)), (32, 1)], 0), ([(29, 1), (32, (-1))], 0), ([(4, 1), (5, 1), (25, (-1))], (-1))]
noncomputable def gi_3364 : GI := jl_n [gp_975, gp_1005]
noncomputable def gi_3365 : GI := jl_n [gp_977, gp_1005]
noncomputable def gi_3366 : GI := jl_n [gp_979, gp_1005]
noncomputable def gi_3367 : GI := jl_n [gp_963, gp_1006, jl_i 0 2, jl_r 2 (jl_i 0 3), jl_i 1 3, jl_z 1]
noncomputable def gi_3368 : GI := jl_n [gp_963, gp_1006, jl_i 1 3, jl_r 2 (jl_i 0 3), jl_i 0 2, jl_z 1]
noncomputable def gi_3369 : GI := jl_n [gp_982, gp_1005]
noncomputable def rq_47 : RLs := [([(29, (-1)), (32, 1)], 0), ([(29, 1), (32, (-1))], 0), ([(2, (-1)), (5, (-1)), (28, 1)], 0), ([(4, (-1)), (5, (-1)), (25, 1)], 0)]
noncomputable def con_2870 : Con2 := ((yX11_paste, cX11_paste, 6, (some .int)), (1, 23), ([(6, 0, 0), (0, 3, 0), (1, 2, 0), (0, 0, 0), (1, 4, 0), (1, 5, 0)], gi_3286, hc_264, []), [((0, (-6), 0), gi_3287, hq_1039, [], [1]), ((0, (-6), 0), gi_3361, hq_1039, [], [1]), ((0, (-7), 0), gi_3362, hq_1039, rq_45, [1]), ((0, (-7), 0), gi_3363, hq_1039, rq_46, [1]), ((0, (-7), 0), gi_3364, hq_1039, [([(29, (-1)), (32, 1)], 0), ([(29, 1), (32, (-1))], 0)], [1]), ((0, (-7), 0), gi_3365, hq_1039, [([(29, (-1)), (32, 1)], 0), ([(29, 1), (32, (-1))], 0)], [1]), ((0, (-7), 0), gi_3366, hq_1039, [([(29, (-1)), (32, 1)], 0), ([(29, 1), (32, (-1))], 0)], [1]), ((0, (-8), 0), gi_3367, hq_1039, [([(29, (-1)), (32, 1)], (-1))], [1]), ((0, (-8), 0), gi_3368, hq_1039, [([(29, 1), (32, (-1))], (-1))], [1]), ((0, 0, 0), gi_3369, hq_1042, rq_47, [1])])
theorem hd_2870 : con_2870.1 = (yX11_paste, cX11_paste, 6, (some .int)) := rfl
theorem ck_RX11_433_2869 : COK2 RX11 vwCl gTbl 433 0 con_2869 := ⟨wd_1393, wd_131, mh_X8_holds, .inr (.inr ⟨rfl, wd_1390, wd_1391, wd_1392, ⟨_, rfl, pd_X8_holds⟩, 8, _, TX8, 3, rfl, rfl⟩)⟩
noncomputable def ct_2870 : CTB2 := [(1, 414, 1, con_1255, []), (8, 414, 1, con_1447, []), (22, 420, 0, con_1256, [1, 2]), (33, 420, 0, con_1448, [1, 2]), (74, 433, 0, con_2851, [1, 2]), (89, 433, 0, con_2869, [1, 2])]
noncomputable def rf_2870 : List (Nat × List POP) := [(60, [(1, (0, 1, 0), 0, 0)]), (98, [(0, (1, 2, 0), 0, 60), (0, (1, 4, 0), 0, 60), (0, (1, 5, 0), 0, 60)])]
noncomputable def cu_2870 : List CUT2 := []
theorem ch_2870 : staG tb_X11_paste 2 bt_RX11 [] ct_2870 rf_2870 [110, 124] cu_2870 63 con_2870 = true := by decide +kernel
theorem cto_2870 (l : Launch) : CTOK2 l RX11 vwCl gTbl ct_2870 := ct2_cons (vl_1255 l) ck_RX11_414_1255 (ct2_cons (vl_1447 l) ck_RX11_414_1447 (ct2_cons (vl_1256 l) ck_RX11_420_1256 (ct2_cons (vl_1448 l) ck_RX11_420_1448 (ct2_cons (vl_2851 l) ck_RX11_433_2851 (ct2_cons (vl_2869 l) ck_RX11_433_2869 (ct2_nil))))))
theorem vl_2870 (l : Launch) : Vld2 l vwCl gTbl con_2870 := conR_ok3 gT_all (hd_2870) rfl pn_RX11 tk_X11_paste bo_RX11 xo_RX11 (cto_2870 l) ch_2870 cut_nil
/-- RookHustingModel paste -/
noncomputable def gi_3370 : GI := jl_n [gp_983, jl_k 0 0, jl_r 2 (jl_m 0 60), gp_969]
noncomputable def gi_3371 : GI := jl_n [gp_983, gp_1005]
noncomputable def rq_48 : RLs := [([(55, (-1)), (58, 1)], 0), ([(55, 1), (58, (-1))], 0), ([(2, 1), (5, 1), (54, (-1))], (-1))]
noncomputable def rq_49 : RLs := [([(55, (-1)), (58, 1)], 0), ([(55, 1), (58, (-1))], 0), ([(4, 1), (5, 1), (51, (-1))], (-1))]
noncomputable def gi_3372 : GI := jl_n [gp_983, gp_1006, jl_i 0 2, jl_r 2 (jl_i 0 3), jl_i 1 3, jl_z 1]
noncomputable def gi_3373 : GI := jl_n [gp_983, gp_1006, jl_i 1 3, jl_r 2 (jl_i 0 3), jl_i 0 2, jl_z 1]
noncomputable def rq_50 : RLs := [([(55, (-1)), (58, 1)], 0), ([(55, 1), (58, (-1))], 0), ([(2, (-1)), (5, (-1)), (54, 1)], 0), ([(4, (-1)), (5, (-1)), (51, 1)], 0)]
noncomputable def con_2871 : Con2 := ((yX12_paste, cX12_paste, 7, (some .int)), (2, 45), ([(6, 0, 0), (0, 3, 0), (1, 2, 0), (0, 0, 0), (1, 4, 0), (1, 5, 0)], gi_3294, [ac_1585, ac_1586, ac_1587, ac_807, ac_1588], []), [((0, (-6), 0), gi_3295, hq_1040, [], [1]), ((0, (-6), 0), gi_3370, hq_1040, [], [1]), ((0, (-7), 0), gi_3371, hq_1040, rq_48, [1]), ((0, (-7), 0), gi_3371, hq_1040, rq_49, [1]), ((0, (-8), 0), gi_3372, hq_1040, [([(55, (-1)), (58, 1)], (-1))], [1]), ((0, (-8), 0), gi_3373, hq_1040, [([(55, 1), (58, (-1))], (-1))], [1]), ((0, 0, 0), gi_3371, hq_1043, rq_50, [1])])
theorem hd_2871 : con_2871.1 = (yX12_paste, cX12_paste, 7, (some .int)) := rfl
noncomputable def ct_2871 : CTB2 := [(1, 414, 1, con_1930, []), (8, 414, 1, con_2370, [])]
noncomputable def rf_2871 : List (Nat × List POP) := [(17, [(1, (1, 1, 0), 0, 0), (1, (1, 3, 0), 0, 0)]), (52, [(1, (0, 1, 0), 0, 0)]), (110, [(0, (1, 2, 0), 0, 60), (0, (1, 4, 0), 0, 60), (0, (1, 5, 0), 0, 60)]), (139, [(0, (0, 0, 0), 0, 239)]), (178, [(0, (0, 1, 0), 0, 239)])]
noncomputable def gi_3374 : GI := jl_n [gp_983, gp_1006, gp_984]
noncomputable def rq_51 : RLs := [([(2, (-1)), (5, (-1))], 60), ([(4, (-1)), (5, (-1))], 60), ([(2, (-1)), (5, (-1)), (54, 1)], 0), ([(4, (-1)), (5, (-1)), (51, 1)], 0), ([(55, (-1)), (58, 1)], 0), ([(55, 1), (58, (-1))], 0)]
noncomputable def cu_2871 : List CUT2 := [((113, [lq 0 6 0, lq 1 0 3, lq 2 1 2, lq 3 0 0, lq 4 1 4, lq 5 1 5, lq 6 1 65], [], gi_3374, hq_1044), rq_51, ([(65, (-1))], 121)), ((150, [lq 0 6 0, lq 1 0 3, lq 2 1 2, lq 3 0 0, lq 4 1 4, lq 5 1 5, lq 6 1 65], [], gi_3374, hq_1043), rq_51, ([(65, (-1))], 60))]
theorem ch_2871 : staG tb_X12_paste 3 bt_RX12 [] ct_2871 rf_2871 [77, 85, 95, 103, 117, 138, 154, 170] cu_2871 60 con_2871 = true := by decide +kernel
theorem cc_2871 : cu_2871.all (cutG tb_X12_paste 3 bt_RX12 [] ct_2871 rf_2871 [77, 85, 95, 103, 117, 138, 154, 170] cu_2871 60 con_2871) = true := by decide +kernel
theorem cto_2871 (l : Launch) : CTOK2 l RX12 vwCl gTbl ct_2871 := ct2_cons (vl_1930 l) ck_RX12_414_1930 (ct2_cons (vl_2370 l) ck_RX12_414_2370 (ct2_nil))
theorem vl_2871 (l : Launch) : Vld2 l vwCl gTbl con_2871 := conR_ok3 gT_all (hd_2871) rfl pn_RX12 tk_X12_paste bo_RX12 xo_RX12 (cto_2871 l) ch_2871 (cut_all cc_2871)
/-- RookHustingModel paste -/
noncomputable def gi_3375 : GI := jl_n [gp_993, jl_k 0 0, jl_r 2 (jl_m 0 60), gp_969]
noncomputable def gi_3376 : GI := jl_n [gp_991, gp_1005]
noncomputable def gi_3377 : GI := jl_n [gp_990, gp_1005]
noncomputable def gi_3378 : GI := jl_n [gp_994, gp_1005]
noncomputable def gi_3379 : GI := jl_n [gp_987, gp_1005]
noncomputable def gi_3380 : GI := jl_n [gp_993, gp_1006, jl_i 0 2, jl_r 2 (jl_i 0 3), jl_i 1 3, jl_z 1]
noncomputable def gi_3381 : GI := jl_n [gp_993, gp_1006, jl_i 1 3, jl_r 2 (jl_i 0 3), jl_i 0 2, jl_z 1]
noncomputable def con_2872 : Con2 := ((yX12_paste, cX12_paste, 7, (some .int)), (2, 45), ([(6, 0, 0), (0, 3, 0), (1, 2, 0), (0, 0, 0), (1, 4, 0), (1, 5, 0)], gi_3313, [ac_1585, ac_1586, ac_1587, ac_807, ac_1588], []), [((0, (-6), 0), gi_3314, hq_1040, [], [1]), ((0, (-6), 0), gi_3375, hq_1040, [], [1]), ((0, (-7), 0), gi_3376, hq_1040, rq_48, [1]), ((0, (-7), 0), gi_3376, hq_1040, rq_49, [1]), ((0, (-7), 0), gi_3377, hq_1040, [([(55, (-1)), (58, 1)], 0), ([(55, 1), (58, (-1))], 0)], [1]), ((0, (-7), 0), gi_3378, hq_1040, [([(55, (-1)), (58, 1)], 0), ([(55, 1), (58, (-1))], 0)], [1]), ((0, (-7), 0), gi_3379, hq_1040, [([(55, (-1)), (58, 1)], 0), ([(55, 1), (58, (-1))], 0)], [1]), ((0, (-8), 0), gi_3380, hq_1040, [([(55, (-1)), (58, 1)], (-1))], [1]), ((0, (-8), 0), gi_3381, hq_1040, [([(55, 1), (58, (-1))], (-1))], [1]), ((0, 0, 0), gi_3371, hq_1043, rq_50, [1])])
theorem hd_2872 : con_2872.1 = (yX12_paste, cX12_paste, 7, (some .int)) := rfl
noncomputable def rf_2872 : List (Nat × List POP) := [(17, [(1, (1, 1, 0), 0, 0), (1, (1, 3, 0), 0, 0)]), (52, [(1, (0, 1, 0), 0, 0)]), (110, [(0, (1, 2, 0), 0, 60), (0, (1, 4, 0), 0, 60), (0, (1, 5, 0), 0, 60)]), (139, [(0, (0, 0, 0), 0, 239)]), (178, [(0, (0, 1, 0), 0, 239)])]
noncomputable def cu_2872 : List CUT2 := [((113, [lq 0 6 0, lq 1 0 3, lq 2 1 2, lq 3 0 0, lq 4 1 4, lq 5 1 5, lq 6 1 65], [], gi_3374, hq_1044), rq_51, ([(65, (-1))], 121)), ((150, [lq 0 6 0, lq 1 0 3, lq 2 1 2, lq 3 0 0, lq 4 1 4, lq 5 1 5, lq 6 1 65], [], gi_3374, hq_1043), rq_51, ([(65, (-1))], 60))]
theorem ch_2872 : staG tb_X12_paste 3 bt_RX12 [] ct_2871 rf_2872 [77, 85, 95, 103, 117, 138, 154, 170] cu_2872 60 con_2872 = true := by decide +kernel
theorem cc_2872 : cu_2872.all (cutG tb_X12_paste 3 bt_RX12 [] ct_2871 rf_2872 [77, 85, 95, 103, 117, 138, 154, 170] cu_2872 60 con_2872) = true := by decide +kernel
theorem vl_2872 (l : Launch) : Vld2 l vwCl gTbl con_2872 := conR_ok3 gT_all (hd_2872) rfl pn_RX12 tk_X12_paste bo_RX12 xo_RX12 (cto_2871 l) ch_2872 (cut_all cc_2872)
/-- RookHusting paste -/
noncomputable def gi_3382 : GI := jl_n [gp_194, gp_959, jl_r 4 (jl_i 0 3)]
noncomputable def gi_3383 : GI := jl_n [gp_194, gp_959, gp_944]
noncomputable def con_2873 : Con2 := ((yX11_paste, cX11_paste, 6, (some .int)), (1, 20), ([(6, 0, 0), (0, 3, 0), (1, 2, 0), (1, 3, 0), (1, 4, 0), (1, 5, 0)], gi_3382, hc_264, []), [((0, (-2), 0), gi_3383, hq_1039, [], [1])])
theorem hd_2873 : con_2873.1 = (yX11_paste, cX11_paste, 6, (some .int)) := rfl
noncomputable def ct_2873 : CTB2 := [(1, 414, 1, con_1255, []), (8, 414, 1, con_1510, [])]
noncomputable def rf_2873 : List (Nat × List POP) := [(60, [(1, (0, 1, 0), 0, 0)]), (98, [(0, (1, 2, 0), 0, 60), (0, (1, 4, 0), 0, 60), (0, (1, 5, 0), 0, 60)])]
noncomputable def cu_2873 : List CUT2 := []
theorem ch_2873 : staG tb_X11_paste 2 bt_RX11 [] ct_2873 rf_2873 [110, 124] cu_2873 10 con_2873 = true := by decide +kernel
theorem cto_2873 (l : Launch) : CTOK2 l RX11 vwCl gTbl ct_2873 := ct2_cons (vl_1255 l) ck_RX11_414_1255 (ct2_cons (vl_1510 l) ck_RX11_414_1510 (ct2_nil))
theorem vl_2873 (l : Launch) : Vld2 l vwCl gTbl con_2873 := conR_ok3 gT_all (hd_2873) rfl pn_RX11 tk_X11_paste bo_RX11 xo_RX11 (cto_2873 l) ch_2873 cut_nil
/-- RookHustingModel paste -/
noncomputable def gi_3384 : GI := jl_n [gp_194, jl_k 2147483647 0, gp_955]
noncomputable def gi_3385 : GI := jl_n [gp_194, jl_k 2147483647 0, gp_956]
noncomputable def con_2874 : Con2 := ((yX12_paste, cX12_paste, 7, (some .int)), (2, 45), ([(6, 0, 0), (0, 3, 0), (1, 2, 0), (1, 3, 0), (1, 4, 0), (1, 5, 0)], gi_3384, [ac_1585, ac_1586, ac_1587, ac_807, ac_1588], []), [((0, (-2), 0), gi_3385, hq_1040, [], [1])])
theorem hd_2874 : con_2874.1 = (yX12_paste, cX12_paste, 7, (some .int)) := rfl
noncomputable def ct_2874 : CTB2 := [(1, 414, 1, con_1930, []), (8, 414, 1, con_2514, [])]
noncomputable def rf_2874 : List (Nat × List POP) := [(17, [(1, (1, 1, 0), 0, 0), (1, (1, 3, 0), 0, 0)]), (52, [(1, (0, 1, 0), 0, 0)]), (110, [(0, (1, 2, 0), 0, 60), (0, (1, 4, 0), 0, 60), (0, (1, 5, 0), 0, 60)]), (139, [(0, (0, 0, 0), 0, 239)]), (178, [(0, (0, 1, 0), 0, 239)])]
noncomputable def cu_2874 : List CUT2 := []
theorem ch_2874 : staG tb_X12_paste 3 bt_RX12 [] ct_2874 rf_2874 [77, 85, 95, 103, 117, 138, 154, 170] cu_2874 10 con_2874 = true := by decide +kernel
theorem cto_2874 (l : Launch) : CTOK2 l RX12 vwCl gTbl ct_2874 := ct2_cons (vl_1930 l) ck_RX12_414_1930 (ct2_cons (vl_2514 l) ck_RX12_414_2514 (ct2_nil))
theorem vl_2874 (l : Launch) : Vld2 l vwCl gTbl con_2874 := conR_ok3 gT_all (hd_2874) rfl pn_RX12 tk_X12_paste bo_RX12 xo_RX12 (cto_2874 l) ch_2874 cut_nil
/-- RookHusting paste -/
noncomputable def con_2875 : Con2 := ((yX11_paste, cX11_paste, 6, (some .int)), (1, 20), ([(6, 0, 0), (0, 2, 0), (1, 2, 0), (1, 3, 0), (1, 4, 0), (1, 5, 0)], gi_3275, hc_264, []), [((0, (-2), 0), gi_3276, hq_1039, [], [1])])
theorem hd_2875 : con_2875.1 = (yX11_paste, cX11_paste, 6, (some .int)) := rfl
noncomputable def ct_2875 : CTB2 := [(1, 414, 1, con_1321, []), (8, 414, 1, con_1253, [])]
noncomputable def rf_2875 : List (Nat × List POP) := [(60, [(1, (0, 1, 0), 0, 0)]), (98, [(0, (1, 2, 0), 0, 60), (0, (1, 4, 0), 0, 60), (0, (1, 5, 0), 0, 60)])]
noncomputable def cu_2875 : List CUT2 := []
theorem ch_2875 : staG tb_X11_paste 2 bt_RX11 [] ct_2875 rf_2875 [110, 124] cu_2875 10 con_2875 = true := by decide +kernel
theorem cto_2875 (l : Launch) : CTOK2 l RX11 vwCl gTbl ct_2875 := ct2_cons (vl_1321 l) ck_RX11_414_1321 (ct2_cons (vl_1253 l) ck_RX11_414_1253 (ct2_nil))
theorem vl_2875 (l : Launch) : Vld2 l vwCl gTbl con_2875 := conR_ok3 gT_all (hd_2875) rfl pn_RX11 tk_X11_paste bo_RX11 xo_RX11 (cto_2875 l) ch_2875 cut_nil
/-- RookHustingModel paste -/
noncomputable def con_2876 : Con2 := ((yX12_paste, cX12_paste, 7, (some .int)), (2, 45), ([(6, 0, 0), (0, 2, 0), (1, 2, 0), (1, 3, 0), (1, 4, 0), (1, 5, 0)], gi_3277, [ac_1585, ac_1586, ac_1587, ac_807, ac_1588], []), [((0, (-2), 0), gi_3278, hq_1040, [], [1])])
theorem hd_2876 : con_2876.1 = (yX12_paste, cX12_paste, 7, (some .int)) := rfl
noncomputable def ct_2876 : CTB2 := [(1, 414, 1, con_2082, []), (8, 414, 1, con_1927, [])]
noncomputable def rf_2876 : List (Nat × List POP) := [(17, [(1, (1, 1, 0), 0, 0), (1, (1, 3, 0), 0, 0)]), (52, [(1, (0, 1, 0), 0, 0)]), (110, [(0, (1, 2, 0), 0, 60), (0, (1, 4, 0), 0, 60), (0, (1, 5, 0), 0, 60)]), (139, [(0, (0, 0, 0), 0, 239)]), (178, [(0, (0, 1, 0), 0, 239)])]
noncomputable def cu_2876 : List CUT2 := []
theorem ch_2876 : staG tb_X12_paste 3 bt_RX12 [] ct_2876 rf_2876 [77, 85, 95, 103, 117, 138, 154, 170] cu_2876 10 con_2876 = true := by decide +kernel
theorem cto_2876 (l : Launch) : CTOK2 l RX12 vwCl gTbl ct_2876 := ct2_cons (vl_2082 l) ck_RX12_414_2082 (ct2_cons (vl_1927 l) ck_RX12_414_1927 (ct2_nil))
theorem vl_2876 (l : Launch) : Vld2 l vwCl gTbl con_2876 := conR_ok3 gT_all (hd_2876) rfl pn_RX12 tk_X12_paste bo_RX12 xo_RX12 (cto_2876 l) ch_2876 cut_nil
/-- RookHusting$Slots holds -/
noncomputable def con_2877 : Con2 := ((yX8_holds, cX8_holds, 4, (some .boolean)), (0, 0), ([(6, 0, 0), (0, 2, 0), (1, 2, 0), (1, 3, 0)], gi_3279, [.inl (8, [(8, 4, 0), (8, 5, 0), (6, 1, 0)]), ac_1553], []), [((0, 0, 0), gi_3280, hq_1041, [], [1]), ((0, 0, 0), gi_3281, hq_1041, [([(2, 1), (3, 1), (9, (-1))], (-1))], [1]), ((0, 0, 0), gi_3282, hq_1041, [], [1]), ((0, 1, 0), gi_3316, hq_1041, rq_28, [1])])
theorem hd_2877 : con_2877.1 = (yX8_holds, cX8_holds, 4, (some .boolean)) := rfl
noncomputable def cu_2877 : List CUT2 := []
theorem ch_2877 : staG tb_X8_holds 2 bt_RX8 [] ct_1253 [] [12, 20] cu_2877 20 con_2877 = true := by decide +kernel
theorem vl_2877 (l : Launch) : Vld2 l vwCl gTbl con_2877 := conR_ok3 gT_all (hd_2877) rfl pn_RX8 tk_X8_holds bo_RX8 xo_RX8 (cto_1253 l) ch_2877 cut_nil
/-- RookHusting paste -/
noncomputable def gi_3386 : GI := jl_n [gp_963, gp_1009]
noncomputable def gi_3387 : GI := jl_n [gp_963, jl_r 2 (jl_m 0 60), jl_i 0 60, gp_964]
noncomputable def rq_52 : RLs := [([(31, 1), (32, (-1))], 0), ([(31, (-1)), (32, 1)], 0), ([(2, 1), (5, 1), (27, (-1))], (-1))]
noncomputable def rq_53 : RLs := [([(31, 1), (32, (-1))], 0), ([(31, (-1)), (32, 1)], 0), ([(4, 1), (5, 1), (28, (-1))], (-1))]
noncomputable def rq_54 : RLs := [([(31, 1), (32, (-1))], 0), ([(31, (-1)), (32, 1)], 0), ([(2, (-1)), (5, (-1)), (27, 1)], 0), ([(4, (-1)), (5, (-1)), (28, 1)], 0)]
noncomputable def con_2878 : Con2 := ((yX11_paste, cX11_paste, 6, (some .int)), (1, 23), ([(6, 0, 0), (0, 2, 0), (1, 2, 0), (0, 3, 0), (1, 4, 0), (1, 5, 0)], gi_3286, hc_264, []), [((0, (-6), 0), gi_3386, hq_1039, [], [1]), ((0, (-6), 0), gi_3387, hq_1039, [], [1]), ((0, (-7), 0), gi_3318, hq_1039, rq_52, [1]), ((0, (-7), 0), gi_3319, hq_1039, rq_53, [1]), ((0, (-7), 0), gi_3320, hq_1039, [([(31, 1), (32, (-1))], 0), ([(31, (-1)), (32, 1)], 0)], [1]), ((0, (-7), 0), gi_3321, hq_1039, [([(31, 1), (32, (-1))], 0), ([(31, (-1)), (32, 1)], 0)], [1]), ((0, (-7), 0), gi_3322, hq_1039, [([(31, 1), (32, (-1))], 0), ([(31, (-1)), (32, 1)], 0)], [1]), ((0, (-8), 0), gi_3324, hq_1039, [([(31, 1), (32, (-1))], (-1))], [1]), ((0, (-8), 0), gi_3323, hq_1039, [([(31, (-1)), (32, 1)], (-1))], [1]), ((0, 0, 0), gi_3325, hq_1042, rq_54, [1])])
theorem hd_2878 : con_2878.1 = (yX11_paste, cX11_paste, 6, (some .int)) := rfl
theorem ck_RX11_433_2877 : COK2 RX11 vwCl gTbl 433 0 con_2877 := ⟨wd_1393, wd_131, mh_X8_holds, .inr (.inr ⟨rfl, wd_1390, wd_1391, wd_1392, ⟨_, rfl, pd_X8_holds⟩, 8, _, TX8, 3, rfl, rfl⟩)⟩
noncomputable def ct_2878 : CTB2 := [(1, 414, 1, con_1321, []), (8, 414, 1, con_1255, []), (22, 420, 0, con_1322, [1, 2]), (33, 420, 0, con_1256, [1, 2]), (74, 433, 0, con_2877, [1, 2]), (89, 433, 0, con_2852, [1, 2])]
noncomputable def rf_2878 : List (Nat × List POP) := [(60, [(1, (0, 1, 0), 0, 0)]), (98, [(0, (1, 2, 0), 0, 60), (0, (1, 4, 0), 0, 60), (0, (1, 5, 0), 0, 60)])]
noncomputable def cu_2878 : List CUT2 := []
theorem ch_2878 : staG tb_X11_paste 2 bt_RX11 [] ct_2878 rf_2878 [110, 124] cu_2878 63 con_2878 = true := by decide +kernel
theorem cto_2878 (l : Launch) : CTOK2 l RX11 vwCl gTbl ct_2878 := ct2_cons (vl_1321 l) ck_RX11_414_1321 (ct2_cons (vl_1255 l) ck_RX11_414_1255 (ct2_cons (vl_1322 l) ck_RX11_420_1322 (ct2_cons (vl_1256 l) ck_RX11_420_1256 (ct2_cons (vl_2877 l) ck_RX11_433_2877 (ct2_cons (vl_2852 l) ck_RX11_433_2852 (ct2_nil))))))
theorem vl_2878 (l : Launch) : Vld2 l vwCl gTbl con_2878 := conR_ok3 gT_all (hd_2878) rfl pn_RX11 tk_X11_paste bo_RX11 xo_RX11 (cto_2878 l) ch_2878 cut_nil
/-- RookHustingModel paste -/
noncomputable def gi_3388 : GI := jl_n [gp_983, gp_1009]
noncomputable def gi_3389 : GI := jl_n [gp_983, jl_r 2 (jl_m 0 60), jl_i 0 60, gp_964]
noncomputable def rq_55 : RLs := [([(57, 1), (58, (-1))], 0), ([(57, (-1)), (58, 1)], 0), ([(2, 1), (5, 1), (53, (-1))], (-1))]
noncomputable def rq_56 : RLs := [([(57, 1), (58, (-1))], 0), ([(57, (-1)), (58, 1)], 0), ([(4, 1), (5, 1), (54, (-1))], (-1))]
noncomputable def rq_57 : RLs := [([(57, 1), (58, (-1))], 0), ([(57, (-1)), (58, 1)], 0), ([(2, (-1)), (5, (-1)), (53, 1)], 0), ([(4, (-1)), (5, (-1)), (54, 1)], 0)]
noncomputable def con_2879 : Con2 := ((yX12_paste, cX12_paste, 7, (some .int)), (2, 45), ([(6, 0, 0), (0, 2, 0), (1, 2, 0), (0, 3, 0), (1, 4, 0), (1, 5, 0)], gi_3294, [ac_1585, ac_1586, ac_1587, ac_807, ac_1588], []), [((0, (-6), 0), gi_3388, hq_1040, [], [1]), ((0, (-6), 0), gi_3389, hq_1040, [], [1]), ((0, (-7), 0), gi_3327, hq_1040, rq_55, [1]), ((0, (-7), 0), gi_3327, hq_1040, rq_56, [1]), ((0, (-8), 0), gi_3329, hq_1040, [([(57, 1), (58, (-1))], (-1))], [1]), ((0, (-8), 0), gi_3328, hq_1040, [([(57, (-1)), (58, 1)], (-1))], [1]), ((0, 0, 0), gi_3327, hq_1043, rq_57, [1])])
theorem hd_2879 : con_2879.1 = (yX12_paste, cX12_paste, 7, (some .int)) := rfl
noncomputable def ct_2879 : CTB2 := [(1, 414, 1, con_2082, []), (8, 414, 1, con_1930, [])]
noncomputable def rf_2879 : List (Nat × List POP) := [(17, [(1, (1, 1, 0), 0, 0), (1, (1, 3, 0), 0, 0)]), (52, [(1, (0, 1, 0), 0, 0)]), (110, [(0, (1, 2, 0), 0, 60), (0, (1, 4, 0), 0, 60), (0, (1, 5, 0), 0, 60)]), (139, [(0, (0, 0, 0), 0, 239)]), (178, [(0, (0, 1, 0), 0, 239)])]
noncomputable def rq_58 : RLs := [([(2, (-1)), (5, (-1))], 60), ([(4, (-1)), (5, (-1))], 60), ([(2, (-1)), (5, (-1)), (53, 1)], 0), ([(4, (-1)), (5, (-1)), (54, 1)], 0), ([(57, 1), (58, (-1))], 0), ([(57, (-1)), (58, 1)], 0)]
noncomputable def cu_2879 : List CUT2 := [((113, [lq 0 6 0, lq 1 0 2, lq 2 1 2, lq 3 0 3, lq 4 1 4, lq 5 1 5, lq 6 1 65], [], gi_3330, hq_1044), rq_58, ([(65, (-1))], 121)), ((150, [lq 0 6 0, lq 1 0 2, lq 2 1 2, lq 3 0 3, lq 4 1 4, lq 5 1 5, lq 6 1 65], [], gi_3330, hq_1043), rq_58, ([(65, (-1))], 60))]
theorem ch_2879 : staG tb_X12_paste 3 bt_RX12 [] ct_2879 rf_2879 [77, 85, 95, 103, 117, 138, 154, 170] cu_2879 60 con_2879 = true := by decide +kernel
theorem cc_2879 : cu_2879.all (cutG tb_X12_paste 3 bt_RX12 [] ct_2879 rf_2879 [77, 85, 95, 103, 117, 138, 154, 170] cu_2879 60 con_2879) = true := by decide +kernel
theorem cto_2879 (l : Launch) : CTOK2 l RX12 vwCl gTbl ct_2879 := ct2_cons (vl_2082 l) ck_RX12_414_2082 (ct2_cons (vl_1930 l) ck_RX12_414_1930 (ct2_nil))
theorem vl_2879 (l : Launch) : Vld2 l vwCl gTbl con_2879 := conR_ok3 gT_all (hd_2879) rfl pn_RX12 tk_X12_paste bo_RX12 xo_RX12 (cto_2879 l) ch_2879 (cut_all cc_2879)
/-- RookHustingModel paste -/
noncomputable def gi_3390 : GI := jl_n [gp_993, gp_1009]
noncomputable def gi_3391 : GI := jl_n [gp_993, jl_r 2 (jl_m 0 60), jl_i 0 60, gp_964]
noncomputable def con_2880 : Con2 := ((yX12_paste, cX12_paste, 7, (some .int)), (2, 45), ([(6, 0, 0), (0, 2, 0), (1, 2, 0), (0, 3, 0), (1, 4, 0), (1, 5, 0)], gi_3313, [ac_1585, ac_1586, ac_1587, ac_807, ac_1588], []), [((0, (-6), 0), gi_3390, hq_1040, [], [1]), ((0, (-6), 0), gi_3391, hq_1040, [], [1]), ((0, (-7), 0), gi_3332, hq_1040, rq_55, [1]), ((0, (-7), 0), gi_3332, hq_1040, rq_56, [1]), ((0, (-7), 0), gi_3333, hq_1040, [([(57, 1), (58, (-1))], 0), ([(57, (-1)), (58, 1)], 0)], [1]), ((0, (-7), 0), gi_3334, hq_1040, [([(57, 1), (58, (-1))], 0), ([(57, (-1)), (58, 1)], 0)], [1]), ((0, (-7), 0), gi_3335, hq_1040, [([(57, 1), (58, (-1))], 0), ([(57, (-1)), (58, 1)], 0)], [1]), ((0, (-8), 0), gi_3337, hq_1040, [([(57, 1), (58, (-1))], (-1))], [1]), ((0, (-8), 0), gi_3336, hq_1040, [([(57, (-1)), (58, 1)], (-1))], [1]), ((0, 0, 0), gi_3327, hq_1043, rq_57, [1])])
theorem hd_2880 : con_2880.1 = (yX12_paste, cX12_paste, 7, (some .int)) := rfl
noncomputable def rf_2880 : List (Nat × List POP) := [(17, [(1, (1, 1, 0), 0, 0), (1, (1, 3, 0), 0, 0)]), (52, [(1, (0, 1, 0), 0, 0)]), (110, [(0, (1, 2, 0), 0, 60), (0, (1, 4, 0), 0, 60), (0, (1, 5, 0), 0, 60)]), (139, [(0, (0, 0, 0), 0, 239)]), (178, [(0, (0, 1, 0), 0, 239)])]
noncomputable def cu_2880 : List CUT2 := [((113, [lq 0 6 0, lq 1 0 2, lq 2 1 2, lq 3 0 3, lq 4 1 4, lq 5 1 5, lq 6 1 65], [], gi_3330, hq_1044), rq_58, ([(65, (-1))], 121)), ((150, [lq 0 6 0, lq 1 0 2, lq 2 1 2, lq 3 0 3, lq 4 1 4, lq 5 1 5, lq 6 1 65], [], gi_3330, hq_1043), rq_58, ([(65, (-1))], 60))]
theorem ch_2880 : staG tb_X12_paste 3 bt_RX12 [] ct_2879 rf_2880 [77, 85, 95, 103, 117, 138, 154, 170] cu_2880 60 con_2880 = true := by decide +kernel
theorem cc_2880 : cu_2880.all (cutG tb_X12_paste 3 bt_RX12 [] ct_2879 rf_2880 [77, 85, 95, 103, 117, 138, 154, 170] cu_2880 60 con_2880) = true := by decide +kernel
theorem vl_2880 (l : Launch) : Vld2 l vwCl gTbl con_2880 := conR_ok3 gT_all (hd_2880) rfl pn_RX12 tk_X12_paste bo_RX12 xo_RX12 (cto_2879 l) ch_2880 (cut_all cc_2880)
/-- RookHusting paste -/
noncomputable def gi_3392 : GI := jl_n [gp_968, gp_1011]
noncomputable def gi_3393 : GI := jl_n [gp_973, gp_1011]
noncomputable def gi_3394 : GI := jl_n [gp_975, gp_1011]
noncomputable def gi_3395 : GI := jl_n [gp_977, gp_1011]
noncomputable def gi_3396 : GI := jl_n [gp_979, gp_1011]
noncomputable def gi_3397 : GI := jl_n [gp_982, gp_1011]
noncomputable def rq_59 : RLs := [([(2, (-1)), (5, (-1)), (27, 1)], 0), ([(4, (-1)), (5, (-1)), (27, 1)], 0)]
noncomputable def con_2881 : Con2 := ((yX11_paste, cX11_paste, 6, (some .int)), (1, 23), ([(6, 0, 0), (0, 2, 0), (1, 2, 0), (0, 2, 0), (1, 4, 0), (1, 5, 0)], gi_3286, hc_264, []), [((0, (-6), 0), gi_3386, hq_1039, [], [1]), ((0, (-7), 0), gi_3392, hq_1039, [([(2, 1), (5, 1), (27, (-1))], (-1))], [1]), ((0, (-7), 0), gi_3393, hq_1039, [([(4, 1), (5, 1), (27, (-1))], (-1))], [1]), ((0, (-7), 0), gi_3394, hq_1039, [], [1]), ((0, (-7), 0), gi_3395, hq_1039, [], [1]), ((0, (-7), 0), gi_3396, hq_1039, [], [1]), ((0, 0, 0), gi_3397, hq_1042, rq_59, [1])])
theorem hd_2881 : con_2881.1 = (yX11_paste, cX11_paste, 6, (some .int)) := rfl
noncomputable def ct_2881 : CTB2 := [(1, 414, 1, con_1321, []), (8, 414, 1, con_1321, []), (22, 420, 0, con_1322, [1, 2]), (33, 420, 0, con_1322, [1, 2]), (74, 433, 0, con_2877, [1, 2]), (89, 433, 0, con_2861, [1, 2])]
noncomputable def rf_2881 : List (Nat × List POP) := [(60, [(1, (0, 1, 0), 0, 0)]), (98, [(0, (1, 2, 0), 0, 60), (0, (1, 4, 0), 0, 60), (0, (1, 5, 0), 0, 60)])]
noncomputable def cu_2881 : List CUT2 := []
theorem ch_2881 : staG tb_X11_paste 2 bt_RX11 [] ct_2881 rf_2881 [110, 124] cu_2881 63 con_2881 = true := by decide +kernel
theorem cto_2881 (l : Launch) : CTOK2 l RX11 vwCl gTbl ct_2881 := ct2_cons (vl_1321 l) ck_RX11_414_1321 (ct2_cons (vl_1321 l) ck_RX11_414_1321 (ct2_cons (vl_1322 l) ck_RX11_420_1322 (ct2_cons (vl_1322 l) ck_RX11_420_1322 (ct2_cons (vl_2877 l) ck_RX11_433_2877 (ct2_cons (vl_2861 l) ck_RX11_433_2861 (ct2_nil))))))
theorem vl_2881 (l : Launch) : Vld2 l vwCl gTbl con_2881 := conR_ok3 gT_all (hd_2881) rfl pn_RX11 tk_X11_paste bo_RX11 xo_RX11 (cto_2881 l) ch_2881 cut_nil
/-- RookHustingModel paste -/
noncomputable def gi_3398 : GI := jl_n [gp_983, gp_1011]
noncomputable def rq_60 : RLs := [([(2, (-1)), (5, (-1)), (53, 1)], 0), ([(4, (-1)), (5, (-1)), (53, 1)], 0)]
noncomputable def con_2882 : Con2 := ((yX12_paste, cX12_paste, 7, (some .int)), (2, 45), ([(6, 0, 0), (0, 2, 0), (1, 2, 0), (0, 2, 0), (1, 4, 0), (1, 5, 0)], gi_3294, [ac_1585, ac_1586, ac_1587, ac_807, ac_1588], []), [((0, (-6), 0), gi_3388, hq_1040, [], [1]), ((0, (-7), 0), gi_3398, hq_1040, [([(2, 1), (5, 1), (53, (-1))], (-1))], [1]), ((0, (-7), 0), gi_3398, hq_1040, [([(4, 1), (5, 1), (53, (-1))], (-1))], [1]), ((0, 0, 0), gi_3398, hq_1043, rq_60, [1])])
theorem hd_2882 : con_2882.1 = (yX12_paste, cX12_paste, 7, (some .int)) := rfl
noncomputable def ct_2882 : CTB2 := [(1, 414, 1, con_2082, []), (8, 414, 1, con_2082, [])]
noncomputable def rf_2882 : List (Nat × List POP) := [(17, [(1, (1, 1, 0), 0, 0), (1, (1, 3, 0), 0, 0)]), (52, [(1, (0, 1, 0), 0, 0)]), (110, [(0, (1, 2, 0), 0, 60), (0, (1, 4, 0), 0, 60), (0, (1, 5, 0), 0, 60)]), (139, [(0, (0, 0, 0), 0, 239)]), (178, [(0, (0, 1, 0), 0, 239)])]
noncomputable def gi_3399 : GI := jl_n [gp_983, gp_493, gp_984]
noncomputable def rq_61 : RLs := [([(2, (-1)), (5, (-1))], 60), ([(4, (-1)), (5, (-1))], 60), ([(2, (-1)), (5, (-1)), (53, 1)], 0), ([(4, (-1)), (5, (-1)), (53, 1)], 0)]
noncomputable def cu_2882 : List CUT2 := [((113, [lq 0 6 0, lq 1 0 2, lq 2 1 2, lq 3 0 2, lq 4 1 4, lq 5 1 5, lq 6 1 65], [], gi_3399, hq_1044), rq_61, ([(65, (-1))], 121)), ((150, [lq 0 6 0, lq 1 0 2, lq 2 1 2, lq 3 0 2, lq 4 1 4, lq 5 1 5, lq 6 1 65], [], gi_3399, hq_1043), rq_61, ([(65, (-1))], 60))]
theorem ch_2882 : staG tb_X12_paste 3 bt_RX12 [] ct_2882 rf_2882 [77, 85, 95, 103, 117, 138, 154, 170] cu_2882 60 con_2882 = true := by decide +kernel
theorem cc_2882 : cu_2882.all (cutG tb_X12_paste 3 bt_RX12 [] ct_2882 rf_2882 [77, 85, 95, 103, 117, 138, 154, 170] cu_2882 60 con_2882) = true := by decide +kernel
theorem cto_2882 (l : Launch) : CTOK2 l RX12 vwCl gTbl ct_2882 := ct2_cons (vl_2082 l) ck_RX12_414_2082 (ct2_cons (vl_2082 l) ck_RX12_414_2082 (ct2_nil))
theorem vl_2882 (l : Launch) : Vld2 l vwCl gTbl con_2882 := conR_ok3 gT_all (hd_2882) rfl pn_RX12 tk_X12_paste bo_RX12 xo_RX12 (cto_2882 l) ch_2882 (cut_all cc_2882)
/-- RookHustingModel paste -/
noncomputable def gi_3400 : GI := jl_n [gp_985, gp_1009]
noncomputable def gi_3401 : GI := jl_n [gp_986, gp_1011]
noncomputable def gi_3402 : GI := jl_n [gp_987, gp_1011]
noncomputable def con_2883 : Con2 := ((yX12_paste, cX12_paste, 7, (some .int)), (2, 45), ([(6, 0, 0), (0, 2, 0), (1, 2, 0), (0, 2, 0), (1, 4, 0), (1, 5, 0)], gi_3298, [ac_1585, ac_1586, ac_1587, ac_807, ac_1588], []), [((0, (-6), 0), gi_3400, hq_1040, [], [1]), ((0, (-7), 0), gi_3401, hq_1040, [], [1]), ((0, (-7), 0), gi_3402, hq_1040, [], [1])])
theorem hd_2883 : con_2883.1 = (yX12_paste, cX12_paste, 7, (some .int)) := rfl
noncomputable def rf_2883 : List (Nat × List POP) := [(17, [(1, (1, 1, 0), 0, 0), (1, (1, 3, 0), 0, 0)]), (52, [(1, (0, 1, 0), 0, 0)]), (110, [(0, (1, 2, 0), 0, 60), (0, (1, 4, 0), 0, 60), (0, (1, 5, 0), 0, 60)]), (139, [(0, (0, 0, 0), 0, 239)]), (178, [(0, (0, 1, 0), 0, 239)])]
noncomputable def cu_2883 : List CUT2 := []
theorem ch_2883 : staG tb_X12_paste 3 bt_RX12 [] ct_2882 rf_2883 [77, 85, 95, 103, 117, 138, 154, 170] cu_2883 37 con_2883 = true := by decide +kernel
theorem vl_2883 (l : Launch) : Vld2 l vwCl gTbl con_2883 := conR_ok3 gT_all (hd_2883) rfl pn_RX12 tk_X12_paste bo_RX12 xo_RX12 (cto_2882 l) ch_2883 cut_nil
/-- RookHustingModel paste -/
noncomputable def gi_3403 : GI := jl_n [gp_989, gp_1009]
noncomputable def gi_3404 : GI := jl_n [gp_989, gp_1011]
noncomputable def con_2884 : Con2 := ((yX12_paste, cX12_paste, 7, (some .int)), (2, 45), ([(6, 0, 0), (0, 2, 0), (1, 2, 0), (0, 2, 0), (1, 4, 0), (1, 5, 0)], gi_3302, [ac_1585, ac_1586, ac_1587, ac_807, ac_1588], []), [((0, (-6), 0), gi_3403, hq_1040, [], [1]), ((0, (-7), 0), gi_3404, hq_1040, [], [1])])
theorem hd_2884 : con_2884.1 = (yX12_paste, cX12_paste, 7, (some .int)) := rfl
noncomputable def rf_2884 : List (Nat × List POP) := [(17, [(1, (1, 1, 0), 0, 0), (1, (1, 3, 0), 0, 0)]), (52, [(1, (0, 1, 0), 0, 0)]), (110, [(0, (1, 2, 0), 0, 60), (0, (1, 4, 0), 0, 60), (0, (1, 5, 0), 0, 60)]), (139, [(0, (0, 0, 0), 0, 239)]), (178, [(0, (0, 1, 0), 0, 239)])]
noncomputable def cu_2884 : List CUT2 := []
theorem ch_2884 : staG tb_X12_paste 3 bt_RX12 [] ct_2882 rf_2884 [77, 85, 95, 103, 117, 138, 154, 170] cu_2884 35 con_2884 = true := by decide +kernel
theorem vl_2884 (l : Launch) : Vld2 l vwCl gTbl con_2884 := conR_ok3 gT_all (hd_2884) rfl pn_RX12 tk_X12_paste bo_RX12 xo_RX12 (cto_2882 l) ch_2884 cut_nil
