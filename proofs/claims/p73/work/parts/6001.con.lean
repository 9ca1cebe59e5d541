/-! ===== contracts, 1 ===== -/
/-- RookHusting hasBit -/
noncomputable def con_192 : Con2 := ((yX11_hasBit, cX11_hasBit, 2, (some .boolean)), (0, 0), ([(0, 21, 0), (0, 2, 0)], [(0, 0), (0, 0)], [], []), [((0, 1, 0), [(0, 0), (0, 0), (0, 0)], [], [], [1])])
theorem hd_192 : con_192.1 = (yX11_hasBit, cX11_hasBit, 2, (some .boolean)) := rfl
noncomputable def cu_192 : List CUT2 := []
theorem ch_192 : staG tb_X11_hasBit 1 bt_RX11 [] ct_3 [] [] cu_192 12 con_192 = true := by decide +kernel
theorem vl_192 (l : Launch) : Vld2 l vwCl gTbl con_192 := conR_ok3 gT_all (hd_192) rfl pn_RX11 tk_X11_hasBit bo_RX11 xo_RX11 (cto_3 l) ch_192 cut_nil
/-- RookHusting hasBit -/
noncomputable def con_193 : Con2 := ((yX11_hasBit, cX11_hasBit, 2, (some .boolean)), (0, 0), ([(0, 21, 0), (0, 1, 0)], [(0, 0), (0, 0)], [], []), [((0, 0, 0), [(0, 0), (0, 0), (0, 0)], [], [], [1])])
theorem hd_193 : con_193.1 = (yX11_hasBit, cX11_hasBit, 2, (some .boolean)) := rfl
noncomputable def cu_193 : List CUT2 := []
theorem ch_193 : staG tb_X11_hasBit 1 bt_RX11 [] ct_3 [] [] cu_193 11 con_193 = true := by decide +kernel
theorem vl_193 (l : Launch) : Vld2 l vwCl gTbl con_193 := conR_ok3 gT_all (hd_193) rfl pn_RX11 tk_X11_hasBit bo_RX11 xo_RX11 (cto_3 l) ch_193 cut_nil
/-- RookHusting hasBit -/
noncomputable def con_194 : Con2 := ((yX11_hasBit, cX11_hasBit, 2, (some .boolean)), (0, 0), ([(0, 21, 0), (0, 0, 0)], [(0, 0), (0, 0)], [], []), [((0, 1, 0), [(0, 0), (0, 0), (0, 0)], [], [], [1])])
theorem hd_194 : con_194.1 = (yX11_hasBit, cX11_hasBit, 2, (some .boolean)) := rfl
noncomputable def cu_194 : List CUT2 := []
theorem ch_194 : staG tb_X11_hasBit 1 bt_RX11 [] ct_3 [] [] cu_194 12 con_194 = true := by decide +kernel
theorem vl_194 (l : Launch) : Vld2 l vwCl gTbl con_194 := conR_ok3 gT_all (hd_194) rfl pn_RX11 tk_X11_hasBit bo_RX11 xo_RX11 (cto_3 l) ch_194 cut_nil
/-- RookHusting$Reader takeNumber -/
noncomputable def con_195 : Con2 := ((yX6_takeNumber, cX6_takeNumber, 5, (some .int)), (2, 40), ([(6, 0, 0), (0, 0, 0), (1, 2, 0), (0, 21, 0)], gi_92, hc_5, []), [((0, 0, 0), gi_93, hq_13, [], [1, 1, 1, 1, 1]), ((0, 1, 0), gi_73, hq_14, [], tg_0), ((0, 3, 0), gi_75, hq_14, [], tg_0)])
theorem hd_195 : con_195.1 = (yX6_takeNumber, cX6_takeNumber, 5, (some .int)) := rfl
theorem ck_RX6_147_190 : COK2 RX6 vwCl gTbl 147 2 con_190 := ⟨wd_682, wd_125, mh_X11_hasBit, .inr (.inl ⟨rfl, by decide +kernel, wd_681, pd_X11_hasBit⟩)⟩
theorem ck_RX6_147_191 : COK2 RX6 vwCl gTbl 147 2 con_191 := ⟨wd_682, wd_125, mh_X11_hasBit, .inr (.inl ⟨rfl, by decide +kernel, wd_681, pd_X11_hasBit⟩)⟩
theorem ck_RX6_147_192 : COK2 RX6 vwCl gTbl 147 2 con_192 := ⟨wd_682, wd_125, mh_X11_hasBit, .inr (.inl ⟨rfl, by decide +kernel, wd_681, pd_X11_hasBit⟩)⟩
theorem ck_RX6_147_193 : COK2 RX6 vwCl gTbl 147 2 con_193 := ⟨wd_682, wd_125, mh_X11_hasBit, .inr (.inl ⟨rfl, by decide +kernel, wd_681, pd_X11_hasBit⟩)⟩
theorem ck_RX6_147_194 : COK2 RX6 vwCl gTbl 147 2 con_194 := ⟨wd_682, wd_125, mh_X11_hasBit, .inr (.inl ⟨rfl, by decide +kernel, wd_681, pd_X11_hasBit⟩)⟩
noncomputable def ct_195 : CTB2 := [(22, 70, 0, con_15, [0, 1]), (55, 147, 2, con_194, []), (55, 147, 2, con_193, []), (55, 147, 2, con_192, []), (55, 147, 2, con_191, []), (55, 147, 2, con_190, []), (63, 70, 0, con_19, [0, 1]), (72, 102, 0, con_10, [1, 2])]
noncomputable def cu_195 : List CUT2 := []
theorem ch_195 : staG tb_X6_takeNumber 1 bt_RX6 [] ct_195 [(52, [(1, (1, 4, 0), 0, 0)])] [] cu_195 31 con_195 = true := by decide +kernel
theorem cto_195 (l : Launch) : CTOK2 l RX6 vwCl gTbl ct_195 := ct2_cons (vl_15 l) ck_RX6_70_15 (ct2_cons (vl_194 l) ck_RX6_147_194 (ct2_cons (vl_193 l) ck_RX6_147_193 (ct2_cons (vl_192 l) ck_RX6_147_192 (ct2_cons (vl_191 l) ck_RX6_147_191 (ct2_cons (vl_190 l) ck_RX6_147_190 (ct2_cons (vl_19 l) ck_RX6_70_19 (ct2_cons (vl_10 l) ck_RX6_102_10 (ct2_nil))))))))
theorem vl_195 (l : Launch) : Vld2 l vwCl gTbl con_195 := conR_ok3 gT_all (hd_195) rfl pn_RX6 tk_X6_takeNumber bo_RX6 xo_RX6 (cto_195 l) ch_195 cut_nil
/-- RookHusting hasBit -/
noncomputable def con_196 : Con2 := ((yX11_hasBit, cX11_hasBit, 2, (some .boolean)), (0, 0), ([(0, 19, 0), (0, 4, 0)], [(0, 0), (0, 0)], [], []), [((0, 1, 0), [(0, 0), (0, 0), (0, 0)], [], [], [1])])
theorem hd_196 : con_196.1 = (yX11_hasBit, cX11_hasBit, 2, (some .boolean)) := rfl
noncomputable def cu_196 : List CUT2 := []
theorem ch_196 : staG tb_X11_hasBit 1 bt_RX11 [] ct_3 [] [] cu_196 12 con_196 = true := by decide +kernel
theorem vl_196 (l : Launch) : Vld2 l vwCl gTbl con_196 := conR_ok3 gT_all (hd_196) rfl pn_RX11 tk_X11_hasBit bo_RX11 xo_RX11 (cto_3 l) ch_196 cut_nil
/-- RookHusting hasBit -/
noncomputable def con_197 : Con2 := ((yX11_hasBit, cX11_hasBit, 2, (some .boolean)), (0, 0), ([(0, 19, 0), (0, 3, 0)], [(0, 0), (0, 0)], [], []), [((0, 0, 0), [(0, 0), (0, 0), (0, 0)], [], [], [1])])
theorem hd_197 : con_197.1 = (yX11_hasBit, cX11_hasBit, 2, (some .boolean)) := rfl
noncomputable def cu_197 : List CUT2 := []
theorem ch_197 : staG tb_X11_hasBit 1 bt_RX11 [] ct_3 [] [] cu_197 11 con_197 = true := by decide +kernel
theorem vl_197 (l : Launch) : Vld2 l vwCl gTbl con_197 := conR_ok3 gT_all (hd_197) rfl pn_RX11 tk_X11_hasBit bo_RX11 xo_RX11 (cto_3 l) ch_197 cut_nil
/-- RookHusting hasBit -/
noncomputable def con_198 : Con2 := ((yX11_hasBit, cX11_hasBit, 2, (some .boolean)), (0, 0), ([(0, 19, 0), (0, 2, 0)], [(0, 0), (0, 0)], [], []), [((0, 0, 0), [(0, 0), (0, 0), (0, 0)], [], [], [1])])
theorem hd_198 : con_198.1 = (yX11_hasBit, cX11_hasBit, 2, (some .boolean)) := rfl
noncomputable def cu_198 : List CUT2 := []
theorem ch_198 : staG tb_X11_hasBit 1 bt_RX11 [] ct_3 [] [] cu_198 11 con_198 = true := by decide +kernel
theorem vl_198 (l : Launch) : Vld2 l vwCl gTbl con_198 := conR_ok3 gT_all (hd_198) rfl pn_RX11 tk_X11_hasBit bo_RX11 xo_RX11 (cto_3 l) ch_198 cut_nil
/-- RookHusting hasBit -/
noncomputable def con_199 : Con2 := ((yX11_hasBit, cX11_hasBit, 2, (some .boolean)), (0, 0), ([(0, 19, 0), (0, 1, 0)], [(0, 0), (0, 0)], [], []), [((0, 1, 0), [(0, 0), (0, 0), (0, 0)], [], [], [1])])
theorem hd_199 : con_199.1 = (yX11_hasBit, cX11_hasBit, 2, (some .boolean)) := rfl
noncomputable def cu_199 : List CUT2 := []
theorem ch_199 : staG tb_X11_hasBit 1 bt_RX11 [] ct_3 [] [] cu_199 12 con_199 = true := by decide +kernel
theorem vl_199 (l : Launch) : Vld2 l vwCl gTbl con_199 := conR_ok3 gT_all (hd_199) rfl pn_RX11 tk_X11_hasBit bo_RX11 xo_RX11 (cto_3 l) ch_199 cut_nil
/-- RookHusting hasBit -/
noncomputable def con_200 : Con2 := ((yX11_hasBit, cX11_hasBit, 2, (some .boolean)), (0, 0), ([(0, 19, 0), (0, 0, 0)], [(0, 0), (0, 0)], [], []), [((0, 1, 0), [(0, 0), (0, 0), (0, 0)], [], [], [1])])
theorem hd_200 : con_200.1 = (yX11_hasBit, cX11_hasBit, 2, (some .boolean)) := rfl
noncomputable def cu_200 : List CUT2 := []
theorem ch_200 : staG tb_X11_hasBit 1 bt_RX11 [] ct_3 [] [] cu_200 12 con_200 = true := by decide +kernel
theorem vl_200 (l : Launch) : Vld2 l vwCl gTbl con_200 := conR_ok3 gT_all (hd_200) rfl pn_RX11 tk_X11_hasBit bo_RX11 xo_RX11 (cto_3 l) ch_200 cut_nil
/-- RookHusting$Reader takeNumber -/
noncomputable def con_201 : Con2 := ((yX6_takeNumber, cX6_takeNumber, 5, (some .int)), (2, 40), ([(6, 0, 0), (0, 0, 0), (1, 2, 0), (0, 19, 0)], gi_92, hc_5, []), [((0, 0, 0), gi_93, hq_13, [], [1, 1, 1, 1, 1]), ((0, 2, 0), gi_74, hq_14, [], tg_0), ((0, 3, 0), gi_75, hq_14, [], tg_0)])
theorem hd_201 : con_201.1 = (yX6_takeNumber, cX6_takeNumber, 5, (some .int)) := rfl
theorem ck_RX6_147_196 : COK2 RX6 vwCl gTbl 147 2 con_196 := ⟨wd_682, wd_125, mh_X11_hasBit, .inr (.inl ⟨rfl, by decide +kernel, wd_681, pd_X11_hasBit⟩)⟩
theorem ck_RX6_147_197 : COK2 RX6 vwCl gTbl 147 2 con_197 := ⟨wd_682, wd_125, mh_X11_hasBit, .inr (.inl ⟨rfl, by decide +kernel, wd_681, pd_X11_hasBit⟩)⟩
theorem ck_RX6_147_198 : COK2 RX6 vwCl gTbl 147 2 con_198 := ⟨wd_682, wd_125, mh_X11_hasBit, .inr (.inl ⟨rfl, by decide +kernel, wd_681, pd_X11_hasBit⟩)⟩
theorem ck_RX6_147_199 : COK2 RX6 vwCl gTbl 147 2 con_199 := ⟨wd_682, wd_125, mh_X11_hasBit, .inr (.inl ⟨rfl, by decide +kernel, wd_681, pd_X11_hasBit⟩)⟩
theorem ck_RX6_147_200 : COK2 RX6 vwCl gTbl 147 2 con_200 := ⟨wd_682, wd_125, mh_X11_hasBit, .inr (.inl ⟨rfl, by decide +kernel, wd_681, pd_X11_hasBit⟩)⟩
noncomputable def ct_201 : CTB2 := [(22, 70, 0, con_15, [0, 1]), (55, 147, 2, con_200, []), (55, 147, 2, con_199, []), (55, 147, 2, con_198, []), (55, 147, 2, con_197, []), (55, 147, 2, con_196, []), (63, 70, 0, con_19, [0, 1]), (72, 102, 0, con_10, [1, 2])]
noncomputable def cu_201 : List CUT2 := []
theorem ch_201 : staG tb_X6_takeNumber 1 bt_RX6 [] ct_201 [(52, [(1, (1, 4, 0), 0, 0)])] [] cu_201 31 con_201 = true := by decide +kernel
theorem cto_201 (l : Launch) : CTOK2 l RX6 vwCl gTbl ct_201 := ct2_cons (vl_15 l) ck_RX6_70_15 (ct2_cons (vl_200 l) ck_RX6_147_200 (ct2_cons (vl_199 l) ck_RX6_147_199 (ct2_cons (vl_198 l) ck_RX6_147_198 (ct2_cons (vl_197 l) ck_RX6_147_197 (ct2_cons (vl_196 l) ck_RX6_147_196 (ct2_cons (vl_19 l) ck_RX6_70_19 (ct2_cons (vl_10 l) ck_RX6_102_10 (ct2_nil))))))))
theorem vl_201 (l : Launch) : Vld2 l vwCl gTbl con_201 := conR_ok3 gT_all (hd_201) rfl pn_RX6 tk_X6_takeNumber bo_RX6 xo_RX6 (cto_201 l) ch_201 cut_nil
/-- RookHusting hasBit -/
noncomputable def con_202 : Con2 := ((yX11_hasBit, cX11_hasBit, 2, (some .boolean)), (0, 0), ([(0, 14, 0), (0, 4, 0)], [(0, 0), (0, 0)], [], []), [((0, 0, 0), [(0, 0), (0, 0), (0, 0)], [], [], [1])])
theorem hd_202 : con_202.1 = (yX11_hasBit, cX11_hasBit, 2, (some .boolean)) := rfl
noncomputable def cu_202 : List CUT2 := []
theorem ch_202 : staG tb_X11_hasBit 1 bt_RX11 [] ct_3 [] [] cu_202 11 con_202 = true := by decide +kernel
theorem vl_202 (l : Launch) : Vld2 l vwCl gTbl con_202 := conR_ok3 gT_all (hd_202) rfl pn_RX11 tk_X11_hasBit bo_RX11 xo_RX11 (cto_3 l) ch_202 cut_nil
/-- RookHusting hasBit -/
noncomputable def con_203 : Con2 := ((yX11_hasBit, cX11_hasBit, 2, (some .boolean)), (0, 0), ([(0, 14, 0), (0, 3, 0)], [(0, 0), (0, 0)], [], []), [((0, 1, 0), [(0, 0), (0, 0), (0, 0)], [], [], [1])])
theorem hd_203 : con_203.1 = (yX11_hasBit, cX11_hasBit, 2, (some .boolean)) := rfl
noncomputable def cu_203 : List CUT2 := []
theorem ch_203 : staG tb_X11_hasBit 1 bt_RX11 [] ct_3 [] [] cu_203 12 con_203 = true := by decide +kernel
theorem vl_203 (l : Launch) : Vld2 l vwCl gTbl con_203 := conR_ok3 gT_all (hd_203) rfl pn_RX11 tk_X11_hasBit bo_RX11 xo_RX11 (cto_3 l) ch_203 cut_nil
/-- RookHusting hasBit -/
noncomputable def con_204 : Con2 := ((yX11_hasBit, cX11_hasBit, 2, (some .boolean)), (0, 0), ([(0, 14, 0), (0, 2, 0)], [(0, 0), (0, 0)], [], []), [((0, 1, 0), [(0, 0), (0, 0), (0, 0)], [], [], [1])])
theorem hd_204 : con_204.1 = (yX11_hasBit, cX11_hasBit, 2, (some .boolean)) := rfl
noncomputable def cu_204 : List CUT2 := []
theorem ch_204 : staG tb_X11_hasBit 1 bt_RX11 [] ct_3 [] [] cu_204 12 con_204 = true := by decide +kernel
theorem vl_204 (l : Launch) : Vld2 l vwCl gTbl con_204 := conR_ok3 gT_all (hd_204) rfl pn_RX11 tk_X11_hasBit bo_RX11 xo_RX11 (cto_3 l) ch_204 cut_nil
/-- RookHusting hasBit -/
noncomputable def con_205 : Con2 := ((yX11_hasBit, cX11_hasBit, 2, (some .boolean)), (0, 0), ([(0, 14, 0), (0, 1, 0)], [(0, 0), (0, 0)], [], []), [((0, 1, 0), [(0, 0), (0, 0), (0, 0)], [], [], [1])])
theorem hd_205 : con_205.1 = (yX11_hasBit, cX11_hasBit, 2, (some .boolean)) := rfl
noncomputable def cu_205 : List CUT2 := []
theorem ch_205 : staG tb_X11_hasBit 1 bt_RX11 [] ct_3 [] [] cu_205 12 con_205 = true := by decide +kernel
theorem vl_205 (l : Launch) : Vld2 l vwCl gTbl con_205 := conR_ok3 gT_all (hd_205) rfl pn_RX11 tk_X11_hasBit bo_RX11 xo_RX11 (cto_3 l) ch_205 cut_nil
/-- RookHusting hasBit -/
noncomputable def con_206 : Con2 := ((yX11_hasBit, cX11_hasBit, 2, (some .boolean)), (0, 0), ([(0, 14, 0), (0, 0, 0)], [(0, 0), (0, 0)], [], []), [((0, 0, 0), [(0, 0), (0, 0), (0, 0)], [], [], [1])])
theorem hd_206 : con_206.1 = (yX11_hasBit, cX11_hasBit, 2, (some .boolean)) := rfl
noncomputable def cu_206 : List CUT2 := []
theorem ch_206 : staG tb_X11_hasBit 1 bt_RX11 [] ct_3 [] [] cu_206 11 con_206 = true := by decide +kernel
theorem vl_206 (l : Launch) : Vld2 l vwCl gTbl con_206 := conR_ok3 gT_all (hd_206) rfl pn_RX11 tk_X11_hasBit bo_RX11 xo_RX11 (cto_3 l) ch_206 cut_nil
/-- RookHusting$Reader takeNumber -/
noncomputable def con_207 : Con2 := ((yX6_takeNumber, cX6_takeNumber, 5, (some .int)), (2, 40), ([(6, 0, 0), (0, 0, 0), (1, 2, 0), (0, 14, 0)], gi_92, hc_5, []), [((0, 0, 0), gi_93, hq_13, [], [1, 1, 1, 1, 1]), ((0, 0, 0), gi_94, hq_14, [], tg_0), ((0, 4, 0), gi_76, hq_14, [], tg_0)])
theorem hd_207 : con_207.1 = (yX6_takeNumber, cX6_takeNumber, 5, (some .int)) := rfl
theorem ck_RX6_147_202 : COK2 RX6 vwCl gTbl 147 2 con_202 := ⟨wd_682, wd_125, mh_X11_hasBit, .inr (.inl ⟨rfl, by decide +kernel, wd_681, pd_X11_hasBit⟩)⟩
theorem ck_RX6_147_203 : COK2 RX6 vwCl gTbl 147 2 con_203 := ⟨wd_682, wd_125, mh_X11_hasBit, .inr (.inl ⟨rfl, by decide +kernel, wd_681, pd_X11_hasBit⟩)⟩
theorem ck_RX6_147_204 : COK2 RX6 vwCl gTbl 147 2 con_204 := ⟨wd_682, wd_125, mh_X11_hasBit, .inr (.inl ⟨rfl, by decide +kernel, wd_681, pd_X11_hasBit⟩)⟩
theorem ck_RX6_147_205 : COK2 RX6 vwCl gTbl 147 2 con_205 := ⟨wd_682, wd_125, mh_X11_hasBit, .inr (.inl ⟨rfl, by decide +kernel, wd_681, pd_X11_hasBit⟩)⟩
theorem ck_RX6_147_206 : COK2 RX6 vwCl gTbl 147 2 con_206 := ⟨wd_682, wd_125, mh_X11_hasBit, .inr (.inl ⟨rfl, by decide +kernel, wd_681, pd_X11_hasBit⟩)⟩
noncomputable def ct_207 : CTB2 := [(22, 70, 0, con_15, [0, 1]), (55, 147, 2, con_206, []), (55, 147, 2, con_205, []), (55, 147, 2, con_204, []), (55, 147, 2, con_203, []), (55, 147, 2, con_202, []), (63, 70, 0, con_19, [0, 1]), (72, 102, 0, con_10, [1, 2])]
noncomputable def cu_207 : List CUT2 := []
theorem ch_207 : staG tb_X6_takeNumber 1 bt_RX6 [] ct_207 [(52, [(1, (1, 4, 0), 0, 0)])] [] cu_207 31 con_207 = true := by decide +kernel
theorem cto_207 (l : Launch) : CTOK2 l RX6 vwCl gTbl ct_207 := ct2_cons (vl_15 l) ck_RX6_70_15 (ct2_cons (vl_206 l) ck_RX6_147_206 (ct2_cons (vl_205 l) ck_RX6_147_205 (ct2_cons (vl_204 l) ck_RX6_147_204 (ct2_cons (vl_203 l) ck_RX6_147_203 (ct2_cons (vl_202 l) ck_RX6_147_202 (ct2_cons (vl_19 l) ck_RX6_70_19 (ct2_cons (vl_10 l) ck_RX6_102_10 (ct2_nil))))))))
theorem vl_207 (l : Launch) : Vld2 l vwCl gTbl con_207 := conR_ok3 gT_all (hd_207) rfl pn_RX6 tk_X6_takeNumber bo_RX6 xo_RX6 (cto_207 l) ch_207 cut_nil
/-- RookHusting hasBit -/
noncomputable def con_208 : Con2 := ((yX11_hasBit, cX11_hasBit, 2, (some .boolean)), (0, 0), ([(0, 13, 0), (0, 4, 0)], [(0, 0), (0, 0)], [], []), [((0, 0, 0), [(0, 0), (0, 0), (0, 0)], [], [], [1])])
theorem hd_208 : con_208.1 = (yX11_hasBit, cX11_hasBit, 2, (some .boolean)) := rfl
noncomputable def cu_208 : List CUT2 := []
theorem ch_208 : staG tb_X11_hasBit 1 bt_RX11 [] ct_3 [] [] cu_208 11 con_208 = true := by decide +kernel
theorem vl_208 (l : Launch) : Vld2 l vwCl gTbl con_208 := conR_ok3 gT_all (hd_208) rfl pn_RX11 tk_X11_hasBit bo_RX11 xo_RX11 (cto_3 l) ch_208 cut_nil
/-- RookHusting hasBit -/
noncomputable def con_209 : Con2 := ((yX11_hasBit, cX11_hasBit, 2, (some .boolean)), (0, 0), ([(0, 13, 0), (0, 3, 0)], [(0, 0), (0, 0)], [], []), [((0, 1, 0), [(0, 0), (0, 0), (0, 0)], [], [], [1])])
theorem hd_209 : con_209.1 = (yX11_hasBit, cX11_hasBit, 2, (some .boolean)) := rfl
noncomputable def cu_209 : List CUT2 := []
theorem ch_209 : staG tb_X11_hasBit 1 bt_RX11 [] ct_3 [] [] cu_209 12 con_209 = true := by decide +kernel
theorem vl_209 (l : Launch) : Vld2 l vwCl gTbl con_209 := conR_ok3 gT_all (hd_209) rfl pn_RX11 tk_X11_hasBit bo_RX11 xo_RX11 (cto_3 l) ch_209 cut_nil
/-- RookHusting hasBit -/
noncomputable def con_210 : Con2 := ((yX11_hasBit, cX11_hasBit, 2, (some .boolean)), (0, 0), ([(0, 13, 0), (0, 2, 0)], [(0, 0), (0, 0)], [], []), [((0, 1, 0), [(0, 0), (0, 0), (0, 0)], [], [], [1])])
theorem hd_210 : con_210.1 = (yX11_hasBit, cX11_hasBit, 2, (some .boolean)) := rfl
noncomputable def cu_210 : List CUT2 := []
theorem ch_210 : staG tb_X11_hasBit 1 bt_RX11 [] ct_3 [] [] cu_210 12 con_210 = true := by decide +kernel
theorem vl_210 (l : Launch) : Vld2 l vwCl gTbl con_210 := conR_ok3 gT_all (hd_210) rfl pn_RX11 tk_X11_hasBit bo_RX11 xo_RX11 (cto_3 l) ch_210 cut_nil
/-- RookHusting hasBit -/
noncomputable def con_211 : Con2 := ((yX11_hasBit, cX11_hasBit, 2, (some .boolean)), (0, 0), ([(0, 13, 0), (0, 1, 0)], [(0, 0), (0, 0)], [], []), [((0, 0, 0), [(0, 0), (0, 0), (0, 0)], [], [], [1])])
theorem hd_211 : con_211.1 = (yX11_hasBit, cX11_hasBit, 2, (some .boolean)) := rfl
noncomputable def cu_211 : List CUT2 := []
theorem ch_211 : staG tb_X11_hasBit 1 bt_RX11 [] ct_3 [] [] cu_211 11 con_211 = true := by decide +kernel
theorem vl_211 (l : Launch) : Vld2 l vwCl gTbl con_211 := conR_ok3 gT_all (hd_211) rfl pn_RX11 tk_X11_hasBit bo_RX11 xo_RX11 (cto_3 l) ch_211 cut_nil
/-- RookHusting hasBit -/
noncomputable def con_212 : Con2 := ((yX11_hasBit, cX11_hasBit, 2, (some .boolean)), (0, 0), ([(0, 13, 0), (0, 0, 0)], [(0, 0), (0, 0)], [], []), [((0, 1, 0), [(0, 0), (0, 0), (0, 0)], [], [], [1])])
theorem hd_212 : con_212.1 = (yX11_hasBit, cX11_hasBit, 2, (some .boolean)) := rfl
noncomputable def cu_212 : List CUT2 := []
theorem ch_212 : staG tb_X11_hasBit 1 bt_RX11 [] ct_3 [] [] cu_212 12 con_212 = true := by decide +kernel
theorem vl_212 (l : Launch) : Vld2 l vwCl gTbl con_212 := conR_ok3 gT_all (hd_212) rfl pn_RX11 tk_X11_hasBit bo_RX11 xo_RX11 (cto_3 l) ch_212 cut_nil
/-- RookHusting$Reader takeNumber -/
noncomputable def con_213 : Con2 := ((yX6_takeNumber, cX6_takeNumber, 5, (some .int)), (2, 40), ([(6, 0, 0), (0, 0, 0), (1, 2, 0), (0, 13, 0)], gi_92, hc_5, []), [((0, 0, 0), gi_93, hq_13, [], [1, 1, 1, 1, 1]), ((0, 1, 0), gi_73, hq_14, [], tg_0), ((0, 4, 0), gi_76, hq_14, [], tg_0)])
theorem hd_213 : con_213.1 = (yX6_takeNumber, cX6_takeNumber, 5, (some .int)) := rfl
theorem ck_RX6_147_208 : COK2 RX6 vwCl gTbl 147 2 con_208 := ⟨wd_682, wd_125, mh_X11_hasBit, .inr (.inl ⟨rfl, by decide +kernel, wd_681, pd_X11_hasBit⟩)⟩
theorem ck_RX6_147_209 : COK2 RX6 vwCl gTbl 147 2 con_209 := ⟨wd_682, wd_125, mh_X11_hasBit, .inr (.inl ⟨rfl, by decide +kernel, wd_681, pd_X11_hasBit⟩)⟩
theorem ck_RX6_147_210 : COK2 RX6 vwCl gTbl 147 2 con_210 := ⟨wd_682, wd_125, mh_X11_hasBit, .inr (.inl ⟨rfl, by decide +kernel, wd_681, pd_X11_hasBit⟩)⟩
theorem ck_RX6_147_211 : COK2 RX6 vwCl gTbl 147 2 con_211 := ⟨wd_682, wd_125, mh_X11_hasBit, .inr (.inl ⟨rfl, by decide +kernel, wd_681, pd_X11_hasBit⟩)⟩
theorem ck_RX6_147_212 : COK2 RX6 vwCl gTbl 147 2 con_212 := ⟨wd_682, wd_125, mh_X11_hasBit, .inr (.inl ⟨rfl, by decide +kernel, wd_681, pd_X11_hasBit⟩)⟩
noncomputable def ct_213 : CTB2 := [(22, 70, 0, con_15, [0, 1]), (55, 147, 2, con_212, []), (55, 147, 2, con_211, []), (55, 147, 2, con_210, []), (55, 147, 2, con_209, []), (55, 147, 2, con_208, []), (63, 70, 0, con_19, [0, 1]), (72, 102, 0, con_10, [1, 2])]
noncomputable def cu_213 : List CUT2 := []
theorem ch_213 : staG tb_X6_takeNumber 1 bt_RX6 [] ct_213 [(52, [(1, (1, 4, 0), 0, 0)])] [] cu_213 31 con_213 = true := by decide +kernel
theorem cto_213 (l : Launch) : CTOK2 l RX6 vwCl gTbl ct_213 := ct2_cons (vl_15 l) ck_RX6_70_15 (ct2_cons (vl_212 l) ck_RX6_147_212 (ct2_cons (vl_211 l) ck_RX6_147_211 (ct2_cons (vl_210 l) ck_RX6_147_210 (ct2_cons (vl_209 l) ck_RX6_147_209 (ct2_cons (vl_208 l) ck_RX6_147_208 (ct2_cons (vl_19 l) ck_RX6_70_19 (ct2_cons (vl_10 l) ck_RX6_102_10 (ct2_nil))))))))
theorem vl_213 (l : Launch) : Vld2 l vwCl gTbl con_213 := conR_ok3 gT_all (hd_213) rfl pn_RX6 tk_X6_takeNumber bo_RX6 xo_RX6 (cto_213 l) ch_213 cut_nil
/-- RookHusting hasBit -/
noncomputable def con_214 : Con2 := ((yX11_hasBit, cX11_hasBit, 2, (some .boolean)), (0, 0), ([(0, 11, 0), (0, 4, 0)], [(0, 0), (0, 0)], [], []), [((0, 0, 0), [(0, 0), (0, 0), (0, 0)], [], [], [1])])
theorem hd_214 : con_214.1 = (yX11_hasBit, cX11_hasBit, 2, (some .boolean)) := rfl
noncomputable def cu_214 : List CUT2 := []
theorem ch_214 : staG tb_X11_hasBit 1 bt_RX11 [] ct_3 [] [] cu_214 11 con_214 = true := by decide +kernel
theorem vl_214 (l : Launch) : Vld2 l vwCl gTbl con_214 := conR_ok3 gT_all (hd_214) rfl pn_RX11 tk_X11_hasBit bo_RX11 xo_RX11 (cto_3 l) ch_214 cut_nil
/-- RookHusting hasBit -/
noncomputable def con_215 : Con2 := ((yX11_hasBit, cX11_hasBit, 2, (some .boolean)), (0, 0), ([(0, 11, 0), (0, 3, 0)], [(0, 0), (0, 0)], [], []), [((0, 1, 0), [(0, 0), (0, 0), (0, 0)], [], [], [1])])
theorem hd_215 : con_215.1 = (yX11_hasBit, cX11_hasBit, 2, (some .boolean)) := rfl
noncomputable def cu_215 : List CUT2 := []
theorem ch_215 : staG tb_X11_hasBit 1 bt_RX11 [] ct_3 [] [] cu_215 12 con_215 = true := by decide +kernel
theorem vl_215 (l : Launch) : Vld2 l vwCl gTbl con_215 := conR_ok3 gT_all (hd_215) rfl pn_RX11 tk_X11_hasBit bo_RX11 xo_RX11 (cto_3 l) ch_215 cut_nil
/-- RookHusting hasBit -/
noncomputable def con_216 : Con2 := ((yX11_hasBit, cX11_hasBit, 2, (some .boolean)), (0, 0), ([(0, 11, 0), (0, 2, 0)], [(0, 0), (0, 0)], [], []), [((0, 0, 0), [(0, 0), (0, 0), (0, 0)], [], [], [1])])
theorem hd_216 : con_216.1 = (yX11_hasBit, cX11_hasBit, 2, (some .boolean)) := rfl
noncomputable def cu_216 : List CUT2 := []
theorem ch_216 : staG tb_X11_hasBit 1 bt_RX11 [] ct_3 [] [] cu_216 11 con_216 = true := by decide +kernel
theorem vl_216 (l : Launch) : Vld2 l vwCl gTbl con_216 := conR_ok3 gT_all (hd_216) rfl pn_RX11 tk_X11_hasBit bo_RX11 xo_RX11 (cto_3 l) ch_216 cut_nil
/-- RookHusting hasBit -/
noncomputable def con_217 : Con2 := ((yX11_hasBit, cX11_hasBit, 2, (some .boolean)), (0, 0), ([(0, 11, 0), (0, 1, 0)], [(0, 0), (0, 0)], [], []), [((0, 1, 0), [(0, 0), (0, 0), (0, 0)], [], [], [1])])
theorem hd_217 : con_217.1 = (yX11_hasBit, cX11_hasBit, 2, (some .boolean)) := rfl
noncomputable def cu_217 : List CUT2 := []
theorem ch_217 : staG tb_X11_hasBit 1 bt_RX11 [] ct_3 [] [] cu_217 12 con_217 = true := by decide +kernel
theorem vl_217 (l : Launch) : Vld2 l vwCl gTbl con_217 := conR_ok3 gT_all (hd_217) rfl pn_RX11 tk_X11_hasBit bo_RX11 xo_RX11 (cto_3 l) ch_217 cut_nil
/-- RookHusting hasBit -/
noncomputable def con_218 : Con2 := ((yX11_hasBit, cX11_hasBit, 2, (some .boolean)), (0, 0), ([(0, 11, 0), (0, 0, 0)], [(0, 0), (0, 0)], [], []), [((0, 1, 0), [(0, 0), (0, 0), (0, 0)], [], [], [1])])
theorem hd_218 : con_218.1 = (yX11_hasBit, cX11_hasBit, 2, (some .boolean)) := rfl
noncomputable def cu_218 : List CUT2 := []
theorem ch_218 : staG tb_X11_hasBit 1 bt_RX11 [] ct_3 [] [] cu_218 12 con_218 = true := by decide +kernel
theorem vl_218 (l : Launch) : Vld2 l vwCl gTbl con_218 := conR_ok3 gT_all (hd_218) rfl pn_RX11 tk_X11_hasBit bo_RX11 xo_RX11 (cto_3 l) ch_218 cut_nil
/-- RookHusting$Reader takeNumber -/
noncomputable def con_219 : Con2 := ((yX6_takeNumber, cX6_takeNumber, 5, (some .int)), (2, 40), ([(6, 0, 0), (0, 0, 0), (1, 2, 0), (0, 11, 0)], gi_92, hc_5, []), [((0, 0, 0), gi_93, hq_13, [], [1, 1, 1, 1, 1]), ((0, 2, 0), gi_74, hq_14, [], tg_0), ((0, 4, 0), gi_76, hq_14, [], tg_0)])
theorem hd_219 : con_219.1 = (yX6_takeNumber, cX6_takeNumber, 5, (some .int)) := rfl
theorem ck_RX6_147_214 : COK2 RX6 vwCl gTbl 147 2 con_214 := ⟨wd_682, wd_125, mh_X11_hasBit, .inr (.inl ⟨rfl, by decide +kernel, wd_681, pd_X11_hasBit⟩)⟩
theorem ck_RX6_147_215 : COK2 RX6 vwCl gTbl 147 2 con_215 := ⟨wd_682, wd_125, mh_X11_hasBit, .inr (.inl ⟨rfl, by decide +kernel, wd_681, pd_X11_hasBit⟩)⟩
theorem ck_RX6_147_216 : COK2 RX6 vwCl gTbl 147 2 con_216 := ⟨wd_682, wd_125, mh_X11_hasBit, .inr (.inl ⟨rfl, by decide +kernel, wd_681, pd_X11_hasBit⟩)⟩
theorem ck_RX6_147_217 : COK2 RX6 vwCl gTbl 147 2 con_217 := ⟨wd_682, wd_125, mh_X11_hasBit, .inr (.inl ⟨rfl, by decide +kernel, wd_681, pd_X11_hasBit⟩)⟩
theorem ck_RX6_147_218 : COK2 RX6 vwCl gTbl 147 2 con_218 := ⟨wd_682, wd_125, mh_X11_hasBit, .inr (.inl ⟨rfl, by decide +kernel, wd_681, pd_X11_hasBit⟩)⟩
noncomputable def ct_219 : CTB2 := [(22, 70, 0, con_15, [0, 1]), (55, 147, 2, con_218, []), (55, 147, 2, con_217, []), (55, 147, 2, con_216, []), (55, 147, 2, con_215, []), (55, 147, 2, con_214, []), (63, 70, 0, con_19, [0, 1]), (72, 102, 0, con_10, [1, 2])]
noncomputable def cu_219 : List CUT2 := []
theorem ch_219 : staG tb_X6_takeNumber 1 bt_RX6 [] ct_219 [(52, [(1, (1, 4, 0), 0, 0)])] [] cu_219 31 con_219 = true := by decide +kernel
theorem cto_219 (l : Launch) : CTOK2 l RX6 vwCl gTbl ct_219 := ct2_cons (vl_15 l) ck_RX6_70_15 (ct2_cons (vl_218 l) ck_RX6_147_218 (ct2_cons (vl_217 l) ck_RX6_147_217 (ct2_cons (vl_216 l) ck_RX6_147_216 (ct2_cons (vl_215 l) ck_RX6_147_215 (ct2_cons (vl_214 l) ck_RX6_147_214 (ct2_cons (vl_19 l) ck_RX6_70_19 (ct2_cons (vl_10 l) ck_RX6_102_10 (ct2_nil))))))))
theorem vl_219 (l : Launch) : Vld2 l vwCl gTbl con_219 := conR_ok3 gT_all (hd_219) rfl pn_RX6 tk_X6_takeNumber bo_RX6 xo_RX6 (cto_219 l) ch_219 cut_nil
/-- RookHusting hasBit -/
noncomputable def con_220 : Con2 := ((yX11_hasBit, cX11_hasBit, 2, (some .boolean)), (0, 0), ([(0, 7, 0), (0, 4, 0)], [(0, 0), (0, 0)], [], []), [((0, 0, 0), [(0, 0), (0, 0), (0, 0)], [], [], [1])])
theorem hd_220 : con_220.1 = (yX11_hasBit, cX11_hasBit, 2, (some .boolean)) := rfl
noncomputable def cu_220 : List CUT2 := []
theorem ch_220 : staG tb_X11_hasBit 1 bt_RX11 [] ct_3 [] [] cu_220 11 con_220 = true := by decide +kernel
theorem vl_220 (l : Launch) : Vld2 l vwCl gTbl con_220 := conR_ok3 gT_all (hd_220) rfl pn_RX11 tk_X11_hasBit bo_RX11 xo_RX11 (cto_3 l) ch_220 cut_nil
/-- RookHusting hasBit -/
noncomputable def con_221 : Con2 := ((yX11_hasBit, cX11_hasBit, 2, (some .boolean)), (0, 0), ([(0, 7, 0), (0, 3, 0)], [(0, 0), (0, 0)], [], []), [((0, 0, 0), [(0, 0), (0, 0), (0, 0)], [], [], [1])])
theorem hd_221 : con_221.1 = (yX11_hasBit, cX11_hasBit, 2, (some .boolean)) := rfl
noncomputable def cu_221 : List CUT2 := []
theorem ch_221 : staG tb_X11_hasBit 1 bt_RX11 [] ct_3 [] [] cu_221 11 con_221 = true := by decide +kernel
theorem vl_221 (l : Launch) : Vld2 l vwCl gTbl con_221 := conR_ok3 gT_all (hd_221) rfl pn_RX11 tk_X11_hasBit bo_RX11 xo_RX11 (cto_3 l) ch_221 cut_nil
/-- RookHusting hasBit -/
noncomputable def con_222 : Con2 := ((yX11_hasBit, cX11_hasBit, 2, (some .boolean)), (0, 0), ([(0, 7, 0), (0, 2, 0)], [(0, 0), (0, 0)], [], []), [((0, 1, 0), [(0, 0), (0, 0), (0, 0)], [], [], [1])])
theorem hd_222 : con_222.1 = (yX11_hasBit, cX11_hasBit, 2, (some .boolean)) := rfl
noncomputable def cu_222 : List CUT2 := []
theorem ch_222 : staG tb_X11_hasBit 1 bt_RX11 [] ct_3 [] [] cu_222 12 con_222 = true := by decide +kernel
theorem vl_222 (l : Launch) : Vld2 l vwCl gTbl con_222 := conR_ok3 gT_all (hd_222) rfl pn_RX11 tk_X11_hasBit bo_RX11 xo_RX11 (cto_3 l) ch_222 cut_nil
/-- RookHusting hasBit -/
noncomputable def con_223 : Con2 := ((yX11_hasBit, cX11_hasBit, 2, (some .boolean)), (0, 0), ([(0, 7, 0), (0, 1, 0)], [(0, 0), (0, 0)], [], []), [((0, 1, 0), [(0, 0), (0, 0), (0, 0)], [], [], [1])])
theorem hd_223 : con_223.1 = (yX11_hasBit, cX11_hasBit, 2, (some .boolean)) := rfl
noncomputable def cu_223 : List CUT2 := []
theorem ch_223 : staG tb_X11_hasBit 1 bt_RX11 [] ct_3 [] [] cu_223 12 con_223 = true := by decide +kernel
theorem vl_223 (l : Launch) : Vld2 l vwCl gTbl con_223 := conR_ok3 gT_all (hd_223) rfl pn_RX11 tk_X11_hasBit bo_RX11 xo_RX11 (cto_3 l) ch_223 cut_nil
/-- RookHusting hasBit -/
noncomputable def con_224 : Con2 := ((yX11_hasBit, cX11_hasBit, 2, (some .boolean)), (0, 0), ([(0, 7, 0), (0, 0, 0)], [(0, 0), (0, 0)], [], []), [((0, 1, 0), [(0, 0), (0, 0), (0, 0)], [], [], [1])])
theorem hd_224 : con_224.1 = (yX11_hasBit, cX11_hasBit, 2, (some .boolean)) := rfl
noncomputable def cu_224 : List CUT2 := []
theorem ch_224 : staG tb_X11_hasBit 1 bt_RX11 [] ct_3 [] [] cu_224 12 con_224 = true := by decide +kernel
theorem vl_224 (l : Launch) : Vld2 l vwCl gTbl con_224 := conR_ok3 gT_all (hd_224) rfl pn_RX11 tk_X11_hasBit bo_RX11 xo_RX11 (cto_3 l) ch_224 cut_nil
/-- RookHusting$Reader takeNumber -/
noncomputable def con_225 : Con2 := ((yX6_takeNumber, cX6_takeNumber, 5, (some .int)), (2, 40), ([(6, 0, 0), (0, 0, 0), (1, 2, 0), (0, 7, 0)], gi_92, hc_5, []), [((0, 0, 0), gi_93, hq_13, [], [1, 1, 1, 1, 1]), ((0, 3, 0), gi_75, hq_14, [], tg_0), ((0, 4, 0), gi_76, hq_14, [], tg_0)])
theorem hd_225 : con_225.1 = (yX6_takeNumber, cX6_takeNumber, 5, (some .int)) := rfl
theorem ck_RX6_147_220 : COK2 RX6 vwCl gTbl 147 2 con_220 := ⟨wd_682, wd_125, mh_X11_hasBit, .inr (.inl ⟨rfl, by decide +kernel, wd_681, pd_X11_hasBit⟩)⟩
theorem ck_RX6_147_221 : COK2 RX6 vwCl gTbl 147 2 con_221 := ⟨wd_682, wd_125, mh_X11_hasBit, .inr (.inl ⟨rfl, by decide +kernel, wd_681, pd_X11_hasBit⟩)⟩
theorem ck_RX6_147_222 : COK2 RX6 vwCl gTbl 147 2 con_222 := ⟨wd_682, wd_125, mh_X11_hasBit, .inr (.inl ⟨rfl, by decide +kernel, wd_681, pd_X11_hasBit⟩)⟩
theorem ck_RX6_147_223 : COK2 RX6 vwCl gTbl 147 2 con_223 := ⟨wd_682, wd_125, mh_X11_hasBit, .inr (.inl ⟨rfl, by decide +kernel, wd_681, pd_X11_hasBit⟩)⟩
theorem ck_RX6_147_224 : COK2 RX6 vwCl gTbl 147 2 con_224 := ⟨wd_682, wd_125, mh_X11_hasBit, .inr (.inl ⟨rfl, by decide +kernel, wd_681, pd_X11_hasBit⟩)⟩
noncomputable def ct_225 : CTB2 := [(22, 70, 0, con_15, [0, 1]), (55, 147, 2, con_224, []), (55, 147, 2, con_223, []), (55, 147, 2, con_222, []), (55, 147, 2, con_221, []), (55, 147, 2, con_220, []), (63, 70, 0, con_19, [0, 1]), (72, 102, 0, con_10, [1, 2])]
noncomputable def cu_225 : List CUT2 := []
theorem ch_225 : staG tb_X6_takeNumber 1 bt_RX6 [] ct_225 [(52, [(1, (1, 4, 0), 0, 0)])] [] cu_225 31 con_225 = true := by decide +kernel
theorem cto_225 (l : Launch) : CTOK2 l RX6 vwCl gTbl ct_225 := ct2_cons (vl_15 l) ck_RX6_70_15 (ct2_cons (vl_224 l) ck_RX6_147_224 (ct2_cons (vl_223 l) ck_RX6_147_223 (ct2_cons (vl_222 l) ck_RX6_147_222 (ct2_cons (vl_221 l) ck_RX6_147_221 (ct2_cons (vl_220 l) ck_RX6_147_220 (ct2_cons (vl_19 l) ck_RX6_70_19 (ct2_cons (vl_10 l) ck_RX6_102_10 (ct2_nil))))))))
theorem vl_225 (l : Launch) : Vld2 l vwCl gTbl con_225 := conR_ok3 gT_all (hd_225) rfl pn_RX6 tk_X6_takeNumber bo_RX6 xo_RX6 (cto_225 l) ch_225 cut_nil
/-- RookHusting hasBit -/
noncomputable def con_226 : Con2 := ((yX11_hasBit, cX11_hasBit, 2, (some .boolean)), (0, 0), ([(0, 30, 0), (0, 4, 0)], [(0, 0), (0, 0)], [], []), [((0, 1, 0), [(0, 0), (0, 0), (0, 0)], [], [], [1])])
theorem hd_226 : con_226.1 = (yX11_hasBit, cX11_hasBit, 2, (some .boolean)) := rfl
noncomputable def cu_226 : List CUT2 := []
theorem ch_226 : staG tb_X11_hasBit 1 bt_RX11 [] ct_3 [] [] cu_226 12 con_226 = true := by decide +kernel
theorem vl_226 (l : Launch) : Vld2 l vwCl gTbl con_226 := conR_ok3 gT_all (hd_226) rfl pn_RX11 tk_X11_hasBit bo_RX11 xo_RX11 (cto_3 l) ch_226 cut_nil
/-- RookHusting hasBit -/
noncomputable def con_227 : Con2 := ((yX11_hasBit, cX11_hasBit, 2, (some .boolean)), (0, 0), ([(0, 30, 0), (0, 3, 0)], [(0, 0), (0, 0)], [], []), [((0, 1, 0), [(0, 0), (0, 0), (0, 0)], [], [], [1])])
theorem hd_227 : con_227.1 = (yX11_hasBit, cX11_hasBit, 2, (some .boolean)) := rfl
noncomputable def cu_227 : List CUT2 := []
theorem ch_227 : staG tb_X11_hasBit 1 bt_RX11 [] ct_3 [] [] cu_227 12 con_227 = true := by decide +kernel
theorem vl_227 (l : Launch) : Vld2 l vwCl gTbl con_227 := conR_ok3 gT_all (hd_227) rfl pn_RX11 tk_X11_hasBit bo_RX11 xo_RX11 (cto_3 l) ch_227 cut_nil
/-- RookHusting hasBit -/
noncomputable def con_228 : Con2 := ((yX11_hasBit, cX11_hasBit, 2, (some .boolean)), (0, 0), ([(0, 30, 0), (0, 2, 0)], [(0, 0), (0, 0)], [], []), [((0, 1, 0), [(0, 0), (0, 0), (0, 0)], [], [], [1])])
theorem hd_228 : con_228.1 = (yX11_hasBit, cX11_hasBit, 2, (some .boolean)) := rfl
noncomputable def cu_228 : List CUT2 := []
theorem ch_228 : staG tb_X11_hasBit 1 bt_RX11 [] ct_3 [] [] cu_228 12 con_228 = true := by decide +kernel
theorem vl_228 (l : Launch) : Vld2 l vwCl gTbl con_228 := conR_ok3 gT_all (hd_228) rfl pn_RX11 tk_X11_hasBit bo_RX11 xo_RX11 (cto_3 l) ch_228 cut_nil
/-- RookHusting hasBit -/
noncomputable def con_229 : Con2 := ((yX11_hasBit, cX11_hasBit, 2, (some .boolean)), (0, 0), ([(0, 30, 0), (0, 1, 0)], [(0, 0), (0, 0)], [], []), [((0, 1, 0), [(0, 0), (0, 0), (0, 0)], [], [], [1])])
theorem hd_229 : con_229.1 = (yX11_hasBit, cX11_hasBit, 2, (some .boolean)) := rfl
noncomputable def cu_229 : List CUT2 := []
theorem ch_229 : staG tb_X11_hasBit 1 bt_RX11 [] ct_3 [] [] cu_229 12 con_229 = true := by decide +kernel
theorem vl_229 (l : Launch) : Vld2 l vwCl gTbl con_229 := conR_ok3 gT_all (hd_229) rfl pn_RX11 tk_X11_hasBit bo_RX11 xo_RX11 (cto_3 l) ch_229 cut_nil
/-- RookHusting hasBit -/
noncomputable def con_230 : Con2 := ((yX11_hasBit, cX11_hasBit, 2, (some .boolean)), (0, 0), ([(0, 30, 0), (0, 0, 0)], [(0, 0), (0, 0)], [], []), [((0, 0, 0), [(0, 0), (0, 0), (0, 0)], [], [], [1])])
theorem hd_230 : con_230.1 = (yX11_hasBit, cX11_hasBit, 2, (some .boolean)) := rfl
noncomputable def cu_230 : List CUT2 := []
theorem ch_230 : staG tb_X11_hasBit 1 bt_RX11 [] ct_3 [] [] cu_230 11 con_230 = true := by decide +kernel
theorem vl_230 (l : Launch) : Vld2 l vwCl gTbl con_230 := conR_ok3 gT_all (hd_230) rfl pn_RX11 tk_X11_hasBit bo_RX11 xo_RX11 (cto_3 l) ch_230 cut_nil
/-- RookHusting$Reader takeNumber -/
noncomputable def con_231 : Con2 := ((yX6_takeNumber, cX6_takeNumber, 5, (some .int)), (2, 40), ([(6, 0, 0), (0, 0, 0), (1, 2, 0), (0, 30, 0)], gi_92, hc_5, []), [((0, 0, 0), gi_93, hq_13, [], [1, 1, 1, 1, 1]), ((0, 0, 0), gi_94, hq_14, [], tg_0)])
theorem hd_231 : con_231.1 = (yX6_takeNumber, cX6_takeNumber, 5, (some .int)) := rfl
theorem ck_RX6_147_226 : COK2 RX6 vwCl gTbl 147 2 con_226 := ⟨wd_682, wd_125, mh_X11_hasBit, .inr (.inl ⟨rfl, by decide +kernel, wd_681, pd_X11_hasBit⟩)⟩
theorem ck_RX6_147_227 : COK2 RX6 vwCl gTbl 147 2 con_227 := ⟨wd_682, wd_125, mh_X11_hasBit, .inr (.inl ⟨rfl, by decide +kernel, wd_681, pd_X11_hasBit⟩)⟩
theorem ck_RX6_147_228 : COK2 RX6 vwCl gTbl 147 2 con_228 := ⟨wd_682, wd_125, mh_X11_hasBit, .inr (.inl ⟨rfl, by decide +kernel, wd_681, pd_X11_hasBit⟩)⟩
theorem ck_RX6_147_229 : COK2 RX6 vwCl gTbl 147 2 con_229 := ⟨wd_682, wd_125, mh_X11_hasBit, .inr (.inl ⟨rfl, by decide +kernel, wd_681, pd_X11_hasBit⟩)⟩
theorem ck_RX6_147_230 : COK2 RX6 vwCl gTbl 147 2 con_230 := ⟨wd_682, wd_125, mh_X11_hasBit, .inr (.inl ⟨rfl, by decide +kernel, wd_681, pd_X11_hasBit⟩)⟩
noncomputable def ct_231 : CTB2 := [(22, 70, 0, con_15, [0, 1]), (55, 147, 2, con_230, []), (55, 147, 2, con_229, []), (55, 147, 2, con_228, []), (55, 147, 2, con_227, []), (55, 147, 2, con_226, []), (63, 70, 0, con_19, [0, 1]), (72, 102, 0, con_10, [1, 2])]
noncomputable def cu_231 : List CUT2 := []
theorem ch_231 : staG tb_X6_takeNumber 1 bt_RX6 [] ct_231 [(52, [(1, (1, 4, 0), 0, 0)])] [] cu_231 31 con_231 = true := by decide +kernel
theorem cto_231 (l : Launch) : CTOK2 l RX6 vwCl gTbl ct_231 := ct2_cons (vl_15 l) ck_RX6_70_15 (ct2_cons (vl_230 l) ck_RX6_147_230 (ct2_cons (vl_229 l) ck_RX6_147_229 (ct2_cons (vl_228 l) ck_RX6_147_228 (ct2_cons (vl_227 l) ck_RX6_147_227 (ct2_cons (vl_226 l) ck_RX6_147_226 (ct2_cons (vl_19 l) ck_RX6_70_19 (ct2_cons (vl_10 l) ck_RX6_102_10 (ct2_nil))))))))
theorem vl_231 (l : Launch) : Vld2 l vwCl gTbl con_231 := conR_ok3 gT_all (hd_231) rfl pn_RX6 tk_X6_takeNumber bo_RX6 xo_RX6 (cto_231 l) ch_231 cut_nil
/-- RookHusting$Hundred addWant -/
noncomputable def hc_19 : List AC := [ac_54, .inr (1, [(6, (2, 0, 5)), (1, (0, 4, 0))]), am_6, am_5]
noncomputable def hq_31 : HP := [(false, ac_54), (true, .inr (1, [(6, (2, 0, 5)), (1, (0, 5, 0))])), (true, am_6), (true, am_5)]
noncomputable def con_232 : Con2 := ((yX4_addWant, cX4_addWant, 6, none), (0, 0), ([(6, 0, 0), (1, 1, 0)], gi_90, hc_19, []), [((9, 0, 0), gi_91, hq_31, [], [1])])
theorem hd_232 : con_232.1 = (yX4_addWant, cX4_addWant, 6, none) := rfl
noncomputable def cu_232 : List CUT2 := []
theorem ch_232 : staG tb_X4_addWant 1 bt_RX4 [] ct_6 [] [] cu_232 117 con_232 = true := by decide +kernel
theorem vl_232 (l : Launch) : Vld2 l vwCl gTbl con_232 := conR_ok3 gT_all (hd_232) rfl pn_RX4 tk_X4_addWant bo_RX4 xo_RX4 (cto_6 l) ch_232 cut_nil
/-- RookHusting hasBit -/
noncomputable def con_233 : Con2 := ((yX11_hasBit, cX11_hasBit, 2, (some .boolean)), (0, 0), ([(0, 29, 0), (0, 4, 0)], [(0, 0), (0, 0)], [], []), [((0, 1, 0), [(0, 0), (0, 0), (0, 0)], [], [], [1])])
theorem hd_233 : con_233.1 = (yX11_hasBit, cX11_hasBit, 2, (some .boolean)) := rfl
noncomputable def cu_233 : List CUT2 := []
theorem ch_233 : staG tb_X11_hasBit 1 bt_RX11 [] ct_3 [] [] cu_233 12 con_233 = true := by decide +kernel
theorem vl_233 (l : Launch) : Vld2 l vwCl gTbl con_233 := conR_ok3 gT_all (hd_233) rfl pn_RX11 tk_X11_hasBit bo_RX11 xo_RX11 (cto_3 l) ch_233 cut_nil
/-- RookHusting hasBit -/
noncomputable def con_234 : Con2 := ((yX11_hasBit, cX11_hasBit, 2, (some .boolean)), (0, 0), ([(0, 29, 0), (0, 3, 0)], [(0, 0), (0, 0)], [], []), [((0, 1, 0), [(0, 0), (0, 0), (0, 0)], [], [], [1])])
theorem hd_234 : con_234.1 = (yX11_hasBit, cX11_hasBit, 2, (some .boolean)) := rfl
noncomputable def cu_234 : List CUT2 := []
theorem ch_234 : staG tb_X11_hasBit 1 bt_RX11 [] ct_3 [] [] cu_234 12 con_234 = true := by decide +kernel
theorem vl_234 (l : Launch) : Vld2 l vwCl gTbl con_234 := conR_ok3 gT_all (hd_234) rfl pn_RX11 tk_X11_hasBit bo_RX11 xo_RX11 (cto_3 l) ch_234 cut_nil
/-- RookHusting hasBit -/
noncomputable def con_235 : Con2 := ((yX11_hasBit, cX11_hasBit, 2, (some .boolean)), (0, 0), ([(0, 29, 0), (0, 2, 0)], [(0, 0), (0, 0)], [], []), [((0, 1, 0), [(0, 0), (0, 0), (0, 0)], [], [], [1])])
theorem hd_235 : con_235.1 = (yX11_hasBit, cX11_hasBit, 2, (some .boolean)) := rfl
noncomputable def cu_235 : List CUT2 := []
theorem ch_235 : staG tb_X11_hasBit 1 bt_RX11 [] ct_3 [] [] cu_235 12 con_235 = true := by decide +kernel
theorem vl_235 (l : Launch) : Vld2 l vwCl gTbl con_235 := conR_ok3 gT_all (hd_235) rfl pn_RX11 tk_X11_hasBit bo_RX11 xo_RX11 (cto_3 l) ch_235 cut_nil
/-- RookHusting hasBit -/
noncomputable def con_236 : Con2 := ((yX11_hasBit, cX11_hasBit, 2, (some .boolean)), (0, 0), ([(0, 29, 0), (0, 1, 0)], [(0, 0), (0, 0)], [], []), [((0, 0, 0), [(0, 0), (0, 0), (0, 0)], [], [], [1])])
theorem hd_236 : con_236.1 = (yX11_hasBit, cX11_hasBit, 2, (some .boolean)) := rfl
noncomputable def cu_236 : List CUT2 := []
theorem ch_236 : staG tb_X11_hasBit 1 bt_RX11 [] ct_3 [] [] cu_236 11 con_236 = true := by decide +kernel
theorem vl_236 (l : Launch) : Vld2 l vwCl gTbl con_236 := conR_ok3 gT_all (hd_236) rfl pn_RX11 tk_X11_hasBit bo_RX11 xo_RX11 (cto_3 l) ch_236 cut_nil
/-- RookHusting hasBit -/
noncomputable def con_237 : Con2 := ((yX11_hasBit, cX11_hasBit, 2, (some .boolean)), (0, 0), ([(0, 29, 0), (0, 0, 0)], [(0, 0), (0, 0)], [], []), [((0, 1, 0), [(0, 0), (0, 0), (0, 0)], [], [], [1])])
theorem hd_237 : con_237.1 = (yX11_hasBit, cX11_hasBit, 2, (some .boolean)) := rfl
noncomputable def cu_237 : List CUT2 := []
theorem ch_237 : staG tb_X11_hasBit 1 bt_RX11 [] ct_3 [] [] cu_237 12 con_237 = true := by decide +kernel
theorem vl_237 (l : Launch) : Vld2 l vwCl gTbl con_237 := conR_ok3 gT_all (hd_237) rfl pn_RX11 tk_X11_hasBit bo_RX11 xo_RX11 (cto_3 l) ch_237 cut_nil
/-- RookHusting$Reader takeNumber -/
noncomputable def con_238 : Con2 := ((yX6_takeNumber, cX6_takeNumber, 5, (some .int)), (2, 40), ([(6, 0, 0), (0, 0, 0), (1, 2, 0), (0, 29, 0)], gi_92, hc_5, []), [((0, 0, 0), gi_93, hq_13, [], [1, 1, 1, 1, 1]), ((0, 1, 0), gi_73, hq_14, [], tg_0)])
theorem hd_238 : con_238.1 = (yX6_takeNumber, cX6_takeNumber, 5, (some .int)) := rfl
theorem ck_RX6_147_233 : COK2 RX6 vwCl gTbl 147 2 con_233 := ⟨wd_682, wd_125, mh_X11_hasBit, .inr (.inl ⟨rfl, by decide +kernel, wd_681, pd_X11_hasBit⟩)⟩
theorem ck_RX6_147_234 : COK2 RX6 vwCl gTbl 147 2 con_234 := ⟨wd_682, wd_125, mh_X11_hasBit, .inr (.inl ⟨rfl, by decide +kernel, wd_681, pd_X11_hasBit⟩)⟩
theorem ck_RX6_147_235 : COK2 RX6 vwCl gTbl 147 2 con_235 := ⟨wd_682, wd_125, mh_X11_hasBit, .inr (.inl ⟨rfl, by decide +kernel, wd_681, pd_X11_hasBit⟩)⟩
theorem ck_RX6_147_236 : COK2 RX6 vwCl gTbl 147 2 con_236 := ⟨wd_682, wd_125, mh_X11_hasBit, .inr (.inl ⟨rfl, by decide +kernel, wd_681, pd_X11_hasBit⟩)⟩
theorem ck_RX6_147_237 : COK2 RX6 vwCl gTbl 147 2 con_237 := ⟨wd_682, wd_125, mh_X11_hasBit, .inr (.inl ⟨rfl, by decide +kernel, wd_681, pd_X11_hasBit⟩)⟩
noncomputable def ct_238 : CTB2 := [(22, 70, 0, con_15, [0, 1]), (55, 147, 2, con_237, []), (55, 147, 2, con_236, []), (55, 147, 2, con_235, []), (55, 147, 2, con_234, []), (55, 147, 2, con_233, []), (63, 70, 0, con_19, [0, 1]), (72, 102, 0, con_10, [1, 2])]
noncomputable def cu_238 : List CUT2 := []
theorem ch_238 : staG tb_X6_takeNumber 1 bt_RX6 [] ct_238 [(52, [(1, (1, 4, 0), 0, 0)])] [] cu_238 31 con_238 = true := by decide +kernel
theorem cto_238 (l : Launch) : CTOK2 l RX6 vwCl gTbl ct_238 := ct2_cons (vl_15 l) ck_RX6_70_15 (ct2_cons (vl_237 l) ck_RX6_147_237 (ct2_cons (vl_236 l) ck_RX6_147_236 (ct2_cons (vl_235 l) ck_RX6_147_235 (ct2_cons (vl_234 l) ck_RX6_147_234 (ct2_cons (vl_233 l) ck_RX6_147_233 (ct2_cons (vl_19 l) ck_RX6_70_19 (ct2_cons (vl_10 l) ck_RX6_102_10 (ct2_nil))))))))
theorem vl_238 (l : Launch) : Vld2 l vwCl gTbl con_238 := conR_ok3 gT_all (hd_238) rfl pn_RX6 tk_X6_takeNumber bo_RX6 xo_RX6 (cto_238 l) ch_238 cut_nil
/-- RookHusting hasBit -/
noncomputable def con_239 : Con2 := ((yX11_hasBit, cX11_hasBit, 2, (some .boolean)), (0, 0), ([(0, 27, 0), (0, 4, 0)], [(0, 0), (0, 0)], [], []), [((0, 1, 0), [(0, 0), (0, 0), (0, 0)], [], [], [1])])
theorem hd_239 : con_239.1 = (yX11_hasBit, cX11_hasBit, 2, (some .boolean)) := rfl
noncomputable def cu_239 : List CUT2 := []
theorem ch_239 : staG tb_X11_hasBit 1 bt_RX11 [] ct_3 [] [] cu_239 12 con_239 = true := by decide +kernel
theorem vl_239 (l : Launch) : Vld2 l vwCl gTbl con_239 := conR_ok3 gT_all (hd_239) rfl pn_RX11 tk_X11_hasBit bo_RX11 xo_RX11 (cto_3 l) ch_239 cut_nil
/-- RookHusting hasBit -/
noncomputable def con_240 : Con2 := ((yX11_hasBit, cX11_hasBit, 2, (some .boolean)), (0, 0), ([(0, 27, 0), (0, 3, 0)], [(0, 0), (0, 0)], [], []), [((0, 1, 0), [(0, 0), (0, 0), (0, 0)], [], [], [1])])
theorem hd_240 : con_240.1 = (yX11_hasBit, cX11_hasBit, 2, (some .boolean)) := rfl
noncomputable def cu_240 : List CUT2 := []
theorem ch_240 : staG tb_X11_hasBit 1 bt_RX11 [] ct_3 [] [] cu_240 12 con_240 = true := by decide +kernel
theorem vl_240 (l : Launch) : Vld2 l vwCl gTbl con_240 := conR_ok3 gT_all (hd_240) rfl pn_RX11 tk_X11_hasBit bo_RX11 xo_RX11 (cto_3 l) ch_240 cut_nil
/-- RookHusting hasBit -/
noncomputable def con_241 : Con2 := ((yX11_hasBit, cX11_hasBit, 2, (some .boolean)), (0, 0), ([(0, 27, 0), (0, 2, 0)], [(0, 0), (0, 0)], [], []), [((0, 0, 0), [(0, 0), (0, 0), (0, 0)], [], [], [1])])
theorem hd_241 : con_241.1 = (yX11_hasBit, cX11_hasBit, 2, (some .boolean)) := rfl
noncomputable def cu_241 : List CUT2 := []
theorem ch_241 : staG tb_X11_hasBit 1 bt_RX11 [] ct_3 [] [] cu_241 11 con_241 = true := by decide +kernel
theorem vl_241 (l : Launch) : Vld2 l vwCl gTbl con_241 := conR_ok3 gT_all (hd_241) rfl pn_RX11 tk_X11_hasBit bo_RX11 xo_RX11 (cto_3 l) ch_241 cut_nil
/-- RookHusting hasBit -/
noncomputable def con_242 : Con2 := ((yX11_hasBit, cX11_hasBit, 2, (some .boolean)), (0, 0), ([(0, 27, 0), (0, 1, 0)], [(0, 0), (0, 0)], [], []), [((0, 1, 0), [(0, 0), (0, 0), (0, 0)], [], [], [1])])
theorem hd_242 : con_242.1 = (yX11_hasBit, cX11_hasBit, 2, (some .boolean)) := rfl
noncomputable def cu_242 : List CUT2 := []
theorem ch_242 : staG tb_X11_hasBit 1 bt_RX11 [] ct_3 [] [] cu_242 12 con_242 = true := by decide +kernel
theorem vl_242 (l : Launch) : Vld2 l vwCl gTbl con_242 := conR_ok3 gT_all (hd_242) rfl pn_RX11 tk_X11_hasBit bo_RX11 xo_RX11 (cto_3 l) ch_242 cut_nil
/-- RookHusting hasBit -/
noncomputable def con_243 : Con2 := ((yX11_hasBit, cX11_hasBit, 2, (some .boolean)), (0, 0), ([(0, 27, 0), (0, 0, 0)], [(0, 0), (0, 0)], [], []), [((0, 1, 0), [(0, 0), (0, 0), (0, 0)], [], [], [1])])
theorem hd_243 : con_243.1 = (yX11_hasBit, cX11_hasBit, 2, (some .boolean)) := rfl
noncomputable def cu_243 : List CUT2 := []
theorem ch_243 : staG tb_X11_hasBit 1 bt_RX11 [] ct_3 [] [] cu_243 12 con_243 = true := by decide +kernel
theorem vl_243 (l : Launch) : Vld2 l vwCl gTbl con_243 := conR_ok3 gT_all (hd_243) rfl pn_RX11 tk_X11_hasBit bo_RX11 xo_RX11 (cto_3 l) ch_243 cut_nil
/-- RookHusting$Reader takeNumber -/
noncomputable def con_244 : Con2 := ((yX6_takeNumber, cX6_takeNumber, 5, (some .int)), (2, 40), ([(6, 0, 0), (0, 0, 0), (1, 2, 0), (0, 27, 0)], gi_92, hc_5, []), [((0, 0, 0), gi_93, hq_13, [], [1, 1, 1, 1, 1]), ((0, 2, 0), gi_74, hq_14, [], tg_0)])
theorem hd_244 : con_244.1 = (yX6_takeNumber, cX6_takeNumber, 5, (some .int)) := rfl
theorem ck_RX6_147_239 : COK2 RX6 vwCl gTbl 147 2 con_239 := ⟨wd_682, wd_125, mh_X11_hasBit, .inr (.inl ⟨rfl, by decide +kernel, wd_681, pd_X11_hasBit⟩)⟩
theorem ck_RX6_147_240 : COK2 RX6 vwCl gTbl 147 2 con_240 := ⟨wd_682, wd_125, mh_X11_hasBit, .inr (.inl ⟨rfl, by decide +kernel, wd_681, pd_X11_hasBit⟩)⟩
theorem ck_RX6_147_241 : COK2 RX6 vwCl gTbl 147 2 con_241 := ⟨wd_682, wd_125, mh_X11_hasBit, .inr (.inl ⟨rfl, by decide +kernel, wd_681, pd_X11_hasBit⟩)⟩
theorem ck_RX6_147_242 : COK2 RX6 vwCl gTbl 147 2 con_242 := ⟨wd_682, wd_125, mh_X11_hasBit, .inr (.inl ⟨rfl, by decide +kernel, wd_681, pd_X11_hasBit⟩)⟩
theorem ck_RX6_147_243 : COK2 RX6 vwCl gTbl 147 2 con_243 := ⟨wd_682, wd_125, mh_X11_hasBit, .inr (.inl ⟨rfl, by decide +kernel, wd_681, pd_X11_hasBit⟩)⟩
noncomputable def ct_244 : CTB2 := [(22, 70, 0, con_15, [0, 1]), (55, 147, 2, con_243, []), (55, 147, 2, con_242, []), (55, 147, 2, con_241, []), (55, 147, 2, con_240, []), (55, 147, 2, con_239, []), (63, 70, 0, con_19, [0, 1]), (72, 102, 0, con_10, [1, 2])]
noncomputable def cu_244 : List CUT2 := []
theorem ch_244 : staG tb_X6_takeNumber 1 bt_RX6 [] ct_244 [(52, [(1, (1, 4, 0), 0, 0)])] [] cu_244 31 con_244 = true := by decide +kernel
theorem cto_244 (l : Launch) : CTOK2 l RX6 vwCl gTbl ct_244 := ct2_cons (vl_15 l) ck_RX6_70_15 (ct2_cons (vl_243 l) ck_RX6_147_243 (ct2_cons (vl_242 l) ck_RX6_147_242 (ct2_cons (vl_241 l) ck_RX6_147_241 (ct2_cons (vl_240 l) ck_RX6_147_240 (ct2_cons (vl_239 l) ck_RX6_147_239 (ct2_cons (vl_19 l) ck_RX6_70_19 (ct2_cons (vl_10 l) ck_RX6_102_10 (ct2_nil))))))))
theorem vl_244 (l : Launch) : Vld2 l vwCl gTbl con_244 := conR_ok3 gT_all (hd_244) rfl pn_RX6 tk_X6_takeNumber bo_RX6 xo_RX6 (cto_244 l) ch_244 cut_nil
/-- RookHusting hasBit -/
noncomputable def con_245 : Con2 := ((yX11_hasBit, cX11_hasBit, 2, (some .boolean)), (0, 0), ([(0, 23, 0), (0, 4, 0)], [(0, 0), (0, 0)], [], []), [((0, 1, 0), [(0, 0), (0, 0), (0, 0)], [], [], [1])])
theorem hd_245 : con_245.1 = (yX11_hasBit, cX11_hasBit, 2, (some .boolean)) := rfl
noncomputable def cu_245 : List CUT2 := []
theorem ch_245 : staG tb_X11_hasBit 1 bt_RX11 [] ct_3 [] [] cu_245 12 con_245 = true := by decide +kernel
theorem vl_245 (l : Launch) : Vld2 l vwCl gTbl con_245 := conR_ok3 gT_all (hd_245) rfl pn_RX11 tk_X11_hasBit bo_RX11 xo_RX11 (cto_3 l) ch_245 cut_nil
/-- RookHusting hasBit -/
noncomputable def con_246 : Con2 := ((yX11_hasBit, cX11_hasBit, 2, (some .boolean)), (0, 0), ([(0, 23, 0), (0, 3, 0)], [(0, 0), (0, 0)], [], []), [((0, 0, 0), [(0, 0), (0, 0), (0, 0)], [], [], [1])])
theorem hd_246 : con_246.1 = (yX11_hasBit, cX11_hasBit, 2, (some .boolean)) := rfl
noncomputable def cu_246 : List CUT2 := []
theorem ch_246 : staG tb_X11_hasBit 1 bt_RX11 [] ct_3 [] [] cu_246 11 con_246 = true := by decide +kernel
theorem vl_246 (l : Launch) : Vld2 l vwCl gTbl con_246 := conR_ok3 gT_all (hd_246) rfl pn_RX11 tk_X11_hasBit bo_RX11 xo_RX11 (cto_3 l) ch_246 cut_nil
/-- RookHusting hasBit -/
noncomputable def con_247 : Con2 := ((yX11_hasBit, cX11_hasBit, 2, (some .boolean)), (0, 0), ([(0, 23, 0), (0, 2, 0)], [(0, 0), (0, 0)], [], []), [((0, 1, 0), [(0, 0), (0, 0), (0, 0)], [], [], [1])])
theorem hd_247 : con_247.1 = (yX11_hasBit, cX11_hasBit, 2, (some .boolean)) := rfl
noncomputable def cu_247 : List CUT2 := []
theorem ch_247 : staG tb_X11_hasBit 1 bt_RX11 [] ct_3 [] [] cu_247 12 con_247 = true := by decide +kernel
theorem vl_247 (l : Launch) : Vld2 l vwCl gTbl con_247 := conR_ok3 gT_all (hd_247) rfl pn_RX11 tk_X11_hasBit bo_RX11 xo_RX11 (cto_3 l) ch_247 cut_nil
/-- RookHusting hasBit -/
noncomputable def con_248 : Con2 := ((yX11_hasBit, cX11_hasBit, 2, (some .boolean)), (0, 0), ([(0, 23, 0), (0, 1, 0)], [(0, 0), (0, 0)], [], []), [((0, 1, 0), [(0, 0), (0, 0), (0, 0)], [], [], [1])])
theorem hd_248 : con_248.1 = (yX11_hasBit, cX11_hasBit, 2, (some .boolean)) := rfl
noncomputable def cu_248 : List CUT2 := []
theorem ch_248 : staG tb_X11_hasBit 1 bt_RX11 [] ct_3 [] [] cu_248 12 con_248 = true := by decide +kernel
theorem vl_248 (l : Launch) : Vld2 l vwCl gTbl con_248 := conR_ok3 gT_all (hd_248) rfl pn_RX11 tk_X11_hasBit bo_RX11 xo_RX11 (cto_3 l) ch_248 cut_nil
/-- RookHusting hasBit -/
noncomputable def con_249 : Con2 := ((yX11_hasBit, cX11_hasBit, 2, (some .boolean)), (0, 0), ([(0, 23, 0), (0, 0, 0)], [(0, 0), (0, 0)], [], []), [((0, 1, 0), [(0, 0), (0, 0), (0, 0)], [], [], [1])])
theorem hd_249 : con_249.1 = (yX11_hasBit, cX11_hasBit, 2, (some .boolean)) := rfl
noncomputable def cu_249 : List CUT2 := []
theorem ch_249 : staG tb_X11_hasBit 1 bt_RX11 [] ct_3 [] [] cu_249 12 con_249 = true := by decide +kernel
theorem vl_249 (l : Launch) : Vld2 l vwCl gTbl con_249 := conR_ok3 gT_all (hd_249) rfl pn_RX11 tk_X11_hasBit bo_RX11 xo_RX11 (cto_3 l) ch_249 cut_nil
/-- RookHusting$Reader takeNumber -/
noncomputable def con_250 : Con2 := ((yX6_takeNumber, cX6_takeNumber, 5, (some .int)), (2, 40), ([(6, 0, 0), (0, 0, 0), (1, 2, 0), (0, 23, 0)], gi_92, hc_5, []), [((0, 0, 0), gi_93, hq_13, [], [1, 1, 1, 1, 1]), ((0, 3, 0), gi_75, hq_14, [], tg_0)])
theorem hd_250 : con_250.1 = (yX6_takeNumber, cX6_takeNumber, 5, (some .int)) := rfl
theorem ck_RX6_147_245 : COK2 RX6 vwCl gTbl 147 2 con_245 := ⟨wd_682, wd_125, mh_X11_hasBit, .inr (.inl ⟨rfl, by decide +kernel, wd_681, pd_X11_hasBit⟩)⟩
theorem ck_RX6_147_246 : COK2 RX6 vwCl gTbl 147 2 con_246 := ⟨wd_682, wd_125, mh_X11_hasBit, .inr (.inl ⟨rfl, by decide +kernel, wd_681, pd_X11_hasBit⟩)⟩
theorem ck_RX6_147_247 : COK2 RX6 vwCl gTbl 147 2 con_247 := ⟨wd_682, wd_125, mh_X11_hasBit, .inr (.inl ⟨rfl, by decide +kernel, wd_681, pd_X11_hasBit⟩)⟩
theorem ck_RX6_147_248 : COK2 RX6 vwCl gTbl 147 2 con_248 := ⟨wd_682, wd_125, mh_X11_hasBit, .inr (.inl ⟨rfl, by decide +kernel, wd_681, pd_X11_hasBit⟩)⟩
theorem ck_RX6_147_249 : COK2 RX6 vwCl gTbl 147 2 con_249 := ⟨wd_682, wd_125, mh_X11_hasBit, .inr (.inl ⟨rfl, by decide +kernel, wd_681, pd_X11_hasBit⟩)⟩
noncomputable def ct_250 : CTB2 := [(22, 70, 0, con_15, [0, 1]), (55, 147, 2, con_249, []), (55, 147, 2, con_248, []), (55, 147, 2, con_247, []), (55, 147, 2, con_246, []), (55, 147, 2, con_245, []), (63, 70, 0, con_19, [0, 1]), (72, 102, 0, con_10, [1, 2])]
noncomputable def cu_250 : List CUT2 := []
theorem ch_250 : staG tb_X6_takeNumber 1 bt_RX6 [] ct_250 [(52, [(1, (1, 4, 0), 0, 0)])] [] cu_250 31 con_250 = true := by decide +kernel
theorem cto_250 (l : Launch) : CTOK2 l RX6 vwCl gTbl ct_250 := ct2_cons (vl_15 l) ck_RX6_70_15 (ct2_cons (vl_249 l) ck_RX6_147_249 (ct2_cons (vl_248 l) ck_RX6_147_248 (ct2_cons (vl_247 l) ck_RX6_147_247 (ct2_cons (vl_246 l) ck_RX6_147_246 (ct2_cons (vl_245 l) ck_RX6_147_245 (ct2_cons (vl_19 l) ck_RX6_70_19 (ct2_cons (vl_10 l) ck_RX6_102_10 (ct2_nil))))))))
theorem vl_250 (l : Launch) : Vld2 l vwCl gTbl con_250 := conR_ok3 gT_all (hd_250) rfl pn_RX6 tk_X6_takeNumber bo_RX6 xo_RX6 (cto_250 l) ch_250 cut_nil
/-- RookHusting hasBit -/
noncomputable def con_251 : Con2 := ((yX11_hasBit, cX11_hasBit, 2, (some .boolean)), (0, 0), ([(0, 15, 0), (0, 4, 0)], [(0, 0), (0, 0)], [], []), [((0, 0, 0), [(0, 0), (0, 0), (0, 0)], [], [], [1])])
theorem hd_251 : con_251.1 = (yX11_hasBit, cX11_hasBit, 2, (some .boolean)) := rfl
noncomputable def cu_251 : List CUT2 := []
theorem ch_251 : staG tb_X11_hasBit 1 bt_RX11 [] ct_3 [] [] cu_251 11 con_251 = true := by decide +kernel
theorem vl_251 (l : Launch) : Vld2 l vwCl gTbl con_251 := conR_ok3 gT_all (hd_251) rfl pn_RX11 tk_X11_hasBit bo_RX11 xo_RX11 (cto_3 l) ch_251 cut_nil
/-- RookHusting hasBit -/
noncomputable def con_252 : Con2 := ((yX11_hasBit, cX11_hasBit, 2, (some .boolean)), (0, 0), ([(0, 15, 0), (0, 3, 0)], [(0, 0), (0, 0)], [], []), [((0, 1, 0), [(0, 0), (0, 0), (0, 0)], [], [], [1])])
theorem hd_252 : con_252.1 = (yX11_hasBit, cX11_hasBit, 2, (some .boolean)) := rfl
noncomputable def cu_252 : List CUT2 := []
theorem ch_252 : staG tb_X11_hasBit 1 bt_RX11 [] ct_3 [] [] cu_252 12 con_252 = true := by decide +kernel
theorem vl_252 (l : Launch) : Vld2 l vwCl gTbl con_252 := conR_ok3 gT_all (hd_252) rfl pn_RX11 tk_X11_hasBit bo_RX11 xo_RX11 (cto_3 l) ch_252 cut_nil
/-- RookHusting hasBit -/
noncomputable def con_253 : Con2 := ((yX11_hasBit, cX11_hasBit, 2, (some .boolean)), (0, 0), ([(0, 15, 0), (0, 2, 0)], [(0, 0), (0, 0)], [], []), [((0, 1, 0), [(0, 0), (0, 0), (0, 0)], [], [], [1])])
theorem hd_253 : con_253.1 = (yX11_hasBit, cX11_hasBit, 2, (some .boolean)) := rfl
noncomputable def cu_253 : List CUT2 := []
theorem ch_253 : staG tb_X11_hasBit 1 bt_RX11 [] ct_3 [] [] cu_253 12 con_253 = true := by decide +kernel
theorem vl_253 (l : Launch) : Vld2 l vwCl gTbl con_253 := conR_ok3 gT_all (hd_253) rfl pn_RX11 tk_X11_hasBit bo_RX11 xo_RX11 (cto_3 l) ch_253 cut_nil
/-- RookHusting hasBit -/
noncomputable def con_254 : Con2 := ((yX11_hasBit, cX11_hasBit, 2, (some .boolean)), (0, 0), ([(0, 15, 0), (0, 1, 0)], [(0, 0), (0, 0)], [], []), [((0, 1, 0), [(0, 0), (0, 0), (0, 0)], [], [], [1])])
theorem hd_254 : con_254.1 = (yX11_hasBit, cX11_hasBit, 2, (some .boolean)) := rfl
noncomputable def cu_254 : List CUT2 := []
theorem ch_254 : staG tb_X11_hasBit 1 bt_RX11 [] ct_3 [] [] cu_254 12 con_254 = true := by decide +kernel
theorem vl_254 (l : Launch) : Vld2 l vwCl gTbl con_254 := conR_ok3 gT_all (hd_254) rfl pn_RX11 tk_X11_hasBit bo_RX11 xo_RX11 (cto_3 l) ch_254 cut_nil
/-- RookHusting hasBit -/
noncomputable def con_255 : Con2 := ((yX11_hasBit, cX11_hasBit, 2, (some .boolean)), (0, 0), ([(0, 15, 0), (0, 0, 0)], [(0, 0), (0, 0)], [], []), [((0, 1, 0), [(0, 0), (0, 0), (0, 0)], [], [], [1])])
theorem hd_255 : con_255.1 = (yX11_hasBit, cX11_hasBit, 2, (some .boolean)) := rfl
noncomputable def cu_255 : List CUT2 := []
theorem ch_255 : staG tb_X11_hasBit 1 bt_RX11 [] ct_3 [] [] cu_255 12 con_255 = true := by decide +kernel
theorem vl_255 (l : Launch) : Vld2 l vwCl gTbl con_255 := conR_ok3 gT_all (hd_255) rfl pn_RX11 tk_X11_hasBit bo_RX11 xo_RX11 (cto_3 l) ch_255 cut_nil
/-- RookHusting$Reader takeNumber -/
noncomputable def con_256 : Con2 := ((yX6_takeNumber, cX6_takeNumber, 5, (some .int)), (2, 40), ([(6, 0, 0), (0, 0, 0), (1, 2, 0), (0, 15, 0)], gi_92, hc_5, []), [((0, 0, 0), gi_93, hq_13, [], [1, 1, 1, 1, 1]), ((0, 4, 0), gi_76, hq_14, [], tg_0)])
theorem hd_256 : con_256.1 = (yX6_takeNumber, cX6_takeNumber, 5, (some .int)) := rfl
theorem ck_RX6_147_251 : COK2 RX6 vwCl gTbl 147 2 con_251 := ⟨wd_682, wd_125, mh_X11_hasBit, .inr (.inl ⟨rfl, by decide +kernel, wd_681, pd_X11_hasBit⟩)⟩
theorem ck_RX6_147_252 : COK2 RX6 vwCl gTbl 147 2 con_252 := ⟨wd_682, wd_125, mh_X11_hasBit, .inr (.inl ⟨rfl, by decide +kernel, wd_681, pd_X11_hasBit⟩)⟩
theorem ck_RX6_147_253 : COK2 RX6 vwCl gTbl 147 2 con_253 := ⟨wd_682, wd_125, mh_X11_hasBit, .inr (.inl ⟨rfl, by decide +kernel, wd_681, pd_X11_hasBit⟩)⟩
theorem ck_RX6_147_254 : COK2 RX6 vwCl gTbl 147 2 con_254 := ⟨wd_682, wd_125, mh_X11_hasBit, .inr (.inl ⟨rfl, by decide +kernel, wd_681, pd_X11_hasBit⟩)⟩
theorem ck_RX6_147_255 : COK2 RX6 vwCl gTbl 147 2 con_255 := ⟨wd_682, wd_125, mh_X11_hasBit, .inr (.inl ⟨rfl, by decide +kernel, wd_681, pd_X11_hasBit⟩)⟩
noncomputable def ct_256 : CTB2 := [(22, 70, 0, con_15, [0, 1]), (55, 147, 2, con_255, []), (55, 147, 2, con_254, []), (55, 147, 2, con_253, []), (55, 147, 2, con_252, []), (55, 147, 2, con_251, []), (63, 70, 0, con_19, [0, 1]), (72, 102, 0, con_10, [1, 2])]
noncomputable def cu_256 : List CUT2 := []
theorem ch_256 : staG tb_X6_takeNumber 1 bt_RX6 [] ct_256 [(52, [(1, (1, 4, 0), 0, 0)])] [] cu_256 31 con_256 = true := by decide +kernel
theorem cto_256 (l : Launch) : CTOK2 l RX6 vwCl gTbl ct_256 := ct2_cons (vl_15 l) ck_RX6_70_15 (ct2_cons (vl_255 l) ck_RX6_147_255 (ct2_cons (vl_254 l) ck_RX6_147_254 (ct2_cons (vl_253 l) ck_RX6_147_253 (ct2_cons (vl_252 l) ck_RX6_147_252 (ct2_cons (vl_251 l) ck_RX6_147_251 (ct2_cons (vl_19 l) ck_RX6_70_19 (ct2_cons (vl_10 l) ck_RX6_102_10 (ct2_nil))))))))
theorem vl_256 (l : Launch) : Vld2 l vwCl gTbl con_256 := conR_ok3 gT_all (hd_256) rfl pn_RX6 tk_X6_takeNumber bo_RX6 xo_RX6 (cto_256 l) ch_256 cut_nil
/-- RookHusting hasBit -/
noncomputable def con_257 : Con2 := ((yX11_hasBit, cX11_hasBit, 2, (some .boolean)), (0, 0), ([(0, 31, 0), (0, 4, 0)], [(0, 0), (0, 0)], [], []), [((0, 1, 0), [(0, 0), (0, 0), (0, 0)], [], [], [1])])
theorem hd_257 : con_257.1 = (yX11_hasBit, cX11_hasBit, 2, (some .boolean)) := rfl
noncomputable def cu_257 : List CUT2 := []
theorem ch_257 : staG tb_X11_hasBit 1 bt_RX11 [] ct_3 [] [] cu_257 12 con_257 = true := by decide +kernel
theorem vl_257 (l : Launch) : Vld2 l vwCl gTbl con_257 := conR_ok3 gT_all (hd_257) rfl pn_RX11 tk_X11_hasBit bo_RX11 xo_RX11 (cto_3 l) ch_257 cut_nil
/-- RookHusting hasBit -/
noncomputable def con_258 : Con2 := ((yX11_hasBit, cX11_hasBit, 2, (some .boolean)), (0, 0), ([(0, 31, 0), (0, 3, 0)], [(0, 0), (0, 0)], [], []), [((0, 1, 0), [(0, 0), (0, 0), (0, 0)], [], [], [1])])
theorem hd_258 : con_258.1 = (yX11_hasBit, cX11_hasBit, 2, (some .boolean)) := rfl
noncomputable def cu_258 : List CUT2 := []
theorem ch_258 : staG tb_X11_hasBit 1 bt_RX11 [] ct_3 [] [] cu_258 12 con_258 = true := by decide +kernel
theorem vl_258 (l : Launch) : Vld2 l vwCl gTbl con_258 := conR_ok3 gT_all (hd_258) rfl pn_RX11 tk_X11_hasBit bo_RX11 xo_RX11 (cto_3 l) ch_258 cut_nil
/-- RookHusting hasBit -/
noncomputable def con_259 : Con2 := ((yX11_hasBit, cX11_hasBit, 2, (some .boolean)), (0, 0), ([(0, 31, 0), (0, 2, 0)], [(0, 0), (0, 0)], [], []), [((0, 1, 0), [(0, 0), (0, 0), (0, 0)], [], [], [1])])
theorem hd_259 : con_259.1 = (yX11_hasBit, cX11_hasBit, 2, (some .boolean)) := rfl
noncomputable def cu_259 : List CUT2 := []
theorem ch_259 : staG tb_X11_hasBit 1 bt_RX11 [] ct_3 [] [] cu_259 12 con_259 = true := by decide +kernel
theorem vl_259 (l : Launch) : Vld2 l vwCl gTbl con_259 := conR_ok3 gT_all (hd_259) rfl pn_RX11 tk_X11_hasBit bo_RX11 xo_RX11 (cto_3 l) ch_259 cut_nil
/-- RookHusting hasBit -/
noncomputable def con_260 : Con2 := ((yX11_hasBit, cX11_hasBit, 2, (some .boolean)), (0, 0), ([(0, 31, 0), (0, 1, 0)], [(0, 0), (0, 0)], [], []), [((0, 1, 0), [(0, 0), (0, 0), (0, 0)], [], [], [1])])
theorem hd_260 : con_260.1 = (yX11_hasBit, cX11_hasBit, 2, (some .boolean)) := rfl
noncomputable def cu_260 : List CUT2 := []
theorem ch_260 : staG tb_X11_hasBit 1 bt_RX11 [] ct_3 [] [] cu_260 12 con_260 = true := by decide +kernel
theorem vl_260 (l : Launch) : Vld2 l vwCl gTbl con_260 := conR_ok3 gT_all (hd_260) rfl pn_RX11 tk_X11_hasBit bo_RX11 xo_RX11 (cto_3 l) ch_260 cut_nil
/-- RookHusting hasBit -/
noncomputable def con_261 : Con2 := ((yX11_hasBit, cX11_hasBit, 2, (some .boolean)), (0, 0), ([(0, 31, 0), (0, 0, 0)], [(0, 0), (0, 0)], [], []), [((0, 1, 0), [(0, 0), (0, 0), (0, 0)], [], [], [1])])
theorem hd_261 : con_261.1 = (yX11_hasBit, cX11_hasBit, 2, (some .boolean)) := rfl
noncomputable def cu_261 : List CUT2 := []
theorem ch_261 : staG tb_X11_hasBit 1 bt_RX11 [] ct_3 [] [] cu_261 12 con_261 = true := by decide +kernel
theorem vl_261 (l : Launch) : Vld2 l vwCl gTbl con_261 := conR_ok3 gT_all (hd_261) rfl pn_RX11 tk_X11_hasBit bo_RX11 xo_RX11 (cto_3 l) ch_261 cut_nil
/-- RookHusting$Reader takeNumber -/
noncomputable def con_262 : Con2 := ((yX6_takeNumber, cX6_takeNumber, 5, (some .int)), (1, 21), ([(6, 0, 0), (0, 0, 0), (1, 2, 0), (0, 31, 0)], gi_92, hc_5, []), [((0, 0, 0), gi_93, hq_13, [], [1, 1, 1, 1, 1])])
theorem hd_262 : con_262.1 = (yX6_takeNumber, cX6_takeNumber, 5, (some .int)) := rfl
theorem ck_RX6_147_257 : COK2 RX6 vwCl gTbl 147 2 con_257 := ⟨wd_682, wd_125, mh_X11_hasBit, .inr (.inl ⟨rfl, by decide +kernel, wd_681, pd_X11_hasBit⟩)⟩
theorem ck_RX6_147_258 : COK2 RX6 vwCl gTbl 147 2 con_258 := ⟨wd_682, wd_125, mh_X11_hasBit, .inr (.inl ⟨rfl, by decide +kernel, wd_681, pd_X11_hasBit⟩)⟩
theorem ck_RX6_147_259 : COK2 RX6 vwCl gTbl 147 2 con_259 := ⟨wd_682, wd_125, mh_X11_hasBit, .inr (.inl ⟨rfl, by decide +kernel, wd_681, pd_X11_hasBit⟩)⟩
theorem ck_RX6_147_260 : COK2 RX6 vwCl gTbl 147 2 con_260 := ⟨wd_682, wd_125, mh_X11_hasBit, .inr (.inl ⟨rfl, by decide +kernel, wd_681, pd_X11_hasBit⟩)⟩
theorem ck_RX6_147_261 : COK2 RX6 vwCl gTbl 147 2 con_261 := ⟨wd_682, wd_125, mh_X11_hasBit, .inr (.inl ⟨rfl, by decide +kernel, wd_681, pd_X11_hasBit⟩)⟩
noncomputable def ct_262 : CTB2 := [(22, 70, 0, con_15, [0, 1]), (55, 147, 2, con_261, []), (55, 147, 2, con_260, []), (55, 147, 2, con_259, []), (55, 147, 2, con_258, []), (55, 147, 2, con_257, []), (63, 70, 0, con_19, [0, 1])]
noncomputable def cu_262 : List CUT2 := []
theorem ch_262 : staG tb_X6_takeNumber 1 bt_RX6 [] ct_262 [(52, [(1, (1, 4, 0), 0, 0)])] [] cu_262 31 con_262 = true := by decide +kernel
theorem cto_262 (l : Launch) : CTOK2 l RX6 vwCl gTbl ct_262 := ct2_cons (vl_15 l) ck_RX6_70_15 (ct2_cons (vl_261 l) ck_RX6_147_261 (ct2_cons (vl_260 l) ck_RX6_147_260 (ct2_cons (vl_259 l) ck_RX6_147_259 (ct2_cons (vl_258 l) ck_RX6_147_258 (ct2_cons (vl_257 l) ck_RX6_147_257 (ct2_cons (vl_19 l) ck_RX6_70_19 (ct2_nil)))))))
theorem vl_262 (l : Launch) : Vld2 l vwCl gTbl con_262 := conR_ok3 gT_all (hd_262) rfl pn_RX6 tk_X6_takeNumber bo_RX6 xo_RX6 (cto_262 l) ch_262 cut_nil
/-- RookHusting$Reader readVoter -/
noncomputable def ac_55 : AC := .inl (4, jl_n [vp_2, jl_c 6, vp_3])
noncomputable def hc_20 : List AC := [.inl (6, [(6, 1, 0), (1, 2, 0), (1, 3, 0), (6, 2, 0)]), ac_55, ac_21, am_2, am_7, am_8, am_5, am_6]
noncomputable def gi_95 : GI := jl_n [gp_59, jl_i 6 7, gp_60]
noncomputable def ac_56 : AC := .inl (4, jl_n [vp_2, jl_1 40 1, vp_3])
noncomputable def hq_32 : HP := [(true, .inl (6, [(6, 1, 0), (1, 29, 0), (1, 30, 0), (6, 2, 0)])), (true, ac_56), (true, ac_23), (false, am_2), (true, am_7), (true, am_8), (true, am_5), (true, am_6)]
noncomputable def con_263 : Con2 := ((yX6_readVoter, cX6_readVoter, 5, none), (11, 266), ([(6, 0, 0)], gi_85, hc_20, []), [((9, 0, 0), gi_95, hq_32, [], tg_3)])
theorem hd_263 : con_263.1 = (yX6_readVoter, cX6_readVoter, 5, none) := rfl
theorem ck_RX6_141_232 : COK2 RX6 vwCl gTbl 141 0 con_232 := ⟨wd_729, wd_128, mh_X4_addWant, .inr (.inr ⟨rfl, wd_726, wd_727, wd_728, ⟨_, rfl, pd_X4_addWant⟩, 4, _, TX4, 17, rfl, rfl⟩)⟩
theorem ck_RX6_141_171 : COK2 RX6 vwCl gTbl 141 0 con_171 := ⟨wd_729, wd_128, mh_X4_addWant, .inr (.inr ⟨rfl, wd_726, wd_727, wd_728, ⟨_, rfl, pd_X4_addWant⟩, 4, _, TX4, 17, rfl, rfl⟩)⟩
theorem ck_RX6_141_110 : COK2 RX6 vwCl gTbl 141 0 con_110 := ⟨wd_729, wd_128, mh_X4_addWant, .inr (.inr ⟨rfl, wd_726, wd_727, wd_728, ⟨_, rfl, pd_X4_addWant⟩, 4, _, TX4, 17, rfl, rfl⟩)⟩
theorem ck_RX6_141_84 : COK2 RX6 vwCl gTbl 141 0 con_84 := ⟨wd_729, wd_128, mh_X4_addWant, .inr (.inr ⟨rfl, wd_726, wd_727, wd_728, ⟨_, rfl, pd_X4_addWant⟩, 4, _, TX4, 17, rfl, rfl⟩)⟩
theorem ck_RX6_141_77 : COK2 RX6 vwCl gTbl 141 0 con_77 := ⟨wd_729, wd_128, mh_X4_addWant, .inr (.inr ⟨rfl, wd_726, wd_727, wd_728, ⟨_, rfl, pd_X4_addWant⟩, 4, _, TX4, 17, rfl, rfl⟩)⟩
theorem ck_RX6_116_262 : COK2 RX6 vwCl gTbl 116 0 con_262 := ⟨wd_679, wd_127, mh_X6_takeNumber, .inr (.inr ⟨rfl, wd_676, wd_678, wd_4, ⟨_, rfl, pd_X6_takeNumber⟩, 6, _, TX6, 4, rfl, rfl⟩)⟩
theorem ck_RX6_116_256 : COK2 RX6 vwCl gTbl 116 0 con_256 := ⟨wd_679, wd_127, mh_X6_takeNumber, .inr (.inr ⟨rfl, wd_676, wd_678, wd_4, ⟨_, rfl, pd_X6_takeNumber⟩, 6, _, TX6, 4, rfl, rfl⟩)⟩
theorem ck_RX6_116_250 : COK2 RX6 vwCl gTbl 116 0 con_250 := ⟨wd_679, wd_127, mh_X6_takeNumber, .inr (.inr ⟨rfl, wd_676, wd_678, wd_4, ⟨_, rfl, pd_X6_takeNumber⟩, 6, _, TX6, 4, rfl, rfl⟩)⟩
theorem ck_RX6_116_244 : COK2 RX6 vwCl gTbl 116 0 con_244 := ⟨wd_679, wd_127, mh_X6_takeNumber, .inr (.inr ⟨rfl, wd_676, wd_678, wd_4, ⟨_, rfl, pd_X6_takeNumber⟩, 6, _, TX6, 4, rfl, rfl⟩)⟩
theorem ck_RX6_116_238 : COK2 RX6 vwCl gTbl 116 0 con_238 := ⟨wd_679, wd_127, mh_X6_takeNumber, .inr (.inr ⟨rfl, wd_676, wd_678, wd_4, ⟨_, rfl, pd_X6_takeNumber⟩, 6, _, TX6, 4, rfl, rfl⟩)⟩
theorem ck_RX6_116_231 : COK2 RX6 vwCl gTbl 116 0 con_231 := ⟨wd_679, wd_127, mh_X6_takeNumber, .inr (.inr ⟨rfl, wd_676, wd_678, wd_4, ⟨_, rfl, pd_X6_takeNumber⟩, 6, _, TX6, 4, rfl, rfl⟩)⟩
theorem ck_RX6_116_225 : COK2 RX6 vwCl gTbl 116 0 con_225 := ⟨wd_679, wd_127, mh_X6_takeNumber, .inr (.inr ⟨rfl, wd_676, wd_678, wd_4, ⟨_, rfl, pd_X6_takeNumber⟩, 6, _, TX6, 4, rfl, rfl⟩)⟩
theorem ck_RX6_116_219 : COK2 RX6 vwCl gTbl 116 0 con_219 := ⟨wd_679, wd_127, mh_X6_takeNumber, .inr (.inr ⟨rfl, wd_676, wd_678, wd_4, ⟨_, rfl, pd_X6_takeNumber⟩, 6, _, TX6, 4, rfl, rfl⟩)⟩
theorem ck_RX6_116_213 : COK2 RX6 vwCl gTbl 116 0 con_213 := ⟨wd_679, wd_127, mh_X6_takeNumber, .inr (.inr ⟨rfl, wd_676, wd_678, wd_4, ⟨_, rfl, pd_X6_takeNumber⟩, 6, _, TX6, 4, rfl, rfl⟩)⟩
theorem ck_RX6_116_207 : COK2 RX6 vwCl gTbl 116 0 con_207 := ⟨wd_679, wd_127, mh_X6_takeNumber, .inr (.inr ⟨rfl, wd_676, wd_678, wd_4, ⟨_, rfl, pd_X6_takeNumber⟩, 6, _, TX6, 4, rfl, rfl⟩)⟩
theorem ck_RX6_116_201 : COK2 RX6 vwCl gTbl 116 0 con_201 := ⟨wd_679, wd_127, mh_X6_takeNumber, .inr (.inr ⟨rfl, wd_676, wd_678, wd_4, ⟨_, rfl, pd_X6_takeNumber⟩, 6, _, TX6, 4, rfl, rfl⟩)⟩
theorem ck_RX6_116_195 : COK2 RX6 vwCl gTbl 116 0 con_195 := ⟨wd_679, wd_127, mh_X6_takeNumber, .inr (.inr ⟨rfl, wd_676, wd_678, wd_4, ⟨_, rfl, pd_X6_takeNumber⟩, 6, _, TX6, 4, rfl, rfl⟩)⟩
theorem ck_RX6_116_189 : COK2 RX6 vwCl gTbl 116 0 con_189 := ⟨wd_679, wd_127, mh_X6_takeNumber, .inr (.inr ⟨rfl, wd_676, wd_678, wd_4, ⟨_, rfl, pd_X6_takeNumber⟩, 6, _, TX6, 4, rfl, rfl⟩)⟩
theorem ck_RX6_116_183 : COK2 RX6 vwCl gTbl 116 0 con_183 := ⟨wd_679, wd_127, mh_X6_takeNumber, .inr (.inr ⟨rfl, wd_676, wd_678, wd_4, ⟨_, rfl, pd_X6_takeNumber⟩, 6, _, TX6, 4, rfl, rfl⟩)⟩
theorem ck_RX6_116_177 : COK2 RX6 vwCl gTbl 116 0 con_177 := ⟨wd_679, wd_127, mh_X6_takeNumber, .inr (.inr ⟨rfl, wd_676, wd_678, wd_4, ⟨_, rfl, pd_X6_takeNumber⟩, 6, _, TX6, 4, rfl, rfl⟩)⟩
theorem ck_RX6_116_170 : COK2 RX6 vwCl gTbl 116 0 con_170 := ⟨wd_679, wd_127, mh_X6_takeNumber, .inr (.inr ⟨rfl, wd_676, wd_678, wd_4, ⟨_, rfl, pd_X6_takeNumber⟩, 6, _, TX6, 4, rfl, rfl⟩)⟩
theorem ck_RX6_116_164 : COK2 RX6 vwCl gTbl 116 0 con_164 := ⟨wd_679, wd_127, mh_X6_takeNumber, .inr (.inr ⟨rfl, wd_676, wd_678, wd_4, ⟨_, rfl, pd_X6_takeNumber⟩, 6, _, TX6, 4, rfl, rfl⟩)⟩
theorem ck_RX6_116_158 : COK2 RX6 vwCl gTbl 116 0 con_158 := ⟨wd_679, wd_127, mh_X6_takeNumber, .inr (.inr ⟨rfl, wd_676, wd_678, wd_4, ⟨_, rfl, pd_X6_takeNumber⟩, 6, _, TX6, 4, rfl, rfl⟩)⟩
theorem ck_RX6_116_152 : COK2 RX6 vwCl gTbl 116 0 con_152 := ⟨wd_679, wd_127, mh_X6_takeNumber, .inr (.inr ⟨rfl, wd_676, wd_678, wd_4, ⟨_, rfl, pd_X6_takeNumber⟩, 6, _, TX6, 4, rfl, rfl⟩)⟩
theorem ck_RX6_116_146 : COK2 RX6 vwCl gTbl 116 0 con_146 := ⟨wd_679, wd_127, mh_X6_takeNumber, .inr (.inr ⟨rfl, wd_676, wd_678, wd_4, ⟨_, rfl, pd_X6_takeNumber⟩, 6, _, TX6, 4, rfl, rfl⟩)⟩
theorem ck_RX6_116_140 : COK2 RX6 vwCl gTbl 116 0 con_140 := ⟨wd_679, wd_127, mh_X6_takeNumber, .inr (.inr ⟨rfl, wd_676, wd_678, wd_4, ⟨_, rfl, pd_X6_takeNumber⟩, 6, _, TX6, 4, rfl, rfl⟩)⟩
theorem ck_RX6_116_134 : COK2 RX6 vwCl gTbl 116 0 con_134 := ⟨wd_679, wd_127, mh_X6_takeNumber, .inr (.inr ⟨rfl, wd_676, wd_678, wd_4, ⟨_, rfl, pd_X6_takeNumber⟩, 6, _, TX6, 4, rfl, rfl⟩)⟩
theorem ck_RX6_116_128 : COK2 RX6 vwCl gTbl 116 0 con_128 := ⟨wd_679, wd_127, mh_X6_takeNumber, .inr (.inr ⟨rfl, wd_676, wd_678, wd_4, ⟨_, rfl, pd_X6_takeNumber⟩, 6, _, TX6, 4, rfl, rfl⟩)⟩
theorem ck_RX6_116_122 : COK2 RX6 vwCl gTbl 116 0 con_122 := ⟨wd_679, wd_127, mh_X6_takeNumber, .inr (.inr ⟨rfl, wd_676, wd_678, wd_4, ⟨_, rfl, pd_X6_takeNumber⟩, 6, _, TX6, 4, rfl, rfl⟩)⟩
theorem ck_RX6_116_116 : COK2 RX6 vwCl gTbl 116 0 con_116 := ⟨wd_679, wd_127, mh_X6_takeNumber, .inr (.inr ⟨rfl, wd_676, wd_678, wd_4, ⟨_, rfl, pd_X6_takeNumber⟩, 6, _, TX6, 4, rfl, rfl⟩)⟩
theorem ck_RX6_116_109 : COK2 RX6 vwCl gTbl 116 0 con_109 := ⟨wd_679, wd_127, mh_X6_takeNumber, .inr (.inr ⟨rfl, wd_676, wd_678, wd_4, ⟨_, rfl, pd_X6_takeNumber⟩, 6, _, TX6, 4, rfl, rfl⟩)⟩
theorem ck_RX6_116_103 : COK2 RX6 vwCl gTbl 116 0 con_103 := ⟨wd_679, wd_127, mh_X6_takeNumber, .inr (.inr ⟨rfl, wd_676, wd_678, wd_4, ⟨_, rfl, pd_X6_takeNumber⟩, 6, _, TX6, 4, rfl, rfl⟩)⟩
theorem ck_RX6_116_102 : COK2 RX6 vwCl gTbl 116 0 con_102 := ⟨wd_679, wd_127, mh_X6_takeNumber, .inr (.inr ⟨rfl, wd_676, wd_678, wd_4, ⟨_, rfl, pd_X6_takeNumber⟩, 6, _, TX6, 4, rfl, rfl⟩)⟩
theorem ck_RX6_116_96 : COK2 RX6 vwCl gTbl 116 0 con_96 := ⟨wd_679, wd_127, mh_X6_takeNumber, .inr (.inr ⟨rfl, wd_676, wd_678, wd_4, ⟨_, rfl, pd_X6_takeNumber⟩, 6, _, TX6, 4, rfl, rfl⟩)⟩
theorem ck_RX6_116_90 : COK2 RX6 vwCl gTbl 116 0 con_90 := ⟨wd_679, wd_127, mh_X6_takeNumber, .inr (.inr ⟨rfl, wd_676, wd_678, wd_4, ⟨_, rfl, pd_X6_takeNumber⟩, 6, _, TX6, 4, rfl, rfl⟩)⟩
theorem ck_RX6_116_83 : COK2 RX6 vwCl gTbl 116 0 con_83 := ⟨wd_679, wd_127, mh_X6_takeNumber, .inr (.inr ⟨rfl, wd_676, wd_678, wd_4, ⟨_, rfl, pd_X6_takeNumber⟩, 6, _, TX6, 4, rfl, rfl⟩)⟩
theorem ck_RX6_138_76 : COK2 RX6 vwCl gTbl 138 0 con_76 := ⟨wd_725, wd_128, mh_X4_addVoter, .inr (.inr ⟨rfl, wd_722, wd_723, wd_724, ⟨_, rfl, pd_X4_addVoter⟩, 4, _, TX4, 17, rfl, rfl⟩)⟩
theorem ck_RX6_85_75 : COK2 RX6 vwCl gTbl 85 0 con_75 := ⟨wd_675, wd_127, mh_X6_takeNamed, .inr (.inr ⟨rfl, wd_672, wd_674, wd_3, ⟨_, rfl, pd_X6_takeNamed⟩, 6, _, TX6, 4, rfl, rfl⟩)⟩
noncomputable def ct_263 : CTB2 := [(22, 102, 0, con_10, [2, 3]), (31, 85, 0, con_75, [0, 2, 3]), (47, 138, 0, con_76, [1, 4, 5, 6]), (89, 116, 0, con_45, [0, 2, 3]), (89, 116, 0, con_83, [0, 2, 3]), (89, 116, 0, con_90, [0, 2, 3]), (89, 116, 0, con_96, [0, 2, 3]), (89, 116, 0, con_102, [0, 2, 3]), (89, 116, 0, con_103, [0, 2, 3]), (89, 116, 0, con_109, [0, 2, 3]), (89, 116, 0, con_116, [0, 2, 3]), (89, 116, 0, con_122, [0, 2, 3]), (89, 116, 0, con_128, [0, 2, 3]), (89, 116, 0, con_134, [0, 2, 3]), (89, 116, 0, con_140, [0, 2, 3]), (89, 116, 0, con_146, [0, 2, 3]), (89, 116, 0, con_152, [0, 2, 3]), (89, 116, 0, con_158, [0, 2, 3]), (89, 116, 0, con_164, [0, 2, 3]), (89, 116, 0, con_170, [0, 2, 3]), (89, 116, 0, con_177, [0, 2, 3]), (89, 116, 0, con_183, [0, 2, 3]), (89, 116, 0, con_189, [0, 2, 3]), (89, 116, 0, con_195, [0, 2, 3]), (89, 116, 0, con_201, [0, 2, 3]), (89, 116, 0, con_207, [0, 2, 3]), (89, 116, 0, con_213, [0, 2, 3]), (89, 116, 0, con_219, [0, 2, 3]), (89, 116, 0, con_225, [0, 2, 3]), (89, 116, 0, con_231, [0, 2, 3]), (89, 116, 0, con_238, [0, 2, 3]), (89, 116, 0, con_244, [0, 2, 3]), (89, 116, 0, con_250, [0, 2, 3]), (89, 116, 0, con_256, [0, 2, 3]), (89, 116, 0, con_262, [0, 2, 3]), (107, 141, 0, con_77, [1, 5, 7, 6]), (107, 141, 0, con_84, [1, 5, 7, 6]), (107, 141, 0, con_110, [1, 5, 7, 6]), (107, 141, 0, con_171, [1, 5, 7, 6]), (107, 141, 0, con_232, [1, 5, 7, 6])]
noncomputable def gi_96 : GI := jl_n [gp_61, jl_z 4, gp_63, jl_z 1]
noncomputable def ac_57 : AC := .inl (10, jl_n [jl_6 4 1, jl_1 24 1, jl_1 59 4])
noncomputable def hq_33 : HP := [(true, .inl (6, [(6, 1, 0), (0, 0, 0), (1, 34, 0), (6, 2, 0)])), (true, ac_50), (true, ac_57), (false, am_2), (true, am_7), (true, .inr (1, [(6, (2, 0, 5)), (1, (0, 0, 0))])), (true, ac_53), (false, am_6)]
noncomputable def gi_97 : GI := jl_n [gp_64, jl_i 6 7, gp_60]
noncomputable def ac_58 : AC := .inl (4, jl_n [vp_2, jl_1 44 1, vp_3])
noncomputable def hq_34 : HP := [(true, .inl (6, [(6, 1, 0), (1, 33, 0), (1, 34, 0), (6, 2, 0)])), (true, ac_58), (true, ac_57), (false, am_2), (true, am_7), (true, am_8), (true, am_5), (true, am_6)]
noncomputable def gi_98 : GI := jl_n [gp_65, jl_z 5, gp_63, jl_z 1]
noncomputable def ac_59 : AC := .inl (10, jl_n [jl_6 4 1, jl_1 24 1, jl_1 60 4])
noncomputable def hq_35 : HP := [(true, .inl (6, [(6, 1, 0), (0, 0, 0), (1, 35, 0), (6, 2, 0)])), (true, ac_50), (true, ac_59), (false, am_2), (true, am_7), (true, .inr (1, [(6, (2, 0, 5)), (1, (0, 1, 0))])), (true, am_5), (true, am_6)]
noncomputable def gi_99 : GI := jl_n [gp_66, jl_i 3 4, gp_68]
noncomputable def hq_36 : HP := [(true, .inl (6, [(6, 1, 0), (0, 0, 0), (1, 35, 0), (6, 2, 0)])), (true, ac_50), (true, ac_59), (false, am_2), (true, am_7), (true, .inr (1, [(6, (2, 0, 5)), (1, (0, 2, 0))])), (true, am_5), (true, am_6)]
noncomputable def gi_100 : GI := jl_n [gp_66, jl_i 2 4, gp_68]
noncomputable def gi_101 : GI := jl_n [gp_66, jl_i 1 4, gp_68]
noncomputable def gi_102 : GI := jl_n [gp_65, gp_23, gp_68]
noncomputable def gi_103 : GI := jl_n [gp_66, jl_i 2 3, gp_68]
noncomputable def gi_104 : GI := jl_n [gp_66, jl_i 1 3, gp_68]
noncomputable def gi_105 : GI := jl_n [gp_65, gp_28, gp_68]
noncomputable def gi_106 : GI := jl_n [gp_66, jl_i 1 2, gp_68]
noncomputable def gi_107 : GI := jl_n [gp_66, jl_i 0 2, gp_68]
noncomputable def gi_108 : GI := jl_n [gp_66, jl_i 0 1, gp_68]
noncomputable def hq_37 : HP := [(true, .inl (6, [(6, 1, 0), (0, 0, 0), (1, 35, 0), (6, 2, 0)])), (true, ac_50), (true, ac_59), (false, am_2), (true, am_7), (true, .inr (1, [(6, (2, 0, 5)), (1, (0, 3, 0))])), (true, am_5), (true, am_6)]
noncomputable def hq_38 : HP := [(true, .inl (6, [(6, 1, 0), (0, 0, 0), (1, 35, 0), (6, 2, 0)])), (true, ac_50), (true, ac_59), (false, am_2), (true, am_7), (true, .inr (1, [(6, (2, 0, 5)), (1, (0, 4, 0))])), (true, am_5), (true, am_6)]
noncomputable def hq_39 : HP := [(true, .inl (6, [(6, 1, 0), (0, 0, 0), (1, 35, 0), (6, 2, 0)])), (true, ac_50), (true, ac_59), (false, am_2), (true, am_7), (true, .inr (1, [(6, (2, 0, 5)), (1, (0, 5, 0))])), (true, am_5), (true, am_6)]
noncomputable def cu_263_0 : List CUT2 := [((54, [lq 0 6 0, lq 1 1 29, lq 2 0 0, lq 3 0 0], [], gi_96, hq_33), [], ([], 6)), ((54, [lq 0 6 0, lq 1 1 29, lq 2 1 30, lq 3 1 31], [], gi_97, hq_34), [], ([(31, (-1))], 6)), ((54, [lq 0 6 0, lq 1 1 29, lq 2 0 16, lq 3 0 1, lq 4 0 4], [], gi_98, hq_35), [], ([], 5)), ((54, [lq 0 6 0, lq 1 1 29, lq 2 0 8, lq 3 0 1, lq 4 0 3], [], gi_98, hq_35), [], ([], 5)), ((54, [lq 0 6 0, lq 1 1 29, lq 2 0 4, lq 3 0 1, lq 4 0 2], [], gi_98, hq_35), [], ([], 5)), ((54, [lq 0 6 0, lq 1 1 29, lq 2 0 2, lq 3 0 1, lq 4 0 1], [], gi_98, hq_35), [], ([], 5)), ((54, [lq 0 6 0, lq 1 1 29, lq 2 0 1, lq 3 0 1, lq 4 0 0], [], gi_98, hq_35), [], ([], 5)), ((54, [lq 0 6 0, lq 1 1 29, lq 2 0 24, lq 3 0 2, lq 4 1 32], [], gi_99, hq_36), [], ([], 4)), ((54, [lq 0 6 0, lq 1 1 29, lq 2 0 20, lq 3 0 2, lq 4 1 32], [], gi_100, hq_36), [], ([], 4)), ((54, [lq 0 6 0, lq 1 1 29, lq 2 0 18, lq 3 0 2, lq 4 1 32], [], gi_101, hq_36), [], ([], 4)), ((54, [lq 0 6 0, lq 1 1 29, lq 2 0 17, lq 3 0 2, lq 4 1 32], [], gi_102, hq_36), [], ([], 4)), ((54, [lq 0 6 0, lq 1 1 29, lq 2 0 12, lq 3 0 2, lq 4 1 32], [], gi_103, hq_36), [], ([], 4)), ((54, [lq 0 6 0, lq 1 1 29, lq 2 0 10, lq 3 0 2, lq 4 1 32], [], gi_104, hq_36), [], ([], 4)), ((54, [lq 0 6 0, lq 1 1 29, lq 2 0 9, lq 3 0 2, lq 4 1 32], [], gi_105, hq_36), [], ([], 4)), ((54, [lq 0 6 0, lq 1 1 29, lq 2 0 6, lq 3 0 2, lq 4 1 32], [], gi_106, hq_36), [], ([], 4)), ((54, [lq 0 6 0, lq 1 1 29, lq 2 0 5, lq 3 0 2, lq 4 1 32], [], gi_107, hq_36), [], ([], 4))]
noncomputable def cu_263_1 : List CUT2 := [((54, [lq 0 6 0, lq 1 1 29, lq 2 0 3, lq 3 0 2, lq 4 1 32], [], gi_108, hq_36), [], ([], 4)), ((54, [lq 0 6 0, lq 1 1 29, lq 2 0 28, lq 3 0 3, lq 4 1 32], [], gi_100, hq_37), [], ([], 3)), ((54, [lq 0 6 0, lq 1 1 29, lq 2 0 26, lq 3 0 3, lq 4 1 32], [], gi_101, hq_37), [], ([], 3)), ((54, [lq 0 6 0, lq 1 1 29, lq 2 0 25, lq 3 0 3, lq 4 1 32], [], gi_102, hq_37), [], ([], 3)), ((54, [lq 0 6 0, lq 1 1 29, lq 2 0 22, lq 3 0 3, lq 4 1 32], [], gi_101, hq_37), [], ([], 3)), ((54, [lq 0 6 0, lq 1 1 29, lq 2 0 21, lq 3 0 3, lq 4 1 32], [], gi_102, hq_37), [], ([], 3)), ((54, [lq 0 6 0, lq 1 1 29, lq 2 0 19, lq 3 0 3, lq 4 1 32], [], gi_102, hq_37), [], ([], 3)), ((54, [lq 0 6 0, lq 1 1 29, lq 2 0 14, lq 3 0 3, lq 4 1 32], [], gi_104, hq_37), [], ([], 3)), ((54, [lq 0 6 0, lq 1 1 29, lq 2 0 13, lq 3 0 3, lq 4 1 32], [], gi_105, hq_37), [], ([], 3)), ((54, [lq 0 6 0, lq 1 1 29, lq 2 0 11, lq 3 0 3, lq 4 1 32], [], gi_105, hq_37), [], ([], 3)), ((54, [lq 0 6 0, lq 1 1 29, lq 2 0 7, lq 3 0 3, lq 4 1 32], [], gi_107, hq_37), [], ([], 3)), ((54, [lq 0 6 0, lq 1 1 29, lq 2 0 30, lq 3 0 4, lq 4 1 32], [], gi_101, hq_38), [], ([], 2)), ((54, [lq 0 6 0, lq 1 1 29, lq 2 0 29, lq 3 0 4, lq 4 1 32], [], gi_102, hq_38), [], ([], 2)), ((54, [lq 0 6 0, lq 1 1 29, lq 2 0 27, lq 3 0 4, lq 4 1 32], [], gi_102, hq_38), [], ([], 2)), ((54, [lq 0 6 0, lq 1 1 29, lq 2 0 23, lq 3 0 4, lq 4 1 32], [], gi_102, hq_38), [], ([], 2)), ((54, [lq 0 6 0, lq 1 1 29, lq 2 0 15, lq 3 0 4, lq 4 1 32], [], gi_105, hq_38), [], ([], 2)), ((54, [lq 0 6 0, lq 1 1 29, lq 2 0 31, lq 3 0 5, lq 4 1 32], [], gi_102, hq_39), [], ([], 1))]
noncomputable def cu_263 : List CUT2 := cu_263_0 ++ (cu_263_1)
theorem ch_263 : staG tb_X6_readVoter 1 bt_RX6 [] ct_263 [(110, [(1, (1, 4, 0), 0, 0)])] [] cu_263 39 con_263 = true := by decide +kernel
theorem cc_263_0 : cu_263_0.all (cutG tb_X6_readVoter 1 bt_RX6 [] ct_263 [(110, [(1, (1, 4, 0), 0, 0)])] [] cu_263 39 con_263) = true := by decide +kernel
theorem cc_263_1 : cu_263_1.all (cutG tb_X6_readVoter 1 bt_RX6 [] ct_263 [(110, [(1, (1, 4, 0), 0, 0)])] [] cu_263 39 con_263) = true := by decide +kernel
theorem cto_263 (l : Launch) : CTOK2 l RX6 vwCl gTbl ct_263 := ct2_cons (vl_10 l) ck_RX6_102_10 (ct2_cons (vl_75 l) ck_RX6_85_75 (ct2_cons (vl_76 l) ck_RX6_138_76 (ct2_cons (vl_45 l) ck_RX6_116_45 (ct2_cons (vl_83 l) ck_RX6_116_83 (ct2_cons (vl_90 l) ck_RX6_116_90 (ct2_cons (vl_96 l) ck_RX6_116_96 (ct2_cons (vl_102 l) ck_RX6_116_102 (ct2_cons (vl_103 l) ck_RX6_116_103 (ct2_cons (vl_109 l) ck_RX6_116_109 (ct2_cons (vl_116 l) ck_RX6_116_116 (ct2_cons (vl_122 l) ck_RX6_116_122 (ct2_cons (vl_128 l) ck_RX6_116_128 (ct2_cons (vl_134 l) ck_RX6_116_134 (ct2_cons (vl_140 l) ck_RX6_116_140 (ct2_cons (vl_146 l) ck_RX6_116_146 (ct2_cons (vl_152 l) ck_RX6_116_152 (ct2_cons (vl_158 l) ck_RX6_116_158 (ct2_cons (vl_164 l) ck_RX6_116_164 (ct2_cons (vl_170 l) ck_RX6_116_170 (ct2_cons (vl_177 l) ck_RX6_116_177 (ct2_cons (vl_183 l) ck_RX6_116_183 (ct2_cons (vl_189 l) ck_RX6_116_189 (ct2_cons (vl_195 l) ck_RX6_116_195 (ct2_cons (vl_201 l) ck_RX6_116_201 (ct2_cons (vl_207 l) ck_RX6_116_207 (ct2_cons (vl_213 l) ck_RX6_116_213 (ct2_cons (vl_219 l) ck_RX6_116_219 (ct2_cons (vl_225 l) ck_RX6_116_225 (ct2_cons (vl_231 l) ck_RX6_116_231 (ct2_cons (vl_238 l) ck_RX6_116_238 (ct2_cons (vl_244 l) ck_RX6_116_244 (ct2_cons (vl_250 l) ck_RX6_116_250 (ct2_cons (vl_256 l) ck_RX6_116_256 (ct2_cons (vl_262 l) ck_RX6_116_262 (ct2_cons (vl_77 l) ck_RX6_141_77 (ct2_cons (vl_84 l) ck_RX6_141_84 (ct2_cons (vl_110 l) ck_RX6_141_110 (ct2_cons (vl_171 l) ck_RX6_141_171 (ct2_cons (vl_232 l) ck_RX6_141_232 (ct2_nil))))))))))))))))))))))))))))))))))))))))
theorem vl_263 (l : Launch) : Vld2 l vwCl gTbl con_263 := conR_ok3 gT_all (hd_263) rfl pn_RX6 tk_X6_readVoter bo_RX6 xo_RX6 (cto_263 l) ch_263 (cut_app (cut_all cc_263_0) (cut_all cc_263_1))
/-- RookHusting$Hundred addVoter -/
noncomputable def ac_60 : AC := .inl (4, jl_n [jl_8 9 7, jl_c 5, vp_4])
noncomputable def hc_21 : List AC := [ac_60, am_7, am_8, am_5]
noncomputable def gi_109 : GI := jl_n [gp_58, jl_z 36]
noncomputable def ac_61 : AC := .inr (1, jl_n [js_m 25 2147483647 2147483647, jl_x (5, (0, (-1), 0)), js_m 5 2147483647 2147483647])
noncomputable def hq_40 : HP := [(true, ac_51), (true, am_7), (true, .inr (1, [(5, (2, 0, 5)), (1, (0, 0, 0)), (1, (2, 0, 5))])), (true, ac_61)]
noncomputable def con_264 : Con2 := ((yX4_addVoter, cX4_addVoter, 3, none), (0, 0), ([(6, 0, 0), (1, 1, 0)], gi_88, hc_21, []), [((9, 0, 0), gi_109, hq_40, [], tg_7)])
theorem hd_264 : con_264.1 = (yX4_addVoter, cX4_addVoter, 3, none) := rfl
noncomputable def cu_264 : List CUT2 := []
theorem ch_264 : staG tb_X4_addVoter 1 bt_RX4 [] ct_6 [] [] cu_264 101 con_264 = true := by decide +kernel
theorem vl_264 (l : Launch) : Vld2 l vwCl gTbl con_264 := conR_ok3 gT_all (hd_264) rfl pn_RX4 tk_X4_addVoter bo_RX4 xo_RX4 (cto_6 l) ch_264 cut_nil
/-- RookHusting$Hundred addWant -/
noncomputable def ac_62 : AC := .inl (4, jl_n [jl_8 9 7, jl_c 6, vp_5])
noncomputable def hc_22 : List AC := [ac_62, .inr (1, [(5, (2, 0, 5)), (1, (0, 0, 0)), (1, (2, 0, 5))]), am_6, am_5]
noncomputable def gi_110 : GI := jl_n [gp_52, jl_z 21]
noncomputable def hq_41 : HP := [(false, ac_62), (true, .inr (1, [(5, (2, 0, 5)), (1, (0, 1, 0)), (1, (2, 0, 5))])), (true, am_6), (true, am_5)]
noncomputable def con_265 : Con2 := ((yX4_addWant, cX4_addWant, 6, none), (0, 0), ([(6, 0, 0), (1, 1, 0)], gi_91, hc_22, []), [((9, 0, 0), gi_110, hq_41, [], [1, 1])])
theorem hd_265 : con_265.1 = (yX4_addWant, cX4_addWant, 6, none) := rfl
noncomputable def cu_265 : List CUT2 := []
theorem ch_265 : staG tb_X4_addWant 1 bt_RX4 [] ct_6 [] [] cu_265 45 con_265 = true := by decide +kernel
theorem vl_265 (l : Launch) : Vld2 l vwCl gTbl con_265 := conR_ok3 gT_all (hd_265) rfl pn_RX4 tk_X4_addWant bo_RX4 xo_RX4 (cto_6 l) ch_265 cut_nil
/-- RookHusting$Hundred addWant -/
noncomputable def hc_23 : List AC := [ac_62, .inr (1, [(5, (2, 0, 5)), (1, (0, 1, 0)), (1, (2, 0, 5))]), am_6, am_5]
noncomputable def hq_42 : HP := [(false, ac_62), (true, .inr (1, [(5, (2, 0, 5)), (1, (0, 2, 0)), (1, (2, 0, 5))])), (true, am_6), (true, am_5)]
noncomputable def con_266 : Con2 := ((yX4_addWant, cX4_addWant, 6, none), (0, 0), ([(6, 0, 0), (1, 1, 0)], gi_91, hc_23, []), [((9, 0, 0), gi_110, hq_42, [], [1, 1])])
theorem hd_266 : con_266.1 = (yX4_addWant, cX4_addWant, 6, none) := rfl
noncomputable def cu_266 : List CUT2 := []
theorem ch_266 : staG tb_X4_addWant 1 bt_RX4 [] ct_6 [] [] cu_266 63 con_266 = true := by decide +kernel
theorem vl_266 (l : Launch) : Vld2 l vwCl gTbl con_266 := conR_ok3 gT_all (hd_266) rfl pn_RX4 tk_X4_addWant bo_RX4 xo_RX4 (cto_6 l) ch_266 cut_nil
/-- RookHusting$Hundred addWant -/
noncomputable def hc_24 : List AC := [ac_62, .inr (1, [(5, (2, 0, 5)), (1, (0, 2, 0)), (1, (2, 0, 5))]), am_6, am_5]
noncomputable def hq_43 : HP := [(false, ac_62), (true, .inr (1, [(5, (2, 0, 5)), (1, (0, 3, 0)), (1, (2, 0, 5))])), (true, am_6), (true, am_5)]
noncomputable def con_267 : Con2 := ((yX4_addWant, cX4_addWant, 6, none), (0, 0), ([(6, 0, 0), (1, 1, 0)], gi_91, hc_24, []), [((9, 0, 0), gi_110, hq_43, [], [1, 1])])
theorem hd_267 : con_267.1 = (yX4_addWant, cX4_addWant, 6, none) := rfl
noncomputable def cu_267 : List CUT2 := []
theorem ch_267 : staG tb_X4_addWant 1 bt_RX4 [] ct_6 [] [] cu_267 81 con_267 = true := by decide +kernel
theorem vl_267 (l : Launch) : Vld2 l vwCl gTbl con_267 := conR_ok3 gT_all (hd_267) rfl pn_RX4 tk_X4_addWant bo_RX4 xo_RX4 (cto_6 l) ch_267 cut_nil
/-- RookHusting$Hundred addWant -/
noncomputable def hc_25 : List AC := [ac_62, .inr (1, [(5, (2, 0, 5)), (1, (0, 3, 0)), (1, (2, 0, 5))]), am_6, am_5]
noncomputable def hq_44 : HP := [(false, ac_62), (true, .inr (1, [(5, (2, 0, 5)), (1, (0, 4, 0)), (1, (2, 0, 5))])), (true, am_6), (true, am_5)]
noncomputable def con_268 : Con2 := ((yX4_addWant, cX4_addWant, 6, none), (0, 0), ([(6, 0, 0), (1, 1, 0)], gi_91, hc_25, []), [((9, 0, 0), gi_110, hq_44, [], [1, 1])])
theorem hd_268 : con_268.1 = (yX4_addWant, cX4_addWant, 6, none) := rfl
noncomputable def cu_268 : List CUT2 := []
theorem ch_268 : staG tb_X4_addWant 1 bt_RX4 [] ct_6 [] [] cu_268 99 con_268 = true := by decide +kernel
theorem vl_268 (l : Launch) : Vld2 l vwCl gTbl con_268 := conR_ok3 gT_all (hd_268) rfl pn_RX4 tk_X4_addWant bo_RX4 xo_RX4 (cto_6 l) ch_268 cut_nil
/-- RookHusting$Hundred addWant -/
noncomputable def hc_26 : List AC := [ac_62, .inr (1, [(5, (2, 0, 5)), (1, (0, 4, 0)), (1, (2, 0, 5))]), am_6, am_5]
noncomputable def hq_45 : HP := [(false, ac_62), (true, .inr (1, [(5, (2, 0, 5)), (1, (0, 5, 0)), (1, (2, 0, 5))])), (true, am_6), (true, am_5)]
noncomputable def con_269 : Con2 := ((yX4_addWant, cX4_addWant, 6, none), (0, 0), ([(6, 0, 0), (1, 1, 0)], gi_91, hc_26, []), [((9, 0, 0), gi_110, hq_45, [], [1, 1])])
theorem hd_269 : con_269.1 = (yX4_addWant, cX4_addWant, 6, none) := rfl
noncomputable def cu_269 : List CUT2 := []
theorem ch_269 : staG tb_X4_addWant 1 bt_RX4 [] ct_6 [] [] cu_269 117 con_269 = true := by decide +kernel
theorem vl_269 (l : Launch) : Vld2 l vwCl gTbl con_269 := conR_ok3 gT_all (hd_269) rfl pn_RX4 tk_X4_addWant bo_RX4 xo_RX4 (cto_6 l) ch_269 cut_nil
/-- RookHusting$Reader readVoter -/
noncomputable def ac_63 : AC := .inl (4, jl_n [vp_2, jl_c 5, vp_3])
noncomputable def hc_27 : List AC := [.inl (6, [(6, 1, 0), (1, 2, 0), (1, 3, 0), (6, 2, 0)]), ac_63, ac_21, am_2, am_7, am_8, am_5, am_6]
noncomputable def gi_111 : GI := jl_n [gp_59, jl_i 5 6, gp_60]
noncomputable def con_270 : Con2 := ((yX6_readVoter, cX6_readVoter, 5, none), (11, 266), ([(6, 0, 0)], gi_85, hc_27, []), [((9, 0, 0), gi_111, hq_32, [], tg_3)])
theorem hd_270 : con_270.1 = (yX6_readVoter, cX6_readVoter, 5, none) := rfl
theorem ck_RX6_141_269 : COK2 RX6 vwCl gTbl 141 0 con_269 := ⟨wd_729, wd_128, mh_X4_addWant, .inr (.inr ⟨rfl, wd_726, wd_727, wd_728, ⟨_, rfl, pd_X4_addWant⟩, 4, _, TX4, 17, rfl, rfl⟩)⟩
theorem ck_RX6_141_268 : COK2 RX6 vwCl gTbl 141 0 con_268 := ⟨wd_729, wd_128, mh_X4_addWant, .inr (.inr ⟨rfl, wd_726, wd_727, wd_728, ⟨_, rfl, pd_X4_addWant⟩, 4, _, TX4, 17, rfl, rfl⟩)⟩
theorem ck_RX6_141_267 : COK2 RX6 vwCl gTbl 141 0 con_267 := ⟨wd_729, wd_128, mh_X4_addWant, .inr (.inr ⟨rfl, wd_726, wd_727, wd_728, ⟨_, rfl, pd_X4_addWant⟩, 4, _, TX4, 17, rfl, rfl⟩)⟩
theorem ck_RX6_141_266 : COK2 RX6 vwCl gTbl 141 0 con_266 := ⟨wd_729, wd_128, mh_X4_addWant, .inr (.inr ⟨rfl, wd_726, wd_727, wd_728, ⟨_, rfl, pd_X4_addWant⟩, 4, _, TX4, 17, rfl, rfl⟩)⟩
theorem ck_RX6_141_265 : COK2 RX6 vwCl gTbl 141 0 con_265 := ⟨wd_729, wd_128, mh_X4_addWant, .inr (.inr ⟨rfl, wd_726, wd_727, wd_728, ⟨_, rfl, pd_X4_addWant⟩, 4, _, TX4, 17, rfl, rfl⟩)⟩
theorem ck_RX6_138_264 : COK2 RX6 vwCl gTbl 138 0 con_264 := ⟨wd_725, wd_128, mh_X4_addVoter, .inr (.inr ⟨rfl, wd_722, wd_723, wd_724, ⟨_, rfl, pd_X4_addVoter⟩, 4, _, TX4, 17, rfl, rfl⟩)⟩
noncomputable def ct_270 : CTB2 := [(22, 102, 0, con_10, [2, 3]), (31, 85, 0, con_75, [0, 2, 3]), (47, 138, 0, con_264, [1, 4, 5, 6]), (89, 116, 0, con_45, [0, 2, 3]), (89, 116, 0, con_83, [0, 2, 3]), (89, 116, 0, con_90, [0, 2, 3]), (89, 116, 0, con_96, [0, 2, 3]), (89, 116, 0, con_102, [0, 2, 3]), (89, 116, 0, con_103, [0, 2, 3]), (89, 116, 0, con_109, [0, 2, 3]), (89, 116, 0, con_116, [0, 2, 3]), (89, 116, 0, con_122, [0, 2, 3]), (89, 116, 0, con_128, [0, 2, 3]), (89, 116, 0, con_134, [0, 2, 3]), (89, 116, 0, con_140, [0, 2, 3]), (89, 116, 0, con_146, [0, 2, 3]), (89, 116, 0, con_152, [0, 2, 3]), (89, 116, 0, con_158, [0, 2, 3]), (89, 116, 0, con_164, [0, 2, 3]), (89, 116, 0, con_170, [0, 2, 3]), (89, 116, 0, con_177, [0, 2, 3]), (89, 116, 0, con_183, [0, 2, 3]), (89, 116, 0, con_189, [0, 2, 3]), (89, 116, 0, con_195, [0, 2, 3]), (89, 116, 0, con_201, [0, 2, 3]), (89, 116, 0, con_207, [0, 2, 3]), (89, 116, 0, con_213, [0, 2, 3]), (89, 116, 0, con_219, [0, 2, 3]), (89, 116, 0, con_225, [0, 2, 3]), (89, 116, 0, con_231, [0, 2, 3]), (89, 116, 0, con_238, [0, 2, 3]), (89, 116, 0, con_244, [0, 2, 3]), (89, 116, 0, con_250, [0, 2, 3]), (89, 116, 0, con_256, [0, 2, 3]), (89, 116, 0, con_262, [0, 2, 3]), (107, 141, 0, con_265, [1, 5, 7, 6]), (107, 141, 0, con_266, [1, 5, 7, 6]), (107, 141, 0, con_267, [1, 5, 7, 6]), (107, 141, 0, con_268, [1, 5, 7, 6]), (107, 141, 0, con_269, [1, 5, 7, 6])]
noncomputable def gi_112 : GI := jl_n [gp_61, jl_z 4, gp_63, jl_z 2]
noncomputable def hq_46 : HP := [(true, .inl (6, [(6, 1, 0), (0, 0, 0), (1, 34, 0), (6, 2, 0)])), (true, ac_55), (true, ac_57), (false, am_2), (true, am_7), (true, .inr (1, [(5, (2, 0, 5)), (1, (0, 0, 0)), (1, (2, 0, 5))])), (true, ac_61), (false, am_6)]
noncomputable def gi_113 : GI := jl_n [gp_64, jl_i 5 6, gp_60]
noncomputable def gi_114 : GI := jl_n [gp_65, jl_z 5, gp_63, jl_z 2]
noncomputable def hq_47 : HP := [(true, .inl (6, [(6, 1, 0), (0, 0, 0), (1, 35, 0), (6, 2, 0)])), (true, ac_55), (true, ac_59), (false, am_2), (true, am_7), (true, .inr (1, [(5, (2, 0, 5)), (1, (0, 1, 0)), (1, (2, 0, 5))])), (true, am_5), (true, am_6)]
noncomputable def gi_115 : GI := jl_n [gp_66, jl_i 3 4, gp_69]
noncomputable def hq_48 : HP := [(true, .inl (6, [(6, 1, 0), (0, 0, 0), (1, 35, 0), (6, 2, 0)])), (true, ac_55), (true, ac_59), (false, am_2), (true, am_7), (true, .inr (1, [(5, (2, 0, 5)), (1, (0, 2, 0)), (1, (2, 0, 5))])), (true, am_5), (true, am_6)]
noncomputable def gi_116 : GI := jl_n [gp_66, jl_i 2 4, gp_69]
noncomputable def gi_117 : GI := jl_n [gp_66, jl_i 1 4, gp_69]
noncomputable def gi_118 : GI := jl_n [gp_65, gp_23, gp_69]
noncomputable def gi_119 : GI := jl_n [gp_66, jl_i 2 3, gp_69]
noncomputable def gi_120 : GI := jl_n [gp_66, jl_i 1 3, gp_69]
noncomputable def gi_121 : GI := jl_n [gp_65, gp_28, gp_69]
noncomputable def gi_122 : GI := jl_n [gp_66, jl_i 1 2, gp_69]
noncomputable def gi_123 : GI := jl_n [gp_66, jl_i 0 2, gp_69]
noncomputable def gi_124 : GI := jl_n [gp_66, jl_i 0 1, gp_69]
noncomputable def hq_49 : HP := [(true, .inl (6, [(6, 1, 0), (0, 0, 0), (1, 35, 0), (6, 2, 0)])), (true, ac_55), (true, ac_59), (false, am_2), (true, am_7), (true, .inr (1, [(5, (2, 0, 5)), (1, (0, 3, 0)), (1, (2, 0, 5))])), (true, am_5), (true, am_6)]
noncomputable def hq_50 : HP := [(true, .inl (6, [(6, 1, 0), (0, 0, 0), (1, 35, 0), (6, 2, 0)])), (true, ac_55), (true, ac_59), (false, am_2), (true, am_7), (true, .inr (1, [(5, (2, 0, 5)), (1, (0, 4, 0)), (1, (2, 0, 5))])), (true, am_5), (true, am_6)]
noncomputable def hq_51 : HP := [(true, .inl (6, [(6, 1, 0), (0, 0, 0), (1, 35, 0), (6, 2, 0)])), (true, ac_55), (true, ac_59), (false, am_2), (true, am_7), (true, .inr (1, [(5, (2, 0, 5)), (1, (0, 5, 0)), (1, (2, 0, 5))])), (true, am_5), (true, am_6)]
noncomputable def cu_270_0 : List CUT2 := [((54, [lq 0 6 0, lq 1 1 29, lq 2 0 0, lq 3 0 0], [], gi_112, hq_46), [], ([], 6)), ((54, [lq 0 6 0, lq 1 1 29, lq 2 1 30, lq 3 1 31], [], gi_113, hq_34), [], ([(31, (-1))], 6)), ((54, [lq 0 6 0, lq 1 1 29, lq 2 0 16, lq 3 0 1, lq 4 0 4], [], gi_114, hq_47), [], ([], 5)), ((54, [lq 0 6 0, lq 1 1 29, lq 2 0 8, lq 3 0 1, lq 4 0 3], [], gi_114, hq_47), [], ([], 5)), ((54, [lq 0 6 0, lq 1 1 29, lq 2 0 4, lq 3 0 1, lq 4 0 2], [], gi_114, hq_47), [], ([], 5)), ((54, [lq 0 6 0, lq 1 1 29, lq 2 0 2, lq 3 0 1, lq 4 0 1], [], gi_114, hq_47), [], ([], 5)), ((54, [lq 0 6 0, lq 1 1 29, lq 2 0 1, lq 3 0 1, lq 4 0 0], [], gi_114, hq_47), [], ([], 5)), ((54, [lq 0 6 0, lq 1 1 29, lq 2 0 24, lq 3 0 2, lq 4 1 32], [], gi_115, hq_48), [], ([], 4)), ((54, [lq 0 6 0, lq 1 1 29, lq 2 0 20, lq 3 0 2, lq 4 1 32], [], gi_116, hq_48), [], ([], 4)), ((54, [lq 0 6 0, lq 1 1 29, lq 2 0 18, lq 3 0 2, lq 4 1 32], [], gi_117, hq_48), [], ([], 4)), ((54, [lq 0 6 0, lq 1 1 29, lq 2 0 17, lq 3 0 2, lq 4 1 32], [], gi_118, hq_48), [], ([], 4)), ((54, [lq 0 6 0, lq 1 1 29, lq 2 0 12, lq 3 0 2, lq 4 1 32], [], gi_119, hq_48), [], ([], 4)), ((54, [lq 0 6 0, lq 1 1 29, lq 2 0 10, lq 3 0 2, lq 4 1 32], [], gi_120, hq_48), [], ([], 4)), ((54, [lq 0 6 0, lq 1 1 29, lq 2 0 9, lq 3 0 2, lq 4 1 32], [], gi_121, hq_48), [], ([], 4)), ((54, [lq 0 6 0, lq 1 1 29, lq 2 0 6, lq 3 0 2, lq 4 1 32], [], gi_122, hq_48), [], ([], 4)), ((54, [lq 0 6 0, lq 1 1 29, lq 2 0 5, lq 3 0 2, lq 4 1 32], [], gi_123, hq_48), [], ([], 4))]
noncomputable def cu_270_1 : List CUT2 := [((54, [lq 0 6 0, lq 1 1 29, lq 2 0 3, lq 3 0 2, lq 4 1 32], [], gi_124, hq_48), [], ([], 4)), ((54, [lq 0 6 0, lq 1 1 29, lq 2 0 28, lq 3 0 3, lq 4 1 32], [], gi_116, hq_49), [], ([], 3)), ((54, [lq 0 6 0, lq 1 1 29, lq 2 0 26, lq 3 0 3, lq 4 1 32], [], gi_117, hq_49), [], ([], 3)), ((54, [lq 0 6 0, lq 1 1 29, lq 2 0 25, lq 3 0 3, lq 4 1 32], [], gi_118, hq_49), [], ([], 3)), ((54, [lq 0 6 0, lq 1 1 29, lq 2 0 22, lq 3 0 3, lq 4 1 32], [], gi_117, hq_49), [], ([], 3)), ((54, [lq 0 6 0, lq 1 1 29, lq 2 0 21, lq 3 0 3, lq 4 1 32], [], gi_118, hq_49), [], ([], 3)), ((54, [lq 0 6 0, lq 1 1 29, lq 2 0 19, lq 3 0 3, lq 4 1 32], [], gi_118, hq_49), [], ([], 3)), ((54, [lq 0 6 0, lq 1 1 29, lq 2 0 14, lq 3 0 3, lq 4 1 32], [], gi_120, hq_49), [], ([], 3)), ((54, [lq 0 6 0, lq 1 1 29, lq 2 0 13, lq 3 0 3, lq 4 1 32], [], gi_121, hq_49), [], ([], 3)), ((54, [lq 0 6 0, lq 1 1 29, lq 2 0 11, lq 3 0 3, lq 4 1 32], [], gi_121, hq_49), [], ([], 3)), ((54, [lq 0 6 0, lq 1 1 29, lq 2 0 7, lq 3 0 3, lq 4 1 32], [], gi_123, hq_49), [], ([], 3)), ((54, [lq 0 6 0, lq 1 1 29, lq 2 0 30, lq 3 0 4, lq 4 1 32], [], gi_117, hq_50), [], ([], 2)), ((54, [lq 0 6 0, lq 1 1 29, lq 2 0 29, lq 3 0 4, lq 4 1 32], [], gi_118, hq_50), [], ([], 2)), ((54, [lq 0 6 0, lq 1 1 29, lq 2 0 27, lq 3 0 4, lq 4 1 32], [], gi_118, hq_50), [], ([], 2)), ((54, [lq 0 6 0, lq 1 1 29, lq 2 0 23, lq 3 0 4, lq 4 1 32], [], gi_118, hq_50), [], ([], 2)), ((54, [lq 0 6 0, lq 1 1 29, lq 2 0 15, lq 3 0 4, lq 4 1 32], [], gi_121, hq_50), [], ([], 2)), ((54, [lq 0 6 0, lq 1 1 29, lq 2 0 31, lq 3 0 5, lq 4 1 32], [], gi_118, hq_51), [], ([], 1))]
noncomputable def cu_270 : List CUT2 := cu_270_0 ++ (cu_270_1)
theorem ch_270 : staG tb_X6_readVoter 1 bt_RX6 [] ct_270 [(110, [(1, (1, 4, 0), 0, 0)])] [] cu_270 39 con_270 = true := by decide +kernel
theorem cc_270_0 : cu_270_0.all (cutG tb_X6_readVoter 1 bt_RX6 [] ct_270 [(110, [(1, (1, 4, 0), 0, 0)])] [] cu_270 39 con_270) = true := by decide +kernel
theorem cc_270_1 : cu_270_1.all (cutG tb_X6_readVoter 1 bt_RX6 [] ct_270 [(110, [(1, (1, 4, 0), 0, 0)])] [] cu_270 39 con_270) = true := by decide +kernel
theorem cto_270 (l : Launch) : CTOK2 l RX6 vwCl gTbl ct_270 := ct2_cons (vl_10 l) ck_RX6_102_10 (ct2_cons (vl_75 l) ck_RX6_85_75 (ct2_cons (vl_264 l) ck_RX6_138_264 (ct2_cons (vl_45 l) ck_RX6_116_45 (ct2_cons (vl_83 l) ck_RX6_116_83 (ct2_cons (vl_90 l) ck_RX6_116_90 (ct2_cons (vl_96 l) ck_RX6_116_96 (ct2_cons (vl_102 l) ck_RX6_116_102 (ct2_cons (vl_103 l) ck_RX6_116_103 (ct2_cons (vl_109 l) ck_RX6_116_109 (ct2_cons (vl_116 l) ck_RX6_116_116 (ct2_cons (vl_122 l) ck_RX6_116_122 (ct2_cons (vl_128 l) ck_RX6_116_128 (ct2_cons (vl_134 l) ck_RX6_116_134 (ct2_cons (vl_140 l) ck_RX6_116_140 (ct2_cons (vl_146 l) ck_RX6_116_146 (ct2_cons (vl_152 l) ck_RX6_116_152 (ct2_cons (vl_158 l) ck_RX6_116_158 (ct2_cons (vl_164 l) ck_RX6_116_164 (ct2_cons (vl_170 l) ck_RX6_116_170 (ct2_cons (vl_177 l) ck_RX6_116_177 (ct2_cons (vl_183 l) ck_RX6_116_183 (ct2_cons (vl_189 l) ck_RX6_116_189 (ct2_cons (vl_195 l) ck_RX6_116_195 (ct2_cons (vl_201 l) ck_RX6_116_201 (ct2_cons (vl_207 l) ck_RX6_116_207 (ct2_cons (vl_213 l) ck_RX6_116_213 (ct2_cons (vl_219 l) ck_RX6_116_219 (ct2_cons (vl_225 l) ck_RX6_116_225 (ct2_cons (vl_231 l) ck_RX6_116_231 (ct2_cons (vl_238 l) ck_RX6_116_238 (ct2_cons (vl_244 l) ck_RX6_116_244 (ct2_cons (vl_250 l) ck_RX6_116_250 (ct2_cons (vl_256 l) ck_RX6_116_256 (ct2_cons (vl_262 l) ck_RX6_116_262 (ct2_cons (vl_265 l) ck_RX6_141_265 (ct2_cons (vl_266 l) ck_RX6_141_266 (ct2_cons (vl_267 l) ck_RX6_141_267 (ct2_cons (vl_268 l) ck_RX6_141_268 (ct2_cons (vl_269 l) ck_RX6_141_269 (ct2_nil))))))))))))))))))))))))))))))))))))))))
theorem vl_270 (l : Launch) : Vld2 l vwCl gTbl con_270 := conR_ok3 gT_all (hd_270) rfl pn_RX6 tk_X6_readVoter bo_RX6 xo_RX6 (cto_270 l) ch_270 (cut_app (cut_all cc_270_0) (cut_all cc_270_1))
/-- RookHusting$Hundred addVoter -/
noncomputable def ac_64 : AC := .inl (4, jl_n [jl_8 9 7, jl_c 4, vp_4])
noncomputable def hc_28 : List AC := [ac_64, am_7, am_8, am_5]
noncomputable def ac_65 : AC := .inr (1, jl_n [js_m 20 2147483647 2147483647, jl_x (5, (0, (-1), 0)), js_m 10 2147483647 2147483647])
noncomputable def hq_52 : HP := [(true, ac_60), (true, am_7), (true, .inr (1, [(4, (2, 0, 5)), (1, (0, 0, 0)), (2, (2, 0, 5))])), (true, ac_65)]
noncomputable def con_271 : Con2 := ((yX4_addVoter, cX4_addVoter, 3, none), (0, 0), ([(6, 0, 0), (1, 1, 0)], gi_88, hc_28, []), [((9, 0, 0), gi_89, hq_52, [], tg_6)])
theorem hd_271 : con_271.1 = (yX4_addVoter, cX4_addVoter, 3, none) := rfl
noncomputable def cu_271 : List CUT2 := []
theorem ch_271 : staG tb_X4_addVoter 1 bt_RX4 [] ct_6 [] [] cu_271 101 con_271 = true := by decide +kernel
theorem vl_271 (l : Launch) : Vld2 l vwCl gTbl con_271 := conR_ok3 gT_all (hd_271) rfl pn_RX4 tk_X4_addVoter bo_RX4 xo_RX4 (cto_6 l) ch_271 cut_nil
/-- RookHusting$Hundred addWant -/
noncomputable def ac_66 : AC := .inl (4, jl_n [jl_8 9 7, jl_c 5, vp_5])
noncomputable def hc_29 : List AC := [ac_66, .inr (1, [(4, (2, 0, 5)), (1, (0, 0, 0)), (2, (2, 0, 5))]), am_6, am_5]
noncomputable def hq_53 : HP := [(false, ac_66), (true, .inr (1, [(4, (2, 0, 5)), (1, (0, 1, 0)), (2, (2, 0, 5))])), (true, am_6), (true, am_5)]
noncomputable def con_272 : Con2 := ((yX4_addWant, cX4_addWant, 6, none), (0, 0), ([(6, 0, 0), (1, 1, 0)], gi_90, hc_29, []), [((9, 0, 0), gi_91, hq_53, [], [1])])
theorem hd_272 : con_272.1 = (yX4_addWant, cX4_addWant, 6, none) := rfl
noncomputable def cu_272 : List CUT2 := []
theorem ch_272 : staG tb_X4_addWant 1 bt_RX4 [] ct_6 [] [] cu_272 45 con_272 = true := by decide +kernel
theorem vl_272 (l : Launch) : Vld2 l vwCl gTbl con_272 := conR_ok3 gT_all (hd_272) rfl pn_RX4 tk_X4_addWant bo_RX4 xo_RX4 (cto_6 l) ch_272 cut_nil
/-- RookHusting$Hundred addWant -/
noncomputable def hc_30 : List AC := [ac_66, .inr (1, [(4, (2, 0, 5)), (1, (0, 1, 0)), (2, (2, 0, 5))]), am_6, am_5]
noncomputable def hq_54 : HP := [(false, ac_66), (true, .inr (1, [(4, (2, 0, 5)), (1, (0, 2, 0)), (2, (2, 0, 5))])), (true, am_6), (true, am_5)]
noncomputable def con_273 : Con2 := ((yX4_addWant, cX4_addWant, 6, none), (0, 0), ([(6, 0, 0), (1, 1, 0)], gi_90, hc_30, []), [((9, 0, 0), gi_91, hq_54, [], [1])])
theorem hd_273 : con_273.1 = (yX4_addWant, cX4_addWant, 6, none) := rfl
noncomputable def cu_273 : List CUT2 := []
theorem ch_273 : staG tb_X4_addWant 1 bt_RX4 [] ct_6 [] [] cu_273 63 con_273 = true := by decide +kernel
theorem vl_273 (l : Launch) : Vld2 l vwCl gTbl con_273 := conR_ok3 gT_all (hd_273) rfl pn_RX4 tk_X4_addWant bo_RX4 xo_RX4 (cto_6 l) ch_273 cut_nil
/-- RookHusting$Hundred addWant -/
noncomputable def hc_31 : List AC := [ac_66, .inr (1, [(4, (2, 0, 5)), (1, (0, 2, 0)), (2, (2, 0, 5))]), am_6, am_5]
noncomputable def hq_55 : HP := [(false, ac_66), (true, .inr (1, [(4, (2, 0, 5)), (1, (0, 3, 0)), (2, (2, 0, 5))])), (true, am_6), (true, am_5)]
noncomputable def con_274 : Con2 := ((yX4_addWant, cX4_addWant, 6, none), (0, 0), ([(6, 0, 0), (1, 1, 0)], gi_90, hc_31, []), [((9, 0, 0), gi_91, hq_55, [], [1])])
theorem hd_274 : con_274.1 = (yX4_addWant, cX4_addWant, 6, none) := rfl
noncomputable def cu_274 : List CUT2 := []
theorem ch_274 : staG tb_X4_addWant 1 bt_RX4 [] ct_6 [] [] cu_274 81 con_274 = true := by decide +kernel
theorem vl_274 (l : Launch) : Vld2 l vwCl gTbl con_274 := conR_ok3 gT_all (hd_274) rfl pn_RX4 tk_X4_addWant bo_RX4 xo_RX4 (cto_6 l) ch_274 cut_nil
/-- RookHusting$Hundred addWant -/
noncomputable def hc_32 : List AC := [ac_66, .inr (1, [(4, (2, 0, 5)), (1, (0, 3, 0)), (2, (2, 0, 5))]), am_6, am_5]
noncomputable def hq_56 : HP := [(false, ac_66), (true, .inr (1, [(4, (2, 0, 5)), (1, (0, 4, 0)), (2, (2, 0, 5))])), (true, am_6), (true, am_5)]
noncomputable def con_275 : Con2 := ((yX4_addWant, cX4_addWant, 6, none), (0, 0), ([(6, 0, 0), (1, 1, 0)], gi_90, hc_32, []), [((9, 0, 0), gi_91, hq_56, [], [1])])
theorem hd_275 : con_275.1 = (yX4_addWant, cX4_addWant, 6, none) := rfl
noncomputable def cu_275 : List CUT2 := []
theorem ch_275 : staG tb_X4_addWant 1 bt_RX4 [] ct_6 [] [] cu_275 99 con_275 = true := by decide +kernel
theorem vl_275 (l : Launch) : Vld2 l vwCl gTbl con_275 := conR_ok3 gT_all (hd_275) rfl pn_RX4 tk_X4_addWant bo_RX4 xo_RX4 (cto_6 l) ch_275 cut_nil
/-- RookHusting$Hundred addWant -/
noncomputable def hc_33 : List AC := [ac_66, .inr (1, [(4, (2, 0, 5)), (1, (0, 4, 0)), (2, (2, 0, 5))]), am_6, am_5]
noncomputable def hq_57 : HP := [(false, ac_66), (true, .inr (1, [(4, (2, 0, 5)), (1, (0, 5, 0)), (2, (2, 0, 5))])), (true, am_6), (true, am_5)]
noncomputable def con_276 : Con2 := ((yX4_addWant, cX4_addWant, 6, none), (0, 0), ([(6, 0, 0), (1, 1, 0)], gi_90, hc_33, []), [((9, 0, 0), gi_91, hq_57, [], [1])])
theorem hd_276 : con_276.1 = (yX4_addWant, cX4_addWant, 6, none) := rfl
noncomputable def cu_276 : List CUT2 := []
theorem ch_276 : staG tb_X4_addWant 1 bt_RX4 [] ct_6 [] [] cu_276 117 con_276 = true := by decide +kernel
theorem vl_276 (l : Launch) : Vld2 l vwCl gTbl con_276 := conR_ok3 gT_all (hd_276) rfl pn_RX4 tk_X4_addWant bo_RX4 xo_RX4 (cto_6 l) ch_276 cut_nil
/-- RookHusting$Reader readVoter -/
noncomputable def ac_67 : AC := .inl (4, jl_n [vp_2, jl_c 4, vp_3])
noncomputable def hc_34 : List AC := [.inl (6, [(6, 1, 0), (1, 2, 0), (1, 3, 0), (6, 2, 0)]), ac_67, ac_21, am_2, am_7, am_8, am_5, am_6]
noncomputable def gi_125 : GI := jl_n [gp_59, jl_i 4 5, gp_60]
noncomputable def con_277 : Con2 := ((yX6_readVoter, cX6_readVoter, 5, none), (11, 266), ([(6, 0, 0)], gi_85, hc_34, []), [((9, 0, 0), gi_125, hq_32, [], tg_3)])
theorem hd_277 : con_277.1 = (yX6_readVoter, cX6_readVoter, 5, none) := rfl
theorem ck_RX6_141_276 : COK2 RX6 vwCl gTbl 141 0 con_276 := ⟨wd_729, wd_128, mh_X4_addWant, .inr (.inr ⟨rfl, wd_726, wd_727, wd_728, ⟨_, rfl, pd_X4_addWant⟩, 4, _, TX4, 17, rfl, rfl⟩)⟩
theorem ck_RX6_141_275 : COK2 RX6 vwCl gTbl 141 0 con_275 := ⟨wd_729, wd_128, mh_X4_addWant, .inr (.inr ⟨rfl, wd_726, wd_727, wd_728, ⟨_, rfl, pd_X4_addWant⟩, 4, _, TX4, 17, rfl, rfl⟩)⟩
theorem ck_RX6_141_274 : COK2 RX6 vwCl gTbl 141 0 con_274 := ⟨wd_729, wd_128, mh_X4_addWant, .inr (.inr ⟨rfl, wd_726, wd_727, wd_728, ⟨_, rfl, pd_X4_addWant⟩, 4, _, TX4, 17, rfl, rfl⟩)⟩
theorem ck_RX6_141_273 : COK2 RX6 vwCl gTbl 141 0 con_273 := ⟨wd_729, wd_128, mh_X4_addWant, .inr (.inr ⟨rfl, wd_726, wd_727, wd_728, ⟨_, rfl, pd_X4_addWant⟩, 4, _, TX4, 17, rfl, rfl⟩)⟩
theorem ck_RX6_141_272 : COK2 RX6 vwCl gTbl 141 0 con_272 := ⟨wd_729, wd_128, mh_X4_addWant, .inr (.inr ⟨rfl, wd_726, wd_727, wd_728, ⟨_, rfl, pd_X4_addWant⟩, 4, _, TX4, 17, rfl, rfl⟩)⟩
theorem ck_RX6_138_271 : COK2 RX6 vwCl gTbl 138 0 con_271 := ⟨wd_725, wd_128, mh_X4_addVoter, .inr (.inr ⟨rfl, wd_722, wd_723, wd_724, ⟨_, rfl, pd_X4_addVoter⟩, 4, _, TX4, 17, rfl, rfl⟩)⟩
noncomputable def ct_277 : CTB2 := [(22, 102, 0, con_10, [2, 3]), (31, 85, 0, con_75, [0, 2, 3]), (47, 138, 0, con_271, [1, 4, 5, 6]), (89, 116, 0, con_45, [0, 2, 3]), (89, 116, 0, con_83, [0, 2, 3]), (89, 116, 0, con_90, [0, 2, 3]), (89, 116, 0, con_96, [0, 2, 3]), (89, 116, 0, con_102, [0, 2, 3]), (89, 116, 0, con_103, [0, 2, 3]), (89, 116, 0, con_109, [0, 2, 3]), (89, 116, 0, con_116, [0, 2, 3]), (89, 116, 0, con_122, [0, 2, 3]), (89, 116, 0, con_128, [0, 2, 3]), (89, 116, 0, con_134, [0, 2, 3]), (89, 116, 0, con_140, [0, 2, 3]), (89, 116, 0, con_146, [0, 2, 3]), (89, 116, 0, con_152, [0, 2, 3]), (89, 116, 0, con_158, [0, 2, 3]), (89, 116, 0, con_164, [0, 2, 3]), (89, 116, 0, con_170, [0, 2, 3]), (89, 116, 0, con_177, [0, 2, 3]), (89, 116, 0, con_183, [0, 2, 3]), (89, 116, 0, con_189, [0, 2, 3]), (89, 116, 0, con_195, [0, 2, 3]), (89, 116, 0, con_201, [0, 2, 3]), (89, 116, 0, con_207, [0, 2, 3]), (89, 116, 0, con_213, [0, 2, 3]), (89, 116, 0, con_219, [0, 2, 3]), (89, 116, 0, con_225, [0, 2, 3]), (89, 116, 0, con_231, [0, 2, 3]), (89, 116, 0, con_238, [0, 2, 3]), (89, 116, 0, con_244, [0, 2, 3]), (89, 116, 0, con_250, [0, 2, 3]), (89, 116, 0, con_256, [0, 2, 3]), (89, 116, 0, con_262, [0, 2, 3]), (107, 141, 0, con_272, [1, 5, 7, 6]), (107, 141, 0, con_273, [1, 5, 7, 6]), (107, 141, 0, con_274, [1, 5, 7, 6]), (107, 141, 0, con_275, [1, 5, 7, 6]), (107, 141, 0, con_276, [1, 5, 7, 6])]
noncomputable def hq_58 : HP := [(true, .inl (6, [(6, 1, 0), (0, 0, 0), (1, 34, 0), (6, 2, 0)])), (true, ac_63), (true, ac_57), (false, am_2), (true, am_7), (true, .inr (1, [(4, (2, 0, 5)), (1, (0, 0, 0)), (2, (2, 0, 5))])), (true, ac_65), (false, am_6)]
noncomputable def gi_126 : GI := jl_n [gp_64, jl_i 4 5, gp_60]
noncomputable def hq_59 : HP := [(true, .inl (6, [(6, 1, 0), (0, 0, 0), (1, 35, 0), (6, 2, 0)])), (true, ac_63), (true, ac_59), (false, am_2), (true, am_7), (true, .inr (1, [(4, (2, 0, 5)), (1, (0, 1, 0)), (2, (2, 0, 5))])), (true, am_5), (true, am_6)]
noncomputable def hq_60 : HP := [(true, .inl (6, [(6, 1, 0), (0, 0, 0), (1, 35, 0), (6, 2, 0)])), (true, ac_63), (true, ac_59), (false, am_2), (true, am_7), (true, .inr (1, [(4, (2, 0, 5)), (1, (0, 2, 0)), (2, (2, 0, 5))])), (true, am_5), (true, am_6)]
noncomputable def hq_61 : HP := [(true, .inl (6, [(6, 1, 0), (0, 0, 0), (1, 35, 0), (6, 2, 0)])), (true, ac_63), (true, ac_59), (false, am_2), (true, am_7), (true, .inr (1, [(4, (2, 0, 5)), (1, (0, 3, 0)), (2, (2, 0, 5))])), (true, am_5), (true, am_6)]
noncomputable def hq_62 : HP := [(true, .inl (6, [(6, 1, 0), (0, 0, 0), (1, 35, 0), (6, 2, 0)])), (true, ac_63), (true, ac_59), (false, am_2), (true, am_7), (true, .inr (1, [(4, (2, 0, 5)), (1, (0, 4, 0)), (2, (2, 0, 5))])), (true, am_5), (true, am_6)]
noncomputable def hq_63 : HP := [(true, .inl (6, [(6, 1, 0), (0, 0, 0), (1, 35, 0), (6, 2, 0)])), (true, ac_63), (true, ac_59), (false, am_2), (true, am_7), (true, .inr (1, [(4, (2, 0, 5)), (1, (0, 5, 0)), (2, (2, 0, 5))])), (true, am_5), (true, am_6)]
noncomputable def cu_277_0 : List CUT2 := [((54, [lq 0 6 0, lq 1 1 29, lq 2 0 0, lq 3 0 0], [], gi_96, hq_58), [], ([], 6)), ((54, [lq 0 6 0, lq 1 1 29, lq 2 1 30, lq 3 1 31], [], gi_126, hq_34), [], ([(31, (-1))], 6)), ((54, [lq 0 6 0, lq 1 1 29, lq 2 0 16, lq 3 0 1, lq 4 0 4], [], gi_98, hq_59), [], ([], 5)), ((54, [lq 0 6 0, lq 1 1 29, lq 2 0 8, lq 3 0 1, lq 4 0 3], [], gi_98, hq_59), [], ([], 5)), ((54, [lq 0 6 0, lq 1 1 29, lq 2 0 4, lq 3 0 1, lq 4 0 2], [], gi_98, hq_59), [], ([], 5)), ((54, [lq 0 6 0, lq 1 1 29, lq 2 0 2, lq 3 0 1, lq 4 0 1], [], gi_98, hq_59), [], ([], 5)), ((54, [lq 0 6 0, lq 1 1 29, lq 2 0 1, lq 3 0 1, lq 4 0 0], [], gi_98, hq_59), [], ([], 5)), ((54, [lq 0 6 0, lq 1 1 29, lq 2 0 24, lq 3 0 2, lq 4 1 32], [], gi_99, hq_60), [], ([], 4)), ((54, [lq 0 6 0, lq 1 1 29, lq 2 0 20, lq 3 0 2, lq 4 1 32], [], gi_100, hq_60), [], ([], 4)), ((54, [lq 0 6 0, lq 1 1 29, lq 2 0 18, lq 3 0 2, lq 4 1 32], [], gi_101, hq_60), [], ([], 4)), ((54, [lq 0 6 0, lq 1 1 29, lq 2 0 17, lq 3 0 2, lq 4 1 32], [], gi_102, hq_60), [], ([], 4)), ((54, [lq 0 6 0, lq 1 1 29, lq 2 0 12, lq 3 0 2, lq 4 1 32], [], gi_103, hq_60), [], ([], 4)), ((54, [lq 0 6 0, lq 1 1 29, lq 2 0 10, lq 3 0 2, lq 4 1 32], [], gi_104, hq_60), [], ([], 4)), ((54, [lq 0 6 0, lq 1 1 29, lq 2 0 9, lq 3 0 2, lq 4 1 32], [], gi_105, hq_60), [], ([], 4)), ((54, [lq 0 6 0, lq 1 1 29, lq 2 0 6, lq 3 0 2, lq 4 1 32], [], gi_106, hq_60), [], ([], 4)), ((54, [lq 0 6 0, lq 1 1 29, lq 2 0 5, lq 3 0 2, lq 4 1 32], [], gi_107, hq_60), [], ([], 4))]
noncomputable def cu_277_1 : List CUT2 := [((54, [lq 0 6 0, lq 1 1 29, lq 2 0 3, lq 3 0 2, lq 4 1 32], [], gi_108, hq_60), [], ([], 4)), ((54, [lq 0 6 0, lq 1 1 29, lq 2 0 28, lq 3 0 3, lq 4 1 32], [], gi_100, hq_61), [], ([], 3)), ((54, [lq 0 6 0, lq 1 1 29, lq 2 0 26, lq 3 0 3, lq 4 1 32], [], gi_101, hq_61), [], ([], 3)), ((54, [lq 0 6 0, lq 1 1 29, lq 2 0 25, lq 3 0 3, lq 4 1 32], [], gi_102, hq_61), [], ([], 3)), ((54, [lq 0 6 0, lq 1 1 29, lq 2 0 22, lq 3 0 3, lq 4 1 32], [], gi_101, hq_61), [], ([], 3)), ((54, [lq 0 6 0, lq 1 1 29, lq 2 0 21, lq 3 0 3, lq 4 1 32], [], gi_102, hq_61), [], ([], 3)), ((54, [lq 0 6 0, lq 1 1 29, lq 2 0 19, lq 3 0 3, lq 4 1 32], [], gi_102, hq_61), [], ([], 3)), ((54, [lq 0 6 0, lq 1 1 29, lq 2 0 14, lq 3 0 3, lq 4 1 32], [], gi_104, hq_61), [], ([], 3)), ((54, [lq 0 6 0, lq 1 1 29, lq 2 0 13, lq 3 0 3, lq 4 1 32], [], gi_105, hq_61), [], ([], 3)), ((54, [lq 0 6 0, lq 1 1 29, lq 2 0 11, lq 3 0 3, lq 4 1 32], [], gi_105, hq_61), [], ([], 3)), ((54, [lq 0 6 0, lq 1 1 29, lq 2 0 7, lq 3 0 3, lq 4 1 32], [], gi_107, hq_61), [], ([], 3)), ((54, [lq 0 6 0, lq 1 1 29, lq 2 0 30, lq 3 0 4, lq 4 1 32], [], gi_101, hq_62), [], ([], 2)), ((54, [lq 0 6 0, lq 1 1 29, lq 2 0 29, lq 3 0 4, lq 4 1 32], [], gi_102, hq_62), [], ([], 2)), ((54, [lq 0 6 0, lq 1 1 29, lq 2 0 27, lq 3 0 4, lq 4 1 32], [], gi_102, hq_62), [], ([], 2)), ((54, [lq 0 6 0, lq 1 1 29, lq 2 0 23, lq 3 0 4, lq 4 1 32], [], gi_102, hq_62), [], ([], 2)), ((54, [lq 0 6 0, lq 1 1 29, lq 2 0 15, lq 3 0 4, lq 4 1 32], [], gi_105, hq_62), [], ([], 2)), ((54, [lq 0 6 0, lq 1 1 29, lq 2 0 31, lq 3 0 5, lq 4 1 32], [], gi_102, hq_63), [], ([], 1))]
noncomputable def cu_277 : List CUT2 := cu_277_0 ++ (cu_277_1)
theorem ch_277 : staG tb_X6_readVoter 1 bt_RX6 [] ct_277 [(110, [(1, (1, 4, 0), 0, 0)])] [] cu_277 39 con_277 = true := by decide +kernel
theorem cc_277_0 : cu_277_0.all (cutG tb_X6_readVoter 1 bt_RX6 [] ct_277 [(110, [(1, (1, 4, 0), 0, 0)])] [] cu_277 39 con_277) = true := by decide +kernel
theorem cc_277_1 : cu_277_1.all (cutG tb_X6_readVoter 1 bt_RX6 [] ct_277 [(110, [(1, (1, 4, 0), 0, 0)])] [] cu_277 39 con_277) = true := by decide +kernel
theorem cto_277 (l : Launch) : CTOK2 l RX6 vwCl gTbl ct_277 := ct2_cons (vl_10 l) ck_RX6_102_10 (ct2_cons (vl_75 l) ck_RX6_85_75 (ct2_cons (vl_271 l) ck_RX6_138_271 (ct2_cons (vl_45 l) ck_RX6_116_45 (ct2_cons (vl_83 l) ck_RX6_116_83 (ct2_cons (vl_90 l) ck_RX6_116_90 (ct2_cons (vl_96 l) ck_RX6_116_96 (ct2_cons (vl_102 l) ck_RX6_116_102 (ct2_cons (vl_103 l) ck_RX6_116_103 (ct2_cons (vl_109 l) ck_RX6_116_109 (ct2_cons (vl_116 l) ck_RX6_116_116 (ct2_cons (vl_122 l) ck_RX6_116_122 (ct2_cons (vl_128 l) ck_RX6_116_128 (ct2_cons (vl_134 l) ck_RX6_116_134 (ct2_cons (vl_140 l) ck_RX6_116_140 (ct2_cons (vl_146 l) ck_RX6_116_146 (ct2_cons (vl_152 l) ck_RX6_116_152 (ct2_cons (vl_158 l) ck_RX6_116_158 (ct2_cons (vl_164 l) ck_RX6_116_164 (ct2_cons (vl_170 l) ck_RX6_116_170 (ct2_cons (vl_177 l) ck_RX6_116_177 (ct2_cons (vl_183 l) ck_RX6_116_183 (ct2_cons (vl_189 l) ck_RX6_116_189 (ct2_cons (vl_195 l) ck_RX6_116_195 (ct2_cons (vl_201 l) ck_RX6_116_201 (ct2_cons (vl_207 l) ck_RX6_116_207 (ct2_cons (vl_213 l) ck_RX6_116_213 (ct2_cons (vl_219 l) ck_RX6_116_219 (ct2_cons (vl_225 l) ck_RX6_116_225 (ct2_cons (vl_231 l) ck_RX6_116_231 (ct2_cons (vl_238 l) ck_RX6_116_238 (ct2_cons (vl_244 l) ck_RX6_116_244 (ct2_cons (vl_250 l) ck_RX6_116_250 (ct2_cons (vl_256 l) ck_RX6_116_256 (ct2_cons (vl_262 l) ck_RX6_116_262 (ct2_cons (vl_272 l) ck_RX6_141_272 (ct2_cons (vl_273 l) ck_RX6_141_273 (ct2_cons (vl_274 l) ck_RX6_141_274 (ct2_cons (vl_275 l) ck_RX6_141_275 (ct2_cons (vl_276 l) ck_RX6_141_276 (ct2_nil))))))))))))))))))))))))))))))))))))))))
theorem vl_277 (l : Launch) : Vld2 l vwCl gTbl con_277 := conR_ok3 gT_all (hd_277) rfl pn_RX6 tk_X6_readVoter bo_RX6 xo_RX6 (cto_277 l) ch_277 (cut_app (cut_all cc_277_0) (cut_all cc_277_1))
/-- RookHusting$Hundred addVoter -/
noncomputable def ac_68 : AC := .inl (4, jl_n [jl_8 9 7, jl_c 3, vp_4])
noncomputable def hc_35 : List AC := [ac_68, am_7, am_8, am_5]
noncomputable def ac_69 : AC := .inr (1, jl_n [js_m 15 2147483647 2147483647, jl_x (5, (0, (-1), 0)), js_m 15 2147483647 2147483647])
noncomputable def hq_64 : HP := [(true, ac_64), (true, am_7), (true, .inr (1, [(3, (2, 0, 5)), (1, (0, 0, 0)), (3, (2, 0, 5))])), (true, ac_69)]
noncomputable def con_278 : Con2 := ((yX4_addVoter, cX4_addVoter, 3, none), (0, 0), ([(6, 0, 0), (1, 1, 0)], gi_88, hc_35, []), [((9, 0, 0), gi_89, hq_64, [], tg_6)])
theorem hd_278 : con_278.1 = (yX4_addVoter, cX4_addVoter, 3, none) := rfl
noncomputable def cu_278 : List CUT2 := []
theorem ch_278 : staG tb_X4_addVoter 1 bt_RX4 [] ct_6 [] [] cu_278 101 con_278 = true := by decide +kernel
theorem vl_278 (l : Launch) : Vld2 l vwCl gTbl con_278 := conR_ok3 gT_all (hd_278) rfl pn_RX4 tk_X4_addVoter bo_RX4 xo_RX4 (cto_6 l) ch_278 cut_nil
/-- RookHusting$Hundred addWant -/
noncomputable def ac_70 : AC := .inl (4, jl_n [jl_8 9 7, jl_c 4, vp_5])
noncomputable def hc_36 : List AC := [ac_70, .inr (1, [(3, (2, 0, 5)), (1, (0, 0, 0)), (3, (2, 0, 5))]), am_6, am_5]
noncomputable def hq_65 : HP := [(false, ac_70), (true, .inr (1, [(3, (2, 0, 5)), (1, (0, 1, 0)), (3, (2, 0, 5))])), (true, am_6), (true, am_5)]
noncomputable def con_279 : Con2 := ((yX4_addWant, cX4_addWant, 6, none), (0, 0), ([(6, 0, 0), (1, 1, 0)], gi_90, hc_36, []), [((9, 0, 0), gi_91, hq_65, [], [1])])
theorem hd_279 : con_279.1 = (yX4_addWant, cX4_addWant, 6, none) := rfl
noncomputable def cu_279 : List CUT2 := []
theorem ch_279 : staG tb_X4_addWant 1 bt_RX4 [] ct_6 [] [] cu_279 45 con_279 = true := by decide +kernel
theorem vl_279 (l : Launch) : Vld2 l vwCl gTbl con_279 := conR_ok3 gT_all (hd_279) rfl pn_RX4 tk_X4_addWant bo_RX4 xo_RX4 (cto_6 l) ch_279 cut_nil
/-- RookHusting$Hundred addWant -/
noncomputable def hc_37 : List AC := [ac_70, .inr (1, [(3, (2, 0, 5)), (1, (0, 1, 0)), (3, (2, 0, 5))]), am_6, am_5]
noncomputable def hq_66 : HP := [(false, ac_70), (true, .inr (1, [(3, (2, 0, 5)), (1, (0, 2, 0)), (3, (2, 0, 5))])), (true, am_6), (true, am_5)]
noncomputable def con_280 : Con2 := ((yX4_addWant, cX4_addWant, 6, none), (0, 0), ([(6, 0, 0), (1, 1, 0)], gi_90, hc_37, []), [((9, 0, 0), gi_91, hq_66, [], [1])])
theorem hd_280 : con_280.1 = (yX4_addWant, cX4_addWant, 6, none) := rfl
noncomputable def cu_280 : List CUT2 := []
theorem ch_280 : staG tb_X4_addWant 1 bt_RX4 [] ct_6 [] [] cu_280 63 con_280 = true := by decide +kernel
theorem vl_280 (l : Launch) : Vld2 l vwCl gTbl con_280 := conR_ok3 gT_all (hd_280) rfl pn_RX4 tk_X4_addWant bo_RX4 xo_RX4 (cto_6 l) ch_280 cut_nil
/-- RookHusting$Hundred addWant -/
noncomputable def hc_38 : List AC := [ac_70, .inr (1, [(3, (2, 0, 5)), (1, (0, 2, 0)), (3, (2, 0, 5))]), am_6, am_5]
noncomputable def hq_67 : HP := [(false, ac_70), (true, .inr (1, [(3, (2, 0, 5)), (1, (0, 3, 0)), (3, (2, 0, 5))])), (true, am_6), (true, am_5)]
noncomputable def con_281 : Con2 := ((yX4_addWant, cX4_addWant, 6, none), (0, 0), ([(6, 0, 0), (1, 1, 0)], gi_90, hc_38, []), [((9, 0, 0), gi_91, hq_67, [], [1])])
theorem hd_281 : con_281.1 = (yX4_addWant, cX4_addWant, 6, none) := rfl
noncomputable def cu_281 : List CUT2 := []
theorem ch_281 : staG tb_X4_addWant 1 bt_RX4 [] ct_6 [] [] cu_281 81 con_281 = true := by decide +kernel
theorem vl_281 (l : Launch) : Vld2 l vwCl gTbl con_281 := conR_ok3 gT_all (hd_281) rfl pn_RX4 tk_X4_addWant bo_RX4 xo_RX4 (cto_6 l) ch_281 cut_nil
/-- RookHusting$Hundred addWant -/
noncomputable def hc_39 : List AC := [ac_70, .inr (1, [(3, (2, 0, 5)), (1, (0, 3, 0)), (3, (2, 0, 5))]), am_6, am_5]
noncomputable def hq_68 : HP := [(false, ac_70), (true, .inr (1, [(3, (2, 0, 5)), (1, (0, 4, 0)), (3, (2, 0, 5))])), (true, am_6), (true, am_5)]
noncomputable def con_282 : Con2 := ((yX4_addWant, cX4_addWant, 6, none), (0, 0), ([(6, 0, 0), (1, 1, 0)], gi_90, hc_39, []), [((9, 0, 0), gi_91, hq_68, [], [1])])
theorem hd_282 : con_282.1 = (yX4_addWant, cX4_addWant, 6, none) := rfl
noncomputable def cu_282 : List CUT2 := []
theorem ch_282 : staG tb_X4_addWant 1 bt_RX4 [] ct_6 [] [] cu_282 99 con_282 = true := by decide +kernel
theorem vl_282 (l : Launch) : Vld2 l vwCl gTbl con_282 := conR_ok3 gT_all (hd_282) rfl pn_RX4 tk_X4_addWant bo_RX4 xo_RX4 (cto_6 l) ch_282 cut_nil
/-- RookHusting$Hundred addWant -/
noncomputable def hc_40 : List AC := [ac_70, .inr (1, [(3, (2, 0, 5)), (1, (0, 4, 0)), (3, (2, 0, 5))]), am_6, am_5]
noncomputable def hq_69 : HP := [(false, ac_70), (true, .inr (1, [(3, (2, 0, 5)), (1, (0, 5, 0)), (3, (2, 0, 5))])), (true, am_6), (true, am_5)]
noncomputable def con_283 : Con2 := ((yX4_addWant, cX4_addWant, 6, none), (0, 0), ([(6, 0, 0), (1, 1, 0)], gi_90, hc_40, []), [((9, 0, 0), gi_91, hq_69, [], [1])])
theorem hd_283 : con_283.1 = (yX4_addWant, cX4_addWant, 6, none) := rfl
noncomputable def cu_283 : List CUT2 := []
theorem ch_283 : staG tb_X4_addWant 1 bt_RX4 [] ct_6 [] [] cu_283 117 con_283 = true := by decide +kernel
theorem vl_283 (l : Launch) : Vld2 l vwCl gTbl con_283 := conR_ok3 gT_all (hd_283) rfl pn_RX4 tk_X4_addWant bo_RX4 xo_RX4 (cto_6 l) ch_283 cut_nil
