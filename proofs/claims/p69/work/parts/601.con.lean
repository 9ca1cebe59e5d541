/-! ===== contracts, 1 ===== -/
/-- RookHustingModel bit -/
noncomputable def con_152 : Con2 := ((yX12_bit, cX12_bit, 2, (some .int)), (0, 0), ([(0, 3, 0), (0, 4, 0)], [(0, 0), (0, 0)], [], []), [((0, 0, 0), [(0, 0), (0, 0), (0, 0)], [], [], [1])])
theorem hd_152 : con_152.1 = (yX12_bit, cX12_bit, 2, (some .int)) := rfl
noncomputable def ct_152 : CTB2 := []
noncomputable def cu_152 : List CUT2 := []
theorem ch_152 : staG tb_X12_bit 1 bt_RX12 [] ct_152 [] [] cu_152 8 con_152 = true := by decide +kernel
theorem cto_152 (l : Launch) : CTOK2 l RX12 vwCl gTbl ct_152 := ct2_nil
theorem vl_152 (l : Launch) : Vld2 l vwCl gTbl con_152 := conR_ok3 gT_all (hd_152) rfl pn_RX12 tk_X12_bit bo_RX12 xo_RX12 (cto_152 l) ch_152 cut_nil
/-- RookHustingModel bit -/
noncomputable def con_153 : Con2 := ((yX12_bit, cX12_bit, 2, (some .int)), (0, 0), ([(0, 3, 0), (0, 3, 0)], [(0, 0), (0, 0)], [], []), [((0, 0, 0), [(0, 0), (0, 0), (0, 0)], [], [], [1])])
theorem hd_153 : con_153.1 = (yX12_bit, cX12_bit, 2, (some .int)) := rfl
noncomputable def ct_153 : CTB2 := []
noncomputable def cu_153 : List CUT2 := []
theorem ch_153 : staG tb_X12_bit 1 bt_RX12 [] ct_153 [] [] cu_153 8 con_153 = true := by decide +kernel
theorem cto_153 (l : Launch) : CTOK2 l RX12 vwCl gTbl ct_153 := ct2_nil
theorem vl_153 (l : Launch) : Vld2 l vwCl gTbl con_153 := conR_ok3 gT_all (hd_153) rfl pn_RX12 tk_X12_bit bo_RX12 xo_RX12 (cto_153 l) ch_153 cut_nil
/-- RookHustingModel bit -/
noncomputable def con_154 : Con2 := ((yX12_bit, cX12_bit, 2, (some .int)), (0, 0), ([(0, 3, 0), (0, 2, 0)], [(0, 0), (0, 0)], [], []), [((0, 0, 0), [(0, 0), (0, 0), (0, 0)], [], [], [1])])
theorem hd_154 : con_154.1 = (yX12_bit, cX12_bit, 2, (some .int)) := rfl
noncomputable def ct_154 : CTB2 := []
noncomputable def cu_154 : List CUT2 := []
theorem ch_154 : staG tb_X12_bit 1 bt_RX12 [] ct_154 [] [] cu_154 8 con_154 = true := by decide +kernel
theorem cto_154 (l : Launch) : CTOK2 l RX12 vwCl gTbl ct_154 := ct2_nil
theorem vl_154 (l : Launch) : Vld2 l vwCl gTbl con_154 := conR_ok3 gT_all (hd_154) rfl pn_RX12 tk_X12_bit bo_RX12 xo_RX12 (cto_154 l) ch_154 cut_nil
/-- RookHustingModel bit -/
noncomputable def con_155 : Con2 := ((yX12_bit, cX12_bit, 2, (some .int)), (0, 0), ([(0, 3, 0), (0, 1, 0)], [(0, 0), (0, 0)], [], []), [((0, 1, 0), [(0, 0), (0, 0), (0, 0)], [], [], [1])])
theorem hd_155 : con_155.1 = (yX12_bit, cX12_bit, 2, (some .int)) := rfl
noncomputable def ct_155 : CTB2 := []
noncomputable def cu_155 : List CUT2 := []
theorem ch_155 : staG tb_X12_bit 1 bt_RX12 [] ct_155 [] [] cu_155 8 con_155 = true := by decide +kernel
theorem cto_155 (l : Launch) : CTOK2 l RX12 vwCl gTbl ct_155 := ct2_nil
theorem vl_155 (l : Launch) : Vld2 l vwCl gTbl con_155 := conR_ok3 gT_all (hd_155) rfl pn_RX12 tk_X12_bit bo_RX12 xo_RX12 (cto_155 l) ch_155 cut_nil
/-- RookHustingModel bit -/
noncomputable def con_156 : Con2 := ((yX12_bit, cX12_bit, 2, (some .int)), (0, 0), ([(0, 3, 0), (0, 0, 0)], [(0, 0), (0, 0)], [], []), [((0, 1, 0), [(0, 0), (0, 0), (0, 0)], [], [], [1])])
theorem hd_156 : con_156.1 = (yX12_bit, cX12_bit, 2, (some .int)) := rfl
noncomputable def ct_156 : CTB2 := []
noncomputable def cu_156 : List CUT2 := []
theorem ch_156 : staG tb_X12_bit 1 bt_RX12 [] ct_156 [] [] cu_156 8 con_156 = true := by decide +kernel
theorem cto_156 (l : Launch) : CTOK2 l RX12 vwCl gTbl ct_156 := ct2_nil
theorem vl_156 (l : Launch) : Vld2 l vwCl gTbl con_156 := conR_ok3 gT_all (hd_156) rfl pn_RX12 tk_X12_bit bo_RX12 xo_RX12 (cto_156 l) ch_156 cut_nil
/-- RookHustingModel bit -/
noncomputable def con_157 : Con2 := ((yX12_bit, cX12_bit, 2, (some .int)), (0, 0), ([(0, 28, 0), (0, 4, 0)], [(0, 0), (0, 0)], [], []), [((0, 1, 0), [(0, 0), (0, 0), (0, 0)], [], [], [1])])
theorem hd_157 : con_157.1 = (yX12_bit, cX12_bit, 2, (some .int)) := rfl
noncomputable def ct_157 : CTB2 := []
noncomputable def cu_157 : List CUT2 := []
theorem ch_157 : staG tb_X12_bit 1 bt_RX12 [] ct_157 [] [] cu_157 8 con_157 = true := by decide +kernel
theorem cto_157 (l : Launch) : CTOK2 l RX12 vwCl gTbl ct_157 := ct2_nil
theorem vl_157 (l : Launch) : Vld2 l vwCl gTbl con_157 := conR_ok3 gT_all (hd_157) rfl pn_RX12 tk_X12_bit bo_RX12 xo_RX12 (cto_157 l) ch_157 cut_nil
/-- RookHustingModel bit -/
noncomputable def con_158 : Con2 := ((yX12_bit, cX12_bit, 2, (some .int)), (0, 0), ([(0, 28, 0), (0, 3, 0)], [(0, 0), (0, 0)], [], []), [((0, 1, 0), [(0, 0), (0, 0), (0, 0)], [], [], [1])])
theorem hd_158 : con_158.1 = (yX12_bit, cX12_bit, 2, (some .int)) := rfl
noncomputable def ct_158 : CTB2 := []
noncomputable def cu_158 : List CUT2 := []
theorem ch_158 : staG tb_X12_bit 1 bt_RX12 [] ct_158 [] [] cu_158 8 con_158 = true := by decide +kernel
theorem cto_158 (l : Launch) : CTOK2 l RX12 vwCl gTbl ct_158 := ct2_nil
theorem vl_158 (l : Launch) : Vld2 l vwCl gTbl con_158 := conR_ok3 gT_all (hd_158) rfl pn_RX12 tk_X12_bit bo_RX12 xo_RX12 (cto_158 l) ch_158 cut_nil
/-- RookHustingModel bit -/
noncomputable def con_159 : Con2 := ((yX12_bit, cX12_bit, 2, (some .int)), (0, 0), ([(0, 28, 0), (0, 2, 0)], [(0, 0), (0, 0)], [], []), [((0, 1, 0), [(0, 0), (0, 0), (0, 0)], [], [], [1])])
theorem hd_159 : con_159.1 = (yX12_bit, cX12_bit, 2, (some .int)) := rfl
noncomputable def ct_159 : CTB2 := []
noncomputable def cu_159 : List CUT2 := []
theorem ch_159 : staG tb_X12_bit 1 bt_RX12 [] ct_159 [] [] cu_159 8 con_159 = true := by decide +kernel
theorem cto_159 (l : Launch) : CTOK2 l RX12 vwCl gTbl ct_159 := ct2_nil
theorem vl_159 (l : Launch) : Vld2 l vwCl gTbl con_159 := conR_ok3 gT_all (hd_159) rfl pn_RX12 tk_X12_bit bo_RX12 xo_RX12 (cto_159 l) ch_159 cut_nil
/-- RookHustingModel bit -/
noncomputable def con_160 : Con2 := ((yX12_bit, cX12_bit, 2, (some .int)), (0, 0), ([(0, 28, 0), (0, 1, 0)], [(0, 0), (0, 0)], [], []), [((0, 0, 0), [(0, 0), (0, 0), (0, 0)], [], [], [1])])
theorem hd_160 : con_160.1 = (yX12_bit, cX12_bit, 2, (some .int)) := rfl
noncomputable def ct_160 : CTB2 := []
noncomputable def cu_160 : List CUT2 := []
theorem ch_160 : staG tb_X12_bit 1 bt_RX12 [] ct_160 [] [] cu_160 8 con_160 = true := by decide +kernel
theorem cto_160 (l : Launch) : CTOK2 l RX12 vwCl gTbl ct_160 := ct2_nil
theorem vl_160 (l : Launch) : Vld2 l vwCl gTbl con_160 := conR_ok3 gT_all (hd_160) rfl pn_RX12 tk_X12_bit bo_RX12 xo_RX12 (cto_160 l) ch_160 cut_nil
/-- RookHustingModel bit -/
noncomputable def con_161 : Con2 := ((yX12_bit, cX12_bit, 2, (some .int)), (0, 0), ([(0, 28, 0), (0, 0, 0)], [(0, 0), (0, 0)], [], []), [((0, 0, 0), [(0, 0), (0, 0), (0, 0)], [], [], [1])])
theorem hd_161 : con_161.1 = (yX12_bit, cX12_bit, 2, (some .int)) := rfl
noncomputable def ct_161 : CTB2 := []
noncomputable def cu_161 : List CUT2 := []
theorem ch_161 : staG tb_X12_bit 1 bt_RX12 [] ct_161 [] [] cu_161 8 con_161 = true := by decide +kernel
theorem cto_161 (l : Launch) : CTOK2 l RX12 vwCl gTbl ct_161 := ct2_nil
theorem vl_161 (l : Launch) : Vld2 l vwCl gTbl con_161 := conR_ok3 gT_all (hd_161) rfl pn_RX12 tk_X12_bit bo_RX12 xo_RX12 (cto_161 l) ch_161 cut_nil
/-- RookHustingModel bit -/
noncomputable def con_162 : Con2 := ((yX12_bit, cX12_bit, 2, (some .int)), (0, 0), ([(0, 26, 0), (0, 4, 0)], [(0, 0), (0, 0)], [], []), [((0, 1, 0), [(0, 0), (0, 0), (0, 0)], [], [], [1])])
theorem hd_162 : con_162.1 = (yX12_bit, cX12_bit, 2, (some .int)) := rfl
noncomputable def ct_162 : CTB2 := []
noncomputable def cu_162 : List CUT2 := []
theorem ch_162 : staG tb_X12_bit 1 bt_RX12 [] ct_162 [] [] cu_162 8 con_162 = true := by decide +kernel
theorem cto_162 (l : Launch) : CTOK2 l RX12 vwCl gTbl ct_162 := ct2_nil
theorem vl_162 (l : Launch) : Vld2 l vwCl gTbl con_162 := conR_ok3 gT_all (hd_162) rfl pn_RX12 tk_X12_bit bo_RX12 xo_RX12 (cto_162 l) ch_162 cut_nil
/-- RookHustingModel bit -/
noncomputable def con_163 : Con2 := ((yX12_bit, cX12_bit, 2, (some .int)), (0, 0), ([(0, 26, 0), (0, 3, 0)], [(0, 0), (0, 0)], [], []), [((0, 1, 0), [(0, 0), (0, 0), (0, 0)], [], [], [1])])
theorem hd_163 : con_163.1 = (yX12_bit, cX12_bit, 2, (some .int)) := rfl
noncomputable def ct_163 : CTB2 := []
noncomputable def cu_163 : List CUT2 := []
theorem ch_163 : staG tb_X12_bit 1 bt_RX12 [] ct_163 [] [] cu_163 8 con_163 = true := by decide +kernel
theorem cto_163 (l : Launch) : CTOK2 l RX12 vwCl gTbl ct_163 := ct2_nil
theorem vl_163 (l : Launch) : Vld2 l vwCl gTbl con_163 := conR_ok3 gT_all (hd_163) rfl pn_RX12 tk_X12_bit bo_RX12 xo_RX12 (cto_163 l) ch_163 cut_nil
/-- RookHustingModel bit -/
noncomputable def con_164 : Con2 := ((yX12_bit, cX12_bit, 2, (some .int)), (0, 0), ([(0, 26, 0), (0, 2, 0)], [(0, 0), (0, 0)], [], []), [((0, 0, 0), [(0, 0), (0, 0), (0, 0)], [], [], [1])])
theorem hd_164 : con_164.1 = (yX12_bit, cX12_bit, 2, (some .int)) := rfl
noncomputable def ct_164 : CTB2 := []
noncomputable def cu_164 : List CUT2 := []
theorem ch_164 : staG tb_X12_bit 1 bt_RX12 [] ct_164 [] [] cu_164 8 con_164 = true := by decide +kernel
theorem cto_164 (l : Launch) : CTOK2 l RX12 vwCl gTbl ct_164 := ct2_nil
theorem vl_164 (l : Launch) : Vld2 l vwCl gTbl con_164 := conR_ok3 gT_all (hd_164) rfl pn_RX12 tk_X12_bit bo_RX12 xo_RX12 (cto_164 l) ch_164 cut_nil
/-- RookHustingModel bit -/
noncomputable def con_165 : Con2 := ((yX12_bit, cX12_bit, 2, (some .int)), (0, 0), ([(0, 26, 0), (0, 1, 0)], [(0, 0), (0, 0)], [], []), [((0, 1, 0), [(0, 0), (0, 0), (0, 0)], [], [], [1])])
theorem hd_165 : con_165.1 = (yX12_bit, cX12_bit, 2, (some .int)) := rfl
noncomputable def ct_165 : CTB2 := []
noncomputable def cu_165 : List CUT2 := []
theorem ch_165 : staG tb_X12_bit 1 bt_RX12 [] ct_165 [] [] cu_165 8 con_165 = true := by decide +kernel
theorem cto_165 (l : Launch) : CTOK2 l RX12 vwCl gTbl ct_165 := ct2_nil
theorem vl_165 (l : Launch) : Vld2 l vwCl gTbl con_165 := conR_ok3 gT_all (hd_165) rfl pn_RX12 tk_X12_bit bo_RX12 xo_RX12 (cto_165 l) ch_165 cut_nil
/-- RookHustingModel bit -/
noncomputable def con_166 : Con2 := ((yX12_bit, cX12_bit, 2, (some .int)), (0, 0), ([(0, 26, 0), (0, 0, 0)], [(0, 0), (0, 0)], [], []), [((0, 0, 0), [(0, 0), (0, 0), (0, 0)], [], [], [1])])
theorem hd_166 : con_166.1 = (yX12_bit, cX12_bit, 2, (some .int)) := rfl
noncomputable def ct_166 : CTB2 := []
noncomputable def cu_166 : List CUT2 := []
theorem ch_166 : staG tb_X12_bit 1 bt_RX12 [] ct_166 [] [] cu_166 8 con_166 = true := by decide +kernel
theorem cto_166 (l : Launch) : CTOK2 l RX12 vwCl gTbl ct_166 := ct2_nil
theorem vl_166 (l : Launch) : Vld2 l vwCl gTbl con_166 := conR_ok3 gT_all (hd_166) rfl pn_RX12 tk_X12_bit bo_RX12 xo_RX12 (cto_166 l) ch_166 cut_nil
/-- RookHustingModel bit -/
noncomputable def con_167 : Con2 := ((yX12_bit, cX12_bit, 2, (some .int)), (0, 0), ([(0, 25, 0), (0, 4, 0)], [(0, 0), (0, 0)], [], []), [((0, 1, 0), [(0, 0), (0, 0), (0, 0)], [], [], [1])])
theorem hd_167 : con_167.1 = (yX12_bit, cX12_bit, 2, (some .int)) := rfl
noncomputable def ct_167 : CTB2 := []
noncomputable def cu_167 : List CUT2 := []
theorem ch_167 : staG tb_X12_bit 1 bt_RX12 [] ct_167 [] [] cu_167 8 con_167 = true := by decide +kernel
theorem cto_167 (l : Launch) : CTOK2 l RX12 vwCl gTbl ct_167 := ct2_nil
theorem vl_167 (l : Launch) : Vld2 l vwCl gTbl con_167 := conR_ok3 gT_all (hd_167) rfl pn_RX12 tk_X12_bit bo_RX12 xo_RX12 (cto_167 l) ch_167 cut_nil
/-- RookHustingModel bit -/
noncomputable def con_168 : Con2 := ((yX12_bit, cX12_bit, 2, (some .int)), (0, 0), ([(0, 25, 0), (0, 3, 0)], [(0, 0), (0, 0)], [], []), [((0, 1, 0), [(0, 0), (0, 0), (0, 0)], [], [], [1])])
theorem hd_168 : con_168.1 = (yX12_bit, cX12_bit, 2, (some .int)) := rfl
noncomputable def ct_168 : CTB2 := []
noncomputable def cu_168 : List CUT2 := []
theorem ch_168 : staG tb_X12_bit 1 bt_RX12 [] ct_168 [] [] cu_168 8 con_168 = true := by decide +kernel
theorem cto_168 (l : Launch) : CTOK2 l RX12 vwCl gTbl ct_168 := ct2_nil
theorem vl_168 (l : Launch) : Vld2 l vwCl gTbl con_168 := conR_ok3 gT_all (hd_168) rfl pn_RX12 tk_X12_bit bo_RX12 xo_RX12 (cto_168 l) ch_168 cut_nil
/-- RookHustingModel bit -/
noncomputable def con_169 : Con2 := ((yX12_bit, cX12_bit, 2, (some .int)), (0, 0), ([(0, 25, 0), (0, 2, 0)], [(0, 0), (0, 0)], [], []), [((0, 0, 0), [(0, 0), (0, 0), (0, 0)], [], [], [1])])
theorem hd_169 : con_169.1 = (yX12_bit, cX12_bit, 2, (some .int)) := rfl
noncomputable def ct_169 : CTB2 := []
noncomputable def cu_169 : List CUT2 := []
theorem ch_169 : staG tb_X12_bit 1 bt_RX12 [] ct_169 [] [] cu_169 8 con_169 = true := by decide +kernel
theorem cto_169 (l : Launch) : CTOK2 l RX12 vwCl gTbl ct_169 := ct2_nil
theorem vl_169 (l : Launch) : Vld2 l vwCl gTbl con_169 := conR_ok3 gT_all (hd_169) rfl pn_RX12 tk_X12_bit bo_RX12 xo_RX12 (cto_169 l) ch_169 cut_nil
/-- RookHustingModel bit -/
noncomputable def con_170 : Con2 := ((yX12_bit, cX12_bit, 2, (some .int)), (0, 0), ([(0, 25, 0), (0, 1, 0)], [(0, 0), (0, 0)], [], []), [((0, 0, 0), [(0, 0), (0, 0), (0, 0)], [], [], [1])])
theorem hd_170 : con_170.1 = (yX12_bit, cX12_bit, 2, (some .int)) := rfl
noncomputable def ct_170 : CTB2 := []
noncomputable def cu_170 : List CUT2 := []
theorem ch_170 : staG tb_X12_bit 1 bt_RX12 [] ct_170 [] [] cu_170 8 con_170 = true := by decide +kernel
theorem cto_170 (l : Launch) : CTOK2 l RX12 vwCl gTbl ct_170 := ct2_nil
theorem vl_170 (l : Launch) : Vld2 l vwCl gTbl con_170 := conR_ok3 gT_all (hd_170) rfl pn_RX12 tk_X12_bit bo_RX12 xo_RX12 (cto_170 l) ch_170 cut_nil
/-- RookHustingModel bit -/
noncomputable def con_171 : Con2 := ((yX12_bit, cX12_bit, 2, (some .int)), (0, 0), ([(0, 25, 0), (0, 0, 0)], [(0, 0), (0, 0)], [], []), [((0, 1, 0), [(0, 0), (0, 0), (0, 0)], [], [], [1])])
theorem hd_171 : con_171.1 = (yX12_bit, cX12_bit, 2, (some .int)) := rfl
noncomputable def ct_171 : CTB2 := []
noncomputable def cu_171 : List CUT2 := []
theorem ch_171 : staG tb_X12_bit 1 bt_RX12 [] ct_171 [] [] cu_171 8 con_171 = true := by decide +kernel
theorem cto_171 (l : Launch) : CTOK2 l RX12 vwCl gTbl ct_171 := ct2_nil
theorem vl_171 (l : Launch) : Vld2 l vwCl gTbl con_171 := conR_ok3 gT_all (hd_171) rfl pn_RX12 tk_X12_bit bo_RX12 xo_RX12 (cto_171 l) ch_171 cut_nil
/-- RookHustingModel bit -/
noncomputable def con_172 : Con2 := ((yX12_bit, cX12_bit, 2, (some .int)), (0, 0), ([(0, 22, 0), (0, 4, 0)], [(0, 0), (0, 0)], [], []), [((0, 1, 0), [(0, 0), (0, 0), (0, 0)], [], [], [1])])
theorem hd_172 : con_172.1 = (yX12_bit, cX12_bit, 2, (some .int)) := rfl
noncomputable def ct_172 : CTB2 := []
noncomputable def cu_172 : List CUT2 := []
theorem ch_172 : staG tb_X12_bit 1 bt_RX12 [] ct_172 [] [] cu_172 8 con_172 = true := by decide +kernel
theorem cto_172 (l : Launch) : CTOK2 l RX12 vwCl gTbl ct_172 := ct2_nil
theorem vl_172 (l : Launch) : Vld2 l vwCl gTbl con_172 := conR_ok3 gT_all (hd_172) rfl pn_RX12 tk_X12_bit bo_RX12 xo_RX12 (cto_172 l) ch_172 cut_nil
/-- RookHustingModel bit -/
noncomputable def con_173 : Con2 := ((yX12_bit, cX12_bit, 2, (some .int)), (0, 0), ([(0, 22, 0), (0, 3, 0)], [(0, 0), (0, 0)], [], []), [((0, 0, 0), [(0, 0), (0, 0), (0, 0)], [], [], [1])])
theorem hd_173 : con_173.1 = (yX12_bit, cX12_bit, 2, (some .int)) := rfl
noncomputable def ct_173 : CTB2 := []
noncomputable def cu_173 : List CUT2 := []
theorem ch_173 : staG tb_X12_bit 1 bt_RX12 [] ct_173 [] [] cu_173 8 con_173 = true := by decide +kernel
theorem cto_173 (l : Launch) : CTOK2 l RX12 vwCl gTbl ct_173 := ct2_nil
theorem vl_173 (l : Launch) : Vld2 l vwCl gTbl con_173 := conR_ok3 gT_all (hd_173) rfl pn_RX12 tk_X12_bit bo_RX12 xo_RX12 (cto_173 l) ch_173 cut_nil
/-- RookHustingModel bit -/
noncomputable def con_174 : Con2 := ((yX12_bit, cX12_bit, 2, (some .int)), (0, 0), ([(0, 22, 0), (0, 2, 0)], [(0, 0), (0, 0)], [], []), [((0, 1, 0), [(0, 0), (0, 0), (0, 0)], [], [], [1])])
theorem hd_174 : con_174.1 = (yX12_bit, cX12_bit, 2, (some .int)) := rfl
noncomputable def ct_174 : CTB2 := []
noncomputable def cu_174 : List CUT2 := []
theorem ch_174 : staG tb_X12_bit 1 bt_RX12 [] ct_174 [] [] cu_174 8 con_174 = true := by decide +kernel
theorem cto_174 (l : Launch) : CTOK2 l RX12 vwCl gTbl ct_174 := ct2_nil
theorem vl_174 (l : Launch) : Vld2 l vwCl gTbl con_174 := conR_ok3 gT_all (hd_174) rfl pn_RX12 tk_X12_bit bo_RX12 xo_RX12 (cto_174 l) ch_174 cut_nil
/-- RookHustingModel bit -/
noncomputable def con_175 : Con2 := ((yX12_bit, cX12_bit, 2, (some .int)), (0, 0), ([(0, 22, 0), (0, 1, 0)], [(0, 0), (0, 0)], [], []), [((0, 1, 0), [(0, 0), (0, 0), (0, 0)], [], [], [1])])
theorem hd_175 : con_175.1 = (yX12_bit, cX12_bit, 2, (some .int)) := rfl
noncomputable def ct_175 : CTB2 := []
noncomputable def cu_175 : List CUT2 := []
theorem ch_175 : staG tb_X12_bit 1 bt_RX12 [] ct_175 [] [] cu_175 8 con_175 = true := by decide +kernel
theorem cto_175 (l : Launch) : CTOK2 l RX12 vwCl gTbl ct_175 := ct2_nil
theorem vl_175 (l : Launch) : Vld2 l vwCl gTbl con_175 := conR_ok3 gT_all (hd_175) rfl pn_RX12 tk_X12_bit bo_RX12 xo_RX12 (cto_175 l) ch_175 cut_nil
/-- RookHustingModel bit -/
noncomputable def con_176 : Con2 := ((yX12_bit, cX12_bit, 2, (some .int)), (0, 0), ([(0, 22, 0), (0, 0, 0)], [(0, 0), (0, 0)], [], []), [((0, 0, 0), [(0, 0), (0, 0), (0, 0)], [], [], [1])])
theorem hd_176 : con_176.1 = (yX12_bit, cX12_bit, 2, (some .int)) := rfl
noncomputable def ct_176 : CTB2 := []
noncomputable def cu_176 : List CUT2 := []
theorem ch_176 : staG tb_X12_bit 1 bt_RX12 [] ct_176 [] [] cu_176 8 con_176 = true := by decide +kernel
theorem cto_176 (l : Launch) : CTOK2 l RX12 vwCl gTbl ct_176 := ct2_nil
theorem vl_176 (l : Launch) : Vld2 l vwCl gTbl con_176 := conR_ok3 gT_all (hd_176) rfl pn_RX12 tk_X12_bit bo_RX12 xo_RX12 (cto_176 l) ch_176 cut_nil
/-- RookHustingModel bit -/
noncomputable def con_177 : Con2 := ((yX12_bit, cX12_bit, 2, (some .int)), (0, 0), ([(0, 21, 0), (0, 4, 0)], [(0, 0), (0, 0)], [], []), [((0, 1, 0), [(0, 0), (0, 0), (0, 0)], [], [], [1])])
theorem hd_177 : con_177.1 = (yX12_bit, cX12_bit, 2, (some .int)) := rfl
noncomputable def ct_177 : CTB2 := []
noncomputable def cu_177 : List CUT2 := []
theorem ch_177 : staG tb_X12_bit 1 bt_RX12 [] ct_177 [] [] cu_177 8 con_177 = true := by decide +kernel
theorem cto_177 (l : Launch) : CTOK2 l RX12 vwCl gTbl ct_177 := ct2_nil
theorem vl_177 (l : Launch) : Vld2 l vwCl gTbl con_177 := conR_ok3 gT_all (hd_177) rfl pn_RX12 tk_X12_bit bo_RX12 xo_RX12 (cto_177 l) ch_177 cut_nil
/-- RookHustingModel bit -/
noncomputable def con_178 : Con2 := ((yX12_bit, cX12_bit, 2, (some .int)), (0, 0), ([(0, 21, 0), (0, 3, 0)], [(0, 0), (0, 0)], [], []), [((0, 0, 0), [(0, 0), (0, 0), (0, 0)], [], [], [1])])
theorem hd_178 : con_178.1 = (yX12_bit, cX12_bit, 2, (some .int)) := rfl
noncomputable def ct_178 : CTB2 := []
noncomputable def cu_178 : List CUT2 := []
theorem ch_178 : staG tb_X12_bit 1 bt_RX12 [] ct_178 [] [] cu_178 8 con_178 = true := by decide +kernel
theorem cto_178 (l : Launch) : CTOK2 l RX12 vwCl gTbl ct_178 := ct2_nil
theorem vl_178 (l : Launch) : Vld2 l vwCl gTbl con_178 := conR_ok3 gT_all (hd_178) rfl pn_RX12 tk_X12_bit bo_RX12 xo_RX12 (cto_178 l) ch_178 cut_nil
/-- RookHustingModel bit -/
noncomputable def con_179 : Con2 := ((yX12_bit, cX12_bit, 2, (some .int)), (0, 0), ([(0, 21, 0), (0, 2, 0)], [(0, 0), (0, 0)], [], []), [((0, 1, 0), [(0, 0), (0, 0), (0, 0)], [], [], [1])])
theorem hd_179 : con_179.1 = (yX12_bit, cX12_bit, 2, (some .int)) := rfl
noncomputable def ct_179 : CTB2 := []
noncomputable def cu_179 : List CUT2 := []
theorem ch_179 : staG tb_X12_bit 1 bt_RX12 [] ct_179 [] [] cu_179 8 con_179 = true := by decide +kernel
theorem cto_179 (l : Launch) : CTOK2 l RX12 vwCl gTbl ct_179 := ct2_nil
theorem vl_179 (l : Launch) : Vld2 l vwCl gTbl con_179 := conR_ok3 gT_all (hd_179) rfl pn_RX12 tk_X12_bit bo_RX12 xo_RX12 (cto_179 l) ch_179 cut_nil
/-- RookHustingModel bit -/
noncomputable def con_180 : Con2 := ((yX12_bit, cX12_bit, 2, (some .int)), (0, 0), ([(0, 21, 0), (0, 1, 0)], [(0, 0), (0, 0)], [], []), [((0, 0, 0), [(0, 0), (0, 0), (0, 0)], [], [], [1])])
theorem hd_180 : con_180.1 = (yX12_bit, cX12_bit, 2, (some .int)) := rfl
noncomputable def ct_180 : CTB2 := []
noncomputable def cu_180 : List CUT2 := []
theorem ch_180 : staG tb_X12_bit 1 bt_RX12 [] ct_180 [] [] cu_180 8 con_180 = true := by decide +kernel
theorem cto_180 (l : Launch) : CTOK2 l RX12 vwCl gTbl ct_180 := ct2_nil
theorem vl_180 (l : Launch) : Vld2 l vwCl gTbl con_180 := conR_ok3 gT_all (hd_180) rfl pn_RX12 tk_X12_bit bo_RX12 xo_RX12 (cto_180 l) ch_180 cut_nil
/-- RookHustingModel bit -/
noncomputable def con_181 : Con2 := ((yX12_bit, cX12_bit, 2, (some .int)), (0, 0), ([(0, 21, 0), (0, 0, 0)], [(0, 0), (0, 0)], [], []), [((0, 1, 0), [(0, 0), (0, 0), (0, 0)], [], [], [1])])
theorem hd_181 : con_181.1 = (yX12_bit, cX12_bit, 2, (some .int)) := rfl
noncomputable def ct_181 : CTB2 := []
noncomputable def cu_181 : List CUT2 := []
theorem ch_181 : staG tb_X12_bit 1 bt_RX12 [] ct_181 [] [] cu_181 8 con_181 = true := by decide +kernel
theorem cto_181 (l : Launch) : CTOK2 l RX12 vwCl gTbl ct_181 := ct2_nil
theorem vl_181 (l : Launch) : Vld2 l vwCl gTbl con_181 := conR_ok3 gT_all (hd_181) rfl pn_RX12 tk_X12_bit bo_RX12 xo_RX12 (cto_181 l) ch_181 cut_nil
/-- RookHustingModel bit -/
noncomputable def con_182 : Con2 := ((yX12_bit, cX12_bit, 2, (some .int)), (0, 0), ([(0, 19, 0), (0, 4, 0)], [(0, 0), (0, 0)], [], []), [((0, 1, 0), [(0, 0), (0, 0), (0, 0)], [], [], [1])])
theorem hd_182 : con_182.1 = (yX12_bit, cX12_bit, 2, (some .int)) := rfl
noncomputable def ct_182 : CTB2 := []
noncomputable def cu_182 : List CUT2 := []
theorem ch_182 : staG tb_X12_bit 1 bt_RX12 [] ct_182 [] [] cu_182 8 con_182 = true := by decide +kernel
theorem cto_182 (l : Launch) : CTOK2 l RX12 vwCl gTbl ct_182 := ct2_nil
theorem vl_182 (l : Launch) : Vld2 l vwCl gTbl con_182 := conR_ok3 gT_all (hd_182) rfl pn_RX12 tk_X12_bit bo_RX12 xo_RX12 (cto_182 l) ch_182 cut_nil
/-- RookHustingModel bit -/
noncomputable def con_183 : Con2 := ((yX12_bit, cX12_bit, 2, (some .int)), (0, 0), ([(0, 19, 0), (0, 3, 0)], [(0, 0), (0, 0)], [], []), [((0, 0, 0), [(0, 0), (0, 0), (0, 0)], [], [], [1])])
theorem hd_183 : con_183.1 = (yX12_bit, cX12_bit, 2, (some .int)) := rfl
noncomputable def ct_183 : CTB2 := []
noncomputable def cu_183 : List CUT2 := []
theorem ch_183 : staG tb_X12_bit 1 bt_RX12 [] ct_183 [] [] cu_183 8 con_183 = true := by decide +kernel
theorem cto_183 (l : Launch) : CTOK2 l RX12 vwCl gTbl ct_183 := ct2_nil
theorem vl_183 (l : Launch) : Vld2 l vwCl gTbl con_183 := conR_ok3 gT_all (hd_183) rfl pn_RX12 tk_X12_bit bo_RX12 xo_RX12 (cto_183 l) ch_183 cut_nil
/-- RookHustingModel bit -/
noncomputable def con_184 : Con2 := ((yX12_bit, cX12_bit, 2, (some .int)), (0, 0), ([(0, 19, 0), (0, 2, 0)], [(0, 0), (0, 0)], [], []), [((0, 0, 0), [(0, 0), (0, 0), (0, 0)], [], [], [1])])
theorem hd_184 : con_184.1 = (yX12_bit, cX12_bit, 2, (some .int)) := rfl
noncomputable def ct_184 : CTB2 := []
noncomputable def cu_184 : List CUT2 := []
theorem ch_184 : staG tb_X12_bit 1 bt_RX12 [] ct_184 [] [] cu_184 8 con_184 = true := by decide +kernel
theorem cto_184 (l : Launch) : CTOK2 l RX12 vwCl gTbl ct_184 := ct2_nil
theorem vl_184 (l : Launch) : Vld2 l vwCl gTbl con_184 := conR_ok3 gT_all (hd_184) rfl pn_RX12 tk_X12_bit bo_RX12 xo_RX12 (cto_184 l) ch_184 cut_nil
/-- RookHustingModel bit -/
noncomputable def con_185 : Con2 := ((yX12_bit, cX12_bit, 2, (some .int)), (0, 0), ([(0, 19, 0), (0, 1, 0)], [(0, 0), (0, 0)], [], []), [((0, 1, 0), [(0, 0), (0, 0), (0, 0)], [], [], [1])])
theorem hd_185 : con_185.1 = (yX12_bit, cX12_bit, 2, (some .int)) := rfl
noncomputable def ct_185 : CTB2 := []
noncomputable def cu_185 : List CUT2 := []
theorem ch_185 : staG tb_X12_bit 1 bt_RX12 [] ct_185 [] [] cu_185 8 con_185 = true := by decide +kernel
theorem cto_185 (l : Launch) : CTOK2 l RX12 vwCl gTbl ct_185 := ct2_nil
theorem vl_185 (l : Launch) : Vld2 l vwCl gTbl con_185 := conR_ok3 gT_all (hd_185) rfl pn_RX12 tk_X12_bit bo_RX12 xo_RX12 (cto_185 l) ch_185 cut_nil
/-- RookHustingModel bit -/
noncomputable def con_186 : Con2 := ((yX12_bit, cX12_bit, 2, (some .int)), (0, 0), ([(0, 19, 0), (0, 0, 0)], [(0, 0), (0, 0)], [], []), [((0, 1, 0), [(0, 0), (0, 0), (0, 0)], [], [], [1])])
theorem hd_186 : con_186.1 = (yX12_bit, cX12_bit, 2, (some .int)) := rfl
noncomputable def ct_186 : CTB2 := []
noncomputable def cu_186 : List CUT2 := []
theorem ch_186 : staG tb_X12_bit 1 bt_RX12 [] ct_186 [] [] cu_186 8 con_186 = true := by decide +kernel
theorem cto_186 (l : Launch) : CTOK2 l RX12 vwCl gTbl ct_186 := ct2_nil
theorem vl_186 (l : Launch) : Vld2 l vwCl gTbl con_186 := conR_ok3 gT_all (hd_186) rfl pn_RX12 tk_X12_bit bo_RX12 xo_RX12 (cto_186 l) ch_186 cut_nil
/-- RookHustingModel bit -/
noncomputable def con_187 : Con2 := ((yX12_bit, cX12_bit, 2, (some .int)), (0, 0), ([(0, 14, 0), (0, 4, 0)], [(0, 0), (0, 0)], [], []), [((0, 0, 0), [(0, 0), (0, 0), (0, 0)], [], [], [1])])
theorem hd_187 : con_187.1 = (yX12_bit, cX12_bit, 2, (some .int)) := rfl
noncomputable def ct_187 : CTB2 := []
noncomputable def cu_187 : List CUT2 := []
theorem ch_187 : staG tb_X12_bit 1 bt_RX12 [] ct_187 [] [] cu_187 8 con_187 = true := by decide +kernel
theorem cto_187 (l : Launch) : CTOK2 l RX12 vwCl gTbl ct_187 := ct2_nil
theorem vl_187 (l : Launch) : Vld2 l vwCl gTbl con_187 := conR_ok3 gT_all (hd_187) rfl pn_RX12 tk_X12_bit bo_RX12 xo_RX12 (cto_187 l) ch_187 cut_nil
/-- RookHustingModel bit -/
noncomputable def con_188 : Con2 := ((yX12_bit, cX12_bit, 2, (some .int)), (0, 0), ([(0, 14, 0), (0, 3, 0)], [(0, 0), (0, 0)], [], []), [((0, 1, 0), [(0, 0), (0, 0), (0, 0)], [], [], [1])])
theorem hd_188 : con_188.1 = (yX12_bit, cX12_bit, 2, (some .int)) := rfl
noncomputable def ct_188 : CTB2 := []
noncomputable def cu_188 : List CUT2 := []
theorem ch_188 : staG tb_X12_bit 1 bt_RX12 [] ct_188 [] [] cu_188 8 con_188 = true := by decide +kernel
theorem cto_188 (l : Launch) : CTOK2 l RX12 vwCl gTbl ct_188 := ct2_nil
theorem vl_188 (l : Launch) : Vld2 l vwCl gTbl con_188 := conR_ok3 gT_all (hd_188) rfl pn_RX12 tk_X12_bit bo_RX12 xo_RX12 (cto_188 l) ch_188 cut_nil
/-- RookHustingModel bit -/
noncomputable def con_189 : Con2 := ((yX12_bit, cX12_bit, 2, (some .int)), (0, 0), ([(0, 14, 0), (0, 2, 0)], [(0, 0), (0, 0)], [], []), [((0, 1, 0), [(0, 0), (0, 0), (0, 0)], [], [], [1])])
theorem hd_189 : con_189.1 = (yX12_bit, cX12_bit, 2, (some .int)) := rfl
noncomputable def ct_189 : CTB2 := []
noncomputable def cu_189 : List CUT2 := []
theorem ch_189 : staG tb_X12_bit 1 bt_RX12 [] ct_189 [] [] cu_189 8 con_189 = true := by decide +kernel
theorem cto_189 (l : Launch) : CTOK2 l RX12 vwCl gTbl ct_189 := ct2_nil
theorem vl_189 (l : Launch) : Vld2 l vwCl gTbl con_189 := conR_ok3 gT_all (hd_189) rfl pn_RX12 tk_X12_bit bo_RX12 xo_RX12 (cto_189 l) ch_189 cut_nil
/-- RookHustingModel bit -/
noncomputable def con_190 : Con2 := ((yX12_bit, cX12_bit, 2, (some .int)), (0, 0), ([(0, 14, 0), (0, 1, 0)], [(0, 0), (0, 0)], [], []), [((0, 1, 0), [(0, 0), (0, 0), (0, 0)], [], [], [1])])
theorem hd_190 : con_190.1 = (yX12_bit, cX12_bit, 2, (some .int)) := rfl
noncomputable def ct_190 : CTB2 := []
noncomputable def cu_190 : List CUT2 := []
theorem ch_190 : staG tb_X12_bit 1 bt_RX12 [] ct_190 [] [] cu_190 8 con_190 = true := by decide +kernel
theorem cto_190 (l : Launch) : CTOK2 l RX12 vwCl gTbl ct_190 := ct2_nil
theorem vl_190 (l : Launch) : Vld2 l vwCl gTbl con_190 := conR_ok3 gT_all (hd_190) rfl pn_RX12 tk_X12_bit bo_RX12 xo_RX12 (cto_190 l) ch_190 cut_nil
/-- RookHustingModel bit -/
noncomputable def con_191 : Con2 := ((yX12_bit, cX12_bit, 2, (some .int)), (0, 0), ([(0, 14, 0), (0, 0, 0)], [(0, 0), (0, 0)], [], []), [((0, 0, 0), [(0, 0), (0, 0), (0, 0)], [], [], [1])])
theorem hd_191 : con_191.1 = (yX12_bit, cX12_bit, 2, (some .int)) := rfl
noncomputable def ct_191 : CTB2 := []
noncomputable def cu_191 : List CUT2 := []
theorem ch_191 : staG tb_X12_bit 1 bt_RX12 [] ct_191 [] [] cu_191 8 con_191 = true := by decide +kernel
theorem cto_191 (l : Launch) : CTOK2 l RX12 vwCl gTbl ct_191 := ct2_nil
theorem vl_191 (l : Launch) : Vld2 l vwCl gTbl con_191 := conR_ok3 gT_all (hd_191) rfl pn_RX12 tk_X12_bit bo_RX12 xo_RX12 (cto_191 l) ch_191 cut_nil
/-- RookHustingModel bit -/
noncomputable def con_192 : Con2 := ((yX12_bit, cX12_bit, 2, (some .int)), (0, 0), ([(0, 13, 0), (0, 4, 0)], [(0, 0), (0, 0)], [], []), [((0, 0, 0), [(0, 0), (0, 0), (0, 0)], [], [], [1])])
theorem hd_192 : con_192.1 = (yX12_bit, cX12_bit, 2, (some .int)) := rfl
noncomputable def ct_192 : CTB2 := []
noncomputable def cu_192 : List CUT2 := []
theorem ch_192 : staG tb_X12_bit 1 bt_RX12 [] ct_192 [] [] cu_192 8 con_192 = true := by decide +kernel
theorem cto_192 (l : Launch) : CTOK2 l RX12 vwCl gTbl ct_192 := ct2_nil
theorem vl_192 (l : Launch) : Vld2 l vwCl gTbl con_192 := conR_ok3 gT_all (hd_192) rfl pn_RX12 tk_X12_bit bo_RX12 xo_RX12 (cto_192 l) ch_192 cut_nil
/-- RookHustingModel bit -/
noncomputable def con_193 : Con2 := ((yX12_bit, cX12_bit, 2, (some .int)), (0, 0), ([(0, 13, 0), (0, 3, 0)], [(0, 0), (0, 0)], [], []), [((0, 1, 0), [(0, 0), (0, 0), (0, 0)], [], [], [1])])
theorem hd_193 : con_193.1 = (yX12_bit, cX12_bit, 2, (some .int)) := rfl
noncomputable def ct_193 : CTB2 := []
noncomputable def cu_193 : List CUT2 := []
theorem ch_193 : staG tb_X12_bit 1 bt_RX12 [] ct_193 [] [] cu_193 8 con_193 = true := by decide +kernel
theorem cto_193 (l : Launch) : CTOK2 l RX12 vwCl gTbl ct_193 := ct2_nil
theorem vl_193 (l : Launch) : Vld2 l vwCl gTbl con_193 := conR_ok3 gT_all (hd_193) rfl pn_RX12 tk_X12_bit bo_RX12 xo_RX12 (cto_193 l) ch_193 cut_nil
/-- RookHustingModel bit -/
noncomputable def con_194 : Con2 := ((yX12_bit, cX12_bit, 2, (some .int)), (0, 0), ([(0, 13, 0), (0, 2, 0)], [(0, 0), (0, 0)], [], []), [((0, 1, 0), [(0, 0), (0, 0), (0, 0)], [], [], [1])])
theorem hd_194 : con_194.1 = (yX12_bit, cX12_bit, 2, (some .int)) := rfl
noncomputable def ct_194 : CTB2 := []
noncomputable def cu_194 : List CUT2 := []
theorem ch_194 : staG tb_X12_bit 1 bt_RX12 [] ct_194 [] [] cu_194 8 con_194 = true := by decide +kernel
theorem cto_194 (l : Launch) : CTOK2 l RX12 vwCl gTbl ct_194 := ct2_nil
theorem vl_194 (l : Launch) : Vld2 l vwCl gTbl con_194 := conR_ok3 gT_all (hd_194) rfl pn_RX12 tk_X12_bit bo_RX12 xo_RX12 (cto_194 l) ch_194 cut_nil
/-- RookHustingModel bit -/
noncomputable def con_195 : Con2 := ((yX12_bit, cX12_bit, 2, (some .int)), (0, 0), ([(0, 13, 0), (0, 1, 0)], [(0, 0), (0, 0)], [], []), [((0, 0, 0), [(0, 0), (0, 0), (0, 0)], [], [], [1])])
theorem hd_195 : con_195.1 = (yX12_bit, cX12_bit, 2, (some .int)) := rfl
noncomputable def ct_195 : CTB2 := []
noncomputable def cu_195 : List CUT2 := []
theorem ch_195 : staG tb_X12_bit 1 bt_RX12 [] ct_195 [] [] cu_195 8 con_195 = true := by decide +kernel
theorem cto_195 (l : Launch) : CTOK2 l RX12 vwCl gTbl ct_195 := ct2_nil
theorem vl_195 (l : Launch) : Vld2 l vwCl gTbl con_195 := conR_ok3 gT_all (hd_195) rfl pn_RX12 tk_X12_bit bo_RX12 xo_RX12 (cto_195 l) ch_195 cut_nil
/-- RookHustingModel bit -/
noncomputable def con_196 : Con2 := ((yX12_bit, cX12_bit, 2, (some .int)), (0, 0), ([(0, 13, 0), (0, 0, 0)], [(0, 0), (0, 0)], [], []), [((0, 1, 0), [(0, 0), (0, 0), (0, 0)], [], [], [1])])
theorem hd_196 : con_196.1 = (yX12_bit, cX12_bit, 2, (some .int)) := rfl
noncomputable def ct_196 : CTB2 := []
noncomputable def cu_196 : List CUT2 := []
theorem ch_196 : staG tb_X12_bit 1 bt_RX12 [] ct_196 [] [] cu_196 8 con_196 = true := by decide +kernel
theorem cto_196 (l : Launch) : CTOK2 l RX12 vwCl gTbl ct_196 := ct2_nil
theorem vl_196 (l : Launch) : Vld2 l vwCl gTbl con_196 := conR_ok3 gT_all (hd_196) rfl pn_RX12 tk_X12_bit bo_RX12 xo_RX12 (cto_196 l) ch_196 cut_nil
/-- RookHustingModel bit -/
noncomputable def con_197 : Con2 := ((yX12_bit, cX12_bit, 2, (some .int)), (0, 0), ([(0, 11, 0), (0, 4, 0)], [(0, 0), (0, 0)], [], []), [((0, 0, 0), [(0, 0), (0, 0), (0, 0)], [], [], [1])])
theorem hd_197 : con_197.1 = (yX12_bit, cX12_bit, 2, (some .int)) := rfl
noncomputable def ct_197 : CTB2 := []
noncomputable def cu_197 : List CUT2 := []
theorem ch_197 : staG tb_X12_bit 1 bt_RX12 [] ct_197 [] [] cu_197 8 con_197 = true := by decide +kernel
theorem cto_197 (l : Launch) : CTOK2 l RX12 vwCl gTbl ct_197 := ct2_nil
theorem vl_197 (l : Launch) : Vld2 l vwCl gTbl con_197 := conR_ok3 gT_all (hd_197) rfl pn_RX12 tk_X12_bit bo_RX12 xo_RX12 (cto_197 l) ch_197 cut_nil
/-- RookHustingModel bit -/
noncomputable def con_198 : Con2 := ((yX12_bit, cX12_bit, 2, (some .int)), (0, 0), ([(0, 11, 0), (0, 3, 0)], [(0, 0), (0, 0)], [], []), [((0, 1, 0), [(0, 0), (0, 0), (0, 0)], [], [], [1])])
theorem hd_198 : con_198.1 = (yX12_bit, cX12_bit, 2, (some .int)) := rfl
noncomputable def ct_198 : CTB2 := []
noncomputable def cu_198 : List CUT2 := []
theorem ch_198 : staG tb_X12_bit 1 bt_RX12 [] ct_198 [] [] cu_198 8 con_198 = true := by decide +kernel
theorem cto_198 (l : Launch) : CTOK2 l RX12 vwCl gTbl ct_198 := ct2_nil
theorem vl_198 (l : Launch) : Vld2 l vwCl gTbl con_198 := conR_ok3 gT_all (hd_198) rfl pn_RX12 tk_X12_bit bo_RX12 xo_RX12 (cto_198 l) ch_198 cut_nil
/-- RookHustingModel bit -/
noncomputable def con_199 : Con2 := ((yX12_bit, cX12_bit, 2, (some .int)), (0, 0), ([(0, 11, 0), (0, 2, 0)], [(0, 0), (0, 0)], [], []), [((0, 0, 0), [(0, 0), (0, 0), (0, 0)], [], [], [1])])
theorem hd_199 : con_199.1 = (yX12_bit, cX12_bit, 2, (some .int)) := rfl
noncomputable def ct_199 : CTB2 := []
noncomputable def cu_199 : List CUT2 := []
theorem ch_199 : staG tb_X12_bit 1 bt_RX12 [] ct_199 [] [] cu_199 8 con_199 = true := by decide +kernel
theorem cto_199 (l : Launch) : CTOK2 l RX12 vwCl gTbl ct_199 := ct2_nil
theorem vl_199 (l : Launch) : Vld2 l vwCl gTbl con_199 := conR_ok3 gT_all (hd_199) rfl pn_RX12 tk_X12_bit bo_RX12 xo_RX12 (cto_199 l) ch_199 cut_nil
/-- RookHustingModel bit -/
noncomputable def con_200 : Con2 := ((yX12_bit, cX12_bit, 2, (some .int)), (0, 0), ([(0, 11, 0), (0, 1, 0)], [(0, 0), (0, 0)], [], []), [((0, 1, 0), [(0, 0), (0, 0), (0, 0)], [], [], [1])])
theorem hd_200 : con_200.1 = (yX12_bit, cX12_bit, 2, (some .int)) := rfl
noncomputable def ct_200 : CTB2 := []
noncomputable def cu_200 : List CUT2 := []
theorem ch_200 : staG tb_X12_bit 1 bt_RX12 [] ct_200 [] [] cu_200 8 con_200 = true := by decide +kernel
theorem cto_200 (l : Launch) : CTOK2 l RX12 vwCl gTbl ct_200 := ct2_nil
theorem vl_200 (l : Launch) : Vld2 l vwCl gTbl con_200 := conR_ok3 gT_all (hd_200) rfl pn_RX12 tk_X12_bit bo_RX12 xo_RX12 (cto_200 l) ch_200 cut_nil
/-- RookHustingModel bit -/
noncomputable def con_201 : Con2 := ((yX12_bit, cX12_bit, 2, (some .int)), (0, 0), ([(0, 11, 0), (0, 0, 0)], [(0, 0), (0, 0)], [], []), [((0, 1, 0), [(0, 0), (0, 0), (0, 0)], [], [], [1])])
theorem hd_201 : con_201.1 = (yX12_bit, cX12_bit, 2, (some .int)) := rfl
noncomputable def ct_201 : CTB2 := []
noncomputable def cu_201 : List CUT2 := []
theorem ch_201 : staG tb_X12_bit 1 bt_RX12 [] ct_201 [] [] cu_201 8 con_201 = true := by decide +kernel
theorem cto_201 (l : Launch) : CTOK2 l RX12 vwCl gTbl ct_201 := ct2_nil
theorem vl_201 (l : Launch) : Vld2 l vwCl gTbl con_201 := conR_ok3 gT_all (hd_201) rfl pn_RX12 tk_X12_bit bo_RX12 xo_RX12 (cto_201 l) ch_201 cut_nil
/-- RookHustingModel bit -/
noncomputable def con_202 : Con2 := ((yX12_bit, cX12_bit, 2, (some .int)), (0, 0), ([(0, 7, 0), (0, 4, 0)], [(0, 0), (0, 0)], [], []), [((0, 0, 0), [(0, 0), (0, 0), (0, 0)], [], [], [1])])
theorem hd_202 : con_202.1 = (yX12_bit, cX12_bit, 2, (some .int)) := rfl
noncomputable def ct_202 : CTB2 := []
noncomputable def cu_202 : List CUT2 := []
theorem ch_202 : staG tb_X12_bit 1 bt_RX12 [] ct_202 [] [] cu_202 8 con_202 = true := by decide +kernel
theorem cto_202 (l : Launch) : CTOK2 l RX12 vwCl gTbl ct_202 := ct2_nil
theorem vl_202 (l : Launch) : Vld2 l vwCl gTbl con_202 := conR_ok3 gT_all (hd_202) rfl pn_RX12 tk_X12_bit bo_RX12 xo_RX12 (cto_202 l) ch_202 cut_nil
/-- RookHustingModel bit -/
noncomputable def con_203 : Con2 := ((yX12_bit, cX12_bit, 2, (some .int)), (0, 0), ([(0, 7, 0), (0, 3, 0)], [(0, 0), (0, 0)], [], []), [((0, 0, 0), [(0, 0), (0, 0), (0, 0)], [], [], [1])])
theorem hd_203 : con_203.1 = (yX12_bit, cX12_bit, 2, (some .int)) := rfl
noncomputable def ct_203 : CTB2 := []
noncomputable def cu_203 : List CUT2 := []
theorem ch_203 : staG tb_X12_bit 1 bt_RX12 [] ct_203 [] [] cu_203 8 con_203 = true := by decide +kernel
theorem cto_203 (l : Launch) : CTOK2 l RX12 vwCl gTbl ct_203 := ct2_nil
theorem vl_203 (l : Launch) : Vld2 l vwCl gTbl con_203 := conR_ok3 gT_all (hd_203) rfl pn_RX12 tk_X12_bit bo_RX12 xo_RX12 (cto_203 l) ch_203 cut_nil
/-- RookHustingModel bit -/
noncomputable def con_204 : Con2 := ((yX12_bit, cX12_bit, 2, (some .int)), (0, 0), ([(0, 7, 0), (0, 2, 0)], [(0, 0), (0, 0)], [], []), [((0, 1, 0), [(0, 0), (0, 0), (0, 0)], [], [], [1])])
theorem hd_204 : con_204.1 = (yX12_bit, cX12_bit, 2, (some .int)) := rfl
noncomputable def ct_204 : CTB2 := []
noncomputable def cu_204 : List CUT2 := []
theorem ch_204 : staG tb_X12_bit 1 bt_RX12 [] ct_204 [] [] cu_204 8 con_204 = true := by decide +kernel
theorem cto_204 (l : Launch) : CTOK2 l RX12 vwCl gTbl ct_204 := ct2_nil
theorem vl_204 (l : Launch) : Vld2 l vwCl gTbl con_204 := conR_ok3 gT_all (hd_204) rfl pn_RX12 tk_X12_bit bo_RX12 xo_RX12 (cto_204 l) ch_204 cut_nil
/-- RookHustingModel bit -/
noncomputable def con_205 : Con2 := ((yX12_bit, cX12_bit, 2, (some .int)), (0, 0), ([(0, 7, 0), (0, 1, 0)], [(0, 0), (0, 0)], [], []), [((0, 1, 0), [(0, 0), (0, 0), (0, 0)], [], [], [1])])
theorem hd_205 : con_205.1 = (yX12_bit, cX12_bit, 2, (some .int)) := rfl
noncomputable def ct_205 : CTB2 := []
noncomputable def cu_205 : List CUT2 := []
theorem ch_205 : staG tb_X12_bit 1 bt_RX12 [] ct_205 [] [] cu_205 8 con_205 = true := by decide +kernel
theorem cto_205 (l : Launch) : CTOK2 l RX12 vwCl gTbl ct_205 := ct2_nil
theorem vl_205 (l : Launch) : Vld2 l vwCl gTbl con_205 := conR_ok3 gT_all (hd_205) rfl pn_RX12 tk_X12_bit bo_RX12 xo_RX12 (cto_205 l) ch_205 cut_nil
/-- RookHustingModel bit -/
noncomputable def con_206 : Con2 := ((yX12_bit, cX12_bit, 2, (some .int)), (0, 0), ([(0, 7, 0), (0, 0, 0)], [(0, 0), (0, 0)], [], []), [((0, 1, 0), [(0, 0), (0, 0), (0, 0)], [], [], [1])])
theorem hd_206 : con_206.1 = (yX12_bit, cX12_bit, 2, (some .int)) := rfl
noncomputable def ct_206 : CTB2 := []
noncomputable def cu_206 : List CUT2 := []
theorem ch_206 : staG tb_X12_bit 1 bt_RX12 [] ct_206 [] [] cu_206 8 con_206 = true := by decide +kernel
theorem cto_206 (l : Launch) : CTOK2 l RX12 vwCl gTbl ct_206 := ct2_nil
theorem vl_206 (l : Launch) : Vld2 l vwCl gTbl con_206 := conR_ok3 gT_all (hd_206) rfl pn_RX12 tk_X12_bit bo_RX12 xo_RX12 (cto_206 l) ch_206 cut_nil
/-- RookHustingModel bit -/
noncomputable def con_207 : Con2 := ((yX12_bit, cX12_bit, 2, (some .int)), (0, 0), ([(0, 30, 0), (0, 4, 0)], [(0, 0), (0, 0)], [], []), [((0, 1, 0), [(0, 0), (0, 0), (0, 0)], [], [], [1])])
theorem hd_207 : con_207.1 = (yX12_bit, cX12_bit, 2, (some .int)) := rfl
noncomputable def ct_207 : CTB2 := []
noncomputable def cu_207 : List CUT2 := []
theorem ch_207 : staG tb_X12_bit 1 bt_RX12 [] ct_207 [] [] cu_207 8 con_207 = true := by decide +kernel
theorem cto_207 (l : Launch) : CTOK2 l RX12 vwCl gTbl ct_207 := ct2_nil
theorem vl_207 (l : Launch) : Vld2 l vwCl gTbl con_207 := conR_ok3 gT_all (hd_207) rfl pn_RX12 tk_X12_bit bo_RX12 xo_RX12 (cto_207 l) ch_207 cut_nil
/-- RookHustingModel bit -/
noncomputable def con_208 : Con2 := ((yX12_bit, cX12_bit, 2, (some .int)), (0, 0), ([(0, 30, 0), (0, 3, 0)], [(0, 0), (0, 0)], [], []), [((0, 1, 0), [(0, 0), (0, 0), (0, 0)], [], [], [1])])
theorem hd_208 : con_208.1 = (yX12_bit, cX12_bit, 2, (some .int)) := rfl
noncomputable def ct_208 : CTB2 := []
noncomputable def cu_208 : List CUT2 := []
theorem ch_208 : staG tb_X12_bit 1 bt_RX12 [] ct_208 [] [] cu_208 8 con_208 = true := by decide +kernel
theorem cto_208 (l : Launch) : CTOK2 l RX12 vwCl gTbl ct_208 := ct2_nil
theorem vl_208 (l : Launch) : Vld2 l vwCl gTbl con_208 := conR_ok3 gT_all (hd_208) rfl pn_RX12 tk_X12_bit bo_RX12 xo_RX12 (cto_208 l) ch_208 cut_nil
/-- RookHustingModel bit -/
noncomputable def con_209 : Con2 := ((yX12_bit, cX12_bit, 2, (some .int)), (0, 0), ([(0, 30, 0), (0, 2, 0)], [(0, 0), (0, 0)], [], []), [((0, 1, 0), [(0, 0), (0, 0), (0, 0)], [], [], [1])])
theorem hd_209 : con_209.1 = (yX12_bit, cX12_bit, 2, (some .int)) := rfl
noncomputable def ct_209 : CTB2 := []
noncomputable def cu_209 : List CUT2 := []
theorem ch_209 : staG tb_X12_bit 1 bt_RX12 [] ct_209 [] [] cu_209 8 con_209 = true := by decide +kernel
theorem cto_209 (l : Launch) : CTOK2 l RX12 vwCl gTbl ct_209 := ct2_nil
theorem vl_209 (l : Launch) : Vld2 l vwCl gTbl con_209 := conR_ok3 gT_all (hd_209) rfl pn_RX12 tk_X12_bit bo_RX12 xo_RX12 (cto_209 l) ch_209 cut_nil
/-- RookHustingModel bit -/
noncomputable def con_210 : Con2 := ((yX12_bit, cX12_bit, 2, (some .int)), (0, 0), ([(0, 30, 0), (0, 1, 0)], [(0, 0), (0, 0)], [], []), [((0, 1, 0), [(0, 0), (0, 0), (0, 0)], [], [], [1])])
theorem hd_210 : con_210.1 = (yX12_bit, cX12_bit, 2, (some .int)) := rfl
noncomputable def ct_210 : CTB2 := []
noncomputable def cu_210 : List CUT2 := []
theorem ch_210 : staG tb_X12_bit 1 bt_RX12 [] ct_210 [] [] cu_210 8 con_210 = true := by decide +kernel
theorem cto_210 (l : Launch) : CTOK2 l RX12 vwCl gTbl ct_210 := ct2_nil
theorem vl_210 (l : Launch) : Vld2 l vwCl gTbl con_210 := conR_ok3 gT_all (hd_210) rfl pn_RX12 tk_X12_bit bo_RX12 xo_RX12 (cto_210 l) ch_210 cut_nil
/-- RookHustingModel bit -/
noncomputable def con_211 : Con2 := ((yX12_bit, cX12_bit, 2, (some .int)), (0, 0), ([(0, 30, 0), (0, 0, 0)], [(0, 0), (0, 0)], [], []), [((0, 0, 0), [(0, 0), (0, 0), (0, 0)], [], [], [1])])
theorem hd_211 : con_211.1 = (yX12_bit, cX12_bit, 2, (some .int)) := rfl
noncomputable def ct_211 : CTB2 := []
noncomputable def cu_211 : List CUT2 := []
theorem ch_211 : staG tb_X12_bit 1 bt_RX12 [] ct_211 [] [] cu_211 8 con_211 = true := by decide +kernel
theorem cto_211 (l : Launch) : CTOK2 l RX12 vwCl gTbl ct_211 := ct2_nil
theorem vl_211 (l : Launch) : Vld2 l vwCl gTbl con_211 := conR_ok3 gT_all (hd_211) rfl pn_RX12 tk_X12_bit bo_RX12 xo_RX12 (cto_211 l) ch_211 cut_nil
/-- RookHustingModel bit -/
noncomputable def con_212 : Con2 := ((yX12_bit, cX12_bit, 2, (some .int)), (0, 0), ([(0, 29, 0), (0, 4, 0)], [(0, 0), (0, 0)], [], []), [((0, 1, 0), [(0, 0), (0, 0), (0, 0)], [], [], [1])])
theorem hd_212 : con_212.1 = (yX12_bit, cX12_bit, 2, (some .int)) := rfl
noncomputable def ct_212 : CTB2 := []
noncomputable def cu_212 : List CUT2 := []
theorem ch_212 : staG tb_X12_bit 1 bt_RX12 [] ct_212 [] [] cu_212 8 con_212 = true := by decide +kernel
theorem cto_212 (l : Launch) : CTOK2 l RX12 vwCl gTbl ct_212 := ct2_nil
theorem vl_212 (l : Launch) : Vld2 l vwCl gTbl con_212 := conR_ok3 gT_all (hd_212) rfl pn_RX12 tk_X12_bit bo_RX12 xo_RX12 (cto_212 l) ch_212 cut_nil
/-- RookHustingModel bit -/
noncomputable def con_213 : Con2 := ((yX12_bit, cX12_bit, 2, (some .int)), (0, 0), ([(0, 29, 0), (0, 3, 0)], [(0, 0), (0, 0)], [], []), [((0, 1, 0), [(0, 0), (0, 0), (0, 0)], [], [], [1])])
theorem hd_213 : con_213.1 = (yX12_bit, cX12_bit, 2, (some .int)) := rfl
noncomputable def ct_213 : CTB2 := []
noncomputable def cu_213 : List CUT2 := []
theorem ch_213 : staG tb_X12_bit 1 bt_RX12 [] ct_213 [] [] cu_213 8 con_213 = true := by decide +kernel
theorem cto_213 (l : Launch) : CTOK2 l RX12 vwCl gTbl ct_213 := ct2_nil
theorem vl_213 (l : Launch) : Vld2 l vwCl gTbl con_213 := conR_ok3 gT_all (hd_213) rfl pn_RX12 tk_X12_bit bo_RX12 xo_RX12 (cto_213 l) ch_213 cut_nil
/-- RookHustingModel bit -/
noncomputable def con_214 : Con2 := ((yX12_bit, cX12_bit, 2, (some .int)), (0, 0), ([(0, 29, 0), (0, 2, 0)], [(0, 0), (0, 0)], [], []), [((0, 1, 0), [(0, 0), (0, 0), (0, 0)], [], [], [1])])
theorem hd_214 : con_214.1 = (yX12_bit, cX12_bit, 2, (some .int)) := rfl
noncomputable def ct_214 : CTB2 := []
noncomputable def cu_214 : List CUT2 := []
theorem ch_214 : staG tb_X12_bit 1 bt_RX12 [] ct_214 [] [] cu_214 8 con_214 = true := by decide +kernel
theorem cto_214 (l : Launch) : CTOK2 l RX12 vwCl gTbl ct_214 := ct2_nil
theorem vl_214 (l : Launch) : Vld2 l vwCl gTbl con_214 := conR_ok3 gT_all (hd_214) rfl pn_RX12 tk_X12_bit bo_RX12 xo_RX12 (cto_214 l) ch_214 cut_nil
/-- RookHustingModel bit -/
noncomputable def con_215 : Con2 := ((yX12_bit, cX12_bit, 2, (some .int)), (0, 0), ([(0, 29, 0), (0, 1, 0)], [(0, 0), (0, 0)], [], []), [((0, 0, 0), [(0, 0), (0, 0), (0, 0)], [], [], [1])])
theorem hd_215 : con_215.1 = (yX12_bit, cX12_bit, 2, (some .int)) := rfl
noncomputable def ct_215 : CTB2 := []
noncomputable def cu_215 : List CUT2 := []
theorem ch_215 : staG tb_X12_bit 1 bt_RX12 [] ct_215 [] [] cu_215 8 con_215 = true := by decide +kernel
theorem cto_215 (l : Launch) : CTOK2 l RX12 vwCl gTbl ct_215 := ct2_nil
theorem vl_215 (l : Launch) : Vld2 l vwCl gTbl con_215 := conR_ok3 gT_all (hd_215) rfl pn_RX12 tk_X12_bit bo_RX12 xo_RX12 (cto_215 l) ch_215 cut_nil
/-- RookHustingModel bit -/
noncomputable def con_216 : Con2 := ((yX12_bit, cX12_bit, 2, (some .int)), (0, 0), ([(0, 29, 0), (0, 0, 0)], [(0, 0), (0, 0)], [], []), [((0, 1, 0), [(0, 0), (0, 0), (0, 0)], [], [], [1])])
theorem hd_216 : con_216.1 = (yX12_bit, cX12_bit, 2, (some .int)) := rfl
noncomputable def ct_216 : CTB2 := []
noncomputable def cu_216 : List CUT2 := []
theorem ch_216 : staG tb_X12_bit 1 bt_RX12 [] ct_216 [] [] cu_216 8 con_216 = true := by decide +kernel
theorem cto_216 (l : Launch) : CTOK2 l RX12 vwCl gTbl ct_216 := ct2_nil
theorem vl_216 (l : Launch) : Vld2 l vwCl gTbl con_216 := conR_ok3 gT_all (hd_216) rfl pn_RX12 tk_X12_bit bo_RX12 xo_RX12 (cto_216 l) ch_216 cut_nil
/-- RookHustingModel bit -/
noncomputable def con_217 : Con2 := ((yX12_bit, cX12_bit, 2, (some .int)), (0, 0), ([(0, 27, 0), (0, 4, 0)], [(0, 0), (0, 0)], [], []), [((0, 1, 0), [(0, 0), (0, 0), (0, 0)], [], [], [1])])
theorem hd_217 : con_217.1 = (yX12_bit, cX12_bit, 2, (some .int)) := rfl
noncomputable def ct_217 : CTB2 := []
noncomputable def cu_217 : List CUT2 := []
theorem ch_217 : staG tb_X12_bit 1 bt_RX12 [] ct_217 [] [] cu_217 8 con_217 = true := by decide +kernel
theorem cto_217 (l : Launch) : CTOK2 l RX12 vwCl gTbl ct_217 := ct2_nil
theorem vl_217 (l : Launch) : Vld2 l vwCl gTbl con_217 := conR_ok3 gT_all (hd_217) rfl pn_RX12 tk_X12_bit bo_RX12 xo_RX12 (cto_217 l) ch_217 cut_nil
/-- RookHustingModel bit -/
noncomputable def con_218 : Con2 := ((yX12_bit, cX12_bit, 2, (some .int)), (0, 0), ([(0, 27, 0), (0, 3, 0)], [(0, 0), (0, 0)], [], []), [((0, 1, 0), [(0, 0), (0, 0), (0, 0)], [], [], [1])])
theorem hd_218 : con_218.1 = (yX12_bit, cX12_bit, 2, (some .int)) := rfl
noncomputable def ct_218 : CTB2 := []
noncomputable def cu_218 : List CUT2 := []
theorem ch_218 : staG tb_X12_bit 1 bt_RX12 [] ct_218 [] [] cu_218 8 con_218 = true := by decide +kernel
theorem cto_218 (l : Launch) : CTOK2 l RX12 vwCl gTbl ct_218 := ct2_nil
theorem vl_218 (l : Launch) : Vld2 l vwCl gTbl con_218 := conR_ok3 gT_all (hd_218) rfl pn_RX12 tk_X12_bit bo_RX12 xo_RX12 (cto_218 l) ch_218 cut_nil
/-- RookHustingModel bit -/
noncomputable def con_219 : Con2 := ((yX12_bit, cX12_bit, 2, (some .int)), (0, 0), ([(0, 27, 0), (0, 2, 0)], [(0, 0), (0, 0)], [], []), [((0, 0, 0), [(0, 0), (0, 0), (0, 0)], [], [], [1])])
theorem hd_219 : con_219.1 = (yX12_bit, cX12_bit, 2, (some .int)) := rfl
noncomputable def ct_219 : CTB2 := []
noncomputable def cu_219 : List CUT2 := []
theorem ch_219 : staG tb_X12_bit 1 bt_RX12 [] ct_219 [] [] cu_219 8 con_219 = true := by decide +kernel
theorem cto_219 (l : Launch) : CTOK2 l RX12 vwCl gTbl ct_219 := ct2_nil
theorem vl_219 (l : Launch) : Vld2 l vwCl gTbl con_219 := conR_ok3 gT_all (hd_219) rfl pn_RX12 tk_X12_bit bo_RX12 xo_RX12 (cto_219 l) ch_219 cut_nil
/-- RookHustingModel bit -/
noncomputable def con_220 : Con2 := ((yX12_bit, cX12_bit, 2, (some .int)), (0, 0), ([(0, 27, 0), (0, 1, 0)], [(0, 0), (0, 0)], [], []), [((0, 1, 0), [(0, 0), (0, 0), (0, 0)], [], [], [1])])
theorem hd_220 : con_220.1 = (yX12_bit, cX12_bit, 2, (some .int)) := rfl
noncomputable def ct_220 : CTB2 := []
noncomputable def cu_220 : List CUT2 := []
theorem ch_220 : staG tb_X12_bit 1 bt_RX12 [] ct_220 [] [] cu_220 8 con_220 = true := by decide +kernel
theorem cto_220 (l : Launch) : CTOK2 l RX12 vwCl gTbl ct_220 := ct2_nil
theorem vl_220 (l : Launch) : Vld2 l vwCl gTbl con_220 := conR_ok3 gT_all (hd_220) rfl pn_RX12 tk_X12_bit bo_RX12 xo_RX12 (cto_220 l) ch_220 cut_nil
/-- RookHustingModel bit -/
noncomputable def con_221 : Con2 := ((yX12_bit, cX12_bit, 2, (some .int)), (0, 0), ([(0, 27, 0), (0, 0, 0)], [(0, 0), (0, 0)], [], []), [((0, 1, 0), [(0, 0), (0, 0), (0, 0)], [], [], [1])])
theorem hd_221 : con_221.1 = (yX12_bit, cX12_bit, 2, (some .int)) := rfl
noncomputable def ct_221 : CTB2 := []
noncomputable def cu_221 : List CUT2 := []
theorem ch_221 : staG tb_X12_bit 1 bt_RX12 [] ct_221 [] [] cu_221 8 con_221 = true := by decide +kernel
theorem cto_221 (l : Launch) : CTOK2 l RX12 vwCl gTbl ct_221 := ct2_nil
theorem vl_221 (l : Launch) : Vld2 l vwCl gTbl con_221 := conR_ok3 gT_all (hd_221) rfl pn_RX12 tk_X12_bit bo_RX12 xo_RX12 (cto_221 l) ch_221 cut_nil
/-- RookHustingModel bit -/
noncomputable def con_222 : Con2 := ((yX12_bit, cX12_bit, 2, (some .int)), (0, 0), ([(0, 23, 0), (0, 4, 0)], [(0, 0), (0, 0)], [], []), [((0, 1, 0), [(0, 0), (0, 0), (0, 0)], [], [], [1])])
theorem hd_222 : con_222.1 = (yX12_bit, cX12_bit, 2, (some .int)) := rfl
noncomputable def ct_222 : CTB2 := []
noncomputable def cu_222 : List CUT2 := []
theorem ch_222 : staG tb_X12_bit 1 bt_RX12 [] ct_222 [] [] cu_222 8 con_222 = true := by decide +kernel
theorem cto_222 (l : Launch) : CTOK2 l RX12 vwCl gTbl ct_222 := ct2_nil
theorem vl_222 (l : Launch) : Vld2 l vwCl gTbl con_222 := conR_ok3 gT_all (hd_222) rfl pn_RX12 tk_X12_bit bo_RX12 xo_RX12 (cto_222 l) ch_222 cut_nil
/-- RookHustingModel bit -/
noncomputable def con_223 : Con2 := ((yX12_bit, cX12_bit, 2, (some .int)), (0, 0), ([(0, 23, 0), (0, 3, 0)], [(0, 0), (0, 0)], [], []), [((0, 0, 0), [(0, 0), (0, 0), (0, 0)], [], [], [1])])
theorem hd_223 : con_223.1 = (yX12_bit, cX12_bit, 2, (some .int)) := rfl
noncomputable def ct_223 : CTB2 := []
noncomputable def cu_223 : List CUT2 := []
theorem ch_223 : staG tb_X12_bit 1 bt_RX12 [] ct_223 [] [] cu_223 8 con_223 = true := by decide +kernel
theorem cto_223 (l : Launch) : CTOK2 l RX12 vwCl gTbl ct_223 := ct2_nil
theorem vl_223 (l : Launch) : Vld2 l vwCl gTbl con_223 := conR_ok3 gT_all (hd_223) rfl pn_RX12 tk_X12_bit bo_RX12 xo_RX12 (cto_223 l) ch_223 cut_nil
/-- RookHustingModel bit -/
noncomputable def con_224 : Con2 := ((yX12_bit, cX12_bit, 2, (some .int)), (0, 0), ([(0, 23, 0), (0, 2, 0)], [(0, 0), (0, 0)], [], []), [((0, 1, 0), [(0, 0), (0, 0), (0, 0)], [], [], [1])])
theorem hd_224 : con_224.1 = (yX12_bit, cX12_bit, 2, (some .int)) := rfl
noncomputable def ct_224 : CTB2 := []
noncomputable def cu_224 : List CUT2 := []
theorem ch_224 : staG tb_X12_bit 1 bt_RX12 [] ct_224 [] [] cu_224 8 con_224 = true := by decide +kernel
theorem cto_224 (l : Launch) : CTOK2 l RX12 vwCl gTbl ct_224 := ct2_nil
theorem vl_224 (l : Launch) : Vld2 l vwCl gTbl con_224 := conR_ok3 gT_all (hd_224) rfl pn_RX12 tk_X12_bit bo_RX12 xo_RX12 (cto_224 l) ch_224 cut_nil
/-- RookHustingModel bit -/
noncomputable def con_225 : Con2 := ((yX12_bit, cX12_bit, 2, (some .int)), (0, 0), ([(0, 23, 0), (0, 1, 0)], [(0, 0), (0, 0)], [], []), [((0, 1, 0), [(0, 0), (0, 0), (0, 0)], [], [], [1])])
theorem hd_225 : con_225.1 = (yX12_bit, cX12_bit, 2, (some .int)) := rfl
noncomputable def ct_225 : CTB2 := []
noncomputable def cu_225 : List CUT2 := []
theorem ch_225 : staG tb_X12_bit 1 bt_RX12 [] ct_225 [] [] cu_225 8 con_225 = true := by decide +kernel
theorem cto_225 (l : Launch) : CTOK2 l RX12 vwCl gTbl ct_225 := ct2_nil
theorem vl_225 (l : Launch) : Vld2 l vwCl gTbl con_225 := conR_ok3 gT_all (hd_225) rfl pn_RX12 tk_X12_bit bo_RX12 xo_RX12 (cto_225 l) ch_225 cut_nil
/-- RookHustingModel bit -/
noncomputable def con_226 : Con2 := ((yX12_bit, cX12_bit, 2, (some .int)), (0, 0), ([(0, 23, 0), (0, 0, 0)], [(0, 0), (0, 0)], [], []), [((0, 1, 0), [(0, 0), (0, 0), (0, 0)], [], [], [1])])
theorem hd_226 : con_226.1 = (yX12_bit, cX12_bit, 2, (some .int)) := rfl
noncomputable def ct_226 : CTB2 := []
noncomputable def cu_226 : List CUT2 := []
theorem ch_226 : staG tb_X12_bit 1 bt_RX12 [] ct_226 [] [] cu_226 8 con_226 = true := by decide +kernel
theorem cto_226 (l : Launch) : CTOK2 l RX12 vwCl gTbl ct_226 := ct2_nil
theorem vl_226 (l : Launch) : Vld2 l vwCl gTbl con_226 := conR_ok3 gT_all (hd_226) rfl pn_RX12 tk_X12_bit bo_RX12 xo_RX12 (cto_226 l) ch_226 cut_nil
/-- RookHustingModel bit -/
noncomputable def con_227 : Con2 := ((yX12_bit, cX12_bit, 2, (some .int)), (0, 0), ([(0, 15, 0), (0, 4, 0)], [(0, 0), (0, 0)], [], []), [((0, 0, 0), [(0, 0), (0, 0), (0, 0)], [], [], [1])])
theorem hd_227 : con_227.1 = (yX12_bit, cX12_bit, 2, (some .int)) := rfl
noncomputable def ct_227 : CTB2 := []
noncomputable def cu_227 : List CUT2 := []
theorem ch_227 : staG tb_X12_bit 1 bt_RX12 [] ct_227 [] [] cu_227 8 con_227 = true := by decide +kernel
theorem cto_227 (l : Launch) : CTOK2 l RX12 vwCl gTbl ct_227 := ct2_nil
theorem vl_227 (l : Launch) : Vld2 l vwCl gTbl con_227 := conR_ok3 gT_all (hd_227) rfl pn_RX12 tk_X12_bit bo_RX12 xo_RX12 (cto_227 l) ch_227 cut_nil
/-- RookHustingModel bit -/
noncomputable def con_228 : Con2 := ((yX12_bit, cX12_bit, 2, (some .int)), (0, 0), ([(0, 15, 0), (0, 3, 0)], [(0, 0), (0, 0)], [], []), [((0, 1, 0), [(0, 0), (0, 0), (0, 0)], [], [], [1])])
theorem hd_228 : con_228.1 = (yX12_bit, cX12_bit, 2, (some .int)) := rfl
noncomputable def ct_228 : CTB2 := []
noncomputable def cu_228 : List CUT2 := []
theorem ch_228 : staG tb_X12_bit 1 bt_RX12 [] ct_228 [] [] cu_228 8 con_228 = true := by decide +kernel
theorem cto_228 (l : Launch) : CTOK2 l RX12 vwCl gTbl ct_228 := ct2_nil
theorem vl_228 (l : Launch) : Vld2 l vwCl gTbl con_228 := conR_ok3 gT_all (hd_228) rfl pn_RX12 tk_X12_bit bo_RX12 xo_RX12 (cto_228 l) ch_228 cut_nil
/-- RookHustingModel bit -/
noncomputable def con_229 : Con2 := ((yX12_bit, cX12_bit, 2, (some .int)), (0, 0), ([(0, 15, 0), (0, 2, 0)], [(0, 0), (0, 0)], [], []), [((0, 1, 0), [(0, 0), (0, 0), (0, 0)], [], [], [1])])
theorem hd_229 : con_229.1 = (yX12_bit, cX12_bit, 2, (some .int)) := rfl
noncomputable def ct_229 : CTB2 := []
noncomputable def cu_229 : List CUT2 := []
theorem ch_229 : staG tb_X12_bit 1 bt_RX12 [] ct_229 [] [] cu_229 8 con_229 = true := by decide +kernel
theorem cto_229 (l : Launch) : CTOK2 l RX12 vwCl gTbl ct_229 := ct2_nil
theorem vl_229 (l : Launch) : Vld2 l vwCl gTbl con_229 := conR_ok3 gT_all (hd_229) rfl pn_RX12 tk_X12_bit bo_RX12 xo_RX12 (cto_229 l) ch_229 cut_nil
/-- RookHustingModel bit -/
noncomputable def con_230 : Con2 := ((yX12_bit, cX12_bit, 2, (some .int)), (0, 0), ([(0, 15, 0), (0, 1, 0)], [(0, 0), (0, 0)], [], []), [((0, 1, 0), [(0, 0), (0, 0), (0, 0)], [], [], [1])])
theorem hd_230 : con_230.1 = (yX12_bit, cX12_bit, 2, (some .int)) := rfl
noncomputable def ct_230 : CTB2 := []
noncomputable def cu_230 : List CUT2 := []
theorem ch_230 : staG tb_X12_bit 1 bt_RX12 [] ct_230 [] [] cu_230 8 con_230 = true := by decide +kernel
theorem cto_230 (l : Launch) : CTOK2 l RX12 vwCl gTbl ct_230 := ct2_nil
theorem vl_230 (l : Launch) : Vld2 l vwCl gTbl con_230 := conR_ok3 gT_all (hd_230) rfl pn_RX12 tk_X12_bit bo_RX12 xo_RX12 (cto_230 l) ch_230 cut_nil
/-- RookHustingModel bit -/
noncomputable def con_231 : Con2 := ((yX12_bit, cX12_bit, 2, (some .int)), (0, 0), ([(0, 15, 0), (0, 0, 0)], [(0, 0), (0, 0)], [], []), [((0, 1, 0), [(0, 0), (0, 0), (0, 0)], [], [], [1])])
theorem hd_231 : con_231.1 = (yX12_bit, cX12_bit, 2, (some .int)) := rfl
noncomputable def ct_231 : CTB2 := []
noncomputable def cu_231 : List CUT2 := []
theorem ch_231 : staG tb_X12_bit 1 bt_RX12 [] ct_231 [] [] cu_231 8 con_231 = true := by decide +kernel
theorem cto_231 (l : Launch) : CTOK2 l RX12 vwCl gTbl ct_231 := ct2_nil
theorem vl_231 (l : Launch) : Vld2 l vwCl gTbl con_231 := conR_ok3 gT_all (hd_231) rfl pn_RX12 tk_X12_bit bo_RX12 xo_RX12 (cto_231 l) ch_231 cut_nil
/-- RookHustingModel bit -/
noncomputable def con_232 : Con2 := ((yX12_bit, cX12_bit, 2, (some .int)), (0, 0), ([(0, 31, 0), (0, 4, 0)], [(0, 0), (0, 0)], [], []), [((0, 1, 0), [(0, 0), (0, 0), (0, 0)], [], [], [1])])
theorem hd_232 : con_232.1 = (yX12_bit, cX12_bit, 2, (some .int)) := rfl
noncomputable def ct_232 : CTB2 := []
noncomputable def cu_232 : List CUT2 := []
theorem ch_232 : staG tb_X12_bit 1 bt_RX12 [] ct_232 [] [] cu_232 8 con_232 = true := by decide +kernel
theorem cto_232 (l : Launch) : CTOK2 l RX12 vwCl gTbl ct_232 := ct2_nil
theorem vl_232 (l : Launch) : Vld2 l vwCl gTbl con_232 := conR_ok3 gT_all (hd_232) rfl pn_RX12 tk_X12_bit bo_RX12 xo_RX12 (cto_232 l) ch_232 cut_nil
/-- RookHustingModel bit -/
noncomputable def con_233 : Con2 := ((yX12_bit, cX12_bit, 2, (some .int)), (0, 0), ([(0, 31, 0), (0, 3, 0)], [(0, 0), (0, 0)], [], []), [((0, 1, 0), [(0, 0), (0, 0), (0, 0)], [], [], [1])])
theorem hd_233 : con_233.1 = (yX12_bit, cX12_bit, 2, (some .int)) := rfl
noncomputable def ct_233 : CTB2 := []
noncomputable def cu_233 : List CUT2 := []
theorem ch_233 : staG tb_X12_bit 1 bt_RX12 [] ct_233 [] [] cu_233 8 con_233 = true := by decide +kernel
theorem cto_233 (l : Launch) : CTOK2 l RX12 vwCl gTbl ct_233 := ct2_nil
theorem vl_233 (l : Launch) : Vld2 l vwCl gTbl con_233 := conR_ok3 gT_all (hd_233) rfl pn_RX12 tk_X12_bit bo_RX12 xo_RX12 (cto_233 l) ch_233 cut_nil
/-- RookHustingModel bit -/
noncomputable def con_234 : Con2 := ((yX12_bit, cX12_bit, 2, (some .int)), (0, 0), ([(0, 31, 0), (0, 2, 0)], [(0, 0), (0, 0)], [], []), [((0, 1, 0), [(0, 0), (0, 0), (0, 0)], [], [], [1])])
theorem hd_234 : con_234.1 = (yX12_bit, cX12_bit, 2, (some .int)) := rfl
noncomputable def ct_234 : CTB2 := []
noncomputable def cu_234 : List CUT2 := []
theorem ch_234 : staG tb_X12_bit 1 bt_RX12 [] ct_234 [] [] cu_234 8 con_234 = true := by decide +kernel
theorem cto_234 (l : Launch) : CTOK2 l RX12 vwCl gTbl ct_234 := ct2_nil
theorem vl_234 (l : Launch) : Vld2 l vwCl gTbl con_234 := conR_ok3 gT_all (hd_234) rfl pn_RX12 tk_X12_bit bo_RX12 xo_RX12 (cto_234 l) ch_234 cut_nil
/-- RookHustingModel bit -/
noncomputable def con_235 : Con2 := ((yX12_bit, cX12_bit, 2, (some .int)), (0, 0), ([(0, 31, 0), (0, 1, 0)], [(0, 0), (0, 0)], [], []), [((0, 1, 0), [(0, 0), (0, 0), (0, 0)], [], [], [1])])
theorem hd_235 : con_235.1 = (yX12_bit, cX12_bit, 2, (some .int)) := rfl
noncomputable def ct_235 : CTB2 := []
noncomputable def cu_235 : List CUT2 := []
theorem ch_235 : staG tb_X12_bit 1 bt_RX12 [] ct_235 [] [] cu_235 8 con_235 = true := by decide +kernel
theorem cto_235 (l : Launch) : CTOK2 l RX12 vwCl gTbl ct_235 := ct2_nil
theorem vl_235 (l : Launch) : Vld2 l vwCl gTbl con_235 := conR_ok3 gT_all (hd_235) rfl pn_RX12 tk_X12_bit bo_RX12 xo_RX12 (cto_235 l) ch_235 cut_nil
/-- RookHustingModel bit -/
noncomputable def con_236 : Con2 := ((yX12_bit, cX12_bit, 2, (some .int)), (0, 0), ([(0, 31, 0), (0, 0, 0)], [(0, 0), (0, 0)], [], []), [((0, 1, 0), [(0, 0), (0, 0), (0, 0)], [], [], [1])])
theorem hd_236 : con_236.1 = (yX12_bit, cX12_bit, 2, (some .int)) := rfl
noncomputable def ct_236 : CTB2 := []
noncomputable def cu_236 : List CUT2 := []
theorem ch_236 : staG tb_X12_bit 1 bt_RX12 [] ct_236 [] [] cu_236 8 con_236 = true := by decide +kernel
theorem cto_236 (l : Launch) : CTOK2 l RX12 vwCl gTbl ct_236 := ct2_nil
theorem vl_236 (l : Launch) : Vld2 l vwCl gTbl con_236 := conR_ok3 gT_all (hd_236) rfl pn_RX12 tk_X12_bit bo_RX12 xo_RX12 (cto_236 l) ch_236 cut_nil
