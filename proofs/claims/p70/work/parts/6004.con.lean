/-! ===== contracts, 4 ===== -/
/-- RookHustingModel bit -/
noncomputable def con_548 : Con2 := ((yX12_bit, cX12_bit, 2, (some .int)), (0, 0), ([(0, 31, 0), (0, 2, 0)], [(0, 0), (0, 0)], [], []), [((0, 1, 0), [(0, 0), (0, 0), (0, 0)], [], [], [1])])
theorem hd_548 : con_548.1 = (yX12_bit, cX12_bit, 2, (some .int)) := rfl
noncomputable def cu_548 : List CUT2 := []
theorem ch_548 : staG tb_X12_bit 1 bt_RX12 [] ct_2 [] [] cu_548 8 con_548 = true := by decide +kernel
theorem vl_548 (l : Launch) : Vld2 l vwCl gTbl con_548 := conR_ok3 gT_all (hd_548) rfl pn_RX12 tk_X12_bit bo_RX12 xo_RX12 (cto_2 l) ch_548 cut_nil
/-- RookHustingModel bit -/
noncomputable def con_549 : Con2 := ((yX12_bit, cX12_bit, 2, (some .int)), (0, 0), ([(0, 31, 0), (0, 1, 0)], [(0, 0), (0, 0)], [], []), [((0, 1, 0), [(0, 0), (0, 0), (0, 0)], [], [], [1])])
theorem hd_549 : con_549.1 = (yX12_bit, cX12_bit, 2, (some .int)) := rfl
noncomputable def cu_549 : List CUT2 := []
theorem ch_549 : staG tb_X12_bit 1 bt_RX12 [] ct_2 [] [] cu_549 8 con_549 = true := by decide +kernel
theorem vl_549 (l : Launch) : Vld2 l vwCl gTbl con_549 := conR_ok3 gT_all (hd_549) rfl pn_RX12 tk_X12_bit bo_RX12 xo_RX12 (cto_2 l) ch_549 cut_nil
/-- RookHustingModel bit -/
noncomputable def con_550 : Con2 := ((yX12_bit, cX12_bit, 2, (some .int)), (0, 0), ([(0, 31, 0), (0, 0, 0)], [(0, 0), (0, 0)], [], []), [((0, 1, 0), [(0, 0), (0, 0), (0, 0)], [], [], [1])])
theorem hd_550 : con_550.1 = (yX12_bit, cX12_bit, 2, (some .int)) := rfl
noncomputable def cu_550 : List CUT2 := []
theorem ch_550 : staG tb_X12_bit 1 bt_RX12 [] ct_2 [] [] cu_550 8 con_550 = true := by decide +kernel
theorem vl_550 (l : Launch) : Vld2 l vwCl gTbl con_550 := conR_ok3 gT_all (hd_550) rfl pn_RX12 tk_X12_bit bo_RX12 xo_RX12 (cto_2 l) ch_550 cut_nil
