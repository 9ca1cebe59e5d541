/-! ===== contracts, 4 ===== -/
/-- RookHustingModel bit -/
noncomputable def con_544 : Con2 := ((yX12_bit, cX12_bit, 2, (some .int)), (0, 0), ([(0, 31, 0), (0, 2, 0)], [(0, 0), (0, 0)], [], []), [((0, 1, 0), [(0, 0), (0, 0), (0, 0)], [], [], [1])])
theorem hd_544 : con_544.1 = (yX12_bit, cX12_bit, 2, (some .int)) := rfl
noncomputable def cu_544 : List CUT2 := []
theorem ch_544 : staG tb_X12_bit 1 bt_RX12 [] ct_2 [] [] cu_544 8 con_544 = true := by decide +kernel
theorem vl_544 (l : Launch) : Vld2 l vwCl gTbl con_544 := conR_ok3 gT_all (hd_544) rfl pn_RX12 tk_X12_bit bo_RX12 xo_RX12 (cto_2 l) ch_544 cut_nil
/-- RookHustingModel bit -/
noncomputable def con_545 : Con2 := ((yX12_bit, cX12_bit, 2, (some .int)), (0, 0), ([(0, 31, 0), (0, 1, 0)], [(0, 0), (0, 0)], [], []), [((0, 1, 0), [(0, 0), (0, 0), (0, 0)], [], [], [1])])
theorem hd_545 : con_545.1 = (yX12_bit, cX12_bit, 2, (some .int)) := rfl
noncomputable def cu_545 : List CUT2 := []
theorem ch_545 : staG tb_X12_bit 1 bt_RX12 [] ct_2 [] [] cu_545 8 con_545 = true := by decide +kernel
theorem vl_545 (l : Launch) : Vld2 l vwCl gTbl con_545 := conR_ok3 gT_all (hd_545) rfl pn_RX12 tk_X12_bit bo_RX12 xo_RX12 (cto_2 l) ch_545 cut_nil
/-- RookHustingModel bit -/
noncomputable def con_546 : Con2 := ((yX12_bit, cX12_bit, 2, (some .int)), (0, 0), ([(0, 31, 0), (0, 0, 0)], [(0, 0), (0, 0)], [], []), [((0, 1, 0), [(0, 0), (0, 0), (0, 0)], [], [], [1])])
theorem hd_546 : con_546.1 = (yX12_bit, cX12_bit, 2, (some .int)) := rfl
noncomputable def cu_546 : List CUT2 := []
theorem ch_546 : staG tb_X12_bit 1 bt_RX12 [] ct_2 [] [] cu_546 8 con_546 = true := by decide +kernel
theorem vl_546 (l : Launch) : Vld2 l vwCl gTbl con_546 := conR_ok3 gT_all (hd_546) rfl pn_RX12 tk_X12_bit bo_RX12 xo_RX12 (cto_2 l) ch_546 cut_nil
