/-! ===== contracts, 4 ===== -/
/-- RookHustingModel bit -/
noncomputable def con_483 : Con2 := ((yX12_bit, cX12_bit, 2, (some .int)), (0, 0), ([(0, 22, 0), (0, 3, 0)], [(0, 0), (0, 0)], [], []), [((0, 0, 0), [(0, 0), (0, 0), (0, 0)], [], [], [1])])
theorem hd_483 : con_483.1 = (yX12_bit, cX12_bit, 2, (some .int)) := rfl
noncomputable def ct_483 : CTB2 := []
noncomputable def cu_483 : List CUT2 := []
theorem ch_483 : staG tb_X12_bit 1 bt_RX12 [] ct_483 [] [] cu_483 8 con_483 = true := by decide +kernel
theorem cto_483 (l : Launch) : CTOK2 l RX12 vwCl gTbl ct_483 := ct2_nil
theorem vl_483 (l : Launch) : Vld2 l vwCl gTbl con_483 := conR_ok3 gT_all (hd_483) rfl pn_RX12 tk_X12_bit bo_RX12 xo_RX12 (cto_483 l) ch_483 cut_nil
/-- RookHustingModel bit -/
noncomputable def con_484 : Con2 := ((yX12_bit, cX12_bit, 2, (some .int)), (0, 0), ([(0, 22, 0), (0, 2, 0)], [(0, 0), (0, 0)], [], []), [((0, 1, 0), [(0, 0), (0, 0), (0, 0)], [], [], [1])])
theorem hd_484 : con_484.1 = (yX12_bit, cX12_bit, 2, (some .int)) := rfl
noncomputable def ct_484 : CTB2 := []
noncomputable def cu_484 : List CUT2 := []
theorem ch_484 : staG tb_X12_bit 1 bt_RX12 [] ct_484 [] [] cu_484 8 con_484 = true := by decide +kernel
theorem cto_484 (l : Launch) : CTOK2 l RX12 vwCl gTbl ct_484 := ct2_nil
theorem vl_484 (l : Launch) : Vld2 l vwCl gTbl con_484 := conR_ok3 gT_all (hd_484) rfl pn_RX12 tk_X12_bit bo_RX12 xo_RX12 (cto_484 l) ch_484 cut_nil
/-- RookHustingModel bit -/
noncomputable def con_485 : Con2 := ((yX12_bit, cX12_bit, 2, (some .int)), (0, 0), ([(0, 22, 0), (0, 1, 0)], [(0, 0), (0, 0)], [], []), [((0, 1, 0), [(0, 0), (0, 0), (0, 0)], [], [], [1])])
theorem hd_485 : con_485.1 = (yX12_bit, cX12_bit, 2, (some .int)) := rfl
noncomputable def ct_485 : CTB2 := []
noncomputable def cu_485 : List CUT2 := []
theorem ch_485 : staG tb_X12_bit 1 bt_RX12 [] ct_485 [] [] cu_485 8 con_485 = true := by decide +kernel
theorem cto_485 (l : Launch) : CTOK2 l RX12 vwCl gTbl ct_485 := ct2_nil
theorem vl_485 (l : Launch) : Vld2 l vwCl gTbl con_485 := conR_ok3 gT_all (hd_485) rfl pn_RX12 tk_X12_bit bo_RX12 xo_RX12 (cto_485 l) ch_485 cut_nil
/-- RookHustingModel bit -/
noncomputable def con_486 : Con2 := ((yX12_bit, cX12_bit, 2, (some .int)), (0, 0), ([(0, 22, 0), (0, 0, 0)], [(0, 0), (0, 0)], [], []), [((0, 0, 0), [(0, 0), (0, 0), (0, 0)], [], [], [1])])
theorem hd_486 : con_486.1 = (yX12_bit, cX12_bit, 2, (some .int)) := rfl
noncomputable def ct_486 : CTB2 := []
noncomputable def cu_486 : List CUT2 := []
theorem ch_486 : staG tb_X12_bit 1 bt_RX12 [] ct_486 [] [] cu_486 8 con_486 = true := by decide +kernel
theorem cto_486 (l : Launch) : CTOK2 l RX12 vwCl gTbl ct_486 := ct2_nil
theorem vl_486 (l : Launch) : Vld2 l vwCl gTbl con_486 := conR_ok3 gT_all (hd_486) rfl pn_RX12 tk_X12_bit bo_RX12 xo_RX12 (cto_486 l) ch_486 cut_nil
/-- RookHustingModel bit -/
noncomputable def con_487 : Con2 := ((yX12_bit, cX12_bit, 2, (some .int)), (0, 0), ([(0, 21, 0), (0, 4, 0)], [(0, 0), (0, 0)], [], []), [((0, 1, 0), [(0, 0), (0, 0), (0, 0)], [], [], [1])])
theorem hd_487 : con_487.1 = (yX12_bit, cX12_bit, 2, (some .int)) := rfl
noncomputable def ct_487 : CTB2 := []
noncomputable def cu_487 : List CUT2 := []
theorem ch_487 : staG tb_X12_bit 1 bt_RX12 [] ct_487 [] [] cu_487 8 con_487 = true := by decide +kernel
theorem cto_487 (l : Launch) : CTOK2 l RX12 vwCl gTbl ct_487 := ct2_nil
theorem vl_487 (l : Launch) : Vld2 l vwCl gTbl con_487 := conR_ok3 gT_all (hd_487) rfl pn_RX12 tk_X12_bit bo_RX12 xo_RX12 (cto_487 l) ch_487 cut_nil
/-- RookHustingModel bit -/
noncomputable def con_488 : Con2 := ((yX12_bit, cX12_bit, 2, (some .int)), (0, 0), ([(0, 21, 0), (0, 3, 0)], [(0, 0), (0, 0)], [], []), [((0, 0, 0), [(0, 0), (0, 0), (0, 0)], [], [], [1])])
theorem hd_488 : con_488.1 = (yX12_bit, cX12_bit, 2, (some .int)) := rfl
noncomputable def ct_488 : CTB2 := []
noncomputable def cu_488 : List CUT2 := []
theorem ch_488 : staG tb_X12_bit 1 bt_RX12 [] ct_488 [] [] cu_488 8 con_488 = true := by decide +kernel
theorem cto_488 (l : Launch) : CTOK2 l RX12 vwCl gTbl ct_488 := ct2_nil
theorem vl_488 (l : Launch) : Vld2 l vwCl gTbl con_488 := conR_ok3 gT_all (hd_488) rfl pn_RX12 tk_X12_bit bo_RX12 xo_RX12 (cto_488 l) ch_488 cut_nil
/-- RookHustingModel bit -/
noncomputable def con_489 : Con2 := ((yX12_bit, cX12_bit, 2, (some .int)), (0, 0), ([(0, 21, 0), (0, 2, 0)], [(0, 0), (0, 0)], [], []), [((0, 1, 0), [(0, 0), (0, 0), (0, 0)], [], [], [1])])
theorem hd_489 : con_489.1 = (yX12_bit, cX12_bit, 2, (some .int)) := rfl
noncomputable def ct_489 : CTB2 := []
noncomputable def cu_489 : List CUT2 := []
theorem ch_489 : staG tb_X12_bit 1 bt_RX12 [] ct_489 [] [] cu_489 8 con_489 = true := by decide +kernel
theorem cto_489 (l : Launch) : CTOK2 l RX12 vwCl gTbl ct_489 := ct2_nil
theorem vl_489 (l : Launch) : Vld2 l vwCl gTbl con_489 := conR_ok3 gT_all (hd_489) rfl pn_RX12 tk_X12_bit bo_RX12 xo_RX12 (cto_489 l) ch_489 cut_nil
/-- RookHustingModel bit -/
noncomputable def con_490 : Con2 := ((yX12_bit, cX12_bit, 2, (some .int)), (0, 0), ([(0, 21, 0), (0, 1, 0)], [(0, 0), (0, 0)], [], []), [((0, 0, 0), [(0, 0), (0, 0), (0, 0)], [], [], [1])])
theorem hd_490 : con_490.1 = (yX12_bit, cX12_bit, 2, (some .int)) := rfl
noncomputable def ct_490 : CTB2 := []
noncomputable def cu_490 : List CUT2 := []
theorem ch_490 : staG tb_X12_bit 1 bt_RX12 [] ct_490 [] [] cu_490 8 con_490 = true := by decide +kernel
theorem cto_490 (l : Launch) : CTOK2 l RX12 vwCl gTbl ct_490 := ct2_nil
theorem vl_490 (l : Launch) : Vld2 l vwCl gTbl con_490 := conR_ok3 gT_all (hd_490) rfl pn_RX12 tk_X12_bit bo_RX12 xo_RX12 (cto_490 l) ch_490 cut_nil
/-- RookHustingModel bit -/
noncomputable def con_491 : Con2 := ((yX12_bit, cX12_bit, 2, (some .int)), (0, 0), ([(0, 21, 0), (0, 0, 0)], [(0, 0), (0, 0)], [], []), [((0, 1, 0), [(0, 0), (0, 0), (0, 0)], [], [], [1])])
theorem hd_491 : con_491.1 = (yX12_bit, cX12_bit, 2, (some .int)) := rfl
noncomputable def ct_491 : CTB2 := []
noncomputable def cu_491 : List CUT2 := []
theorem ch_491 : staG tb_X12_bit 1 bt_RX12 [] ct_491 [] [] cu_491 8 con_491 = true := by decide +kernel
theorem cto_491 (l : Launch) : CTOK2 l RX12 vwCl gTbl ct_491 := ct2_nil
theorem vl_491 (l : Launch) : Vld2 l vwCl gTbl con_491 := conR_ok3 gT_all (hd_491) rfl pn_RX12 tk_X12_bit bo_RX12 xo_RX12 (cto_491 l) ch_491 cut_nil
/-- RookHustingModel bit -/
noncomputable def con_492 : Con2 := ((yX12_bit, cX12_bit, 2, (some .int)), (0, 0), ([(0, 19, 0), (0, 4, 0)], [(0, 0), (0, 0)], [], []), [((0, 1, 0), [(0, 0), (0, 0), (0, 0)], [], [], [1])])
theorem hd_492 : con_492.1 = (yX12_bit, cX12_bit, 2, (some .int)) := rfl
noncomputable def ct_492 : CTB2 := []
noncomputable def cu_492 : List CUT2 := []
theorem ch_492 : staG tb_X12_bit 1 bt_RX12 [] ct_492 [] [] cu_492 8 con_492 = true := by decide +kernel
theorem cto_492 (l : Launch) : CTOK2 l RX12 vwCl gTbl ct_492 := ct2_nil
theorem vl_492 (l : Launch) : Vld2 l vwCl gTbl con_492 := conR_ok3 gT_all (hd_492) rfl pn_RX12 tk_X12_bit bo_RX12 xo_RX12 (cto_492 l) ch_492 cut_nil
/-- RookHustingModel bit -/
noncomputable def con_493 : Con2 := ((yX12_bit, cX12_bit, 2, (some .int)), (0, 0), ([(0, 19, 0), (0, 3, 0)], [(0, 0), (0, 0)], [], []), [((0, 0, 0), [(0, 0), (0, 0), (0, 0)], [], [], [1])])
theorem hd_493 : con_493.1 = (yX12_bit, cX12_bit, 2, (some .int)) := rfl
noncomputable def ct_493 : CTB2 := []
noncomputable def cu_493 : List CUT2 := []
theorem ch_493 : staG tb_X12_bit 1 bt_RX12 [] ct_493 [] [] cu_493 8 con_493 = true := by decide +kernel
theorem cto_493 (l : Launch) : CTOK2 l RX12 vwCl gTbl ct_493 := ct2_nil
theorem vl_493 (l : Launch) : Vld2 l vwCl gTbl con_493 := conR_ok3 gT_all (hd_493) rfl pn_RX12 tk_X12_bit bo_RX12 xo_RX12 (cto_493 l) ch_493 cut_nil
/-- RookHustingModel bit -/
noncomputable def con_494 : Con2 := ((yX12_bit, cX12_bit, 2, (some .int)), (0, 0), ([(0, 19, 0), (0, 2, 0)], [(0, 0), (0, 0)], [], []), [((0, 0, 0), [(0, 0), (0, 0), (0, 0)], [], [], [1])])
theorem hd_494 : con_494.1 = (yX12_bit, cX12_bit, 2, (some .int)) := rfl
noncomputable def ct_494 : CTB2 := []
noncomputable def cu_494 : List CUT2 := []
theorem ch_494 : staG tb_X12_bit 1 bt_RX12 [] ct_494 [] [] cu_494 8 con_494 = true := by decide +kernel
theorem cto_494 (l : Launch) : CTOK2 l RX12 vwCl gTbl ct_494 := ct2_nil
theorem vl_494 (l : Launch) : Vld2 l vwCl gTbl con_494 := conR_ok3 gT_all (hd_494) rfl pn_RX12 tk_X12_bit bo_RX12 xo_RX12 (cto_494 l) ch_494 cut_nil
/-- RookHustingModel bit -/
noncomputable def con_495 : Con2 := ((yX12_bit, cX12_bit, 2, (some .int)), (0, 0), ([(0, 19, 0), (0, 1, 0)], [(0, 0), (0, 0)], [], []), [((0, 1, 0), [(0, 0), (0, 0), (0, 0)], [], [], [1])])
theorem hd_495 : con_495.1 = (yX12_bit, cX12_bit, 2, (some .int)) := rfl
noncomputable def ct_495 : CTB2 := []
noncomputable def cu_495 : List CUT2 := []
theorem ch_495 : staG tb_X12_bit 1 bt_RX12 [] ct_495 [] [] cu_495 8 con_495 = true := by decide +kernel
theorem cto_495 (l : Launch) : CTOK2 l RX12 vwCl gTbl ct_495 := ct2_nil
theorem vl_495 (l : Launch) : Vld2 l vwCl gTbl con_495 := conR_ok3 gT_all (hd_495) rfl pn_RX12 tk_X12_bit bo_RX12 xo_RX12 (cto_495 l) ch_495 cut_nil
/-- RookHustingModel bit -/
noncomputable def con_496 : Con2 := ((yX12_bit, cX12_bit, 2, (some .int)), (0, 0), ([(0, 19, 0), (0, 0, 0)], [(0, 0), (0, 0)], [], []), [((0, 1, 0), [(0, 0), (0, 0), (0, 0)], [], [], [1])])
theorem hd_496 : con_496.1 = (yX12_bit, cX12_bit, 2, (some .int)) := rfl
noncomputable def ct_496 : CTB2 := []
noncomputable def cu_496 : List CUT2 := []
theorem ch_496 : staG tb_X12_bit 1 bt_RX12 [] ct_496 [] [] cu_496 8 con_496 = true := by decide +kernel
theorem cto_496 (l : Launch) : CTOK2 l RX12 vwCl gTbl ct_496 := ct2_nil
theorem vl_496 (l : Launch) : Vld2 l vwCl gTbl con_496 := conR_ok3 gT_all (hd_496) rfl pn_RX12 tk_X12_bit bo_RX12 xo_RX12 (cto_496 l) ch_496 cut_nil
/-- RookHustingModel bit -/
noncomputable def con_497 : Con2 := ((yX12_bit, cX12_bit, 2, (some .int)), (0, 0), ([(0, 14, 0), (0, 4, 0)], [(0, 0), (0, 0)], [], []), [((0, 0, 0), [(0, 0), (0, 0), (0, 0)], [], [], [1])])
theorem hd_497 : con_497.1 = (yX12_bit, cX12_bit, 2, (some .int)) := rfl
noncomputable def ct_497 : CTB2 := []
noncomputable def cu_497 : List CUT2 := []
theorem ch_497 : staG tb_X12_bit 1 bt_RX12 [] ct_497 [] [] cu_497 8 con_497 = true := by decide +kernel
theorem cto_497 (l : Launch) : CTOK2 l RX12 vwCl gTbl ct_497 := ct2_nil
theorem vl_497 (l : Launch) : Vld2 l vwCl gTbl con_497 := conR_ok3 gT_all (hd_497) rfl pn_RX12 tk_X12_bit bo_RX12 xo_RX12 (cto_497 l) ch_497 cut_nil
/-- RookHustingModel bit -/
noncomputable def con_498 : Con2 := ((yX12_bit, cX12_bit, 2, (some .int)), (0, 0), ([(0, 14, 0), (0, 3, 0)], [(0, 0), (0, 0)], [], []), [((0, 1, 0), [(0, 0), (0, 0), (0, 0)], [], [], [1])])
theorem hd_498 : con_498.1 = (yX12_bit, cX12_bit, 2, (some .int)) := rfl
noncomputable def ct_498 : CTB2 := []
noncomputable def cu_498 : List CUT2 := []
theorem ch_498 : staG tb_X12_bit 1 bt_RX12 [] ct_498 [] [] cu_498 8 con_498 = true := by decide +kernel
theorem cto_498 (l : Launch) : CTOK2 l RX12 vwCl gTbl ct_498 := ct2_nil
theorem vl_498 (l : Launch) : Vld2 l vwCl gTbl con_498 := conR_ok3 gT_all (hd_498) rfl pn_RX12 tk_X12_bit bo_RX12 xo_RX12 (cto_498 l) ch_498 cut_nil
/-- RookHustingModel bit -/
noncomputable def con_499 : Con2 := ((yX12_bit, cX12_bit, 2, (some .int)), (0, 0), ([(0, 14, 0), (0, 2, 0)], [(0, 0), (0, 0)], [], []), [((0, 1, 0), [(0, 0), (0, 0), (0, 0)], [], [], [1])])
theorem hd_499 : con_499.1 = (yX12_bit, cX12_bit, 2, (some .int)) := rfl
noncomputable def ct_499 : CTB2 := []
noncomputable def cu_499 : List CUT2 := []
theorem ch_499 : staG tb_X12_bit 1 bt_RX12 [] ct_499 [] [] cu_499 8 con_499 = true := by decide +kernel
theorem cto_499 (l : Launch) : CTOK2 l RX12 vwCl gTbl ct_499 := ct2_nil
theorem vl_499 (l : Launch) : Vld2 l vwCl gTbl con_499 := conR_ok3 gT_all (hd_499) rfl pn_RX12 tk_X12_bit bo_RX12 xo_RX12 (cto_499 l) ch_499 cut_nil
/-- RookHustingModel bit -/
noncomputable def con_500 : Con2 := ((yX12_bit, cX12_bit, 2, (some .int)), (0, 0), ([(0, 14, 0), (0, 1, 0)], [(0, 0), (0, 0)], [], []), [((0, 1, 0), [(0, 0), (0, 0), (0, 0)], [], [], [1])])
theorem hd_500 : con_500.1 = (yX12_bit, cX12_bit, 2, (some .int)) := rfl
noncomputable def ct_500 : CTB2 := []
noncomputable def cu_500 : List CUT2 := []
theorem ch_500 : staG tb_X12_bit 1 bt_RX12 [] ct_500 [] [] cu_500 8 con_500 = true := by decide +kernel
theorem cto_500 (l : Launch) : CTOK2 l RX12 vwCl gTbl ct_500 := ct2_nil
theorem vl_500 (l : Launch) : Vld2 l vwCl gTbl con_500 := conR_ok3 gT_all (hd_500) rfl pn_RX12 tk_X12_bit bo_RX12 xo_RX12 (cto_500 l) ch_500 cut_nil
/-- RookHustingModel bit -/
noncomputable def con_501 : Con2 := ((yX12_bit, cX12_bit, 2, (some .int)), (0, 0), ([(0, 14, 0), (0, 0, 0)], [(0, 0), (0, 0)], [], []), [((0, 0, 0), [(0, 0), (0, 0), (0, 0)], [], [], [1])])
theorem hd_501 : con_501.1 = (yX12_bit, cX12_bit, 2, (some .int)) := rfl
noncomputable def ct_501 : CTB2 := []
noncomputable def cu_501 : List CUT2 := []
theorem ch_501 : staG tb_X12_bit 1 bt_RX12 [] ct_501 [] [] cu_501 8 con_501 = true := by decide +kernel
theorem cto_501 (l : Launch) : CTOK2 l RX12 vwCl gTbl ct_501 := ct2_nil
theorem vl_501 (l : Launch) : Vld2 l vwCl gTbl con_501 := conR_ok3 gT_all (hd_501) rfl pn_RX12 tk_X12_bit bo_RX12 xo_RX12 (cto_501 l) ch_501 cut_nil
/-- RookHustingModel bit -/
noncomputable def con_502 : Con2 := ((yX12_bit, cX12_bit, 2, (some .int)), (0, 0), ([(0, 13, 0), (0, 4, 0)], [(0, 0), (0, 0)], [], []), [((0, 0, 0), [(0, 0), (0, 0), (0, 0)], [], [], [1])])
theorem hd_502 : con_502.1 = (yX12_bit, cX12_bit, 2, (some .int)) := rfl
noncomputable def ct_502 : CTB2 := []
noncomputable def cu_502 : List CUT2 := []
theorem ch_502 : staG tb_X12_bit 1 bt_RX12 [] ct_502 [] [] cu_502 8 con_502 = true := by decide +kernel
theorem cto_502 (l : Launch) : CTOK2 l RX12 vwCl gTbl ct_502 := ct2_nil
theorem vl_502 (l : Launch) : Vld2 l vwCl gTbl con_502 := conR_ok3 gT_all (hd_502) rfl pn_RX12 tk_X12_bit bo_RX12 xo_RX12 (cto_502 l) ch_502 cut_nil
/-- RookHustingModel bit -/
noncomputable def con_503 : Con2 := ((yX12_bit, cX12_bit, 2, (some .int)), (0, 0), ([(0, 13, 0), (0, 3, 0)], [(0, 0), (0, 0)], [], []), [((0, 1, 0), [(0, 0), (0, 0), (0, 0)], [], [], [1])])
theorem hd_503 : con_503.1 = (yX12_bit, cX12_bit, 2, (some .int)) := rfl
noncomputable def ct_503 : CTB2 := []
noncomputable def cu_503 : List CUT2 := []
theorem ch_503 : staG tb_X12_bit 1 bt_RX12 [] ct_503 [] [] cu_503 8 con_503 = true := by decide +kernel
theorem cto_503 (l : Launch) : CTOK2 l RX12 vwCl gTbl ct_503 := ct2_nil
theorem vl_503 (l : Launch) : Vld2 l vwCl gTbl con_503 := conR_ok3 gT_all (hd_503) rfl pn_RX12 tk_X12_bit bo_RX12 xo_RX12 (cto_503 l) ch_503 cut_nil
/-- RookHustingModel bit -/
noncomputable def con_504 : Con2 := ((yX12_bit, cX12_bit, 2, (some .int)), (0, 0), ([(0, 13, 0), (0, 2, 0)], [(0, 0), (0, 0)], [], []), [((0, 1, 0), [(0, 0), (0, 0), (0, 0)], [], [], [1])])
theorem hd_504 : con_504.1 = (yX12_bit, cX12_bit, 2, (some .int)) := rfl
noncomputable def ct_504 : CTB2 := []
noncomputable def cu_504 : List CUT2 := []
theorem ch_504 : staG tb_X12_bit 1 bt_RX12 [] ct_504 [] [] cu_504 8 con_504 = true := by decide +kernel
theorem cto_504 (l : Launch) : CTOK2 l RX12 vwCl gTbl ct_504 := ct2_nil
theorem vl_504 (l : Launch) : Vld2 l vwCl gTbl con_504 := conR_ok3 gT_all (hd_504) rfl pn_RX12 tk_X12_bit bo_RX12 xo_RX12 (cto_504 l) ch_504 cut_nil
/-- RookHustingModel bit -/
noncomputable def con_505 : Con2 := ((yX12_bit, cX12_bit, 2, (some .int)), (0, 0), ([(0, 13, 0), (0, 1, 0)], [(0, 0), (0, 0)], [], []), [((0, 0, 0), [(0, 0), (0, 0), (0, 0)], [], [], [1])])
theorem hd_505 : con_505.1 = (yX12_bit, cX12_bit, 2, (some .int)) := rfl
noncomputable def ct_505 : CTB2 := []
noncomputable def cu_505 : List CUT2 := []
theorem ch_505 : staG tb_X12_bit 1 bt_RX12 [] ct_505 [] [] cu_505 8 con_505 = true := by decide +kernel
theorem cto_505 (l : Launch) : CTOK2 l RX12 vwCl gTbl ct_505 := ct2_nil
theorem vl_505 (l : Launch) : Vld2 l vwCl gTbl con_505 := conR_ok3 gT_all (hd_505) rfl pn_RX12 tk_X12_bit bo_RX12 xo_RX12 (cto_505 l) ch_505 cut_nil
/-- RookHustingModel bit -/
noncomputable def con_506 : Con2 := ((yX12_bit, cX12_bit, 2, (some .int)), (0, 0), ([(0, 13, 0), (0, 0, 0)], [(0, 0), (0, 0)], [], []), [((0, 1, 0), [(0, 0), (0, 0), (0, 0)], [], [], [1])])
theorem hd_506 : con_506.1 = (yX12_bit, cX12_bit, 2, (some .int)) := rfl
noncomputable def ct_506 : CTB2 := []
noncomputable def cu_506 : List CUT2 := []
theorem ch_506 : staG tb_X12_bit 1 bt_RX12 [] ct_506 [] [] cu_506 8 con_506 = true := by decide +kernel
theorem cto_506 (l : Launch) : CTOK2 l RX12 vwCl gTbl ct_506 := ct2_nil
theorem vl_506 (l : Launch) : Vld2 l vwCl gTbl con_506 := conR_ok3 gT_all (hd_506) rfl pn_RX12 tk_X12_bit bo_RX12 xo_RX12 (cto_506 l) ch_506 cut_nil
/-- RookHustingModel bit -/
noncomputable def con_507 : Con2 := ((yX12_bit, cX12_bit, 2, (some .int)), (0, 0), ([(0, 11, 0), (0, 4, 0)], [(0, 0), (0, 0)], [], []), [((0, 0, 0), [(0, 0), (0, 0), (0, 0)], [], [], [1])])
theorem hd_507 : con_507.1 = (yX12_bit, cX12_bit, 2, (some .int)) := rfl
noncomputable def ct_507 : CTB2 := []
noncomputable def cu_507 : List CUT2 := []
theorem ch_507 : staG tb_X12_bit 1 bt_RX12 [] ct_507 [] [] cu_507 8 con_507 = true := by decide +kernel
theorem cto_507 (l : Launch) : CTOK2 l RX12 vwCl gTbl ct_507 := ct2_nil
theorem vl_507 (l : Launch) : Vld2 l vwCl gTbl con_507 := conR_ok3 gT_all (hd_507) rfl pn_RX12 tk_X12_bit bo_RX12 xo_RX12 (cto_507 l) ch_507 cut_nil
/-- RookHustingModel bit -/
noncomputable def con_508 : Con2 := ((yX12_bit, cX12_bit, 2, (some .int)), (0, 0), ([(0, 11, 0), (0, 3, 0)], [(0, 0), (0, 0)], [], []), [((0, 1, 0), [(0, 0), (0, 0), (0, 0)], [], [], [1])])
theorem hd_508 : con_508.1 = (yX12_bit, cX12_bit, 2, (some .int)) := rfl
noncomputable def ct_508 : CTB2 := []
noncomputable def cu_508 : List CUT2 := []
theorem ch_508 : staG tb_X12_bit 1 bt_RX12 [] ct_508 [] [] cu_508 8 con_508 = true := by decide +kernel
theorem cto_508 (l : Launch) : CTOK2 l RX12 vwCl gTbl ct_508 := ct2_nil
theorem vl_508 (l : Launch) : Vld2 l vwCl gTbl con_508 := conR_ok3 gT_all (hd_508) rfl pn_RX12 tk_X12_bit bo_RX12 xo_RX12 (cto_508 l) ch_508 cut_nil
/-- RookHustingModel bit -/
noncomputable def con_509 : Con2 := ((yX12_bit, cX12_bit, 2, (some .int)), (0, 0), ([(0, 11, 0), (0, 2, 0)], [(0, 0), (0, 0)], [], []), [((0, 0, 0), [(0, 0), (0, 0), (0, 0)], [], [], [1])])
theorem hd_509 : con_509.1 = (yX12_bit, cX12_bit, 2, (some .int)) := rfl
noncomputable def ct_509 : CTB2 := []
noncomputable def cu_509 : List CUT2 := []
theorem ch_509 : staG tb_X12_bit 1 bt_RX12 [] ct_509 [] [] cu_509 8 con_509 = true := by decide +kernel
theorem cto_509 (l : Launch) : CTOK2 l RX12 vwCl gTbl ct_509 := ct2_nil
theorem vl_509 (l : Launch) : Vld2 l vwCl gTbl con_509 := conR_ok3 gT_all (hd_509) rfl pn_RX12 tk_X12_bit bo_RX12 xo_RX12 (cto_509 l) ch_509 cut_nil
/-- RookHustingModel bit -/
noncomputable def con_510 : Con2 := ((yX12_bit, cX12_bit, 2, (some .int)), (0, 0), ([(0, 11, 0), (0, 1, 0)], [(0, 0), (0, 0)], [], []), [((0, 1, 0), [(0, 0), (0, 0), (0, 0)], [], [], [1])])
theorem hd_510 : con_510.1 = (yX12_bit, cX12_bit, 2, (some .int)) := rfl
noncomputable def ct_510 : CTB2 := []
noncomputable def cu_510 : List CUT2 := []
theorem ch_510 : staG tb_X12_bit 1 bt_RX12 [] ct_510 [] [] cu_510 8 con_510 = true := by decide +kernel
theorem cto_510 (l : Launch) : CTOK2 l RX12 vwCl gTbl ct_510 := ct2_nil
theorem vl_510 (l : Launch) : Vld2 l vwCl gTbl con_510 := conR_ok3 gT_all (hd_510) rfl pn_RX12 tk_X12_bit bo_RX12 xo_RX12 (cto_510 l) ch_510 cut_nil
/-- RookHustingModel bit -/
noncomputable def con_511 : Con2 := ((yX12_bit, cX12_bit, 2, (some .int)), (0, 0), ([(0, 11, 0), (0, 0, 0)], [(0, 0), (0, 0)], [], []), [((0, 1, 0), [(0, 0), (0, 0), (0, 0)], [], [], [1])])
theorem hd_511 : con_511.1 = (yX12_bit, cX12_bit, 2, (some .int)) := rfl
noncomputable def ct_511 : CTB2 := []
noncomputable def cu_511 : List CUT2 := []
theorem ch_511 : staG tb_X12_bit 1 bt_RX12 [] ct_511 [] [] cu_511 8 con_511 = true := by decide +kernel
theorem cto_511 (l : Launch) : CTOK2 l RX12 vwCl gTbl ct_511 := ct2_nil
theorem vl_511 (l : Launch) : Vld2 l vwCl gTbl con_511 := conR_ok3 gT_all (hd_511) rfl pn_RX12 tk_X12_bit bo_RX12 xo_RX12 (cto_511 l) ch_511 cut_nil
/-- RookHustingModel bit -/
noncomputable def con_512 : Con2 := ((yX12_bit, cX12_bit, 2, (some .int)), (0, 0), ([(0, 7, 0), (0, 4, 0)], [(0, 0), (0, 0)], [], []), [((0, 0, 0), [(0, 0), (0, 0), (0, 0)], [], [], [1])])
theorem hd_512 : con_512.1 = (yX12_bit, cX12_bit, 2, (some .int)) := rfl
noncomputable def ct_512 : CTB2 := []
noncomputable def cu_512 : List CUT2 := []
theorem ch_512 : staG tb_X12_bit 1 bt_RX12 [] ct_512 [] [] cu_512 8 con_512 = true := by decide +kernel
theorem cto_512 (l : Launch) : CTOK2 l RX12 vwCl gTbl ct_512 := ct2_nil
theorem vl_512 (l : Launch) : Vld2 l vwCl gTbl con_512 := conR_ok3 gT_all (hd_512) rfl pn_RX12 tk_X12_bit bo_RX12 xo_RX12 (cto_512 l) ch_512 cut_nil
/-- RookHustingModel bit -/
noncomputable def con_513 : Con2 := ((yX12_bit, cX12_bit, 2, (some .int)), (0, 0), ([(0, 7, 0), (0, 3, 0)], [(0, 0), (0, 0)], [], []), [((0, 0, 0), [(0, 0), (0, 0), (0, 0)], [], [], [1])])
theorem hd_513 : con_513.1 = (yX12_bit, cX12_bit, 2, (some .int)) := rfl
noncomputable def ct_513 : CTB2 := []
noncomputable def cu_513 : List CUT2 := []
theorem ch_513 : staG tb_X12_bit 1 bt_RX12 [] ct_513 [] [] cu_513 8 con_513 = true := by decide +kernel
theorem cto_513 (l : Launch) : CTOK2 l RX12 vwCl gTbl ct_513 := ct2_nil
theorem vl_513 (l : Launch) : Vld2 l vwCl gTbl con_513 := conR_ok3 gT_all (hd_513) rfl pn_RX12 tk_X12_bit bo_RX12 xo_RX12 (cto_513 l) ch_513 cut_nil
/-- RookHustingModel bit -/
noncomputable def con_514 : Con2 := ((yX12_bit, cX12_bit, 2, (some .int)), (0, 0), ([(0, 7, 0), (0, 2, 0)], [(0, 0), (0, 0)], [], []), [((0, 1, 0), [(0, 0), (0, 0), (0, 0)], [], [], [1])])
theorem hd_514 : con_514.1 = (yX12_bit, cX12_bit, 2, (some .int)) := rfl
noncomputable def ct_514 : CTB2 := []
noncomputable def cu_514 : List CUT2 := []
theorem ch_514 : staG tb_X12_bit 1 bt_RX12 [] ct_514 [] [] cu_514 8 con_514 = true := by decide +kernel
theorem cto_514 (l : Launch) : CTOK2 l RX12 vwCl gTbl ct_514 := ct2_nil
theorem vl_514 (l : Launch) : Vld2 l vwCl gTbl con_514 := conR_ok3 gT_all (hd_514) rfl pn_RX12 tk_X12_bit bo_RX12 xo_RX12 (cto_514 l) ch_514 cut_nil
/-- RookHustingModel bit -/
noncomputable def con_515 : Con2 := ((yX12_bit, cX12_bit, 2, (some .int)), (0, 0), ([(0, 7, 0), (0, 1, 0)], [(0, 0), (0, 0)], [], []), [((0, 1, 0), [(0, 0), (0, 0), (0, 0)], [], [], [1])])
theorem hd_515 : con_515.1 = (yX12_bit, cX12_bit, 2, (some .int)) := rfl
noncomputable def ct_515 : CTB2 := []
noncomputable def cu_515 : List CUT2 := []
theorem ch_515 : staG tb_X12_bit 1 bt_RX12 [] ct_515 [] [] cu_515 8 con_515 = true := by decide +kernel
theorem cto_515 (l : Launch) : CTOK2 l RX12 vwCl gTbl ct_515 := ct2_nil
theorem vl_515 (l : Launch) : Vld2 l vwCl gTbl con_515 := conR_ok3 gT_all (hd_515) rfl pn_RX12 tk_X12_bit bo_RX12 xo_RX12 (cto_515 l) ch_515 cut_nil
/-- RookHustingModel bit -/
noncomputable def con_516 : Con2 := ((yX12_bit, cX12_bit, 2, (some .int)), (0, 0), ([(0, 7, 0), (0, 0, 0)], [(0, 0), (0, 0)], [], []), [((0, 1, 0), [(0, 0), (0, 0), (0, 0)], [], [], [1])])
theorem hd_516 : con_516.1 = (yX12_bit, cX12_bit, 2, (some .int)) := rfl
noncomputable def ct_516 : CTB2 := []
noncomputable def cu_516 : List CUT2 := []
theorem ch_516 : staG tb_X12_bit 1 bt_RX12 [] ct_516 [] [] cu_516 8 con_516 = true := by decide +kernel
theorem cto_516 (l : Launch) : CTOK2 l RX12 vwCl gTbl ct_516 := ct2_nil
theorem vl_516 (l : Launch) : Vld2 l vwCl gTbl con_516 := conR_ok3 gT_all (hd_516) rfl pn_RX12 tk_X12_bit bo_RX12 xo_RX12 (cto_516 l) ch_516 cut_nil
/-- RookHustingModel bit -/
noncomputable def con_517 : Con2 := ((yX12_bit, cX12_bit, 2, (some .int)), (0, 0), ([(0, 30, 0), (0, 4, 0)], [(0, 0), (0, 0)], [], []), [((0, 1, 0), [(0, 0), (0, 0), (0, 0)], [], [], [1])])
theorem hd_517 : con_517.1 = (yX12_bit, cX12_bit, 2, (some .int)) := rfl
noncomputable def ct_517 : CTB2 := []
noncomputable def cu_517 : List CUT2 := []
theorem ch_517 : staG tb_X12_bit 1 bt_RX12 [] ct_517 [] [] cu_517 8 con_517 = true := by decide +kernel
theorem cto_517 (l : Launch) : CTOK2 l RX12 vwCl gTbl ct_517 := ct2_nil
theorem vl_517 (l : Launch) : Vld2 l vwCl gTbl con_517 := conR_ok3 gT_all (hd_517) rfl pn_RX12 tk_X12_bit bo_RX12 xo_RX12 (cto_517 l) ch_517 cut_nil
/-- RookHustingModel bit -/
noncomputable def con_518 : Con2 := ((yX12_bit, cX12_bit, 2, (some .int)), (0, 0), ([(0, 30, 0), (0, 3, 0)], [(0, 0), (0, 0)], [], []), [((0, 1, 0), [(0, 0), (0, 0), (0, 0)], [], [], [1])])
theorem hd_518 : con_518.1 = (yX12_bit, cX12_bit, 2, (some .int)) := rfl
noncomputable def ct_518 : CTB2 := []
noncomputable def cu_518 : List CUT2 := []
theorem ch_518 : staG tb_X12_bit 1 bt_RX12 [] ct_518 [] [] cu_518 8 con_518 = true := by decide +kernel
theorem cto_518 (l : Launch) : CTOK2 l RX12 vwCl gTbl ct_518 := ct2_nil
theorem vl_518 (l : Launch) : Vld2 l vwCl gTbl con_518 := conR_ok3 gT_all (hd_518) rfl pn_RX12 tk_X12_bit bo_RX12 xo_RX12 (cto_518 l) ch_518 cut_nil
/-- RookHustingModel bit -/
noncomputable def con_519 : Con2 := ((yX12_bit, cX12_bit, 2, (some .int)), (0, 0), ([(0, 30, 0), (0, 2, 0)], [(0, 0), (0, 0)], [], []), [((0, 1, 0), [(0, 0), (0, 0), (0, 0)], [], [], [1])])
theorem hd_519 : con_519.1 = (yX12_bit, cX12_bit, 2, (some .int)) := rfl
noncomputable def ct_519 : CTB2 := []
noncomputable def cu_519 : List CUT2 := []
theorem ch_519 : staG tb_X12_bit 1 bt_RX12 [] ct_519 [] [] cu_519 8 con_519 = true := by decide +kernel
theorem cto_519 (l : Launch) : CTOK2 l RX12 vwCl gTbl ct_519 := ct2_nil
theorem vl_519 (l : Launch) : Vld2 l vwCl gTbl con_519 := conR_ok3 gT_all (hd_519) rfl pn_RX12 tk_X12_bit bo_RX12 xo_RX12 (cto_519 l) ch_519 cut_nil
/-- RookHustingModel bit -/
noncomputable def con_520 : Con2 := ((yX12_bit, cX12_bit, 2, (some .int)), (0, 0), ([(0, 30, 0), (0, 1, 0)], [(0, 0), (0, 0)], [], []), [((0, 1, 0), [(0, 0), (0, 0), (0, 0)], [], [], [1])])
theorem hd_520 : con_520.1 = (yX12_bit, cX12_bit, 2, (some .int)) := rfl
noncomputable def ct_520 : CTB2 := []
noncomputable def cu_520 : List CUT2 := []
theorem ch_520 : staG tb_X12_bit 1 bt_RX12 [] ct_520 [] [] cu_520 8 con_520 = true := by decide +kernel
theorem cto_520 (l : Launch) : CTOK2 l RX12 vwCl gTbl ct_520 := ct2_nil
theorem vl_520 (l : Launch) : Vld2 l vwCl gTbl con_520 := conR_ok3 gT_all (hd_520) rfl pn_RX12 tk_X12_bit bo_RX12 xo_RX12 (cto_520 l) ch_520 cut_nil
/-- RookHustingModel bit -/
noncomputable def con_521 : Con2 := ((yX12_bit, cX12_bit, 2, (some .int)), (0, 0), ([(0, 30, 0), (0, 0, 0)], [(0, 0), (0, 0)], [], []), [((0, 0, 0), [(0, 0), (0, 0), (0, 0)], [], [], [1])])
theorem hd_521 : con_521.1 = (yX12_bit, cX12_bit, 2, (some .int)) := rfl
noncomputable def ct_521 : CTB2 := []
noncomputable def cu_521 : List CUT2 := []
theorem ch_521 : staG tb_X12_bit 1 bt_RX12 [] ct_521 [] [] cu_521 8 con_521 = true := by decide +kernel
theorem cto_521 (l : Launch) : CTOK2 l RX12 vwCl gTbl ct_521 := ct2_nil
theorem vl_521 (l : Launch) : Vld2 l vwCl gTbl con_521 := conR_ok3 gT_all (hd_521) rfl pn_RX12 tk_X12_bit bo_RX12 xo_RX12 (cto_521 l) ch_521 cut_nil
/-- RookHustingModel bit -/
noncomputable def con_522 : Con2 := ((yX12_bit, cX12_bit, 2, (some .int)), (0, 0), ([(0, 29, 0), (0, 4, 0)], [(0, 0), (0, 0)], [], []), [((0, 1, 0), [(0, 0), (0, 0), (0, 0)], [], [], [1])])
theorem hd_522 : con_522.1 = (yX12_bit, cX12_bit, 2, (some .int)) := rfl
noncomputable def ct_522 : CTB2 := []
noncomputable def cu_522 : List CUT2 := []
theorem ch_522 : staG tb_X12_bit 1 bt_RX12 [] ct_522 [] [] cu_522 8 con_522 = true := by decide +kernel
theorem cto_522 (l : Launch) : CTOK2 l RX12 vwCl gTbl ct_522 := ct2_nil
theorem vl_522 (l : Launch) : Vld2 l vwCl gTbl con_522 := conR_ok3 gT_all (hd_522) rfl pn_RX12 tk_X12_bit bo_RX12 xo_RX12 (cto_522 l) ch_522 cut_nil
/-- RookHustingModel bit -/
noncomputable def con_523 : Con2 := ((yX12_bit, cX12_bit, 2, (some .int)), (0, 0), ([(0, 29, 0), (0, 3, 0)], [(0, 0), (0, 0)], [], []), [((0, 1, 0), [(0, 0), (0, 0), (0, 0)], [], [], [1])])
theorem hd_523 : con_523.1 = (yX12_bit, cX12_bit, 2, (some .int)) := rfl
noncomputable def ct_523 : CTB2 := []
noncomputable def cu_523 : List CUT2 := []
theorem ch_523 : staG tb_X12_bit 1 bt_RX12 [] ct_523 [] [] cu_523 8 con_523 = true := by decide +kernel
theorem cto_523 (l : Launch) : CTOK2 l RX12 vwCl gTbl ct_523 := ct2_nil
theorem vl_523 (l : Launch) : Vld2 l vwCl gTbl con_523 := conR_ok3 gT_all (hd_523) rfl pn_RX12 tk_X12_bit bo_RX12 xo_RX12 (cto_523 l) ch_523 cut_nil
/-- RookHustingModel bit -/
noncomputable def con_524 : Con2 := ((yX12_bit, cX12_bit, 2, (some .int)), (0, 0), ([(0, 29, 0), (0, 2, 0)], [(0, 0), (0, 0)], [], []), [((0, 1, 0), [(0, 0), (0, 0), (0, 0)], [], [], [1])])
theorem hd_524 : con_524.1 = (yX12_bit, cX12_bit, 2, (some .int)) := rfl
noncomputable def ct_524 : CTB2 := []
noncomputable def cu_524 : List CUT2 := []
theorem ch_524 : staG tb_X12_bit 1 bt_RX12 [] ct_524 [] [] cu_524 8 con_524 = true := by decide +kernel
theorem cto_524 (l : Launch) : CTOK2 l RX12 vwCl gTbl ct_524 := ct2_nil
theorem vl_524 (l : Launch) : Vld2 l vwCl gTbl con_524 := conR_ok3 gT_all (hd_524) rfl pn_RX12 tk_X12_bit bo_RX12 xo_RX12 (cto_524 l) ch_524 cut_nil
/-- RookHustingModel bit -/
noncomputable def con_525 : Con2 := ((yX12_bit, cX12_bit, 2, (some .int)), (0, 0), ([(0, 29, 0), (0, 1, 0)], [(0, 0), (0, 0)], [], []), [((0, 0, 0), [(0, 0), (0, 0), (0, 0)], [], [], [1])])
theorem hd_525 : con_525.1 = (yX12_bit, cX12_bit, 2, (some .int)) := rfl
noncomputable def ct_525 : CTB2 := []
noncomputable def cu_525 : List CUT2 := []
theorem ch_525 : staG tb_X12_bit 1 bt_RX12 [] ct_525 [] [] cu_525 8 con_525 = true := by decide +kernel
theorem cto_525 (l : Launch) : CTOK2 l RX12 vwCl gTbl ct_525 := ct2_nil
theorem vl_525 (l : Launch) : Vld2 l vwCl gTbl con_525 := conR_ok3 gT_all (hd_525) rfl pn_RX12 tk_X12_bit bo_RX12 xo_RX12 (cto_525 l) ch_525 cut_nil
/-- RookHustingModel bit -/
noncomputable def con_526 : Con2 := ((yX12_bit, cX12_bit, 2, (some .int)), (0, 0), ([(0, 29, 0), (0, 0, 0)], [(0, 0), (0, 0)], [], []), [((0, 1, 0), [(0, 0), (0, 0), (0, 0)], [], [], [1])])
theorem hd_526 : con_526.1 = (yX12_bit, cX12_bit, 2, (some .int)) := rfl
noncomputable def ct_526 : CTB2 := []
noncomputable def cu_526 : List CUT2 := []
theorem ch_526 : staG tb_X12_bit 1 bt_RX12 [] ct_526 [] [] cu_526 8 con_526 = true := by decide +kernel
theorem cto_526 (l : Launch) : CTOK2 l RX12 vwCl gTbl ct_526 := ct2_nil
theorem vl_526 (l : Launch) : Vld2 l vwCl gTbl con_526 := conR_ok3 gT_all (hd_526) rfl pn_RX12 tk_X12_bit bo_RX12 xo_RX12 (cto_526 l) ch_526 cut_nil
/-- RookHustingModel bit -/
noncomputable def con_527 : Con2 := ((yX12_bit, cX12_bit, 2, (some .int)), (0, 0), ([(0, 27, 0), (0, 4, 0)], [(0, 0), (0, 0)], [], []), [((0, 1, 0), [(0, 0), (0, 0), (0, 0)], [], [], [1])])
theorem hd_527 : con_527.1 = (yX12_bit, cX12_bit, 2, (some .int)) := rfl
noncomputable def ct_527 : CTB2 := []
noncomputable def cu_527 : List CUT2 := []
theorem ch_527 : staG tb_X12_bit 1 bt_RX12 [] ct_527 [] [] cu_527 8 con_527 = true := by decide +kernel
theorem cto_527 (l : Launch) : CTOK2 l RX12 vwCl gTbl ct_527 := ct2_nil
theorem vl_527 (l : Launch) : Vld2 l vwCl gTbl con_527 := conR_ok3 gT_all (hd_527) rfl pn_RX12 tk_X12_bit bo_RX12 xo_RX12 (cto_527 l) ch_527 cut_nil
/-- RookHustingModel bit -/
noncomputable def con_528 : Con2 := ((yX12_bit, cX12_bit, 2, (some .int)), (0, 0), ([(0, 27, 0), (0, 3, 0)], [(0, 0), (0, 0)], [], []), [((0, 1, 0), [(0, 0), (0, 0), (0, 0)], [], [], [1])])
theorem hd_528 : con_528.1 = (yX12_bit, cX12_bit, 2, (some .int)) := rfl
noncomputable def ct_528 : CTB2 := []
noncomputable def cu_528 : List CUT2 := []
theorem ch_528 : staG tb_X12_bit 1 bt_RX12 [] ct_528 [] [] cu_528 8 con_528 = true := by decide +kernel
theorem cto_528 (l : Launch) : CTOK2 l RX12 vwCl gTbl ct_528 := ct2_nil
theorem vl_528 (l : Launch) : Vld2 l vwCl gTbl con_528 := conR_ok3 gT_all (hd_528) rfl pn_RX12 tk_X12_bit bo_RX12 xo_RX12 (cto_528 l) ch_528 cut_nil
/-- RookHustingModel bit -/
noncomputable def con_529 : Con2 := ((yX12_bit, cX12_bit, 2, (some .int)), (0, 0), ([(0, 27, 0), (0, 2, 0)], [(0, 0), (0, 0)], [], []), [((0, 0, 0), [(0, 0), (0, 0), (0, 0)], [], [], [1])])
theorem hd_529 : con_529.1 = (yX12_bit, cX12_bit, 2, (some .int)) := rfl
noncomputable def ct_529 : CTB2 := []
noncomputable def cu_529 : List CUT2 := []
theorem ch_529 : staG tb_X12_bit 1 bt_RX12 [] ct_529 [] [] cu_529 8 con_529 = true := by decide +kernel
theorem cto_529 (l : Launch) : CTOK2 l RX12 vwCl gTbl ct_529 := ct2_nil
theorem vl_529 (l : Launch) : Vld2 l vwCl gTbl con_529 := conR_ok3 gT_all (hd_529) rfl pn_RX12 tk_X12_bit bo_RX12 xo_RX12 (cto_529 l) ch_529 cut_nil
/-- RookHustingModel bit -/
noncomputable def con_530 : Con2 := ((yX12_bit, cX12_bit, 2, (some .int)), (0, 0), ([(0, 27, 0), (0, 1, 0)], [(0, 0), (0, 0)], [], []), [((0, 1, 0), [(0, 0), (0, 0), (0, 0)], [], [], [1])])
theorem hd_530 : con_530.1 = (yX12_bit, cX12_bit, 2, (some .int)) := rfl
noncomputable def ct_530 : CTB2 := []
noncomputable def cu_530 : List CUT2 := []
theorem ch_530 : staG tb_X12_bit 1 bt_RX12 [] ct_530 [] [] cu_530 8 con_530 = true := by decide +kernel
theorem cto_530 (l : Launch) : CTOK2 l RX12 vwCl gTbl ct_530 := ct2_nil
theorem vl_530 (l : Launch) : Vld2 l vwCl gTbl con_530 := conR_ok3 gT_all (hd_530) rfl pn_RX12 tk_X12_bit bo_RX12 xo_RX12 (cto_530 l) ch_530 cut_nil
/-- RookHustingModel bit -/
noncomputable def con_531 : Con2 := ((yX12_bit, cX12_bit, 2, (some .int)), (0, 0), ([(0, 27, 0), (0, 0, 0)], [(0, 0), (0, 0)], [], []), [((0, 1, 0), [(0, 0), (0, 0), (0, 0)], [], [], [1])])
theorem hd_531 : con_531.1 = (yX12_bit, cX12_bit, 2, (some .int)) := rfl
noncomputable def ct_531 : CTB2 := []
noncomputable def cu_531 : List CUT2 := []
theorem ch_531 : staG tb_X12_bit 1 bt_RX12 [] ct_531 [] [] cu_531 8 con_531 = true := by decide +kernel
theorem cto_531 (l : Launch) : CTOK2 l RX12 vwCl gTbl ct_531 := ct2_nil
theorem vl_531 (l : Launch) : Vld2 l vwCl gTbl con_531 := conR_ok3 gT_all (hd_531) rfl pn_RX12 tk_X12_bit bo_RX12 xo_RX12 (cto_531 l) ch_531 cut_nil
/-- RookHustingModel bit -/
noncomputable def con_532 : Con2 := ((yX12_bit, cX12_bit, 2, (some .int)), (0, 0), ([(0, 23, 0), (0, 4, 0)], [(0, 0), (0, 0)], [], []), [((0, 1, 0), [(0, 0), (0, 0), (0, 0)], [], [], [1])])
theorem hd_532 : con_532.1 = (yX12_bit, cX12_bit, 2, (some .int)) := rfl
noncomputable def ct_532 : CTB2 := []
noncomputable def cu_532 : List CUT2 := []
theorem ch_532 : staG tb_X12_bit 1 bt_RX12 [] ct_532 [] [] cu_532 8 con_532 = true := by decide +kernel
theorem cto_532 (l : Launch) : CTOK2 l RX12 vwCl gTbl ct_532 := ct2_nil
theorem vl_532 (l : Launch) : Vld2 l vwCl gTbl con_532 := conR_ok3 gT_all (hd_532) rfl pn_RX12 tk_X12_bit bo_RX12 xo_RX12 (cto_532 l) ch_532 cut_nil
/-- RookHustingModel bit -/
noncomputable def con_533 : Con2 := ((yX12_bit, cX12_bit, 2, (some .int)), (0, 0), ([(0, 23, 0), (0, 3, 0)], [(0, 0), (0, 0)], [], []), [((0, 0, 0), [(0, 0), (0, 0), (0, 0)], [], [], [1])])
theorem hd_533 : con_533.1 = (yX12_bit, cX12_bit, 2, (some .int)) := rfl
noncomputable def ct_533 : CTB2 := []
noncomputable def cu_533 : List CUT2 := []
theorem ch_533 : staG tb_X12_bit 1 bt_RX12 [] ct_533 [] [] cu_533 8 con_533 = true := by decide +kernel
theorem cto_533 (l : Launch) : CTOK2 l RX12 vwCl gTbl ct_533 := ct2_nil
theorem vl_533 (l : Launch) : Vld2 l vwCl gTbl con_533 := conR_ok3 gT_all (hd_533) rfl pn_RX12 tk_X12_bit bo_RX12 xo_RX12 (cto_533 l) ch_533 cut_nil
/-- RookHustingModel bit -/
noncomputable def con_534 : Con2 := ((yX12_bit, cX12_bit, 2, (some .int)), (0, 0), ([(0, 23, 0), (0, 2, 0)], [(0, 0), (0, 0)], [], []), [((0, 1, 0), [(0, 0), (0, 0), (0, 0)], [], [], [1])])
theorem hd_534 : con_534.1 = (yX12_bit, cX12_bit, 2, (some .int)) := rfl
noncomputable def ct_534 : CTB2 := []
noncomputable def cu_534 : List CUT2 := []
theorem ch_534 : staG tb_X12_bit 1 bt_RX12 [] ct_534 [] [] cu_534 8 con_534 = true := by decide +kernel
theorem cto_534 (l : Launch) : CTOK2 l RX12 vwCl gTbl ct_534 := ct2_nil
theorem vl_534 (l : Launch) : Vld2 l vwCl gTbl con_534 := conR_ok3 gT_all (hd_534) rfl pn_RX12 tk_X12_bit bo_RX12 xo_RX12 (cto_534 l) ch_534 cut_nil
/-- RookHustingModel bit -/
noncomputable def con_535 : Con2 := ((yX12_bit, cX12_bit, 2, (some .int)), (0, 0), ([(0, 23, 0), (0, 1, 0)], [(0, 0), (0, 0)], [], []), [((0, 1, 0), [(0, 0), (0, 0), (0, 0)], [], [], [1])])
theorem hd_535 : con_535.1 = (yX12_bit, cX12_bit, 2, (some .int)) := rfl
noncomputable def ct_535 : CTB2 := []
noncomputable def cu_535 : List CUT2 := []
theorem ch_535 : staG tb_X12_bit 1 bt_RX12 [] ct_535 [] [] cu_535 8 con_535 = true := by decide +kernel
theorem cto_535 (l : Launch) : CTOK2 l RX12 vwCl gTbl ct_535 := ct2_nil
theorem vl_535 (l : Launch) : Vld2 l vwCl gTbl con_535 := conR_ok3 gT_all (hd_535) rfl pn_RX12 tk_X12_bit bo_RX12 xo_RX12 (cto_535 l) ch_535 cut_nil
/-- RookHustingModel bit -/
noncomputable def con_536 : Con2 := ((yX12_bit, cX12_bit, 2, (some .int)), (0, 0), ([(0, 23, 0), (0, 0, 0)], [(0, 0), (0, 0)], [], []), [((0, 1, 0), [(0, 0), (0, 0), (0, 0)], [], [], [1])])
theorem hd_536 : con_536.1 = (yX12_bit, cX12_bit, 2, (some .int)) := rfl
noncomputable def ct_536 : CTB2 := []
noncomputable def cu_536 : List CUT2 := []
theorem ch_536 : staG tb_X12_bit 1 bt_RX12 [] ct_536 [] [] cu_536 8 con_536 = true := by decide +kernel
theorem cto_536 (l : Launch) : CTOK2 l RX12 vwCl gTbl ct_536 := ct2_nil
theorem vl_536 (l : Launch) : Vld2 l vwCl gTbl con_536 := conR_ok3 gT_all (hd_536) rfl pn_RX12 tk_X12_bit bo_RX12 xo_RX12 (cto_536 l) ch_536 cut_nil
/-- RookHustingModel bit -/
noncomputable def con_537 : Con2 := ((yX12_bit, cX12_bit, 2, (some .int)), (0, 0), ([(0, 15, 0), (0, 4, 0)], [(0, 0), (0, 0)], [], []), [((0, 0, 0), [(0, 0), (0, 0), (0, 0)], [], [], [1])])
theorem hd_537 : con_537.1 = (yX12_bit, cX12_bit, 2, (some .int)) := rfl
noncomputable def ct_537 : CTB2 := []
noncomputable def cu_537 : List CUT2 := []
theorem ch_537 : staG tb_X12_bit 1 bt_RX12 [] ct_537 [] [] cu_537 8 con_537 = true := by decide +kernel
theorem cto_537 (l : Launch) : CTOK2 l RX12 vwCl gTbl ct_537 := ct2_nil
theorem vl_537 (l : Launch) : Vld2 l vwCl gTbl con_537 := conR_ok3 gT_all (hd_537) rfl pn_RX12 tk_X12_bit bo_RX12 xo_RX12 (cto_537 l) ch_537 cut_nil
/-- RookHustingModel bit -/
noncomputable def con_538 : Con2 := ((yX12_bit, cX12_bit, 2, (some .int)), (0, 0), ([(0, 15, 0), (0, 3, 0)], [(0, 0), (0, 0)], [], []), [((0, 1, 0), [(0, 0), (0, 0), (0, 0)], [], [], [1])])
theorem hd_538 : con_538.1 = (yX12_bit, cX12_bit, 2, (some .int)) := rfl
noncomputable def ct_538 : CTB2 := []
noncomputable def cu_538 : List CUT2 := []
theorem ch_538 : staG tb_X12_bit 1 bt_RX12 [] ct_538 [] [] cu_538 8 con_538 = true := by decide +kernel
theorem cto_538 (l : Launch) : CTOK2 l RX12 vwCl gTbl ct_538 := ct2_nil
theorem vl_538 (l : Launch) : Vld2 l vwCl gTbl con_538 := conR_ok3 gT_all (hd_538) rfl pn_RX12 tk_X12_bit bo_RX12 xo_RX12 (cto_538 l) ch_538 cut_nil
/-- RookHustingModel bit -/
noncomputable def con_539 : Con2 := ((yX12_bit, cX12_bit, 2, (some .int)), (0, 0), ([(0, 15, 0), (0, 2, 0)], [(0, 0), (0, 0)], [], []), [((0, 1, 0), [(0, 0), (0, 0), (0, 0)], [], [], [1])])
theorem hd_539 : con_539.1 = (yX12_bit, cX12_bit, 2, (some .int)) := rfl
noncomputable def ct_539 : CTB2 := []
noncomputable def cu_539 : List CUT2 := []
theorem ch_539 : staG tb_X12_bit 1 bt_RX12 [] ct_539 [] [] cu_539 8 con_539 = true := by decide +kernel
theorem cto_539 (l : Launch) : CTOK2 l RX12 vwCl gTbl ct_539 := ct2_nil
theorem vl_539 (l : Launch) : Vld2 l vwCl gTbl con_539 := conR_ok3 gT_all (hd_539) rfl pn_RX12 tk_X12_bit bo_RX12 xo_RX12 (cto_539 l) ch_539 cut_nil
/-- RookHustingModel bit -/
noncomputable def con_540 : Con2 := ((yX12_bit, cX12_bit, 2, (some .int)), (0, 0), ([(0, 15, 0), (0, 1, 0)], [(0, 0), (0, 0)], [], []), [((0, 1, 0), [(0, 0), (0, 0), (0, 0)], [], [], [1])])
theorem hd_540 : con_540.1 = (yX12_bit, cX12_bit, 2, (some .int)) := rfl
noncomputable def ct_540 : CTB2 := []
noncomputable def cu_540 : List CUT2 := []
theorem ch_540 : staG tb_X12_bit 1 bt_RX12 [] ct_540 [] [] cu_540 8 con_540 = true := by decide +kernel
theorem cto_540 (l : Launch) : CTOK2 l RX12 vwCl gTbl ct_540 := ct2_nil
theorem vl_540 (l : Launch) : Vld2 l vwCl gTbl con_540 := conR_ok3 gT_all (hd_540) rfl pn_RX12 tk_X12_bit bo_RX12 xo_RX12 (cto_540 l) ch_540 cut_nil
/-- RookHustingModel bit -/
noncomputable def con_541 : Con2 := ((yX12_bit, cX12_bit, 2, (some .int)), (0, 0), ([(0, 15, 0), (0, 0, 0)], [(0, 0), (0, 0)], [], []), [((0, 1, 0), [(0, 0), (0, 0), (0, 0)], [], [], [1])])
theorem hd_541 : con_541.1 = (yX12_bit, cX12_bit, 2, (some .int)) := rfl
noncomputable def ct_541 : CTB2 := []
noncomputable def cu_541 : List CUT2 := []
theorem ch_541 : staG tb_X12_bit 1 bt_RX12 [] ct_541 [] [] cu_541 8 con_541 = true := by decide +kernel
theorem cto_541 (l : Launch) : CTOK2 l RX12 vwCl gTbl ct_541 := ct2_nil
theorem vl_541 (l : Launch) : Vld2 l vwCl gTbl con_541 := conR_ok3 gT_all (hd_541) rfl pn_RX12 tk_X12_bit bo_RX12 xo_RX12 (cto_541 l) ch_541 cut_nil
/-- RookHustingModel bit -/
noncomputable def con_542 : Con2 := ((yX12_bit, cX12_bit, 2, (some .int)), (0, 0), ([(0, 31, 0), (0, 4, 0)], [(0, 0), (0, 0)], [], []), [((0, 1, 0), [(0, 0), (0, 0), (0, 0)], [], [], [1])])
theorem hd_542 : con_542.1 = (yX12_bit, cX12_bit, 2, (some .int)) := rfl
noncomputable def ct_542 : CTB2 := []
noncomputable def cu_542 : List CUT2 := []
theorem ch_542 : staG tb_X12_bit 1 bt_RX12 [] ct_542 [] [] cu_542 8 con_542 = true := by decide +kernel
theorem cto_542 (l : Launch) : CTOK2 l RX12 vwCl gTbl ct_542 := ct2_nil
theorem vl_542 (l : Launch) : Vld2 l vwCl gTbl con_542 := conR_ok3 gT_all (hd_542) rfl pn_RX12 tk_X12_bit bo_RX12 xo_RX12 (cto_542 l) ch_542 cut_nil
/-- RookHustingModel bit -/
noncomputable def con_543 : Con2 := ((yX12_bit, cX12_bit, 2, (some .int)), (0, 0), ([(0, 31, 0), (0, 3, 0)], [(0, 0), (0, 0)], [], []), [((0, 1, 0), [(0, 0), (0, 0), (0, 0)], [], [], [1])])
theorem hd_543 : con_543.1 = (yX12_bit, cX12_bit, 2, (some .int)) := rfl
noncomputable def ct_543 : CTB2 := []
noncomputable def cu_543 : List CUT2 := []
theorem ch_543 : staG tb_X12_bit 1 bt_RX12 [] ct_543 [] [] cu_543 8 con_543 = true := by decide +kernel
theorem cto_543 (l : Launch) : CTOK2 l RX12 vwCl gTbl ct_543 := ct2_nil
theorem vl_543 (l : Launch) : Vld2 l vwCl gTbl con_543 := conR_ok3 gT_all (hd_543) rfl pn_RX12 tk_X12_bit bo_RX12 xo_RX12 (cto_543 l) ch_543 cut_nil
/-- RookHustingModel bit -/
noncomputable def con_544 : Con2 := ((yX12_bit, cX12_bit, 2, (some .int)), (0, 0), ([(0, 31, 0), (0, 2, 0)], [(0, 0), (0, 0)], [], []), [((0, 1, 0), [(0, 0), (0, 0), (0, 0)], [], [], [1])])
theorem hd_544 : con_544.1 = (yX12_bit, cX12_bit, 2, (some .int)) := rfl
noncomputable def ct_544 : CTB2 := []
noncomputable def cu_544 : List CUT2 := []
theorem ch_544 : staG tb_X12_bit 1 bt_RX12 [] ct_544 [] [] cu_544 8 con_544 = true := by decide +kernel
theorem cto_544 (l : Launch) : CTOK2 l RX12 vwCl gTbl ct_544 := ct2_nil
theorem vl_544 (l : Launch) : Vld2 l vwCl gTbl con_544 := conR_ok3 gT_all (hd_544) rfl pn_RX12 tk_X12_bit bo_RX12 xo_RX12 (cto_544 l) ch_544 cut_nil
/-- RookHustingModel bit -/
noncomputable def con_545 : Con2 := ((yX12_bit, cX12_bit, 2, (some .int)), (0, 0), ([(0, 31, 0), (0, 1, 0)], [(0, 0), (0, 0)], [], []), [((0, 1, 0), [(0, 0), (0, 0), (0, 0)], [], [], [1])])
theorem hd_545 : con_545.1 = (yX12_bit, cX12_bit, 2, (some .int)) := rfl
noncomputable def ct_545 : CTB2 := []
noncomputable def cu_545 : List CUT2 := []
theorem ch_545 : staG tb_X12_bit 1 bt_RX12 [] ct_545 [] [] cu_545 8 con_545 = true := by decide +kernel
theorem cto_545 (l : Launch) : CTOK2 l RX12 vwCl gTbl ct_545 := ct2_nil
theorem vl_545 (l : Launch) : Vld2 l vwCl gTbl con_545 := conR_ok3 gT_all (hd_545) rfl pn_RX12 tk_X12_bit bo_RX12 xo_RX12 (cto_545 l) ch_545 cut_nil
/-- RookHustingModel bit -/
noncomputable def con_546 : Con2 := ((yX12_bit, cX12_bit, 2, (some .int)), (0, 0), ([(0, 31, 0), (0, 0, 0)], [(0, 0), (0, 0)], [], []), [((0, 1, 0), [(0, 0), (0, 0), (0, 0)], [], [], [1])])
theorem hd_546 : con_546.1 = (yX12_bit, cX12_bit, 2, (some .int)) := rfl
noncomputable def ct_546 : CTB2 := []
noncomputable def cu_546 : List CUT2 := []
theorem ch_546 : staG tb_X12_bit 1 bt_RX12 [] ct_546 [] [] cu_546 8 con_546 = true := by decide +kernel
theorem cto_546 (l : Launch) : CTOK2 l RX12 vwCl gTbl ct_546 := ct2_nil
theorem vl_546 (l : Launch) : Vld2 l vwCl gTbl con_546 := conR_ok3 gT_all (hd_546) rfl pn_RX12 tk_X12_bit bo_RX12 xo_RX12 (cto_546 l) ch_546 cut_nil
/-- RookHustingModel readVoter -/
def gi_215 : GI := [(0, 0), (0, 0), (0, 0), (0, 0), (0, 0), (0, 0), (0, 0), (0, 0), (0, 700), (0, 700), (0, 700), (0, 4), ((-2147483648), 2147483647), (0, 0), ((-1), 700), (0, 0), (0, 0), (0, 0), (0, 0), (0, 0), (0, 0), (0, 0), (0, 0), (0, 0), (0, 0), (0, 0), (0, 0), (0, 0), (0, 0), (0, 0), (0, 0), (0, 0), (0, 0), (0, 0), (0, 0), (0, 0), (0, 0), (0, 0), (0, 0), (0, 0), (0, 0), (0, 0), (0, 0), (0, 0), (0, 0), (0, 0), (0, 16), (0, 3), (0, 10), (0, 5), (0, 8), (0, 5), (0, 0), (0, 30), (1, 26), (0, 0), (0, 0), (0, 0), (0, 0), (0, 0), (0, 0), (0, 0), (0, 0), (0, 0), (0, 0), (0, 0), (0, 0), (0, 0), (0, 0)]
def ac_156 : AC := .inr (1, [(1, (1, 46, 0)), (1, (1, 47, 0)), (1, (1, 48, 0)), (1, (1, 49, 0)), (1, (1, 50, 0)), (1, (1, 51, 0)), (1, (0, 0, 0)), (1, (1, 53, 0)), (1, (1, 54, 0)), (10, (2, 0, 300)), (16, (2, 0, 4)), (10, (2, 0, 40)), (1, (2, 0, 9)), (1, (0, 0, 0)), (5, (2, 0, 4)), (1, (2, 0, 9)), (1, (0, 0, 0)), (5, (2, 0, 4)), (1, (2, 0, 9)), (1, (0, 0, 0)), (5, (2, 0, 4)), (1, (2, 0, 9)), (1, (0, 0, 0)), (5, (2, 0, 4)), (1, (2, 0, 9)), (1, (0, 0, 0)), (5, (2, 0, 4)), (1, (2, 0, 9)), (1, (0, 0, 0)), (5, (2, 0, 4)), (1, (2, 0, 9)), (1, (0, 0, 0)), (5, (2, 0, 4)), (30, (0, 0, 0))])
def gi_216 : GI := [(0, 0), (0, 0), (0, 0), (0, 0), (0, 0), (0, 0), (0, 0), (0, 0), (0, 700), (0, 700), (0, 700), (0, 4), ((-2147483648), 2147483647), (0, 0), ((-1), 700), (0, 0), (0, 0), (0, 0), (0, 0), (0, 0), (0, 0), (0, 0), (0, 0), (0, 0), (0, 0), (0, 0), (0, 0), (0, 0), (0, 0), (0, 0), (0, 0), (0, 0), (0, 0), (0, 0), (0, 0), (0, 0), (0, 0), (0, 0), (0, 0), (0, 0), (0, 0), (0, 0), (0, 0), (0, 0), (0, 0), (0, 0), (0, 16), (0, 3), (0, 10), (0, 5), (0, 8), (0, 5), (0, 0), (0, 30), (1, 26), (0, 0), (0, 0), (0, 0), (0, 0), (0, 0), (0, 0), (0, 0), (0, 0), (0, 0), (0, 0), (0, 0), (0, 0), (0, 0), (0, 0), (0, 0), (0, 0), (0, 0), (0, 0), (0, 0), (0, 0), (0, 0), (0, 0), (0, 700), (0, 700), (0, 4), ((-2147483648), 2147483647), (1, 2), (0, 700), (0, 0), (0, 0), (0, 0), (0, 0), (0, 0), (0, 0), (0, 0), (0, 0), (0, 0), (0, 0), (0, 0), (0, 0), (0, 0), (0, 0), (0, 0), (0, 0), (0, 0), (0, 0), (0, 0), (0, 0), (0, 0), (0, 0), (0, 0), (0, 0), (0, 0), (0, 0), (0, 0), (0, 0), (0, 0), (0, 0), (0, 0), (0, 0), (0, 0), (0, 0), (0, 0), (0, 0), (0, 0), (0, 1), (0, 0), (0, 0), (0, 0), (0, 0), (0, 0), (0, 0), (0, 0), (0, 0), (0, 0), (0, 0), (0, 0), (0, 0), (0, 0), (0, 0), (0, 0), (0, 0)]
def ac_157 : AC := .inr (1, [(1, (1, 46, 0)), (1, (1, 47, 0)), (1, (1, 48, 0)), (1, (1, 49, 0)), (1, (1, 50, 0)), (1, (1, 51, 0)), (1, (1, 120, 0)), (1, (1, 53, 0)), (1, (1, 54, 0)), (10, (2, 0, 300)), (16, (2, 0, 4)), (10, (2, 0, 40)), (1, (2, 0, 9)), (1, (2, 0, 5)), (5, (2, 0, 4)), (1, (2, 0, 9)), (1, (0, 0, 0)), (5, (2, 0, 4)), (1, (2, 0, 9)), (1, (0, 0, 0)), (5, (2, 0, 4)), (1, (2, 0, 9)), (1, (0, 0, 0)), (5, (2, 0, 4)), (1, (2, 0, 9)), (1, (0, 0, 0)), (5, (2, 0, 4)), (1, (2, 0, 9)), (1, (0, 0, 0)), (5, (2, 0, 4)), (1, (2, 0, 9)), (1, (0, 0, 0)), (5, (2, 0, 4)), (30, (0, 0, 0))])
def gi_217 : GI := [(0, 0), (0, 0), (0, 0), (0, 0), (0, 0), (0, 0), (0, 0), (0, 0), (0, 700), (0, 700), (0, 700), (1, 1), ((-2147483648), 2147483647), (0, 0), ((-1), 700), (0, 0), (0, 0), (0, 0), (0, 0), (0, 0), (0, 0), (0, 0), (0, 0), (0, 0), (0, 0), (0, 0), (0, 0), (0, 0), (0, 0), (0, 0), (0, 0), (0, 0), (0, 0), (0, 0), (0, 0), (0, 0), (0, 0), (0, 0), (0, 0), (0, 0), (0, 0), (0, 0), (0, 0), (0, 0), (0, 0), (0, 0), (0, 16), (0, 3), (0, 10), (0, 5), (0, 8), (0, 5), (0, 0), (0, 30), (1, 26), (0, 0), (0, 0), (0, 0), (0, 0), (0, 0), (0, 0), (0, 0), (0, 0), (0, 0), (0, 0), (0, 0), (0, 0), (0, 0), (0, 0), (0, 0), (0, 0), (0, 0), (0, 0), (0, 0), (0, 0), (0, 0), (0, 0), (0, 700), (0, 700), (0, 4), ((-2147483648), 2147483647), (0, 0), (0, 0), (0, 0), (0, 0), (0, 0), (0, 0), (0, 0), (0, 0), (0, 0), (0, 0), (0, 0), (0, 0), (0, 0), (0, 0), (0, 0), (0, 0), (0, 0), (0, 0), (0, 0), (0, 0), (0, 0), (0, 0), (0, 0), (0, 0), (0, 0), (0, 0), (0, 0), (0, 0), (0, 0), (0, 0), (0, 0), (0, 0), (0, 0), (0, 0), (0, 0), (0, 0), (0, 0), (0, 0), (0, 0), (0, 0), (0, 0), (0, 0), (0, 0), (0, 0), (0, 0), (0, 0), (0, 0), (0, 0), (0, 0), (0, 0), (0, 0), (0, 0), (0, 0), (0, 0), (0, 0), (0, 0)]
def ac_158 : AC := .inr (1, [(1, (1, 46, 0)), (1, (1, 47, 0)), (1, (1, 48, 0)), (1, (1, 49, 0)), (1, (1, 50, 0)), (1, (1, 51, 0)), (1, (0, 1, 0)), (1, (1, 53, 0)), (1, (1, 54, 0)), (10, (2, 0, 300)), (16, (2, 0, 4)), (10, (2, 0, 40)), (1, (2, 1, 9)), (1, (2, 0, 5)), (5, (2, 0, 4)), (1, (2, 0, 9)), (1, (0, 0, 0)), (5, (2, 0, 4)), (1, (2, 0, 9)), (1, (0, 0, 0)), (5, (2, 0, 4)), (1, (2, 0, 9)), (1, (0, 0, 0)), (5, (2, 0, 4)), (1, (2, 0, 9)), (1, (0, 0, 0)), (5, (2, 0, 4)), (1, (2, 0, 9)), (1, (0, 0, 0)), (5, (2, 0, 4)), (1, (2, 0, 9)), (1, (0, 0, 0)), (5, (2, 0, 4)), (30, (0, 0, 0))])
noncomputable def con_547 : Con2 := ((yX12_readVoter, cX12_readVoter, 4, none), (12, 289), ([(6, 0, 0)], gi_215, [ac_148, ac_156, .inr (0, [(700, (2, (-128), 127))])], []), [((9, 0, 0), gi_216, [(true, ac_149), (true, ac_157), (false, .inr (0, [(700, (2, (-128), 127))]))], [], [1, 1, 1, 1, 1, 1, 1, 1, 1, 1, 1, 1, 1, 1, 1, 1, 1, 1, 1, 1, 1, 1, 1, 1, 1, 1, 1, 1, 1, 1, 1, 1, 1, 1, 1, 1, 1, 1, 1, 1, 1, 1, 1, 1, 1, 1, 1, 1, 1, 1, 1, 1, 1, 1, 1, 1, 1, 1, 1, 1, 1, 1, 1, 1, 1, 1, 1, 1]), ((9, 0, 0), gi_217, [(true, ac_151), (true, ac_158), (false, .inr (0, [(700, (2, (-128), 127))]))], [], [1, 1, 1, 1, 1, 1, 1, 1, 1, 1, 1, 1, 1, 1, 1, 1, 1, 1, 1, 1, 1, 1, 1, 1, 1, 1, 1, 1, 1, 1, 1, 1, 1, 1, 1, 1, 1, 1, 1, 1, 1, 1, 1, 1, 1, 1, 1, 1, 1, 1, 1, 1, 1, 1, 1, 1, 1, 1, 1, 1, 1, 1, 1, 1, 1, 1, 1, 1])])
theorem hd_547 : con_547.1 = (yX12_readVoter, cX12_readVoter, 4, none) := rfl
theorem ck_RX12_183_391 : COK2 RX12 vwCl gTbl 183 0 con_391 := ⟨wd_1618, wd_137, mh_X12_number, .inr (.inr ⟨rfl, wd_1615, wd_1617, wd_61, ⟨_, rfl, pd_X12_number⟩, 12, _, TX12, 45, rfl, rfl⟩)⟩
theorem ck_RX12_183_385 : COK2 RX12 vwCl gTbl 183 0 con_385 := ⟨wd_1618, wd_137, mh_X12_number, .inr (.inr ⟨rfl, wd_1615, wd_1617, wd_61, ⟨_, rfl, pd_X12_number⟩, 12, _, TX12, 45, rfl, rfl⟩)⟩
theorem ck_RX12_199_390 : COK2 RX12 vwCl gTbl 199 1 con_390 := ⟨wd_1648, wd_137, mh_X12_bit, .inl ⟨rfl, wd_1646, wd_1647, pd_X12_bit⟩⟩
theorem ck_RX12_199_383 : COK2 RX12 vwCl gTbl 199 1 con_383 := ⟨wd_1648, wd_137, mh_X12_bit, .inl ⟨rfl, wd_1646, wd_1647, pd_X12_bit⟩⟩
theorem ck_RX12_199_386 : COK2 RX12 vwCl gTbl 199 1 con_386 := ⟨wd_1648, wd_137, mh_X12_bit, .inl ⟨rfl, wd_1646, wd_1647, pd_X12_bit⟩⟩
theorem ck_RX12_199_387 : COK2 RX12 vwCl gTbl 199 1 con_387 := ⟨wd_1648, wd_137, mh_X12_bit, .inl ⟨rfl, wd_1646, wd_1647, pd_X12_bit⟩⟩
theorem ck_RX12_199_388 : COK2 RX12 vwCl gTbl 199 1 con_388 := ⟨wd_1648, wd_137, mh_X12_bit, .inl ⟨rfl, wd_1646, wd_1647, pd_X12_bit⟩⟩
theorem ck_RX12_199_389 : COK2 RX12 vwCl gTbl 199 1 con_389 := ⟨wd_1648, wd_137, mh_X12_bit, .inl ⟨rfl, wd_1646, wd_1647, pd_X12_bit⟩⟩
theorem ck_RX12_199_392 : COK2 RX12 vwCl gTbl 199 1 con_392 := ⟨wd_1648, wd_137, mh_X12_bit, .inl ⟨rfl, wd_1646, wd_1647, pd_X12_bit⟩⟩
theorem ck_RX12_199_393 : COK2 RX12 vwCl gTbl 199 1 con_393 := ⟨wd_1648, wd_137, mh_X12_bit, .inl ⟨rfl, wd_1646, wd_1647, pd_X12_bit⟩⟩
theorem ck_RX12_199_394 : COK2 RX12 vwCl gTbl 199 1 con_394 := ⟨wd_1648, wd_137, mh_X12_bit, .inl ⟨rfl, wd_1646, wd_1647, pd_X12_bit⟩⟩
theorem ck_RX12_199_395 : COK2 RX12 vwCl gTbl 199 1 con_395 := ⟨wd_1648, wd_137, mh_X12_bit, .inl ⟨rfl, wd_1646, wd_1647, pd_X12_bit⟩⟩
theorem ck_RX12_199_396 : COK2 RX12 vwCl gTbl 199 1 con_396 := ⟨wd_1648, wd_137, mh_X12_bit, .inl ⟨rfl, wd_1646, wd_1647, pd_X12_bit⟩⟩
theorem ck_RX12_199_397 : COK2 RX12 vwCl gTbl 199 1 con_397 := ⟨wd_1648, wd_137, mh_X12_bit, .inl ⟨rfl, wd_1646, wd_1647, pd_X12_bit⟩⟩
theorem ck_RX12_199_398 : COK2 RX12 vwCl gTbl 199 1 con_398 := ⟨wd_1648, wd_137, mh_X12_bit, .inl ⟨rfl, wd_1646, wd_1647, pd_X12_bit⟩⟩
theorem ck_RX12_199_399 : COK2 RX12 vwCl gTbl 199 1 con_399 := ⟨wd_1648, wd_137, mh_X12_bit, .inl ⟨rfl, wd_1646, wd_1647, pd_X12_bit⟩⟩
theorem ck_RX12_199_400 : COK2 RX12 vwCl gTbl 199 1 con_400 := ⟨wd_1648, wd_137, mh_X12_bit, .inl ⟨rfl, wd_1646, wd_1647, pd_X12_bit⟩⟩
theorem ck_RX12_199_401 : COK2 RX12 vwCl gTbl 199 1 con_401 := ⟨wd_1648, wd_137, mh_X12_bit, .inl ⟨rfl, wd_1646, wd_1647, pd_X12_bit⟩⟩
theorem ck_RX12_199_402 : COK2 RX12 vwCl gTbl 199 1 con_402 := ⟨wd_1648, wd_137, mh_X12_bit, .inl ⟨rfl, wd_1646, wd_1647, pd_X12_bit⟩⟩
theorem ck_RX12_199_403 : COK2 RX12 vwCl gTbl 199 1 con_403 := ⟨wd_1648, wd_137, mh_X12_bit, .inl ⟨rfl, wd_1646, wd_1647, pd_X12_bit⟩⟩
theorem ck_RX12_199_404 : COK2 RX12 vwCl gTbl 199 1 con_404 := ⟨wd_1648, wd_137, mh_X12_bit, .inl ⟨rfl, wd_1646, wd_1647, pd_X12_bit⟩⟩
theorem ck_RX12_199_405 : COK2 RX12 vwCl gTbl 199 1 con_405 := ⟨wd_1648, wd_137, mh_X12_bit, .inl ⟨rfl, wd_1646, wd_1647, pd_X12_bit⟩⟩
theorem ck_RX12_199_406 : COK2 RX12 vwCl gTbl 199 1 con_406 := ⟨wd_1648, wd_137, mh_X12_bit, .inl ⟨rfl, wd_1646, wd_1647, pd_X12_bit⟩⟩
theorem ck_RX12_199_407 : COK2 RX12 vwCl gTbl 199 1 con_407 := ⟨wd_1648, wd_137, mh_X12_bit, .inl ⟨rfl, wd_1646, wd_1647, pd_X12_bit⟩⟩
theorem ck_RX12_199_408 : COK2 RX12 vwCl gTbl 199 1 con_408 := ⟨wd_1648, wd_137, mh_X12_bit, .inl ⟨rfl, wd_1646, wd_1647, pd_X12_bit⟩⟩
theorem ck_RX12_199_409 : COK2 RX12 vwCl gTbl 199 1 con_409 := ⟨wd_1648, wd_137, mh_X12_bit, .inl ⟨rfl, wd_1646, wd_1647, pd_X12_bit⟩⟩
theorem ck_RX12_199_410 : COK2 RX12 vwCl gTbl 199 1 con_410 := ⟨wd_1648, wd_137, mh_X12_bit, .inl ⟨rfl, wd_1646, wd_1647, pd_X12_bit⟩⟩
theorem ck_RX12_199_411 : COK2 RX12 vwCl gTbl 199 1 con_411 := ⟨wd_1648, wd_137, mh_X12_bit, .inl ⟨rfl, wd_1646, wd_1647, pd_X12_bit⟩⟩
theorem ck_RX12_199_412 : COK2 RX12 vwCl gTbl 199 1 con_412 := ⟨wd_1648, wd_137, mh_X12_bit, .inl ⟨rfl, wd_1646, wd_1647, pd_X12_bit⟩⟩
theorem ck_RX12_199_413 : COK2 RX12 vwCl gTbl 199 1 con_413 := ⟨wd_1648, wd_137, mh_X12_bit, .inl ⟨rfl, wd_1646, wd_1647, pd_X12_bit⟩⟩
theorem ck_RX12_199_414 : COK2 RX12 vwCl gTbl 199 1 con_414 := ⟨wd_1648, wd_137, mh_X12_bit, .inl ⟨rfl, wd_1646, wd_1647, pd_X12_bit⟩⟩
theorem ck_RX12_199_415 : COK2 RX12 vwCl gTbl 199 1 con_415 := ⟨wd_1648, wd_137, mh_X12_bit, .inl ⟨rfl, wd_1646, wd_1647, pd_X12_bit⟩⟩
theorem ck_RX12_199_416 : COK2 RX12 vwCl gTbl 199 1 con_416 := ⟨wd_1648, wd_137, mh_X12_bit, .inl ⟨rfl, wd_1646, wd_1647, pd_X12_bit⟩⟩
theorem ck_RX12_199_417 : COK2 RX12 vwCl gTbl 199 1 con_417 := ⟨wd_1648, wd_137, mh_X12_bit, .inl ⟨rfl, wd_1646, wd_1647, pd_X12_bit⟩⟩
theorem ck_RX12_199_418 : COK2 RX12 vwCl gTbl 199 1 con_418 := ⟨wd_1648, wd_137, mh_X12_bit, .inl ⟨rfl, wd_1646, wd_1647, pd_X12_bit⟩⟩
theorem ck_RX12_199_419 : COK2 RX12 vwCl gTbl 199 1 con_419 := ⟨wd_1648, wd_137, mh_X12_bit, .inl ⟨rfl, wd_1646, wd_1647, pd_X12_bit⟩⟩
theorem ck_RX12_199_420 : COK2 RX12 vwCl gTbl 199 1 con_420 := ⟨wd_1648, wd_137, mh_X12_bit, .inl ⟨rfl, wd_1646, wd_1647, pd_X12_bit⟩⟩
theorem ck_RX12_199_421 : COK2 RX12 vwCl gTbl 199 1 con_421 := ⟨wd_1648, wd_137, mh_X12_bit, .inl ⟨rfl, wd_1646, wd_1647, pd_X12_bit⟩⟩
theorem ck_RX12_199_422 : COK2 RX12 vwCl gTbl 199 1 con_422 := ⟨wd_1648, wd_137, mh_X12_bit, .inl ⟨rfl, wd_1646, wd_1647, pd_X12_bit⟩⟩
theorem ck_RX12_199_423 : COK2 RX12 vwCl gTbl 199 1 con_423 := ⟨wd_1648, wd_137, mh_X12_bit, .inl ⟨rfl, wd_1646, wd_1647, pd_X12_bit⟩⟩
theorem ck_RX12_199_424 : COK2 RX12 vwCl gTbl 199 1 con_424 := ⟨wd_1648, wd_137, mh_X12_bit, .inl ⟨rfl, wd_1646, wd_1647, pd_X12_bit⟩⟩
theorem ck_RX12_199_425 : COK2 RX12 vwCl gTbl 199 1 con_425 := ⟨wd_1648, wd_137, mh_X12_bit, .inl ⟨rfl, wd_1646, wd_1647, pd_X12_bit⟩⟩
theorem ck_RX12_199_426 : COK2 RX12 vwCl gTbl 199 1 con_426 := ⟨wd_1648, wd_137, mh_X12_bit, .inl ⟨rfl, wd_1646, wd_1647, pd_X12_bit⟩⟩
theorem ck_RX12_199_427 : COK2 RX12 vwCl gTbl 199 1 con_427 := ⟨wd_1648, wd_137, mh_X12_bit, .inl ⟨rfl, wd_1646, wd_1647, pd_X12_bit⟩⟩
theorem ck_RX12_199_428 : COK2 RX12 vwCl gTbl 199 1 con_428 := ⟨wd_1648, wd_137, mh_X12_bit, .inl ⟨rfl, wd_1646, wd_1647, pd_X12_bit⟩⟩
theorem ck_RX12_199_429 : COK2 RX12 vwCl gTbl 199 1 con_429 := ⟨wd_1648, wd_137, mh_X12_bit, .inl ⟨rfl, wd_1646, wd_1647, pd_X12_bit⟩⟩
theorem ck_RX12_199_430 : COK2 RX12 vwCl gTbl 199 1 con_430 := ⟨wd_1648, wd_137, mh_X12_bit, .inl ⟨rfl, wd_1646, wd_1647, pd_X12_bit⟩⟩
theorem ck_RX12_199_431 : COK2 RX12 vwCl gTbl 199 1 con_431 := ⟨wd_1648, wd_137, mh_X12_bit, .inl ⟨rfl, wd_1646, wd_1647, pd_X12_bit⟩⟩
theorem ck_RX12_199_432 : COK2 RX12 vwCl gTbl 199 1 con_432 := ⟨wd_1648, wd_137, mh_X12_bit, .inl ⟨rfl, wd_1646, wd_1647, pd_X12_bit⟩⟩
theorem ck_RX12_199_433 : COK2 RX12 vwCl gTbl 199 1 con_433 := ⟨wd_1648, wd_137, mh_X12_bit, .inl ⟨rfl, wd_1646, wd_1647, pd_X12_bit⟩⟩
theorem ck_RX12_199_434 : COK2 RX12 vwCl gTbl 199 1 con_434 := ⟨wd_1648, wd_137, mh_X12_bit, .inl ⟨rfl, wd_1646, wd_1647, pd_X12_bit⟩⟩
theorem ck_RX12_199_435 : COK2 RX12 vwCl gTbl 199 1 con_435 := ⟨wd_1648, wd_137, mh_X12_bit, .inl ⟨rfl, wd_1646, wd_1647, pd_X12_bit⟩⟩
theorem ck_RX12_199_436 : COK2 RX12 vwCl gTbl 199 1 con_436 := ⟨wd_1648, wd_137, mh_X12_bit, .inl ⟨rfl, wd_1646, wd_1647, pd_X12_bit⟩⟩
theorem ck_RX12_199_437 : COK2 RX12 vwCl gTbl 199 1 con_437 := ⟨wd_1648, wd_137, mh_X12_bit, .inl ⟨rfl, wd_1646, wd_1647, pd_X12_bit⟩⟩
theorem ck_RX12_199_438 : COK2 RX12 vwCl gTbl 199 1 con_438 := ⟨wd_1648, wd_137, mh_X12_bit, .inl ⟨rfl, wd_1646, wd_1647, pd_X12_bit⟩⟩
theorem ck_RX12_199_439 : COK2 RX12 vwCl gTbl 199 1 con_439 := ⟨wd_1648, wd_137, mh_X12_bit, .inl ⟨rfl, wd_1646, wd_1647, pd_X12_bit⟩⟩
theorem ck_RX12_199_440 : COK2 RX12 vwCl gTbl 199 1 con_440 := ⟨wd_1648, wd_137, mh_X12_bit, .inl ⟨rfl, wd_1646, wd_1647, pd_X12_bit⟩⟩
theorem ck_RX12_199_441 : COK2 RX12 vwCl gTbl 199 1 con_441 := ⟨wd_1648, wd_137, mh_X12_bit, .inl ⟨rfl, wd_1646, wd_1647, pd_X12_bit⟩⟩
theorem ck_RX12_199_442 : COK2 RX12 vwCl gTbl 199 1 con_442 := ⟨wd_1648, wd_137, mh_X12_bit, .inl ⟨rfl, wd_1646, wd_1647, pd_X12_bit⟩⟩
theorem ck_RX12_199_443 : COK2 RX12 vwCl gTbl 199 1 con_443 := ⟨wd_1648, wd_137, mh_X12_bit, .inl ⟨rfl, wd_1646, wd_1647, pd_X12_bit⟩⟩
theorem ck_RX12_199_444 : COK2 RX12 vwCl gTbl 199 1 con_444 := ⟨wd_1648, wd_137, mh_X12_bit, .inl ⟨rfl, wd_1646, wd_1647, pd_X12_bit⟩⟩
theorem ck_RX12_199_445 : COK2 RX12 vwCl gTbl 199 1 con_445 := ⟨wd_1648, wd_137, mh_X12_bit, .inl ⟨rfl, wd_1646, wd_1647, pd_X12_bit⟩⟩
theorem ck_RX12_199_446 : COK2 RX12 vwCl gTbl 199 1 con_446 := ⟨wd_1648, wd_137, mh_X12_bit, .inl ⟨rfl, wd_1646, wd_1647, pd_X12_bit⟩⟩
theorem ck_RX12_199_447 : COK2 RX12 vwCl gTbl 199 1 con_447 := ⟨wd_1648, wd_137, mh_X12_bit, .inl ⟨rfl, wd_1646, wd_1647, pd_X12_bit⟩⟩
theorem ck_RX12_199_448 : COK2 RX12 vwCl gTbl 199 1 con_448 := ⟨wd_1648, wd_137, mh_X12_bit, .inl ⟨rfl, wd_1646, wd_1647, pd_X12_bit⟩⟩
theorem ck_RX12_199_449 : COK2 RX12 vwCl gTbl 199 1 con_449 := ⟨wd_1648, wd_137, mh_X12_bit, .inl ⟨rfl, wd_1646, wd_1647, pd_X12_bit⟩⟩
theorem ck_RX12_199_450 : COK2 RX12 vwCl gTbl 199 1 con_450 := ⟨wd_1648, wd_137, mh_X12_bit, .inl ⟨rfl, wd_1646, wd_1647, pd_X12_bit⟩⟩
theorem ck_RX12_199_451 : COK2 RX12 vwCl gTbl 199 1 con_451 := ⟨wd_1648, wd_137, mh_X12_bit, .inl ⟨rfl, wd_1646, wd_1647, pd_X12_bit⟩⟩
theorem ck_RX12_199_452 : COK2 RX12 vwCl gTbl 199 1 con_452 := ⟨wd_1648, wd_137, mh_X12_bit, .inl ⟨rfl, wd_1646, wd_1647, pd_X12_bit⟩⟩
theorem ck_RX12_199_453 : COK2 RX12 vwCl gTbl 199 1 con_453 := ⟨wd_1648, wd_137, mh_X12_bit, .inl ⟨rfl, wd_1646, wd_1647, pd_X12_bit⟩⟩
theorem ck_RX12_199_454 : COK2 RX12 vwCl gTbl 199 1 con_454 := ⟨wd_1648, wd_137, mh_X12_bit, .inl ⟨rfl, wd_1646, wd_1647, pd_X12_bit⟩⟩
theorem ck_RX12_199_455 : COK2 RX12 vwCl gTbl 199 1 con_455 := ⟨wd_1648, wd_137, mh_X12_bit, .inl ⟨rfl, wd_1646, wd_1647, pd_X12_bit⟩⟩
theorem ck_RX12_199_456 : COK2 RX12 vwCl gTbl 199 1 con_456 := ⟨wd_1648, wd_137, mh_X12_bit, .inl ⟨rfl, wd_1646, wd_1647, pd_X12_bit⟩⟩
theorem ck_RX12_199_457 : COK2 RX12 vwCl gTbl 199 1 con_457 := ⟨wd_1648, wd_137, mh_X12_bit, .inl ⟨rfl, wd_1646, wd_1647, pd_X12_bit⟩⟩
theorem ck_RX12_199_458 : COK2 RX12 vwCl gTbl 199 1 con_458 := ⟨wd_1648, wd_137, mh_X12_bit, .inl ⟨rfl, wd_1646, wd_1647, pd_X12_bit⟩⟩
theorem ck_RX12_199_459 : COK2 RX12 vwCl gTbl 199 1 con_459 := ⟨wd_1648, wd_137, mh_X12_bit, .inl ⟨rfl, wd_1646, wd_1647, pd_X12_bit⟩⟩
theorem ck_RX12_199_460 : COK2 RX12 vwCl gTbl 199 1 con_460 := ⟨wd_1648, wd_137, mh_X12_bit, .inl ⟨rfl, wd_1646, wd_1647, pd_X12_bit⟩⟩
theorem ck_RX12_199_461 : COK2 RX12 vwCl gTbl 199 1 con_461 := ⟨wd_1648, wd_137, mh_X12_bit, .inl ⟨rfl, wd_1646, wd_1647, pd_X12_bit⟩⟩
theorem ck_RX12_199_462 : COK2 RX12 vwCl gTbl 199 1 con_462 := ⟨wd_1648, wd_137, mh_X12_bit, .inl ⟨rfl, wd_1646, wd_1647, pd_X12_bit⟩⟩
theorem ck_RX12_199_463 : COK2 RX12 vwCl gTbl 199 1 con_463 := ⟨wd_1648, wd_137, mh_X12_bit, .inl ⟨rfl, wd_1646, wd_1647, pd_X12_bit⟩⟩
theorem ck_RX12_199_464 : COK2 RX12 vwCl gTbl 199 1 con_464 := ⟨wd_1648, wd_137, mh_X12_bit, .inl ⟨rfl, wd_1646, wd_1647, pd_X12_bit⟩⟩
theorem ck_RX12_199_465 : COK2 RX12 vwCl gTbl 199 1 con_465 := ⟨wd_1648, wd_137, mh_X12_bit, .inl ⟨rfl, wd_1646, wd_1647, pd_X12_bit⟩⟩
theorem ck_RX12_199_466 : COK2 RX12 vwCl gTbl 199 1 con_466 := ⟨wd_1648, wd_137, mh_X12_bit, .inl ⟨rfl, wd_1646, wd_1647, pd_X12_bit⟩⟩
theorem ck_RX12_199_467 : COK2 RX12 vwCl gTbl 199 1 con_467 := ⟨wd_1648, wd_137, mh_X12_bit, .inl ⟨rfl, wd_1646, wd_1647, pd_X12_bit⟩⟩
theorem ck_RX12_199_468 : COK2 RX12 vwCl gTbl 199 1 con_468 := ⟨wd_1648, wd_137, mh_X12_bit, .inl ⟨rfl, wd_1646, wd_1647, pd_X12_bit⟩⟩
theorem ck_RX12_199_469 : COK2 RX12 vwCl gTbl 199 1 con_469 := ⟨wd_1648, wd_137, mh_X12_bit, .inl ⟨rfl, wd_1646, wd_1647, pd_X12_bit⟩⟩
theorem ck_RX12_199_470 : COK2 RX12 vwCl gTbl 199 1 con_470 := ⟨wd_1648, wd_137, mh_X12_bit, .inl ⟨rfl, wd_1646, wd_1647, pd_X12_bit⟩⟩
theorem ck_RX12_199_471 : COK2 RX12 vwCl gTbl 199 1 con_471 := ⟨wd_1648, wd_137, mh_X12_bit, .inl ⟨rfl, wd_1646, wd_1647, pd_X12_bit⟩⟩
theorem ck_RX12_199_472 : COK2 RX12 vwCl gTbl 199 1 con_472 := ⟨wd_1648, wd_137, mh_X12_bit, .inl ⟨rfl, wd_1646, wd_1647, pd_X12_bit⟩⟩
theorem ck_RX12_199_473 : COK2 RX12 vwCl gTbl 199 1 con_473 := ⟨wd_1648, wd_137, mh_X12_bit, .inl ⟨rfl, wd_1646, wd_1647, pd_X12_bit⟩⟩
theorem ck_RX12_199_474 : COK2 RX12 vwCl gTbl 199 1 con_474 := ⟨wd_1648, wd_137, mh_X12_bit, .inl ⟨rfl, wd_1646, wd_1647, pd_X12_bit⟩⟩
theorem ck_RX12_199_475 : COK2 RX12 vwCl gTbl 199 1 con_475 := ⟨wd_1648, wd_137, mh_X12_bit, .inl ⟨rfl, wd_1646, wd_1647, pd_X12_bit⟩⟩
theorem ck_RX12_199_476 : COK2 RX12 vwCl gTbl 199 1 con_476 := ⟨wd_1648, wd_137, mh_X12_bit, .inl ⟨rfl, wd_1646, wd_1647, pd_X12_bit⟩⟩
theorem ck_RX12_199_477 : COK2 RX12 vwCl gTbl 199 1 con_477 := ⟨wd_1648, wd_137, mh_X12_bit, .inl ⟨rfl, wd_1646, wd_1647, pd_X12_bit⟩⟩
theorem ck_RX12_199_478 : COK2 RX12 vwCl gTbl 199 1 con_478 := ⟨wd_1648, wd_137, mh_X12_bit, .inl ⟨rfl, wd_1646, wd_1647, pd_X12_bit⟩⟩
theorem ck_RX12_199_479 : COK2 RX12 vwCl gTbl 199 1 con_479 := ⟨wd_1648, wd_137, mh_X12_bit, .inl ⟨rfl, wd_1646, wd_1647, pd_X12_bit⟩⟩
theorem ck_RX12_199_480 : COK2 RX12 vwCl gTbl 199 1 con_480 := ⟨wd_1648, wd_137, mh_X12_bit, .inl ⟨rfl, wd_1646, wd_1647, pd_X12_bit⟩⟩
theorem ck_RX12_199_481 : COK2 RX12 vwCl gTbl 199 1 con_481 := ⟨wd_1648, wd_137, mh_X12_bit, .inl ⟨rfl, wd_1646, wd_1647, pd_X12_bit⟩⟩
theorem ck_RX12_199_482 : COK2 RX12 vwCl gTbl 199 1 con_482 := ⟨wd_1648, wd_137, mh_X12_bit, .inl ⟨rfl, wd_1646, wd_1647, pd_X12_bit⟩⟩
theorem ck_RX12_199_483 : COK2 RX12 vwCl gTbl 199 1 con_483 := ⟨wd_1648, wd_137, mh_X12_bit, .inl ⟨rfl, wd_1646, wd_1647, pd_X12_bit⟩⟩
theorem ck_RX12_199_484 : COK2 RX12 vwCl gTbl 199 1 con_484 := ⟨wd_1648, wd_137, mh_X12_bit, .inl ⟨rfl, wd_1646, wd_1647, pd_X12_bit⟩⟩
theorem ck_RX12_199_485 : COK2 RX12 vwCl gTbl 199 1 con_485 := ⟨wd_1648, wd_137, mh_X12_bit, .inl ⟨rfl, wd_1646, wd_1647, pd_X12_bit⟩⟩
theorem ck_RX12_199_486 : COK2 RX12 vwCl gTbl 199 1 con_486 := ⟨wd_1648, wd_137, mh_X12_bit, .inl ⟨rfl, wd_1646, wd_1647, pd_X12_bit⟩⟩
theorem ck_RX12_199_487 : COK2 RX12 vwCl gTbl 199 1 con_487 := ⟨wd_1648, wd_137, mh_X12_bit, .inl ⟨rfl, wd_1646, wd_1647, pd_X12_bit⟩⟩
theorem ck_RX12_199_488 : COK2 RX12 vwCl gTbl 199 1 con_488 := ⟨wd_1648, wd_137, mh_X12_bit, .inl ⟨rfl, wd_1646, wd_1647, pd_X12_bit⟩⟩
theorem ck_RX12_199_489 : COK2 RX12 vwCl gTbl 199 1 con_489 := ⟨wd_1648, wd_137, mh_X12_bit, .inl ⟨rfl, wd_1646, wd_1647, pd_X12_bit⟩⟩
theorem ck_RX12_199_490 : COK2 RX12 vwCl gTbl 199 1 con_490 := ⟨wd_1648, wd_137, mh_X12_bit, .inl ⟨rfl, wd_1646, wd_1647, pd_X12_bit⟩⟩
theorem ck_RX12_199_491 : COK2 RX12 vwCl gTbl 199 1 con_491 := ⟨wd_1648, wd_137, mh_X12_bit, .inl ⟨rfl, wd_1646, wd_1647, pd_X12_bit⟩⟩
theorem ck_RX12_199_492 : COK2 RX12 vwCl gTbl 199 1 con_492 := ⟨wd_1648, wd_137, mh_X12_bit, .inl ⟨rfl, wd_1646, wd_1647, pd_X12_bit⟩⟩
theorem ck_RX12_199_493 : COK2 RX12 vwCl gTbl 199 1 con_493 := ⟨wd_1648, wd_137, mh_X12_bit, .inl ⟨rfl, wd_1646, wd_1647, pd_X12_bit⟩⟩
theorem ck_RX12_199_494 : COK2 RX12 vwCl gTbl 199 1 con_494 := ⟨wd_1648, wd_137, mh_X12_bit, .inl ⟨rfl, wd_1646, wd_1647, pd_X12_bit⟩⟩
theorem ck_RX12_199_495 : COK2 RX12 vwCl gTbl 199 1 con_495 := ⟨wd_1648, wd_137, mh_X12_bit, .inl ⟨rfl, wd_1646, wd_1647, pd_X12_bit⟩⟩
theorem ck_RX12_199_496 : COK2 RX12 vwCl gTbl 199 1 con_496 := ⟨wd_1648, wd_137, mh_X12_bit, .inl ⟨rfl, wd_1646, wd_1647, pd_X12_bit⟩⟩
theorem ck_RX12_199_497 : COK2 RX12 vwCl gTbl 199 1 con_497 := ⟨wd_1648, wd_137, mh_X12_bit, .inl ⟨rfl, wd_1646, wd_1647, pd_X12_bit⟩⟩
theorem ck_RX12_199_498 : COK2 RX12 vwCl gTbl 199 1 con_498 := ⟨wd_1648, wd_137, mh_X12_bit, .inl ⟨rfl, wd_1646, wd_1647, pd_X12_bit⟩⟩
theorem ck_RX12_199_499 : COK2 RX12 vwCl gTbl 199 1 con_499 := ⟨wd_1648, wd_137, mh_X12_bit, .inl ⟨rfl, wd_1646, wd_1647, pd_X12_bit⟩⟩
theorem ck_RX12_199_500 : COK2 RX12 vwCl gTbl 199 1 con_500 := ⟨wd_1648, wd_137, mh_X12_bit, .inl ⟨rfl, wd_1646, wd_1647, pd_X12_bit⟩⟩
theorem ck_RX12_199_501 : COK2 RX12 vwCl gTbl 199 1 con_501 := ⟨wd_1648, wd_137, mh_X12_bit, .inl ⟨rfl, wd_1646, wd_1647, pd_X12_bit⟩⟩
theorem ck_RX12_199_502 : COK2 RX12 vwCl gTbl 199 1 con_502 := ⟨wd_1648, wd_137, mh_X12_bit, .inl ⟨rfl, wd_1646, wd_1647, pd_X12_bit⟩⟩
theorem ck_RX12_199_503 : COK2 RX12 vwCl gTbl 199 1 con_503 := ⟨wd_1648, wd_137, mh_X12_bit, .inl ⟨rfl, wd_1646, wd_1647, pd_X12_bit⟩⟩
theorem ck_RX12_199_504 : COK2 RX12 vwCl gTbl 199 1 con_504 := ⟨wd_1648, wd_137, mh_X12_bit, .inl ⟨rfl, wd_1646, wd_1647, pd_X12_bit⟩⟩
theorem ck_RX12_199_505 : COK2 RX12 vwCl gTbl 199 1 con_505 := ⟨wd_1648, wd_137, mh_X12_bit, .inl ⟨rfl, wd_1646, wd_1647, pd_X12_bit⟩⟩
theorem ck_RX12_199_506 : COK2 RX12 vwCl gTbl 199 1 con_506 := ⟨wd_1648, wd_137, mh_X12_bit, .inl ⟨rfl, wd_1646, wd_1647, pd_X12_bit⟩⟩
theorem ck_RX12_199_507 : COK2 RX12 vwCl gTbl 199 1 con_507 := ⟨wd_1648, wd_137, mh_X12_bit, .inl ⟨rfl, wd_1646, wd_1647, pd_X12_bit⟩⟩
theorem ck_RX12_199_508 : COK2 RX12 vwCl gTbl 199 1 con_508 := ⟨wd_1648, wd_137, mh_X12_bit, .inl ⟨rfl, wd_1646, wd_1647, pd_X12_bit⟩⟩
theorem ck_RX12_199_509 : COK2 RX12 vwCl gTbl 199 1 con_509 := ⟨wd_1648, wd_137, mh_X12_bit, .inl ⟨rfl, wd_1646, wd_1647, pd_X12_bit⟩⟩
theorem ck_RX12_199_510 : COK2 RX12 vwCl gTbl 199 1 con_510 := ⟨wd_1648, wd_137, mh_X12_bit, .inl ⟨rfl, wd_1646, wd_1647, pd_X12_bit⟩⟩
theorem ck_RX12_199_511 : COK2 RX12 vwCl gTbl 199 1 con_511 := ⟨wd_1648, wd_137, mh_X12_bit, .inl ⟨rfl, wd_1646, wd_1647, pd_X12_bit⟩⟩
theorem ck_RX12_199_512 : COK2 RX12 vwCl gTbl 199 1 con_512 := ⟨wd_1648, wd_137, mh_X12_bit, .inl ⟨rfl, wd_1646, wd_1647, pd_X12_bit⟩⟩
theorem ck_RX12_199_513 : COK2 RX12 vwCl gTbl 199 1 con_513 := ⟨wd_1648, wd_137, mh_X12_bit, .inl ⟨rfl, wd_1646, wd_1647, pd_X12_bit⟩⟩
theorem ck_RX12_199_514 : COK2 RX12 vwCl gTbl 199 1 con_514 := ⟨wd_1648, wd_137, mh_X12_bit, .inl ⟨rfl, wd_1646, wd_1647, pd_X12_bit⟩⟩
theorem ck_RX12_199_515 : COK2 RX12 vwCl gTbl 199 1 con_515 := ⟨wd_1648, wd_137, mh_X12_bit, .inl ⟨rfl, wd_1646, wd_1647, pd_X12_bit⟩⟩
theorem ck_RX12_199_516 : COK2 RX12 vwCl gTbl 199 1 con_516 := ⟨wd_1648, wd_137, mh_X12_bit, .inl ⟨rfl, wd_1646, wd_1647, pd_X12_bit⟩⟩
theorem ck_RX12_199_517 : COK2 RX12 vwCl gTbl 199 1 con_517 := ⟨wd_1648, wd_137, mh_X12_bit, .inl ⟨rfl, wd_1646, wd_1647, pd_X12_bit⟩⟩
theorem ck_RX12_199_518 : COK2 RX12 vwCl gTbl 199 1 con_518 := ⟨wd_1648, wd_137, mh_X12_bit, .inl ⟨rfl, wd_1646, wd_1647, pd_X12_bit⟩⟩
theorem ck_RX12_199_519 : COK2 RX12 vwCl gTbl 199 1 con_519 := ⟨wd_1648, wd_137, mh_X12_bit, .inl ⟨rfl, wd_1646, wd_1647, pd_X12_bit⟩⟩
theorem ck_RX12_199_520 : COK2 RX12 vwCl gTbl 199 1 con_520 := ⟨wd_1648, wd_137, mh_X12_bit, .inl ⟨rfl, wd_1646, wd_1647, pd_X12_bit⟩⟩
theorem ck_RX12_199_521 : COK2 RX12 vwCl gTbl 199 1 con_521 := ⟨wd_1648, wd_137, mh_X12_bit, .inl ⟨rfl, wd_1646, wd_1647, pd_X12_bit⟩⟩
theorem ck_RX12_199_522 : COK2 RX12 vwCl gTbl 199 1 con_522 := ⟨wd_1648, wd_137, mh_X12_bit, .inl ⟨rfl, wd_1646, wd_1647, pd_X12_bit⟩⟩
theorem ck_RX12_199_523 : COK2 RX12 vwCl gTbl 199 1 con_523 := ⟨wd_1648, wd_137, mh_X12_bit, .inl ⟨rfl, wd_1646, wd_1647, pd_X12_bit⟩⟩
theorem ck_RX12_199_524 : COK2 RX12 vwCl gTbl 199 1 con_524 := ⟨wd_1648, wd_137, mh_X12_bit, .inl ⟨rfl, wd_1646, wd_1647, pd_X12_bit⟩⟩
theorem ck_RX12_199_525 : COK2 RX12 vwCl gTbl 199 1 con_525 := ⟨wd_1648, wd_137, mh_X12_bit, .inl ⟨rfl, wd_1646, wd_1647, pd_X12_bit⟩⟩
theorem ck_RX12_199_526 : COK2 RX12 vwCl gTbl 199 1 con_526 := ⟨wd_1648, wd_137, mh_X12_bit, .inl ⟨rfl, wd_1646, wd_1647, pd_X12_bit⟩⟩
theorem ck_RX12_199_527 : COK2 RX12 vwCl gTbl 199 1 con_527 := ⟨wd_1648, wd_137, mh_X12_bit, .inl ⟨rfl, wd_1646, wd_1647, pd_X12_bit⟩⟩
theorem ck_RX12_199_528 : COK2 RX12 vwCl gTbl 199 1 con_528 := ⟨wd_1648, wd_137, mh_X12_bit, .inl ⟨rfl, wd_1646, wd_1647, pd_X12_bit⟩⟩
theorem ck_RX12_199_529 : COK2 RX12 vwCl gTbl 199 1 con_529 := ⟨wd_1648, wd_137, mh_X12_bit, .inl ⟨rfl, wd_1646, wd_1647, pd_X12_bit⟩⟩
theorem ck_RX12_199_530 : COK2 RX12 vwCl gTbl 199 1 con_530 := ⟨wd_1648, wd_137, mh_X12_bit, .inl ⟨rfl, wd_1646, wd_1647, pd_X12_bit⟩⟩
theorem ck_RX12_199_531 : COK2 RX12 vwCl gTbl 199 1 con_531 := ⟨wd_1648, wd_137, mh_X12_bit, .inl ⟨rfl, wd_1646, wd_1647, pd_X12_bit⟩⟩
theorem ck_RX12_199_532 : COK2 RX12 vwCl gTbl 199 1 con_532 := ⟨wd_1648, wd_137, mh_X12_bit, .inl ⟨rfl, wd_1646, wd_1647, pd_X12_bit⟩⟩
theorem ck_RX12_199_533 : COK2 RX12 vwCl gTbl 199 1 con_533 := ⟨wd_1648, wd_137, mh_X12_bit, .inl ⟨rfl, wd_1646, wd_1647, pd_X12_bit⟩⟩
theorem ck_RX12_199_534 : COK2 RX12 vwCl gTbl 199 1 con_534 := ⟨wd_1648, wd_137, mh_X12_bit, .inl ⟨rfl, wd_1646, wd_1647, pd_X12_bit⟩⟩
theorem ck_RX12_199_535 : COK2 RX12 vwCl gTbl 199 1 con_535 := ⟨wd_1648, wd_137, mh_X12_bit, .inl ⟨rfl, wd_1646, wd_1647, pd_X12_bit⟩⟩
theorem ck_RX12_199_536 : COK2 RX12 vwCl gTbl 199 1 con_536 := ⟨wd_1648, wd_137, mh_X12_bit, .inl ⟨rfl, wd_1646, wd_1647, pd_X12_bit⟩⟩
theorem ck_RX12_199_537 : COK2 RX12 vwCl gTbl 199 1 con_537 := ⟨wd_1648, wd_137, mh_X12_bit, .inl ⟨rfl, wd_1646, wd_1647, pd_X12_bit⟩⟩
theorem ck_RX12_199_538 : COK2 RX12 vwCl gTbl 199 1 con_538 := ⟨wd_1648, wd_137, mh_X12_bit, .inl ⟨rfl, wd_1646, wd_1647, pd_X12_bit⟩⟩
theorem ck_RX12_199_539 : COK2 RX12 vwCl gTbl 199 1 con_539 := ⟨wd_1648, wd_137, mh_X12_bit, .inl ⟨rfl, wd_1646, wd_1647, pd_X12_bit⟩⟩
theorem ck_RX12_199_540 : COK2 RX12 vwCl gTbl 199 1 con_540 := ⟨wd_1648, wd_137, mh_X12_bit, .inl ⟨rfl, wd_1646, wd_1647, pd_X12_bit⟩⟩
theorem ck_RX12_199_541 : COK2 RX12 vwCl gTbl 199 1 con_541 := ⟨wd_1648, wd_137, mh_X12_bit, .inl ⟨rfl, wd_1646, wd_1647, pd_X12_bit⟩⟩
theorem ck_RX12_199_542 : COK2 RX12 vwCl gTbl 199 1 con_542 := ⟨wd_1648, wd_137, mh_X12_bit, .inl ⟨rfl, wd_1646, wd_1647, pd_X12_bit⟩⟩
theorem ck_RX12_199_543 : COK2 RX12 vwCl gTbl 199 1 con_543 := ⟨wd_1648, wd_137, mh_X12_bit, .inl ⟨rfl, wd_1646, wd_1647, pd_X12_bit⟩⟩
theorem ck_RX12_199_544 : COK2 RX12 vwCl gTbl 199 1 con_544 := ⟨wd_1648, wd_137, mh_X12_bit, .inl ⟨rfl, wd_1646, wd_1647, pd_X12_bit⟩⟩
theorem ck_RX12_199_545 : COK2 RX12 vwCl gTbl 199 1 con_545 := ⟨wd_1648, wd_137, mh_X12_bit, .inl ⟨rfl, wd_1646, wd_1647, pd_X12_bit⟩⟩
theorem ck_RX12_199_546 : COK2 RX12 vwCl gTbl 199 1 con_546 := ⟨wd_1648, wd_137, mh_X12_bit, .inl ⟨rfl, wd_1646, wd_1647, pd_X12_bit⟩⟩
theorem ck_RX12_189_382 : COK2 RX12 vwCl gTbl 189 0 con_382 := ⟨wd_1614, wd_137, mh_X12_told, .inr (.inr ⟨rfl, wd_1611, wd_1613, wd_60, ⟨_, rfl, pd_X12_told⟩, 12, _, TX12, 45, rfl, rfl⟩)⟩
noncomputable def ct_547 : CTB2 := [(25, 189, 0, con_382, [0, 2]), (32, 153, 0, con_314, [0]), (32, 153, 0, con_343, [0]), (59, 199, 1, con_546, []), (59, 199, 1, con_545, []), (59, 199, 1, con_544, []), (59, 199, 1, con_543, []), (59, 199, 1, con_542, []), (59, 199, 1, con_541, []), (59, 199, 1, con_540, []), (59, 199, 1, con_539, []), (59, 199, 1, con_538, []), (59, 199, 1, con_537, []), (59, 199, 1, con_536, []), (59, 199, 1, con_535, []), (59, 199, 1, con_534, []), (59, 199, 1, con_533, []), (59, 199, 1, con_532, []), (59, 199, 1, con_531, []), (59, 199, 1, con_530, []), (59, 199, 1, con_529, []), (59, 199, 1, con_528, []), (59, 199, 1, con_527, []), (59, 199, 1, con_526, []), (59, 199, 1, con_525, []), (59, 199, 1, con_524, []), (59, 199, 1, con_523, []), (59, 199, 1, con_522, []), (59, 199, 1, con_521, []), (59, 199, 1, con_520, []), (59, 199, 1, con_519, []), (59, 199, 1, con_518, []), (59, 199, 1, con_517, []), (59, 199, 1, con_516, []), (59, 199, 1, con_515, []), (59, 199, 1, con_514, []), (59, 199, 1, con_513, []), (59, 199, 1, con_512, []), (59, 199, 1, con_511, []), (59, 199, 1, con_510, []), (59, 199, 1, con_509, []), (59, 199, 1, con_508, []), (59, 199, 1, con_507, []), (59, 199, 1, con_506, []), (59, 199, 1, con_505, []), (59, 199, 1, con_504, []), (59, 199, 1, con_503, []), (59, 199, 1, con_502, []), (59, 199, 1, con_501, []), (59, 199, 1, con_500, []), (59, 199, 1, con_499, []), (59, 199, 1, con_498, []), (59, 199, 1, con_497, []), (59, 199, 1, con_496, []), (59, 199, 1, con_495, []), (59, 199, 1, con_494, []), (59, 199, 1, con_493, []), (59, 199, 1, con_492, []), (59, 199, 1, con_491, []), (59, 199, 1, con_490, []), (59, 199, 1, con_489, []), (59, 199, 1, con_488, []), (59, 199, 1, con_487, []), (59, 199, 1, con_486, []), (59, 199, 1, con_485, []), (59, 199, 1, con_484, []), (59, 199, 1, con_483, []), (59, 199, 1, con_482, []), (59, 199, 1, con_481, []), (59, 199, 1, con_480, []), (59, 199, 1, con_479, []), (59, 199, 1, con_478, []), (59, 199, 1, con_477, []), (59, 199, 1, con_476, []), (59, 199, 1, con_475, []), (59, 199, 1, con_474, []), (59, 199, 1, con_473, []), (59, 199, 1, con_472, []), (59, 199, 1, con_471, []), (59, 199, 1, con_470, []), (59, 199, 1, con_469, []), (59, 199, 1, con_468, []), (59, 199, 1, con_467, []), (59, 199, 1, con_466, []), (59, 199, 1, con_465, []), (59, 199, 1, con_464, []), (59, 199, 1, con_463, []), (59, 199, 1, con_462, []), (59, 199, 1, con_461, []), (59, 199, 1, con_460, []), (59, 199, 1, con_459, []), (59, 199, 1, con_458, []), (59, 199, 1, con_457, []), (59, 199, 1, con_456, []), (59, 199, 1, con_455, []), (59, 199, 1, con_454, []), (59, 199, 1, con_453, []), (59, 199, 1, con_452, []), (59, 199, 1, con_451, []), (59, 199, 1, con_450, []), (59, 199, 1, con_449, []), (59, 199, 1, con_448, []), (59, 199, 1, con_447, []), (59, 199, 1, con_446, []), (59, 199, 1, con_445, []), (59, 199, 1, con_444, []), (59, 199, 1, con_443, []), (59, 199, 1, con_442, []), (59, 199, 1, con_441, []), (59, 199, 1, con_440, []), (59, 199, 1, con_439, []), (59, 199, 1, con_438, []), (59, 199, 1, con_437, []), (59, 199, 1, con_436, []), (59, 199, 1, con_435, []), (59, 199, 1, con_434, []), (59, 199, 1, con_433, []), (59, 199, 1, con_432, []), (59, 199, 1, con_431, []), (59, 199, 1, con_430, []), (59, 199, 1, con_429, []), (59, 199, 1, con_428, []), (59, 199, 1, con_427, []), (59, 199, 1, con_426, []), (59, 199, 1, con_425, []), (59, 199, 1, con_424, []), (59, 199, 1, con_423, []), (59, 199, 1, con_422, []), (59, 199, 1, con_421, []), (59, 199, 1, con_420, []), (59, 199, 1, con_419, []), (59, 199, 1, con_418, []), (59, 199, 1, con_417, []), (59, 199, 1, con_416, []), (59, 199, 1, con_415, []), (59, 199, 1, con_414, []), (59, 199, 1, con_413, []), (59, 199, 1, con_412, []), (59, 199, 1, con_411, []), (59, 199, 1, con_410, []), (59, 199, 1, con_409, []), (59, 199, 1, con_408, []), (59, 199, 1, con_407, []), (59, 199, 1, con_406, []), (59, 199, 1, con_405, []), (59, 199, 1, con_404, []), (59, 199, 1, con_403, []), (59, 199, 1, con_402, []), (59, 199, 1, con_401, []), (59, 199, 1, con_400, []), (59, 199, 1, con_399, []), (59, 199, 1, con_398, []), (59, 199, 1, con_397, []), (59, 199, 1, con_396, []), (59, 199, 1, con_395, []), (59, 199, 1, con_394, []), (59, 199, 1, con_393, []), (59, 199, 1, con_392, []), (59, 199, 1, con_389, []), (59, 199, 1, con_388, []), (59, 199, 1, con_387, []), (59, 199, 1, con_386, []), (59, 199, 1, con_383, []), (59, 199, 1, con_390, []), (68, 175, 0, con_324, [0]), (81, 183, 0, con_385, [0, 2]), (81, 183, 0, con_391, [0, 2]), (86, 153, 0, con_314, [0]), (86, 153, 0, con_343, [0])]
noncomputable def rf_547 : List (Nat × List POP) := [(0, [(1, (2, 1, 6), 0, 0)]), (54, [(2, (2, 0, 11), 0, 0), (2, (2, 0, 11), 1, 0), (2, (2, 0, 11), 2, 0), (2, (2, 0, 11), 3, 0), (2, (2, 0, 11), 4, 0)]), (93, [(1, (1, 3, 0), 0, 0)])]
def gi_218 : GI := [(0, 0), (0, 0), (0, 0), (0, 0), (0, 0), (0, 0), (0, 0), (0, 0), (0, 700), (0, 700), (0, 700), (1, 1), ((-2147483648), 2147483647), (0, 0), ((-1), 700), (0, 0), (0, 0), (0, 0), (0, 0), (0, 0), (0, 0), (0, 0), (0, 0), (0, 0), (0, 0), (0, 0), (0, 0), (0, 0), (0, 0), (0, 0), (0, 0), (0, 0), (0, 0), (0, 0), (0, 0), (0, 0), (0, 0), (0, 0), (0, 0), (0, 0), (0, 0), (0, 0), (0, 0), (0, 0), (0, 0), (0, 0), (0, 16), (0, 3), (0, 10), (0, 5), (0, 8), (0, 5), (0, 0), (0, 30), (1, 26), (0, 0), (0, 0), (0, 0), (0, 0), (0, 0), (0, 0), (0, 0), (0, 0), (0, 0), (0, 0), (0, 0), (0, 0), (0, 0), (0, 0), (0, 0), (0, 0), (0, 0), (0, 0), (0, 0), (0, 0), (0, 0), (0, 0), (0, 0), (0, 0), (0, 0), (0, 700), (0, 700), (0, 4), ((-2147483648), 2147483647), (0, 0), (0, 0), (0, 0), (0, 0), (0, 0), (0, 0), (0, 0), (0, 0), (0, 0), (0, 0), (0, 0), (0, 0), (0, 0), (0, 0), (0, 0), (0, 0), (0, 0), (0, 0), (0, 0), (0, 0), (0, 0), (0, 0), (0, 0), (0, 0), (0, 0), (0, 0), (0, 0), (0, 0), (0, 0), (0, 0), (0, 0), (0, 0), (0, 0), (0, 0), (0, 0), (0, 0), (0, 0), (0, 0), (0, 0), (0, 0), (0, 0), (0, 0), (0, 0), (0, 0), (0, 0), (0, 0), (0, 0), (0, 0), (0, 0), (0, 0), (0, 0), (0, 0), (0, 0), (0, 0), (0, 0), (0, 0)]
def ac_159 : AC := .inl (12, [(8, 1, 0), (8, 2, 0), (8, 3, 0), (8, 4, 0), (6, 2, 0), (8, 6, 0), (8, 7, 0), (1, 8, 0), (1, 80, 0), (1, 81, 0), (1, 82, 0), (1, 83, 0), (0, 0, 0), (1, 14, 0), (6, 1, 0), (8, 16, 0), (8, 17, 0), (8, 18, 0), (8, 19, 0), (8, 20, 0), (8, 21, 0), (8, 22, 0), (8, 23, 0), (8, 24, 0), (8, 25, 0), (8, 26, 0), (8, 27, 0), (8, 28, 0), (8, 29, 0), (8, 30, 0), (8, 31, 0), (8, 32, 0), (8, 33, 0), (8, 34, 0), (8, 35, 0), (8, 36, 0), (8, 37, 0), (8, 38, 0), (8, 39, 0), (8, 40, 0), (8, 41, 0), (8, 42, 0), (8, 43, 0), (8, 44, 0), (8, 45, 0)])
def ac_160 : AC := .inr (1, [(1, (1, 46, 0)), (1, (1, 47, 0)), (1, (1, 48, 0)), (1, (1, 49, 0)), (1, (1, 50, 0)), (1, (1, 51, 0)), (1, (0, 0, 0)), (1, (1, 53, 0)), (1, (1, 54, 0)), (10, (2, 0, 300)), (16, (2, 0, 4)), (10, (2, 0, 40)), (1, (2, 1, 9)), (1, (0, 0, 0)), (5, (2, 0, 4)), (1, (2, 0, 9)), (1, (0, 0, 0)), (5, (2, 0, 4)), (1, (2, 0, 9)), (1, (0, 0, 0)), (5, (2, 0, 4)), (1, (2, 0, 9)), (1, (0, 0, 0)), (5, (2, 0, 4)), (1, (2, 0, 9)), (1, (0, 0, 0)), (5, (2, 0, 4)), (1, (2, 0, 9)), (1, (0, 0, 0)), (5, (2, 0, 4)), (1, (2, 0, 9)), (1, (0, 0, 0)), (5, (2, 0, 4)), (30, (0, 0, 0))])
def gi_219 : GI := [(0, 0), (0, 0), (0, 0), (0, 0), (0, 0), (0, 0), (0, 0), (0, 0), (0, 700), (0, 700), (0, 700), (0, 4), ((-2147483648), 2147483647), (0, 0), ((-1), 700), (0, 0), (0, 0), (0, 0), (0, 0), (0, 0), (0, 0), (0, 0), (0, 0), (0, 0), (0, 0), (0, 0), (0, 0), (0, 0), (0, 0), (0, 0), (0, 0), (0, 0), (0, 0), (0, 0), (0, 0), (0, 0), (0, 0), (0, 0), (0, 0), (0, 0), (0, 0), (0, 0), (0, 0), (0, 0), (0, 0), (0, 0), (0, 16), (0, 3), (0, 10), (0, 5), (0, 8), (0, 5), (0, 0), (0, 30), (1, 26), (0, 0), (0, 0), (0, 0), (0, 0), (0, 0), (0, 0), (0, 0), (0, 0), (0, 0), (0, 0), (0, 0), (0, 0), (0, 0), (0, 0), (0, 0), (0, 0), (0, 0), (0, 0), (0, 0), (0, 0), (0, 0), (0, 0), (0, 0), (0, 0), (0, 0), (0, 700), (0, 700), (0, 4), ((-2147483648), 2147483647), (1, 2), (0, 700), (0, 0), (0, 0), (0, 0), (0, 0), (0, 0), (0, 0), (0, 0), (0, 0), (0, 0), (0, 0), (0, 0), (0, 0), (0, 0), (0, 0), (0, 0), (0, 0), (0, 0), (0, 0), (0, 0), (0, 0), (0, 0), (0, 0), (0, 0), (0, 0), (0, 0), (0, 0), (0, 0), (0, 0), (0, 0), (0, 0), (0, 0), (0, 0), (0, 0), (0, 0), (0, 0), (0, 0), (0, 0), (0, 0), (0, 0), (0, 0), (0, 0), (0, 0), (0, 0), (0, 0), (0, 0), (0, 0), (0, 0), (0, 0), (0, 0), (0, 0), (0, 0), (0, 0)]
def ac_161 : AC := .inl (12, [(8, 1, 0), (8, 2, 0), (8, 3, 0), (8, 4, 0), (6, 2, 0), (8, 6, 0), (8, 7, 0), (1, 8, 0), (1, 80, 0), (1, 81, 0), (1, 82, 0), (1, 83, 0), (1, 84, 0), (1, 85, 0), (6, 1, 0), (8, 16, 0), (8, 17, 0), (8, 18, 0), (8, 19, 0), (8, 20, 0), (8, 21, 0), (8, 22, 0), (8, 23, 0), (8, 24, 0), (8, 25, 0), (8, 26, 0), (8, 27, 0), (8, 28, 0), (8, 29, 0), (8, 30, 0), (8, 31, 0), (8, 32, 0), (8, 33, 0), (8, 34, 0), (8, 35, 0), (8, 36, 0), (8, 37, 0), (8, 38, 0), (8, 39, 0), (8, 40, 0), (8, 41, 0), (8, 42, 0), (8, 43, 0), (8, 44, 0), (8, 45, 0)])
def ac_162 : AC := .inr (1, [(1, (1, 46, 0)), (1, (1, 47, 0)), (1, (1, 48, 0)), (1, (1, 49, 0)), (1, (1, 50, 0)), (1, (1, 51, 0)), (1, (0, 0, 0)), (1, (1, 53, 0)), (1, (1, 54, 0)), (10, (2, 0, 300)), (16, (2, 0, 4)), (10, (2, 0, 40)), (2, (0, 0, 0)), (5, (2, 0, 4)), (1, (2, 0, 9)), (1, (0, 0, 0)), (5, (2, 0, 4)), (1, (2, 0, 9)), (1, (0, 0, 0)), (5, (2, 0, 4)), (1, (2, 0, 9)), (1, (0, 0, 0)), (5, (2, 0, 4)), (1, (2, 0, 9)), (1, (0, 0, 0)), (5, (2, 0, 4)), (1, (2, 0, 9)), (1, (0, 0, 0)), (5, (2, 0, 4)), (1, (2, 0, 9)), (1, (0, 0, 0)), (5, (2, 0, 4)), (30, (0, 0, 0))])
def gi_220 : GI := [(0, 0), (0, 0), (0, 0), (0, 0), (0, 0), (0, 0), (0, 0), (0, 0), (0, 700), (0, 700), (0, 700), (1, 1), ((-2147483648), 2147483647), (0, 0), ((-1), 700), (0, 0), (0, 0), (0, 0), (0, 0), (0, 0), (0, 0), (0, 0), (0, 0), (0, 0), (0, 0), (0, 0), (0, 0), (0, 0), (0, 0), (0, 0), (0, 0), (0, 0), (0, 0), (0, 0), (0, 0), (0, 0), (0, 0), (0, 0), (0, 0), (0, 0), (0, 0), (0, 0), (0, 0), (0, 0), (0, 0), (0, 0), (0, 16), (0, 3), (0, 10), (0, 5), (0, 8), (1, 5), (0, 0), (0, 30), (1, 26), (0, 0), (0, 0), (0, 0), (0, 0), (0, 0), (0, 0), (0, 0), (0, 0), (0, 0), (0, 0), (0, 0), (0, 0), (0, 0), (0, 0), (0, 0), (0, 0), (0, 0), (0, 0), (0, 0), (0, 0), (0, 0), (0, 0), (0, 0), (0, 0), (0, 0), (0, 0), (0, 700), (0, 700), (0, 4), ((-2147483648), 2147483647), (0, 0), (0, 0), (0, 0), (0, 0), (0, 0), (0, 0), (0, 0), (0, 0), (0, 0), (0, 0), (0, 0), (0, 0), (0, 0), (0, 0), (0, 0), (0, 0), (0, 0), (0, 0), (0, 0), (0, 0), (0, 0), (0, 0), (0, 0), (0, 0), (0, 0), (0, 0), (0, 0), (0, 0), (0, 0), (0, 0), (0, 0), (0, 0), (0, 0), (0, 0), (0, 0), (0, 0), (0, 0), (0, 0), (0, 0), (0, 0), (0, 0), (0, 0), (0, 0), (0, 0), (0, 0), (0, 0), (0, 0), (0, 0), (0, 0), (0, 0), (0, 0), (0, 0), (0, 0), (0, 0), (0, 0), (0, 0), (0, 0)]
def ac_163 : AC := .inl (12, [(8, 1, 0), (8, 2, 0), (8, 3, 0), (8, 4, 0), (6, 2, 0), (8, 6, 0), (8, 7, 0), (1, 8, 0), (1, 81, 0), (1, 82, 0), (1, 83, 0), (1, 84, 0), (0, 0, 0), (1, 14, 0), (6, 1, 0), (8, 16, 0), (8, 17, 0), (8, 18, 0), (8, 19, 0), (8, 20, 0), (8, 21, 0), (8, 22, 0), (8, 23, 0), (8, 24, 0), (8, 25, 0), (8, 26, 0), (8, 27, 0), (8, 28, 0), (8, 29, 0), (8, 30, 0), (8, 31, 0), (8, 32, 0), (8, 33, 0), (8, 34, 0), (8, 35, 0), (8, 36, 0), (8, 37, 0), (8, 38, 0), (8, 39, 0), (8, 40, 0), (8, 41, 0), (8, 42, 0), (8, 43, 0), (8, 44, 0), (8, 45, 0)])
def ac_164 : AC := .inr (1, [(1, (1, 46, 0)), (1, (1, 47, 0)), (1, (1, 48, 0)), (1, (1, 49, 0)), (1, (1, 50, 0)), (1, (1, 51, 0)), (1, (0, 0, 0)), (1, (1, 53, 0)), (1, (1, 54, 0)), (10, (2, 0, 300)), (16, (2, 0, 4)), (10, (2, 0, 40)), (1, (2, 1, 9)), (1, (0, 1, 0)), (1, (0, 4, 0)), (4, (2, 0, 4)), (1, (2, 0, 9)), (1, (0, 0, 0)), (5, (2, 0, 4)), (1, (2, 0, 9)), (1, (0, 0, 0)), (5, (2, 0, 4)), (1, (2, 0, 9)), (1, (0, 0, 0)), (5, (2, 0, 4)), (1, (2, 0, 9)), (1, (0, 0, 0)), (5, (2, 0, 4)), (1, (2, 0, 9)), (1, (0, 0, 0)), (5, (2, 0, 4)), (1, (2, 0, 9)), (1, (0, 0, 0)), (5, (2, 0, 4)), (30, (0, 0, 0))])
def ac_165 : AC := .inr (1, [(1, (1, 46, 0)), (1, (1, 47, 0)), (1, (1, 48, 0)), (1, (1, 49, 0)), (1, (1, 50, 0)), (1, (1, 51, 0)), (1, (0, 0, 0)), (1, (1, 53, 0)), (1, (1, 54, 0)), (10, (2, 0, 300)), (16, (2, 0, 4)), (10, (2, 0, 40)), (1, (2, 1, 9)), (1, (0, 1, 0)), (1, (0, 3, 0)), (4, (2, 0, 4)), (1, (2, 0, 9)), (1, (0, 0, 0)), (5, (2, 0, 4)), (1, (2, 0, 9)), (1, (0, 0, 0)), (5, (2, 0, 4)), (1, (2, 0, 9)), (1, (0, 0, 0)), (5, (2, 0, 4)), (1, (2, 0, 9)), (1, (0, 0, 0)), (5, (2, 0, 4)), (1, (2, 0, 9)), (1, (0, 0, 0)), (5, (2, 0, 4)), (1, (2, 0, 9)), (1, (0, 0, 0)), (5, (2, 0, 4)), (30, (0, 0, 0))])
def ac_166 : AC := .inr (1, [(1, (1, 46, 0)), (1, (1, 47, 0)), (1, (1, 48, 0)), (1, (1, 49, 0)), (1, (1, 50, 0)), (1, (1, 51, 0)), (1, (0, 0, 0)), (1, (1, 53, 0)), (1, (1, 54, 0)), (10, (2, 0, 300)), (16, (2, 0, 4)), (10, (2, 0, 40)), (1, (2, 1, 9)), (1, (0, 1, 0)), (1, (0, 2, 0)), (4, (2, 0, 4)), (1, (2, 0, 9)), (1, (0, 0, 0)), (5, (2, 0, 4)), (1, (2, 0, 9)), (1, (0, 0, 0)), (5, (2, 0, 4)), (1, (2, 0, 9)), (1, (0, 0, 0)), (5, (2, 0, 4)), (1, (2, 0, 9)), (1, (0, 0, 0)), (5, (2, 0, 4)), (1, (2, 0, 9)), (1, (0, 0, 0)), (5, (2, 0, 4)), (1, (2, 0, 9)), (1, (0, 0, 0)), (5, (2, 0, 4)), (30, (0, 0, 0))])
def gi_221 : GI := [(0, 0), (0, 0), (0, 0), (0, 0), (0, 0), (0, 0), (0, 0), (0, 0), (0, 700), (0, 700), (0, 700), (1, 1), ((-2147483648), 2147483647), (0, 0), ((-1), 700), (0, 0), (0, 0), (0, 0), (0, 0), (0, 0), (0, 0), (0, 0), (0, 0), (0, 0), (0, 0), (0, 0), (0, 0), (0, 0), (0, 0), (0, 0), (0, 0), (0, 0), (0, 0), (0, 0), (0, 0), (0, 0), (0, 0), (0, 0), (0, 0), (0, 0), (0, 0), (0, 0), (0, 0), (0, 0), (0, 0), (0, 0), (0, 16), (0, 3), (0, 10), (0, 5), (0, 8), (1, 5), (0, 0), (0, 30), (1, 26), (0, 0), (0, 0), (0, 0), (0, 0), (0, 0), (0, 0), (0, 0), (0, 0), (0, 0), (0, 0), (0, 0), (0, 0), (0, 0), (0, 0), (0, 0), (0, 0), (0, 0), (0, 0), (0, 0), (0, 0), (0, 0), (0, 0), (0, 0), (0, 0), (0, 0), (0, 0), (0, 700), (0, 700), (0, 4), ((-2147483648), 2147483647), (0, 0), (0, 0), (0, 0), (0, 0), (0, 0), (0, 0), (0, 0), (0, 0), (0, 0), (0, 0), (0, 0), (0, 0), (0, 0), (0, 0), (0, 0), (0, 0), (0, 0), (0, 0), (0, 0), (0, 0), (0, 0), (0, 0), (0, 0), (0, 0), (0, 0), (0, 0), (0, 0), (0, 0), (0, 0), (0, 0), (0, 0), (0, 0), (0, 0), (0, 0), (0, 0), (0, 0), (0, 0), (0, 0), (0, 0), (0, 0), (0, 0), (0, 0), (0, 0), (0, 0), (0, 0), (0, 0), (0, 0), (0, 0), (0, 0), (0, 0), (0, 0), (0, 0), (0, 0), (0, 0), (0, 0)]
def ac_167 : AC := .inr (1, [(1, (1, 46, 0)), (1, (1, 47, 0)), (1, (1, 48, 0)), (1, (1, 49, 0)), (1, (1, 50, 0)), (1, (1, 51, 0)), (1, (0, 0, 0)), (1, (1, 53, 0)), (1, (1, 54, 0)), (10, (2, 0, 300)), (16, (2, 0, 4)), (10, (2, 0, 40)), (1, (2, 1, 9)), (2, (0, 1, 0)), (4, (2, 0, 4)), (1, (2, 0, 9)), (1, (0, 0, 0)), (5, (2, 0, 4)), (1, (2, 0, 9)), (1, (0, 0, 0)), (5, (2, 0, 4)), (1, (2, 0, 9)), (1, (0, 0, 0)), (5, (2, 0, 4)), (1, (2, 0, 9)), (1, (0, 0, 0)), (5, (2, 0, 4)), (1, (2, 0, 9)), (1, (0, 0, 0)), (5, (2, 0, 4)), (1, (2, 0, 9)), (1, (0, 0, 0)), (5, (2, 0, 4)), (30, (0, 0, 0))])
def ac_168 : AC := .inr (1, [(1, (1, 46, 0)), (1, (1, 47, 0)), (1, (1, 48, 0)), (1, (1, 49, 0)), (1, (1, 50, 0)), (1, (1, 51, 0)), (1, (0, 0, 0)), (1, (1, 53, 0)), (1, (1, 54, 0)), (10, (2, 0, 300)), (16, (2, 0, 4)), (10, (2, 0, 40)), (1, (2, 1, 9)), (1, (0, 1, 0)), (1, (0, 0, 0)), (4, (2, 0, 4)), (1, (2, 0, 9)), (1, (0, 0, 0)), (5, (2, 0, 4)), (1, (2, 0, 9)), (1, (0, 0, 0)), (5, (2, 0, 4)), (1, (2, 0, 9)), (1, (0, 0, 0)), (5, (2, 0, 4)), (1, (2, 0, 9)), (1, (0, 0, 0)), (5, (2, 0, 4)), (1, (2, 0, 9)), (1, (0, 0, 0)), (5, (2, 0, 4)), (1, (2, 0, 9)), (1, (0, 0, 0)), (5, (2, 0, 4)), (30, (0, 0, 0))])
def gi_222 : GI := [(0, 0), (0, 0), (0, 0), (0, 0), (0, 0), (0, 0), (0, 0), (0, 0), (0, 700), (0, 700), (0, 700), (1, 1), ((-2147483648), 2147483647), (0, 0), ((-1), 700), (0, 0), (0, 0), (0, 0), (0, 0), (0, 0), (0, 0), (0, 0), (0, 0), (0, 0), (0, 0), (0, 0), (0, 0), (0, 0), (0, 0), (0, 0), (0, 0), (0, 0), (0, 0), (0, 0), (0, 0), (0, 0), (0, 0), (0, 0), (0, 0), (0, 0), (0, 0), (0, 0), (0, 0), (0, 0), (0, 0), (0, 0), (0, 16), (0, 3), (0, 10), (0, 5), (0, 8), (1, 5), (0, 0), (0, 30), (1, 26), (0, 0), (0, 0), (0, 0), (0, 0), (0, 0), (0, 0), (0, 0), (0, 0), (0, 0), (0, 0), (0, 0), (0, 0), (0, 0), (0, 0), (0, 0), (0, 0), (0, 0), (3, 4), (0, 0), (0, 0), (0, 0), (0, 0), (0, 0), (0, 0), (0, 0), (0, 0), (0, 700), (0, 700), (0, 4), ((-2147483648), 2147483647), (0, 0), (0, 0), (0, 0), (0, 0), (0, 0), (0, 0), (0, 0), (0, 0), (0, 0), (0, 0), (0, 0), (0, 0), (0, 0), (0, 0), (0, 0), (0, 0), (0, 0), (0, 0), (0, 0), (0, 0), (0, 0), (0, 0), (0, 0), (0, 0), (0, 0), (0, 0), (0, 0), (0, 0), (0, 0), (0, 0), (0, 0), (0, 0), (0, 0), (0, 0), (0, 0), (0, 0), (0, 0), (0, 0), (0, 0), (0, 0), (0, 0), (0, 0), (0, 0), (0, 0), (0, 0), (0, 0), (0, 0), (0, 0), (0, 0), (0, 0), (0, 0), (0, 0), (0, 0), (0, 0), (0, 0), (0, 0)]
def ac_169 : AC := .inr (1, [(1, (1, 46, 0)), (1, (1, 47, 0)), (1, (1, 48, 0)), (1, (1, 49, 0)), (1, (1, 50, 0)), (1, (1, 51, 0)), (1, (0, 0, 0)), (1, (1, 53, 0)), (1, (1, 54, 0)), (10, (2, 0, 300)), (16, (2, 0, 4)), (10, (2, 0, 40)), (1, (2, 1, 9)), (1, (0, 2, 0)), (2, (2, 3, 4)), (3, (2, 0, 4)), (1, (2, 0, 9)), (1, (0, 0, 0)), (5, (2, 0, 4)), (1, (2, 0, 9)), (1, (0, 0, 0)), (5, (2, 0, 4)), (1, (2, 0, 9)), (1, (0, 0, 0)), (5, (2, 0, 4)), (1, (2, 0, 9)), (1, (0, 0, 0)), (5, (2, 0, 4)), (1, (2, 0, 9)), (1, (0, 0, 0)), (5, (2, 0, 4)), (1, (2, 0, 9)), (1, (0, 0, 0)), (5, (2, 0, 4)), (30, (0, 0, 0))])
def gi_223 : GI := [(0, 0), (0, 0), (0, 0), (0, 0), (0, 0), (0, 0), (0, 0), (0, 0), (0, 700), (0, 700), (0, 700), (1, 1), ((-2147483648), 2147483647), (0, 0), ((-1), 700), (0, 0), (0, 0), (0, 0), (0, 0), (0, 0), (0, 0), (0, 0), (0, 0), (0, 0), (0, 0), (0, 0), (0, 0), (0, 0), (0, 0), (0, 0), (0, 0), (0, 0), (0, 0), (0, 0), (0, 0), (0, 0), (0, 0), (0, 0), (0, 0), (0, 0), (0, 0), (0, 0), (0, 0), (0, 0), (0, 0), (0, 0), (0, 16), (0, 3), (0, 10), (0, 5), (0, 8), (1, 5), (0, 0), (0, 30), (1, 26), (0, 0), (0, 0), (0, 0), (0, 0), (0, 0), (0, 0), (0, 0), (0, 0), (0, 0), (0, 0), (0, 0), (0, 0), (0, 0), (0, 0), (0, 0), (0, 0), (0, 0), (2, 4), (0, 0), (0, 0), (0, 0), (0, 0), (0, 0), (0, 0), (0, 0), (0, 0), (0, 700), (0, 700), (0, 4), ((-2147483648), 2147483647), (0, 0), (0, 0), (0, 0), (0, 0), (0, 0), (0, 0), (0, 0), (0, 0), (0, 0), (0, 0), (0, 0), (0, 0), (0, 0), (0, 0), (0, 0), (0, 0), (0, 0), (0, 0), (0, 0), (0, 0), (0, 0), (0, 0), (0, 0), (0, 0), (0, 0), (0, 0), (0, 0), (0, 0), (0, 0), (0, 0), (0, 0), (0, 0), (0, 0), (0, 0), (0, 0), (0, 0), (0, 0), (0, 0), (0, 0), (0, 0), (0, 0), (0, 0), (0, 0), (0, 0), (0, 0), (0, 0), (0, 0), (0, 0), (0, 0), (0, 0), (0, 0), (0, 0), (0, 0), (0, 0), (0, 0), (0, 0)]
def ac_170 : AC := .inr (1, [(1, (1, 46, 0)), (1, (1, 47, 0)), (1, (1, 48, 0)), (1, (1, 49, 0)), (1, (1, 50, 0)), (1, (1, 51, 0)), (1, (0, 0, 0)), (1, (1, 53, 0)), (1, (1, 54, 0)), (10, (2, 0, 300)), (16, (2, 0, 4)), (10, (2, 0, 40)), (1, (2, 1, 9)), (1, (0, 2, 0)), (2, (2, 2, 4)), (3, (2, 0, 4)), (1, (2, 0, 9)), (1, (0, 0, 0)), (5, (2, 0, 4)), (1, (2, 0, 9)), (1, (0, 0, 0)), (5, (2, 0, 4)), (1, (2, 0, 9)), (1, (0, 0, 0)), (5, (2, 0, 4)), (1, (2, 0, 9)), (1, (0, 0, 0)), (5, (2, 0, 4)), (1, (2, 0, 9)), (1, (0, 0, 0)), (5, (2, 0, 4)), (1, (2, 0, 9)), (1, (0, 0, 0)), (5, (2, 0, 4)), (30, (0, 0, 0))])
def gi_224 : GI := [(0, 0), (0, 0), (0, 0), (0, 0), (0, 0), (0, 0), (0, 0), (0, 0), (0, 700), (0, 700), (0, 700), (1, 1), ((-2147483648), 2147483647), (0, 0), ((-1), 700), (0, 0), (0, 0), (0, 0), (0, 0), (0, 0), (0, 0), (0, 0), (0, 0), (0, 0), (0, 0), (0, 0), (0, 0), (0, 0), (0, 0), (0, 0), (0, 0), (0, 0), (0, 0), (0, 0), (0, 0), (0, 0), (0, 0), (0, 0), (0, 0), (0, 0), (0, 0), (0, 0), (0, 0), (0, 0), (0, 0), (0, 0), (0, 16), (0, 3), (0, 10), (0, 5), (0, 8), (1, 5), (0, 0), (0, 30), (1, 26), (0, 0), (0, 0), (0, 0), (0, 0), (0, 0), (0, 0), (0, 0), (0, 0), (0, 0), (0, 0), (0, 0), (0, 0), (0, 0), (0, 0), (0, 0), (0, 0), (0, 0), (1, 4), (0, 0), (0, 0), (0, 0), (0, 0), (0, 0), (0, 0), (0, 0), (0, 0), (0, 700), (0, 700), (0, 4), ((-2147483648), 2147483647), (0, 0), (0, 0), (0, 0), (0, 0), (0, 0), (0, 0), (0, 0), (0, 0), (0, 0), (0, 0), (0, 0), (0, 0), (0, 0), (0, 0), (0, 0), (0, 0), (0, 0), (0, 0), (0, 0), (0, 0), (0, 0), (0, 0), (0, 0), (0, 0), (0, 0), (0, 0), (0, 0), (0, 0), (0, 0), (0, 0), (0, 0), (0, 0), (0, 0), (0, 0), (0, 0), (0, 0), (0, 0), (0, 0), (0, 0), (0, 0), (0, 0), (0, 0), (0, 0), (0, 0), (0, 0), (0, 0), (0, 0), (0, 0), (0, 0), (0, 0), (0, 0), (0, 0), (0, 0), (0, 0), (0, 0), (0, 0)]
def ac_171 : AC := .inr (1, [(1, (1, 46, 0)), (1, (1, 47, 0)), (1, (1, 48, 0)), (1, (1, 49, 0)), (1, (1, 50, 0)), (1, (1, 51, 0)), (1, (0, 0, 0)), (1, (1, 53, 0)), (1, (1, 54, 0)), (10, (2, 0, 300)), (16, (2, 0, 4)), (10, (2, 0, 40)), (1, (2, 1, 9)), (1, (0, 2, 0)), (2, (2, 1, 4)), (3, (2, 0, 4)), (1, (2, 0, 9)), (1, (0, 0, 0)), (5, (2, 0, 4)), (1, (2, 0, 9)), (1, (0, 0, 0)), (5, (2, 0, 4)), (1, (2, 0, 9)), (1, (0, 0, 0)), (5, (2, 0, 4)), (1, (2, 0, 9)), (1, (0, 0, 0)), (5, (2, 0, 4)), (1, (2, 0, 9)), (1, (0, 0, 0)), (5, (2, 0, 4)), (1, (2, 0, 9)), (1, (0, 0, 0)), (5, (2, 0, 4)), (30, (0, 0, 0))])
def gi_225 : GI := [(0, 0), (0, 0), (0, 0), (0, 0), (0, 0), (0, 0), (0, 0), (0, 0), (0, 700), (0, 700), (0, 700), (1, 1), ((-2147483648), 2147483647), (0, 0), ((-1), 700), (0, 0), (0, 0), (0, 0), (0, 0), (0, 0), (0, 0), (0, 0), (0, 0), (0, 0), (0, 0), (0, 0), (0, 0), (0, 0), (0, 0), (0, 0), (0, 0), (0, 0), (0, 0), (0, 0), (0, 0), (0, 0), (0, 0), (0, 0), (0, 0), (0, 0), (0, 0), (0, 0), (0, 0), (0, 0), (0, 0), (0, 0), (0, 16), (0, 3), (0, 10), (0, 5), (0, 8), (1, 5), (0, 0), (0, 30), (1, 26), (0, 0), (0, 0), (0, 0), (0, 0), (0, 0), (0, 0), (0, 0), (0, 0), (0, 0), (0, 0), (0, 0), (0, 0), (0, 0), (0, 0), (0, 0), (0, 0), (0, 0), (0, 4), (0, 0), (0, 0), (0, 0), (0, 0), (0, 0), (0, 0), (0, 0), (0, 0), (0, 700), (0, 700), (0, 4), ((-2147483648), 2147483647), (0, 0), (0, 0), (0, 0), (0, 0), (0, 0), (0, 0), (0, 0), (0, 0), (0, 0), (0, 0), (0, 0), (0, 0), (0, 0), (0, 0), (0, 0), (0, 0), (0, 0), (0, 0), (0, 0), (0, 0), (0, 0), (0, 0), (0, 0), (0, 0), (0, 0), (0, 0), (0, 0), (0, 0), (0, 0), (0, 0), (0, 0), (0, 0), (0, 0), (0, 0), (0, 0), (0, 0), (0, 0), (0, 0), (0, 0), (0, 0), (0, 0), (0, 0), (0, 0), (0, 0), (0, 0), (0, 0), (0, 0), (0, 0), (0, 0), (0, 0), (0, 0), (0, 0), (0, 0), (0, 0), (0, 0), (0, 0)]
def ac_172 : AC := .inr (1, [(1, (1, 46, 0)), (1, (1, 47, 0)), (1, (1, 48, 0)), (1, (1, 49, 0)), (1, (1, 50, 0)), (1, (1, 51, 0)), (1, (0, 0, 0)), (1, (1, 53, 0)), (1, (1, 54, 0)), (10, (2, 0, 300)), (16, (2, 0, 4)), (10, (2, 0, 40)), (1, (2, 1, 9)), (1, (0, 2, 0)), (5, (2, 0, 4)), (1, (2, 0, 9)), (1, (0, 0, 0)), (5, (2, 0, 4)), (1, (2, 0, 9)), (1, (0, 0, 0)), (5, (2, 0, 4)), (1, (2, 0, 9)), (1, (0, 0, 0)), (5, (2, 0, 4)), (1, (2, 0, 9)), (1, (0, 0, 0)), (5, (2, 0, 4)), (1, (2, 0, 9)), (1, (0, 0, 0)), (5, (2, 0, 4)), (1, (2, 0, 9)), (1, (0, 0, 0)), (5, (2, 0, 4)), (30, (0, 0, 0))])
def gi_226 : GI := [(0, 0), (0, 0), (0, 0), (0, 0), (0, 0), (0, 0), (0, 0), (0, 0), (0, 700), (0, 700), (0, 700), (1, 1), ((-2147483648), 2147483647), (0, 0), ((-1), 700), (0, 0), (0, 0), (0, 0), (0, 0), (0, 0), (0, 0), (0, 0), (0, 0), (0, 0), (0, 0), (0, 0), (0, 0), (0, 0), (0, 0), (0, 0), (0, 0), (0, 0), (0, 0), (0, 0), (0, 0), (0, 0), (0, 0), (0, 0), (0, 0), (0, 0), (0, 0), (0, 0), (0, 0), (0, 0), (0, 0), (0, 0), (0, 16), (0, 3), (0, 10), (0, 5), (0, 8), (1, 5), (0, 0), (0, 30), (1, 26), (0, 0), (0, 0), (0, 0), (0, 0), (0, 0), (0, 0), (0, 0), (0, 0), (0, 0), (0, 0), (0, 0), (0, 0), (0, 0), (0, 0), (0, 0), (0, 0), (0, 0), (2, 3), (0, 0), (0, 0), (0, 0), (0, 0), (0, 0), (0, 0), (0, 0), (0, 0), (0, 700), (0, 700), (0, 4), ((-2147483648), 2147483647), (0, 0), (0, 0), (0, 0), (0, 0), (0, 0), (0, 0), (0, 0), (0, 0), (0, 0), (0, 0), (0, 0), (0, 0), (0, 0), (0, 0), (0, 0), (0, 0), (0, 0), (0, 0), (0, 0), (0, 0), (0, 0), (0, 0), (0, 0), (0, 0), (0, 0), (0, 0), (0, 0), (0, 0), (0, 0), (0, 0), (0, 0), (0, 0), (0, 0), (0, 0), (0, 0), (0, 0), (0, 0), (0, 0), (0, 0), (0, 0), (0, 0), (0, 0), (0, 0), (0, 0), (0, 0), (0, 0), (0, 0), (0, 0), (0, 0), (0, 0), (0, 0), (0, 0), (0, 0), (0, 0), (0, 0), (0, 0)]
def ac_173 : AC := .inr (1, [(1, (1, 46, 0)), (1, (1, 47, 0)), (1, (1, 48, 0)), (1, (1, 49, 0)), (1, (1, 50, 0)), (1, (1, 51, 0)), (1, (0, 0, 0)), (1, (1, 53, 0)), (1, (1, 54, 0)), (10, (2, 0, 300)), (16, (2, 0, 4)), (10, (2, 0, 40)), (1, (2, 1, 9)), (1, (0, 2, 0)), (2, (2, 2, 3)), (3, (2, 0, 4)), (1, (2, 0, 9)), (1, (0, 0, 0)), (5, (2, 0, 4)), (1, (2, 0, 9)), (1, (0, 0, 0)), (5, (2, 0, 4)), (1, (2, 0, 9)), (1, (0, 0, 0)), (5, (2, 0, 4)), (1, (2, 0, 9)), (1, (0, 0, 0)), (5, (2, 0, 4)), (1, (2, 0, 9)), (1, (0, 0, 0)), (5, (2, 0, 4)), (1, (2, 0, 9)), (1, (0, 0, 0)), (5, (2, 0, 4)), (30, (0, 0, 0))])
def gi_227 : GI := [(0, 0), (0, 0), (0, 0), (0, 0), (0, 0), (0, 0), (0, 0), (0, 0), (0, 700), (0, 700), (0, 700), (1, 1), ((-2147483648), 2147483647), (0, 0), ((-1), 700), (0, 0), (0, 0), (0, 0), (0, 0), (0, 0), (0, 0), (0, 0), (0, 0), (0, 0), (0, 0), (0, 0), (0, 0), (0, 0), (0, 0), (0, 0), (0, 0), (0, 0), (0, 0), (0, 0), (0, 0), (0, 0), (0, 0), (0, 0), (0, 0), (0, 0), (0, 0), (0, 0), (0, 0), (0, 0), (0, 0), (0, 0), (0, 16), (0, 3), (0, 10), (0, 5), (0, 8), (1, 5), (0, 0), (0, 30), (1, 26), (0, 0), (0, 0), (0, 0), (0, 0), (0, 0), (0, 0), (0, 0), (0, 0), (0, 0), (0, 0), (0, 0), (0, 0), (0, 0), (0, 0), (0, 0), (0, 0), (0, 0), (1, 3), (0, 0), (0, 0), (0, 0), (0, 0), (0, 0), (0, 0), (0, 0), (0, 0), (0, 700), (0, 700), (0, 4), ((-2147483648), 2147483647), (0, 0), (0, 0), (0, 0), (0, 0), (0, 0), (0, 0), (0, 0), (0, 0), (0, 0), (0, 0), (0, 0), (0, 0), (0, 0), (0, 0), (0, 0), (0, 0), (0, 0), (0, 0), (0, 0), (0, 0), (0, 0), (0, 0), (0, 0), (0, 0), (0, 0), (0, 0), (0, 0), (0, 0), (0, 0), (0, 0), (0, 0), (0, 0), (0, 0), (0, 0), (0, 0), (0, 0), (0, 0), (0, 0), (0, 0), (0, 0), (0, 0), (0, 0), (0, 0), (0, 0), (0, 0), (0, 0), (0, 0), (0, 0), (0, 0), (0, 0), (0, 0), (0, 0), (0, 0), (0, 0), (0, 0), (0, 0)]
def ac_174 : AC := .inr (1, [(1, (1, 46, 0)), (1, (1, 47, 0)), (1, (1, 48, 0)), (1, (1, 49, 0)), (1, (1, 50, 0)), (1, (1, 51, 0)), (1, (0, 0, 0)), (1, (1, 53, 0)), (1, (1, 54, 0)), (10, (2, 0, 300)), (16, (2, 0, 4)), (10, (2, 0, 40)), (1, (2, 1, 9)), (1, (0, 2, 0)), (2, (2, 1, 3)), (3, (2, 0, 4)), (1, (2, 0, 9)), (1, (0, 0, 0)), (5, (2, 0, 4)), (1, (2, 0, 9)), (1, (0, 0, 0)), (5, (2, 0, 4)), (1, (2, 0, 9)), (1, (0, 0, 0)), (5, (2, 0, 4)), (1, (2, 0, 9)), (1, (0, 0, 0)), (5, (2, 0, 4)), (1, (2, 0, 9)), (1, (0, 0, 0)), (5, (2, 0, 4)), (1, (2, 0, 9)), (1, (0, 0, 0)), (5, (2, 0, 4)), (30, (0, 0, 0))])
def gi_228 : GI := [(0, 0), (0, 0), (0, 0), (0, 0), (0, 0), (0, 0), (0, 0), (0, 0), (0, 700), (0, 700), (0, 700), (1, 1), ((-2147483648), 2147483647), (0, 0), ((-1), 700), (0, 0), (0, 0), (0, 0), (0, 0), (0, 0), (0, 0), (0, 0), (0, 0), (0, 0), (0, 0), (0, 0), (0, 0), (0, 0), (0, 0), (0, 0), (0, 0), (0, 0), (0, 0), (0, 0), (0, 0), (0, 0), (0, 0), (0, 0), (0, 0), (0, 0), (0, 0), (0, 0), (0, 0), (0, 0), (0, 0), (0, 0), (0, 16), (0, 3), (0, 10), (0, 5), (0, 8), (1, 5), (0, 0), (0, 30), (1, 26), (0, 0), (0, 0), (0, 0), (0, 0), (0, 0), (0, 0), (0, 0), (0, 0), (0, 0), (0, 0), (0, 0), (0, 0), (0, 0), (0, 0), (0, 0), (0, 0), (0, 0), (0, 3), (0, 0), (0, 0), (0, 0), (0, 0), (0, 0), (0, 0), (0, 0), (0, 0), (0, 700), (0, 700), (0, 4), ((-2147483648), 2147483647), (0, 0), (0, 0), (0, 0), (0, 0), (0, 0), (0, 0), (0, 0), (0, 0), (0, 0), (0, 0), (0, 0), (0, 0), (0, 0), (0, 0), (0, 0), (0, 0), (0, 0), (0, 0), (0, 0), (0, 0), (0, 0), (0, 0), (0, 0), (0, 0), (0, 0), (0, 0), (0, 0), (0, 0), (0, 0), (0, 0), (0, 0), (0, 0), (0, 0), (0, 0), (0, 0), (0, 0), (0, 0), (0, 0), (0, 0), (0, 0), (0, 0), (0, 0), (0, 0), (0, 0), (0, 0), (0, 0), (0, 0), (0, 0), (0, 0), (0, 0), (0, 0), (0, 0), (0, 0), (0, 0), (0, 0), (0, 0)]
def ac_175 : AC := .inr (1, [(1, (1, 46, 0)), (1, (1, 47, 0)), (1, (1, 48, 0)), (1, (1, 49, 0)), (1, (1, 50, 0)), (1, (1, 51, 0)), (1, (0, 0, 0)), (1, (1, 53, 0)), (1, (1, 54, 0)), (10, (2, 0, 300)), (16, (2, 0, 4)), (10, (2, 0, 40)), (1, (2, 1, 9)), (1, (0, 2, 0)), (2, (2, 0, 3)), (3, (2, 0, 4)), (1, (2, 0, 9)), (1, (0, 0, 0)), (5, (2, 0, 4)), (1, (2, 0, 9)), (1, (0, 0, 0)), (5, (2, 0, 4)), (1, (2, 0, 9)), (1, (0, 0, 0)), (5, (2, 0, 4)), (1, (2, 0, 9)), (1, (0, 0, 0)), (5, (2, 0, 4)), (1, (2, 0, 9)), (1, (0, 0, 0)), (5, (2, 0, 4)), (1, (2, 0, 9)), (1, (0, 0, 0)), (5, (2, 0, 4)), (30, (0, 0, 0))])
def gi_229 : GI := [(0, 0), (0, 0), (0, 0), (0, 0), (0, 0), (0, 0), (0, 0), (0, 0), (0, 700), (0, 700), (0, 700), (1, 1), ((-2147483648), 2147483647), (0, 0), ((-1), 700), (0, 0), (0, 0), (0, 0), (0, 0), (0, 0), (0, 0), (0, 0), (0, 0), (0, 0), (0, 0), (0, 0), (0, 0), (0, 0), (0, 0), (0, 0), (0, 0), (0, 0), (0, 0), (0, 0), (0, 0), (0, 0), (0, 0), (0, 0), (0, 0), (0, 0), (0, 0), (0, 0), (0, 0), (0, 0), (0, 0), (0, 0), (0, 16), (0, 3), (0, 10), (0, 5), (0, 8), (1, 5), (0, 0), (0, 30), (1, 26), (0, 0), (0, 0), (0, 0), (0, 0), (0, 0), (0, 0), (0, 0), (0, 0), (0, 0), (0, 0), (0, 0), (0, 0), (0, 0), (0, 0), (0, 0), (0, 0), (0, 0), (1, 2), (0, 0), (0, 0), (0, 0), (0, 0), (0, 0), (0, 0), (0, 0), (0, 0), (0, 700), (0, 700), (0, 4), ((-2147483648), 2147483647), (0, 0), (0, 0), (0, 0), (0, 0), (0, 0), (0, 0), (0, 0), (0, 0), (0, 0), (0, 0), (0, 0), (0, 0), (0, 0), (0, 0), (0, 0), (0, 0), (0, 0), (0, 0), (0, 0), (0, 0), (0, 0), (0, 0), (0, 0), (0, 0), (0, 0), (0, 0), (0, 0), (0, 0), (0, 0), (0, 0), (0, 0), (0, 0), (0, 0), (0, 0), (0, 0), (0, 0), (0, 0), (0, 0), (0, 0), (0, 0), (0, 0), (0, 0), (0, 0), (0, 0), (0, 0), (0, 0), (0, 0), (0, 0), (0, 0), (0, 0), (0, 0), (0, 0), (0, 0), (0, 0), (0, 0), (0, 0)]
def ac_176 : AC := .inr (1, [(1, (1, 46, 0)), (1, (1, 47, 0)), (1, (1, 48, 0)), (1, (1, 49, 0)), (1, (1, 50, 0)), (1, (1, 51, 0)), (1, (0, 0, 0)), (1, (1, 53, 0)), (1, (1, 54, 0)), (10, (2, 0, 300)), (16, (2, 0, 4)), (10, (2, 0, 40)), (1, (2, 1, 9)), (1, (0, 2, 0)), (2, (2, 1, 2)), (3, (2, 0, 4)), (1, (2, 0, 9)), (1, (0, 0, 0)), (5, (2, 0, 4)), (1, (2, 0, 9)), (1, (0, 0, 0)), (5, (2, 0, 4)), (1, (2, 0, 9)), (1, (0, 0, 0)), (5, (2, 0, 4)), (1, (2, 0, 9)), (1, (0, 0, 0)), (5, (2, 0, 4)), (1, (2, 0, 9)), (1, (0, 0, 0)), (5, (2, 0, 4)), (1, (2, 0, 9)), (1, (0, 0, 0)), (5, (2, 0, 4)), (30, (0, 0, 0))])
def gi_230 : GI := [(0, 0), (0, 0), (0, 0), (0, 0), (0, 0), (0, 0), (0, 0), (0, 0), (0, 700), (0, 700), (0, 700), (1, 1), ((-2147483648), 2147483647), (0, 0), ((-1), 700), (0, 0), (0, 0), (0, 0), (0, 0), (0, 0), (0, 0), (0, 0), (0, 0), (0, 0), (0, 0), (0, 0), (0, 0), (0, 0), (0, 0), (0, 0), (0, 0), (0, 0), (0, 0), (0, 0), (0, 0), (0, 0), (0, 0), (0, 0), (0, 0), (0, 0), (0, 0), (0, 0), (0, 0), (0, 0), (0, 0), (0, 0), (0, 16), (0, 3), (0, 10), (0, 5), (0, 8), (1, 5), (0, 0), (0, 30), (1, 26), (0, 0), (0, 0), (0, 0), (0, 0), (0, 0), (0, 0), (0, 0), (0, 0), (0, 0), (0, 0), (0, 0), (0, 0), (0, 0), (0, 0), (0, 0), (0, 0), (0, 0), (0, 2), (0, 0), (0, 0), (0, 0), (0, 0), (0, 0), (0, 0), (0, 0), (0, 0), (0, 700), (0, 700), (0, 4), ((-2147483648), 2147483647), (0, 0), (0, 0), (0, 0), (0, 0), (0, 0), (0, 0), (0, 0), (0, 0), (0, 0), (0, 0), (0, 0), (0, 0), (0, 0), (0, 0), (0, 0), (0, 0), (0, 0), (0, 0), (0, 0), (0, 0), (0, 0), (0, 0), (0, 0), (0, 0), (0, 0), (0, 0), (0, 0), (0, 0), (0, 0), (0, 0), (0, 0), (0, 0), (0, 0), (0, 0), (0, 0), (0, 0), (0, 0), (0, 0), (0, 0), (0, 0), (0, 0), (0, 0), (0, 0), (0, 0), (0, 0), (0, 0), (0, 0), (0, 0), (0, 0), (0, 0), (0, 0), (0, 0), (0, 0), (0, 0), (0, 0), (0, 0)]
def ac_177 : AC := .inr (1, [(1, (1, 46, 0)), (1, (1, 47, 0)), (1, (1, 48, 0)), (1, (1, 49, 0)), (1, (1, 50, 0)), (1, (1, 51, 0)), (1, (0, 0, 0)), (1, (1, 53, 0)), (1, (1, 54, 0)), (10, (2, 0, 300)), (16, (2, 0, 4)), (10, (2, 0, 40)), (1, (2, 1, 9)), (1, (0, 2, 0)), (2, (2, 0, 2)), (3, (2, 0, 4)), (1, (2, 0, 9)), (1, (0, 0, 0)), (5, (2, 0, 4)), (1, (2, 0, 9)), (1, (0, 0, 0)), (5, (2, 0, 4)), (1, (2, 0, 9)), (1, (0, 0, 0)), (5, (2, 0, 4)), (1, (2, 0, 9)), (1, (0, 0, 0)), (5, (2, 0, 4)), (1, (2, 0, 9)), (1, (0, 0, 0)), (5, (2, 0, 4)), (1, (2, 0, 9)), (1, (0, 0, 0)), (5, (2, 0, 4)), (30, (0, 0, 0))])
def gi_231 : GI := [(0, 0), (0, 0), (0, 0), (0, 0), (0, 0), (0, 0), (0, 0), (0, 0), (0, 700), (0, 700), (0, 700), (1, 1), ((-2147483648), 2147483647), (0, 0), ((-1), 700), (0, 0), (0, 0), (0, 0), (0, 0), (0, 0), (0, 0), (0, 0), (0, 0), (0, 0), (0, 0), (0, 0), (0, 0), (0, 0), (0, 0), (0, 0), (0, 0), (0, 0), (0, 0), (0, 0), (0, 0), (0, 0), (0, 0), (0, 0), (0, 0), (0, 0), (0, 0), (0, 0), (0, 0), (0, 0), (0, 0), (0, 0), (0, 16), (0, 3), (0, 10), (0, 5), (0, 8), (1, 5), (0, 0), (0, 30), (1, 26), (0, 0), (0, 0), (0, 0), (0, 0), (0, 0), (0, 0), (0, 0), (0, 0), (0, 0), (0, 0), (0, 0), (0, 0), (0, 0), (0, 0), (0, 0), (0, 0), (0, 0), (0, 1), (0, 0), (0, 0), (0, 0), (0, 0), (0, 0), (0, 0), (0, 0), (0, 0), (0, 700), (0, 700), (0, 4), ((-2147483648), 2147483647), (0, 0), (0, 0), (0, 0), (0, 0), (0, 0), (0, 0), (0, 0), (0, 0), (0, 0), (0, 0), (0, 0), (0, 0), (0, 0), (0, 0), (0, 0), (0, 0), (0, 0), (0, 0), (0, 0), (0, 0), (0, 0), (0, 0), (0, 0), (0, 0), (0, 0), (0, 0), (0, 0), (0, 0), (0, 0), (0, 0), (0, 0), (0, 0), (0, 0), (0, 0), (0, 0), (0, 0), (0, 0), (0, 0), (0, 0), (0, 0), (0, 0), (0, 0), (0, 0), (0, 0), (0, 0), (0, 0), (0, 0), (0, 0), (0, 0), (0, 0), (0, 0), (0, 0), (0, 0), (0, 0), (0, 0), (0, 0)]
def ac_178 : AC := .inr (1, [(1, (1, 46, 0)), (1, (1, 47, 0)), (1, (1, 48, 0)), (1, (1, 49, 0)), (1, (1, 50, 0)), (1, (1, 51, 0)), (1, (0, 0, 0)), (1, (1, 53, 0)), (1, (1, 54, 0)), (10, (2, 0, 300)), (16, (2, 0, 4)), (10, (2, 0, 40)), (1, (2, 1, 9)), (1, (0, 2, 0)), (2, (2, 0, 1)), (3, (2, 0, 4)), (1, (2, 0, 9)), (1, (0, 0, 0)), (5, (2, 0, 4)), (1, (2, 0, 9)), (1, (0, 0, 0)), (5, (2, 0, 4)), (1, (2, 0, 9)), (1, (0, 0, 0)), (5, (2, 0, 4)), (1, (2, 0, 9)), (1, (0, 0, 0)), (5, (2, 0, 4)), (1, (2, 0, 9)), (1, (0, 0, 0)), (5, (2, 0, 4)), (1, (2, 0, 9)), (1, (0, 0, 0)), (5, (2, 0, 4)), (30, (0, 0, 0))])
def ac_179 : AC := .inr (1, [(1, (1, 46, 0)), (1, (1, 47, 0)), (1, (1, 48, 0)), (1, (1, 49, 0)), (1, (1, 50, 0)), (1, (1, 51, 0)), (1, (0, 0, 0)), (1, (1, 53, 0)), (1, (1, 54, 0)), (10, (2, 0, 300)), (16, (2, 0, 4)), (10, (2, 0, 40)), (1, (2, 1, 9)), (1, (0, 3, 0)), (3, (2, 2, 4)), (2, (2, 0, 4)), (1, (2, 0, 9)), (1, (0, 0, 0)), (5, (2, 0, 4)), (1, (2, 0, 9)), (1, (0, 0, 0)), (5, (2, 0, 4)), (1, (2, 0, 9)), (1, (0, 0, 0)), (5, (2, 0, 4)), (1, (2, 0, 9)), (1, (0, 0, 0)), (5, (2, 0, 4)), (1, (2, 0, 9)), (1, (0, 0, 0)), (5, (2, 0, 4)), (1, (2, 0, 9)), (1, (0, 0, 0)), (5, (2, 0, 4)), (30, (0, 0, 0))])
def ac_180 : AC := .inr (1, [(1, (1, 46, 0)), (1, (1, 47, 0)), (1, (1, 48, 0)), (1, (1, 49, 0)), (1, (1, 50, 0)), (1, (1, 51, 0)), (1, (0, 0, 0)), (1, (1, 53, 0)), (1, (1, 54, 0)), (10, (2, 0, 300)), (16, (2, 0, 4)), (10, (2, 0, 40)), (1, (2, 1, 9)), (1, (0, 3, 0)), (3, (2, 1, 4)), (2, (2, 0, 4)), (1, (2, 0, 9)), (1, (0, 0, 0)), (5, (2, 0, 4)), (1, (2, 0, 9)), (1, (0, 0, 0)), (5, (2, 0, 4)), (1, (2, 0, 9)), (1, (0, 0, 0)), (5, (2, 0, 4)), (1, (2, 0, 9)), (1, (0, 0, 0)), (5, (2, 0, 4)), (1, (2, 0, 9)), (1, (0, 0, 0)), (5, (2, 0, 4)), (1, (2, 0, 9)), (1, (0, 0, 0)), (5, (2, 0, 4)), (30, (0, 0, 0))])
def ac_181 : AC := .inr (1, [(1, (1, 46, 0)), (1, (1, 47, 0)), (1, (1, 48, 0)), (1, (1, 49, 0)), (1, (1, 50, 0)), (1, (1, 51, 0)), (1, (0, 0, 0)), (1, (1, 53, 0)), (1, (1, 54, 0)), (10, (2, 0, 300)), (16, (2, 0, 4)), (10, (2, 0, 40)), (1, (2, 1, 9)), (1, (0, 3, 0)), (5, (2, 0, 4)), (1, (2, 0, 9)), (1, (0, 0, 0)), (5, (2, 0, 4)), (1, (2, 0, 9)), (1, (0, 0, 0)), (5, (2, 0, 4)), (1, (2, 0, 9)), (1, (0, 0, 0)), (5, (2, 0, 4)), (1, (2, 0, 9)), (1, (0, 0, 0)), (5, (2, 0, 4)), (1, (2, 0, 9)), (1, (0, 0, 0)), (5, (2, 0, 4)), (1, (2, 0, 9)), (1, (0, 0, 0)), (5, (2, 0, 4)), (30, (0, 0, 0))])
def ac_182 : AC := .inr (1, [(1, (1, 46, 0)), (1, (1, 47, 0)), (1, (1, 48, 0)), (1, (1, 49, 0)), (1, (1, 50, 0)), (1, (1, 51, 0)), (1, (0, 0, 0)), (1, (1, 53, 0)), (1, (1, 54, 0)), (10, (2, 0, 300)), (16, (2, 0, 4)), (10, (2, 0, 40)), (1, (2, 1, 9)), (1, (0, 3, 0)), (3, (2, 1, 3)), (2, (2, 0, 4)), (1, (2, 0, 9)), (1, (0, 0, 0)), (5, (2, 0, 4)), (1, (2, 0, 9)), (1, (0, 0, 0)), (5, (2, 0, 4)), (1, (2, 0, 9)), (1, (0, 0, 0)), (5, (2, 0, 4)), (1, (2, 0, 9)), (1, (0, 0, 0)), (5, (2, 0, 4)), (1, (2, 0, 9)), (1, (0, 0, 0)), (5, (2, 0, 4)), (1, (2, 0, 9)), (1, (0, 0, 0)), (5, (2, 0, 4)), (30, (0, 0, 0))])
def ac_183 : AC := .inr (1, [(1, (1, 46, 0)), (1, (1, 47, 0)), (1, (1, 48, 0)), (1, (1, 49, 0)), (1, (1, 50, 0)), (1, (1, 51, 0)), (1, (0, 0, 0)), (1, (1, 53, 0)), (1, (1, 54, 0)), (10, (2, 0, 300)), (16, (2, 0, 4)), (10, (2, 0, 40)), (1, (2, 1, 9)), (1, (0, 3, 0)), (3, (2, 0, 3)), (2, (2, 0, 4)), (1, (2, 0, 9)), (1, (0, 0, 0)), (5, (2, 0, 4)), (1, (2, 0, 9)), (1, (0, 0, 0)), (5, (2, 0, 4)), (1, (2, 0, 9)), (1, (0, 0, 0)), (5, (2, 0, 4)), (1, (2, 0, 9)), (1, (0, 0, 0)), (5, (2, 0, 4)), (1, (2, 0, 9)), (1, (0, 0, 0)), (5, (2, 0, 4)), (1, (2, 0, 9)), (1, (0, 0, 0)), (5, (2, 0, 4)), (30, (0, 0, 0))])
def ac_184 : AC := .inr (1, [(1, (1, 46, 0)), (1, (1, 47, 0)), (1, (1, 48, 0)), (1, (1, 49, 0)), (1, (1, 50, 0)), (1, (1, 51, 0)), (1, (0, 0, 0)), (1, (1, 53, 0)), (1, (1, 54, 0)), (10, (2, 0, 300)), (16, (2, 0, 4)), (10, (2, 0, 40)), (1, (2, 1, 9)), (1, (0, 3, 0)), (3, (2, 0, 2)), (2, (2, 0, 4)), (1, (2, 0, 9)), (1, (0, 0, 0)), (5, (2, 0, 4)), (1, (2, 0, 9)), (1, (0, 0, 0)), (5, (2, 0, 4)), (1, (2, 0, 9)), (1, (0, 0, 0)), (5, (2, 0, 4)), (1, (2, 0, 9)), (1, (0, 0, 0)), (5, (2, 0, 4)), (1, (2, 0, 9)), (1, (0, 0, 0)), (5, (2, 0, 4)), (1, (2, 0, 9)), (1, (0, 0, 0)), (5, (2, 0, 4)), (30, (0, 0, 0))])
def gi_232 : GI := [(0, 0), (0, 0), (0, 0), (0, 0), (0, 0), (0, 0), (0, 0), (0, 0), (0, 700), (0, 700), (0, 700), (1, 1), ((-2147483648), 2147483647), (0, 0), ((-1), 700), (0, 0), (0, 0), (0, 0), (0, 0), (0, 0), (0, 0), (0, 0), (0, 0), (0, 0), (0, 0), (0, 0), (0, 0), (0, 0), (0, 0), (0, 0), (0, 0), (0, 0), (0, 0), (0, 0), (0, 0), (0, 0), (0, 0), (0, 0), (0, 0), (0, 0), (0, 0), (0, 0), (0, 0), (0, 0), (0, 0), (0, 0), (0, 16), (0, 3), (0, 10), (0, 5), (0, 8), (1, 5), (0, 0), (0, 30), (1, 26), (0, 0), (0, 0), (0, 0), (0, 0), (0, 0), (0, 0), (0, 0), (0, 0), (0, 0), (0, 0), (0, 0), (0, 0), (0, 0), (0, 0), (0, 0), (0, 0), (0, 0), (1, 4), (0, 0), (0, 0), (0, 0), (0, 0), (0, 0), (0, 0), (0, 0), (0, 0), (0, 700), (0, 700), (0, 4), ((-2147483648), 2147483647), (0, 0), (0, 0), (0, 0), (0, 0), (0, 0), (0, 0), (0, 0), (0, 0), (0, 0), (0, 0), (0, 0), (0, 0), (0, 0), (0, 0), (0, 0), (0, 0), (0, 0), (0, 0), (0, 0), (0, 0), (0, 0), (0, 0), (0, 0), (0, 0), (0, 0), (0, 0), (0, 0), (0, 0), (0, 0), (0, 0), (0, 0), (0, 0), (0, 0), (0, 0), (0, 0), (0, 0), (0, 0), (0, 0), (0, 0), (0, 0), (0, 0), (0, 0), (0, 0), (0, 0), (0, 0), (0, 0), (0, 0), (0, 0), (0, 0), (0, 0), (0, 0), (0, 0), (0, 0), (0, 0), (0, 0), (0, 0), (0, 0)]
def ac_185 : AC := .inr (1, [(1, (1, 46, 0)), (1, (1, 47, 0)), (1, (1, 48, 0)), (1, (1, 49, 0)), (1, (1, 50, 0)), (1, (1, 51, 0)), (1, (0, 0, 0)), (1, (1, 53, 0)), (1, (1, 54, 0)), (10, (2, 0, 300)), (16, (2, 0, 4)), (10, (2, 0, 40)), (1, (2, 1, 9)), (1, (0, 4, 0)), (4, (2, 1, 4)), (1, (2, 0, 4)), (1, (2, 0, 9)), (1, (0, 0, 0)), (5, (2, 0, 4)), (1, (2, 0, 9)), (1, (0, 0, 0)), (5, (2, 0, 4)), (1, (2, 0, 9)), (1, (0, 0, 0)), (5, (2, 0, 4)), (1, (2, 0, 9)), (1, (0, 0, 0)), (5, (2, 0, 4)), (1, (2, 0, 9)), (1, (0, 0, 0)), (5, (2, 0, 4)), (1, (2, 0, 9)), (1, (0, 0, 0)), (5, (2, 0, 4)), (30, (0, 0, 0))])
def ac_186 : AC := .inr (1, [(1, (1, 46, 0)), (1, (1, 47, 0)), (1, (1, 48, 0)), (1, (1, 49, 0)), (1, (1, 50, 0)), (1, (1, 51, 0)), (1, (0, 0, 0)), (1, (1, 53, 0)), (1, (1, 54, 0)), (10, (2, 0, 300)), (16, (2, 0, 4)), (10, (2, 0, 40)), (1, (2, 1, 9)), (1, (0, 4, 0)), (5, (2, 0, 4)), (1, (2, 0, 9)), (1, (0, 0, 0)), (5, (2, 0, 4)), (1, (2, 0, 9)), (1, (0, 0, 0)), (5, (2, 0, 4)), (1, (2, 0, 9)), (1, (0, 0, 0)), (5, (2, 0, 4)), (1, (2, 0, 9)), (1, (0, 0, 0)), (5, (2, 0, 4)), (1, (2, 0, 9)), (1, (0, 0, 0)), (5, (2, 0, 4)), (1, (2, 0, 9)), (1, (0, 0, 0)), (5, (2, 0, 4)), (30, (0, 0, 0))])
def gi_233 : GI := [(0, 0), (0, 0), (0, 0), (0, 0), (0, 0), (0, 0), (0, 0), (0, 0), (0, 700), (0, 700), (0, 700), (1, 1), ((-2147483648), 2147483647), (0, 0), ((-1), 700), (0, 0), (0, 0), (0, 0), (0, 0), (0, 0), (0, 0), (0, 0), (0, 0), (0, 0), (0, 0), (0, 0), (0, 0), (0, 0), (0, 0), (0, 0), (0, 0), (0, 0), (0, 0), (0, 0), (0, 0), (0, 0), (0, 0), (0, 0), (0, 0), (0, 0), (0, 0), (0, 0), (0, 0), (0, 0), (0, 0), (0, 0), (0, 16), (0, 3), (0, 10), (0, 5), (0, 8), (1, 5), (0, 0), (0, 30), (1, 26), (0, 0), (0, 0), (0, 0), (0, 0), (0, 0), (0, 0), (0, 0), (0, 0), (0, 0), (0, 0), (0, 0), (0, 0), (0, 0), (0, 0), (0, 0), (0, 0), (0, 0), (0, 3), (0, 0), (0, 0), (0, 0), (0, 0), (0, 0), (0, 0), (0, 0), (0, 0), (0, 700), (0, 700), (0, 4), ((-2147483648), 2147483647), (0, 0), (0, 0), (0, 0), (0, 0), (0, 0), (0, 0), (0, 0), (0, 0), (0, 0), (0, 0), (0, 0), (0, 0), (0, 0), (0, 0), (0, 0), (0, 0), (0, 0), (0, 0), (0, 0), (0, 0), (0, 0), (0, 0), (0, 0), (0, 0), (0, 0), (0, 0), (0, 0), (0, 0), (0, 0), (0, 0), (0, 0), (0, 0), (0, 0), (0, 0), (0, 0), (0, 0), (0, 0), (0, 0), (0, 0), (0, 0), (0, 0), (0, 0), (0, 0), (0, 0), (0, 0), (0, 0), (0, 0), (0, 0), (0, 0), (0, 0), (0, 0), (0, 0), (0, 0), (0, 0), (0, 0), (0, 0), (0, 0)]
def ac_187 : AC := .inr (1, [(1, (1, 46, 0)), (1, (1, 47, 0)), (1, (1, 48, 0)), (1, (1, 49, 0)), (1, (1, 50, 0)), (1, (1, 51, 0)), (1, (0, 0, 0)), (1, (1, 53, 0)), (1, (1, 54, 0)), (10, (2, 0, 300)), (16, (2, 0, 4)), (10, (2, 0, 40)), (1, (2, 1, 9)), (1, (0, 4, 0)), (4, (2, 0, 3)), (1, (2, 0, 4)), (1, (2, 0, 9)), (1, (0, 0, 0)), (5, (2, 0, 4)), (1, (2, 0, 9)), (1, (0, 0, 0)), (5, (2, 0, 4)), (1, (2, 0, 9)), (1, (0, 0, 0)), (5, (2, 0, 4)), (1, (2, 0, 9)), (1, (0, 0, 0)), (5, (2, 0, 4)), (1, (2, 0, 9)), (1, (0, 0, 0)), (5, (2, 0, 4)), (1, (2, 0, 9)), (1, (0, 0, 0)), (5, (2, 0, 4)), (30, (0, 0, 0))])
def ac_188 : AC := .inr (1, [(1, (1, 46, 0)), (1, (1, 47, 0)), (1, (1, 48, 0)), (1, (1, 49, 0)), (1, (1, 50, 0)), (1, (1, 51, 0)), (1, (0, 0, 0)), (1, (1, 53, 0)), (1, (1, 54, 0)), (10, (2, 0, 300)), (16, (2, 0, 4)), (10, (2, 0, 40)), (1, (2, 1, 9)), (1, (0, 5, 0)), (5, (2, 0, 4)), (1, (2, 0, 9)), (1, (0, 0, 0)), (5, (2, 0, 4)), (1, (2, 0, 9)), (1, (0, 0, 0)), (5, (2, 0, 4)), (1, (2, 0, 9)), (1, (0, 0, 0)), (5, (2, 0, 4)), (1, (2, 0, 9)), (1, (0, 0, 0)), (5, (2, 0, 4)), (1, (2, 0, 9)), (1, (0, 0, 0)), (5, (2, 0, 4)), (1, (2, 0, 9)), (1, (0, 0, 0)), (5, (2, 0, 4)), (30, (0, 0, 0))])
noncomputable def cu_547_0 : List CUT2 := [((31, [(0, (6, 0, 0)), (1, (0, 45, 0)), (2, (0, 0, 0))], [], gi_218, [(true, ac_159), (true, ac_160), (false, .inr (0, [(700, (2, (-128), 127))]))]), [], ([], 40)), ((31, [(0, (6, 0, 0)), (1, (0, 45, 0)), (2, (0, 0, 0))], [], gi_219, [(true, ac_161), (true, ac_162), (false, .inr (0, [(700, (2, (-128), 127))]))]), [], ([], 0)), ((31, [(0, (6, 0, 0)), (1, (0, 45, 0)), (2, (0, 16, 0)), (3, (0, 4, 0))], [], gi_220, [(true, ac_163), (true, ac_164), (false, .inr (0, [(700, (2, (-128), 127))]))]), [], ([], 39))]
noncomputable def cu_547_1 : List CUT2 := [((31, [(0, (6, 0, 0)), (1, (0, 45, 0)), (2, (0, 8, 0)), (3, (0, 3, 0))], [], gi_220, [(true, ac_163), (true, ac_165), (false, .inr (0, [(700, (2, (-128), 127))]))]), [], ([], 39)), ((31, [(0, (6, 0, 0)), (1, (0, 45, 0)), (2, (0, 4, 0)), (3, (0, 2, 0))], [], gi_220, [(true, ac_163), (true, ac_166), (false, .inr (0, [(700, (2, (-128), 127))]))]), [], ([], 39))]
noncomputable def cu_547_2 : List CUT2 := [((31, [(0, (6, 0, 0)), (1, (0, 45, 0)), (2, (0, 2, 0)), (3, (0, 1, 0))], [], gi_221, [(true, ac_163), (true, ac_167), (false, .inr (0, [(700, (2, (-128), 127))]))]), [], ([], 39)), ((31, [(0, (6, 0, 0)), (1, (0, 45, 0)), (2, (0, 1, 0)), (3, (0, 0, 0))], [], gi_220, [(true, ac_163), (true, ac_168), (false, .inr (0, [(700, (2, (-128), 127))]))]), [], ([], 39))]
noncomputable def cu_547_3 : List CUT2 := [((31, [(0, (6, 0, 0)), (1, (0, 45, 0)), (2, (0, 24, 0)), (3, (1, 72, 0))], [], gi_222, [(true, ac_163), (true, ac_169), (false, .inr (0, [(700, (2, (-128), 127))]))]), [], ([], 38)), ((31, [(0, (6, 0, 0)), (1, (0, 45, 0)), (2, (0, 20, 0)), (3, (1, 72, 0))], [], gi_223, [(true, ac_163), (true, ac_170), (false, .inr (0, [(700, (2, (-128), 127))]))]), [], ([], 38))]
noncomputable def cu_547_4 : List CUT2 := [((31, [(0, (6, 0, 0)), (1, (0, 45, 0)), (2, (0, 18, 0)), (3, (1, 72, 0))], [], gi_224, [(true, ac_163), (true, ac_171), (false, .inr (0, [(700, (2, (-128), 127))]))]), [], ([], 38)), ((31, [(0, (6, 0, 0)), (1, (0, 45, 0)), (2, (0, 17, 0)), (3, (1, 72, 0))], [], gi_225, [(true, ac_163), (true, ac_172), (false, .inr (0, [(700, (2, (-128), 127))]))]), [], ([], 38))]
noncomputable def cu_547_5 : List CUT2 := [((31, [(0, (6, 0, 0)), (1, (0, 45, 0)), (2, (0, 12, 0)), (3, (1, 72, 0))], [], gi_226, [(true, ac_163), (true, ac_173), (false, .inr (0, [(700, (2, (-128), 127))]))]), [], ([], 38)), ((31, [(0, (6, 0, 0)), (1, (0, 45, 0)), (2, (0, 10, 0)), (3, (1, 72, 0))], [], gi_227, [(true, ac_163), (true, ac_174), (false, .inr (0, [(700, (2, (-128), 127))]))]), [], ([], 38))]
noncomputable def cu_547_6 : List CUT2 := [((31, [(0, (6, 0, 0)), (1, (0, 45, 0)), (2, (0, 9, 0)), (3, (1, 72, 0))], [], gi_228, [(true, ac_163), (true, ac_175), (false, .inr (0, [(700, (2, (-128), 127))]))]), [], ([], 38)), ((31, [(0, (6, 0, 0)), (1, (0, 45, 0)), (2, (0, 6, 0)), (3, (1, 72, 0))], [], gi_229, [(true, ac_163), (true, ac_176), (false, .inr (0, [(700, (2, (-128), 127))]))]), [], ([], 38))]
noncomputable def cu_547_7 : List CUT2 := [((31, [(0, (6, 0, 0)), (1, (0, 45, 0)), (2, (0, 5, 0)), (3, (1, 72, 0))], [], gi_230, [(true, ac_163), (true, ac_177), (false, .inr (0, [(700, (2, (-128), 127))]))]), [], ([], 38)), ((31, [(0, (6, 0, 0)), (1, (0, 45, 0)), (2, (0, 3, 0)), (3, (1, 72, 0))], [], gi_231, [(true, ac_163), (true, ac_178), (false, .inr (0, [(700, (2, (-128), 127))]))]), [], ([], 38))]
noncomputable def cu_547_8 : List CUT2 := [((31, [(0, (6, 0, 0)), (1, (0, 45, 0)), (2, (0, 28, 0)), (3, (1, 72, 0))], [], gi_223, [(true, ac_163), (true, ac_179), (false, .inr (0, [(700, (2, (-128), 127))]))]), [], ([], 37)), ((31, [(0, (6, 0, 0)), (1, (0, 45, 0)), (2, (0, 26, 0)), (3, (1, 72, 0))], [], gi_224, [(true, ac_163), (true, ac_180), (false, .inr (0, [(700, (2, (-128), 127))]))]), [], ([], 37)), ((31, [(0, (6, 0, 0)), (1, (0, 45, 0)), (2, (0, 25, 0)), (3, (1, 72, 0))], [], gi_225, [(true, ac_163), (true, ac_181), (false, .inr (0, [(700, (2, (-128), 127))]))]), [], ([], 37))]
noncomputable def cu_547_9 : List CUT2 := [((31, [(0, (6, 0, 0)), (1, (0, 45, 0)), (2, (0, 22, 0)), (3, (1, 72, 0))], [], gi_224, [(true, ac_163), (true, ac_180), (false, .inr (0, [(700, (2, (-128), 127))]))]), [], ([], 37)), ((31, [(0, (6, 0, 0)), (1, (0, 45, 0)), (2, (0, 21, 0)), (3, (1, 72, 0))], [], gi_225, [(true, ac_163), (true, ac_181), (false, .inr (0, [(700, (2, (-128), 127))]))]), [], ([], 37)), ((31, [(0, (6, 0, 0)), (1, (0, 45, 0)), (2, (0, 19, 0)), (3, (1, 72, 0))], [], gi_225, [(true, ac_163), (true, ac_181), (false, .inr (0, [(700, (2, (-128), 127))]))]), [], ([], 37))]
noncomputable def cu_547_10 : List CUT2 := [((31, [(0, (6, 0, 0)), (1, (0, 45, 0)), (2, (0, 14, 0)), (3, (1, 72, 0))], [], gi_227, [(true, ac_163), (true, ac_182), (false, .inr (0, [(700, (2, (-128), 127))]))]), [], ([], 37)), ((31, [(0, (6, 0, 0)), (1, (0, 45, 0)), (2, (0, 13, 0)), (3, (1, 72, 0))], [], gi_228, [(true, ac_163), (true, ac_183), (false, .inr (0, [(700, (2, (-128), 127))]))]), [], ([], 37)), ((31, [(0, (6, 0, 0)), (1, (0, 45, 0)), (2, (0, 11, 0)), (3, (1, 72, 0))], [], gi_228, [(true, ac_163), (true, ac_183), (false, .inr (0, [(700, (2, (-128), 127))]))]), [], ([], 37))]
noncomputable def cu_547_11 : List CUT2 := [((31, [(0, (6, 0, 0)), (1, (0, 45, 0)), (2, (0, 7, 0)), (3, (1, 72, 0))], [], gi_230, [(true, ac_163), (true, ac_184), (false, .inr (0, [(700, (2, (-128), 127))]))]), [], ([], 37)), ((31, [(0, (6, 0, 0)), (1, (0, 45, 0)), (2, (0, 30, 0)), (3, (1, 72, 0))], [], gi_232, [(true, ac_163), (true, ac_185), (false, .inr (0, [(700, (2, (-128), 127))]))]), [], ([], 36)), ((31, [(0, (6, 0, 0)), (1, (0, 45, 0)), (2, (0, 29, 0)), (3, (1, 72, 0))], [], gi_225, [(true, ac_163), (true, ac_186), (false, .inr (0, [(700, (2, (-128), 127))]))]), [], ([], 36))]
noncomputable def cu_547_12 : List CUT2 := [((31, [(0, (6, 0, 0)), (1, (0, 45, 0)), (2, (0, 27, 0)), (3, (1, 72, 0))], [], gi_225, [(true, ac_163), (true, ac_186), (false, .inr (0, [(700, (2, (-128), 127))]))]), [], ([], 36)), ((31, [(0, (6, 0, 0)), (1, (0, 45, 0)), (2, (0, 23, 0)), (3, (1, 72, 0))], [], gi_225, [(true, ac_163), (true, ac_186), (false, .inr (0, [(700, (2, (-128), 127))]))]), [], ([], 36)), ((31, [(0, (6, 0, 0)), (1, (0, 45, 0)), (2, (0, 15, 0)), (3, (1, 72, 0))], [], gi_233, [(true, ac_163), (true, ac_187), (false, .inr (0, [(700, (2, (-128), 127))]))]), [], ([], 36))]
noncomputable def cu_547_13 : List CUT2 := [((31, [(0, (6, 0, 0)), (1, (0, 45, 0)), (2, (0, 31, 0)), (3, (1, 72, 0))], [], gi_225, [(true, ac_163), (true, ac_188), (false, .inr (0, [(700, (2, (-128), 127))]))]), [], ([], 35))]
noncomputable def cu_547 : List CUT2 := cu_547_0 ++ (cu_547_1 ++ (cu_547_2 ++ (cu_547_3 ++ (cu_547_4 ++ (cu_547_5 ++ (cu_547_6 ++ (cu_547_7 ++ (cu_547_8 ++ (cu_547_9 ++ (cu_547_10 ++ (cu_547_11 ++ (cu_547_12 ++ (cu_547_13)))))))))))))
theorem ch_547 : staG tb_X12_readVoter 1 bt_RX12 [] ct_547 rf_547 [] cu_547 64 con_547 = true := by decide +kernel
theorem cc_547_0 : cu_547_0.all (cutG tb_X12_readVoter 1 bt_RX12 [] ct_547 rf_547 [] cu_547 64 con_547) = true := by decide +kernel
theorem cc_547_1 : cu_547_1.all (cutG tb_X12_readVoter 1 bt_RX12 [] ct_547 rf_547 [] cu_547 64 con_547) = true := by decide +kernel
theorem cc_547_2 : cu_547_2.all (cutG tb_X12_readVoter 1 bt_RX12 [] ct_547 rf_547 [] cu_547 64 con_547) = true := by decide +kernel
theorem cc_547_3 : cu_547_3.all (cutG tb_X12_readVoter 1 bt_RX12 [] ct_547 rf_547 [] cu_547 64 con_547) = true := by decide +kernel
theorem cc_547_4 : cu_547_4.all (cutG tb_X12_readVoter 1 bt_RX12 [] ct_547 rf_547 [] cu_547 64 con_547) = true := by decide +kernel
theorem cc_547_5 : cu_547_5.all (cutG tb_X12_readVoter 1 bt_RX12 [] ct_547 rf_547 [] cu_547 64 con_547) = true := by decide +kernel
theorem cc_547_6 : cu_547_6.all (cutG tb_X12_readVoter 1 bt_RX12 [] ct_547 rf_547 [] cu_547 64 con_547) = true := by decide +kernel
theorem cc_547_7 : cu_547_7.all (cutG tb_X12_readVoter 1 bt_RX12 [] ct_547 rf_547 [] cu_547 64 con_547) = true := by decide +kernel
theorem cc_547_8 : cu_547_8.all (cutG tb_X12_readVoter 1 bt_RX12 [] ct_547 rf_547 [] cu_547 64 con_547) = true := by decide +kernel
theorem cc_547_9 : cu_547_9.all (cutG tb_X12_readVoter 1 bt_RX12 [] ct_547 rf_547 [] cu_547 64 con_547) = true := by decide +kernel
theorem cc_547_10 : cu_547_10.all (cutG tb_X12_readVoter 1 bt_RX12 [] ct_547 rf_547 [] cu_547 64 con_547) = true := by decide +kernel
theorem cc_547_11 : cu_547_11.all (cutG tb_X12_readVoter 1 bt_RX12 [] ct_547 rf_547 [] cu_547 64 con_547) = true := by decide +kernel
theorem cc_547_12 : cu_547_12.all (cutG tb_X12_readVoter 1 bt_RX12 [] ct_547 rf_547 [] cu_547 64 con_547) = true := by decide +kernel
theorem cc_547_13 : cu_547_13.all (cutG tb_X12_readVoter 1 bt_RX12 [] ct_547 rf_547 [] cu_547 64 con_547) = true := by decide +kernel
theorem cto_547 (l : Launch) : CTOK2 l RX12 vwCl gTbl ct_547 := ct2_cons (vl_382 l) ck_RX12_189_382 (ct2_cons (vl_314 l) ck_RX12_153_314 (ct2_cons (vl_343 l) ck_RX12_153_343 (ct2_cons (vl_546 l) ck_RX12_199_546 (ct2_cons (vl_545 l) ck_RX12_199_545 (ct2_cons (vl_544 l) ck_RX12_199_544 (ct2_cons (vl_543 l) ck_RX12_199_543 (ct2_cons (vl_542 l) ck_RX12_199_542 (ct2_cons (vl_541 l) ck_RX12_199_541 (ct2_cons (vl_540 l) ck_RX12_199_540 (ct2_cons (vl_539 l) ck_RX12_199_539 (ct2_cons (vl_538 l) ck_RX12_199_538 (ct2_cons (vl_537 l) ck_RX12_199_537 (ct2_cons (vl_536 l) ck_RX12_199_536 (ct2_cons (vl_535 l) ck_RX12_199_535 (ct2_cons (vl_534 l) ck_RX12_199_534 (ct2_cons (vl_533 l) ck_RX12_199_533 (ct2_cons (vl_532 l) ck_RX12_199_532 (ct2_cons (vl_531 l) ck_RX12_199_531 (ct2_cons (vl_530 l) ck_RX12_199_530 (ct2_cons (vl_529 l) ck_RX12_199_529 (ct2_cons (vl_528 l) ck_RX12_199_528 (ct2_cons (vl_527 l) ck_RX12_199_527 (ct2_cons (vl_526 l) ck_RX12_199_526 (ct2_cons (vl_525 l) ck_RX12_199_525 (ct2_cons (vl_524 l) ck_RX12_199_524 (ct2_cons (vl_523 l) ck_RX12_199_523 (ct2_cons (vl_522 l) ck_RX12_199_522 (ct2_cons (vl_521 l) ck_RX12_199_521 (ct2_cons (vl_520 l) ck_RX12_199_520 (ct2_cons (vl_519 l) ck_RX12_199_519 (ct2_cons (vl_518 l) ck_RX12_199_518 (ct2_cons (vl_517 l) ck_RX12_199_517 (ct2_cons (vl_516 l) ck_RX12_199_516 (ct2_cons (vl_515 l) ck_RX12_199_515 (ct2_cons (vl_514 l) ck_RX12_199_514 (ct2_cons (vl_513 l) ck_RX12_199_513 (ct2_cons (vl_512 l) ck_RX12_199_512 (ct2_cons (vl_511 l) ck_RX12_199_511 (ct2_cons (vl_510 l) ck_RX12_199_510 (ct2_cons (vl_509 l) ck_RX12_199_509 (ct2_cons (vl_508 l) ck_RX12_199_508 (ct2_cons (vl_507 l) ck_RX12_199_507 (ct2_cons (vl_506 l) ck_RX12_199_506 (ct2_cons (vl_505 l) ck_RX12_199_505 (ct2_cons (vl_504 l) ck_RX12_199_504 (ct2_cons (vl_503 l) ck_RX12_199_503 (ct2_cons (vl_502 l) ck_RX12_199_502 (ct2_cons (vl_501 l) ck_RX12_199_501 (ct2_cons (vl_500 l) ck_RX12_199_500 (ct2_cons (vl_499 l) ck_RX12_199_499 (ct2_cons (vl_498 l) ck_RX12_199_498 (ct2_cons (vl_497 l) ck_RX12_199_497 (ct2_cons (vl_496 l) ck_RX12_199_496 (ct2_cons (vl_495 l) ck_RX12_199_495 (ct2_cons (vl_494 l) ck_RX12_199_494 (ct2_cons (vl_493 l) ck_RX12_199_493 (ct2_cons (vl_492 l) ck_RX12_199_492 (ct2_cons (vl_491 l) ck_RX12_199_491 (ct2_cons (vl_490 l) ck_RX12_199_490 (ct2_cons (vl_489 l) ck_RX12_199_489 (ct2_cons (vl_488 l) ck_RX12_199_488 (ct2_cons (vl_487 l) ck_RX12_199_487 (ct2_cons (vl_486 l) ck_RX12_199_486 (ct2_cons (vl_485 l) ck_RX12_199_485 (ct2_cons (vl_484 l) ck_RX12_199_484 (ct2_cons (vl_483 l) ck_RX12_199_483 (ct2_cons (vl_482 l) ck_RX12_199_482 (ct2_cons (vl_481 l) ck_RX12_199_481 (ct2_cons (vl_480 l) ck_RX12_199_480 (ct2_cons (vl_479 l) ck_RX12_199_479 (ct2_cons (vl_478 l) ck_RX12_199_478 (ct2_cons (vl_477 l) ck_RX12_199_477 (ct2_cons (vl_476 l) ck_RX12_199_476 (ct2_cons (vl_475 l) ck_RX12_199_475 (ct2_cons (vl_474 l) ck_RX12_199_474 (ct2_cons (vl_473 l) ck_RX12_199_473 (ct2_cons (vl_472 l) ck_RX12_199_472 (ct2_cons (vl_471 l) ck_RX12_199_471 (ct2_cons (vl_470 l) ck_RX12_199_470 (ct2_cons (vl_469 l) ck_RX12_199_469 (ct2_cons (vl_468 l) ck_RX12_199_468 (ct2_cons (vl_467 l) ck_RX12_199_467 (ct2_cons (vl_466 l) ck_RX12_199_466 (ct2_cons (vl_465 l) ck_RX12_199_465 (ct2_cons (vl_464 l) ck_RX12_199_464 (ct2_cons (vl_463 l) ck_RX12_199_463 (ct2_cons (vl_462 l) ck_RX12_199_462 (ct2_cons (vl_461 l) ck_RX12_199_461 (ct2_cons (vl_460 l) ck_RX12_199_460 (ct2_cons (vl_459 l) ck_RX12_199_459 (ct2_cons (vl_458 l) ck_RX12_199_458 (ct2_cons (vl_457 l) ck_RX12_199_457 (ct2_cons (vl_456 l) ck_RX12_199_456 (ct2_cons (vl_455 l) ck_RX12_199_455 (ct2_cons (vl_454 l) ck_RX12_199_454 (ct2_cons (vl_453 l) ck_RX12_199_453 (ct2_cons (vl_452 l) ck_RX12_199_452 (ct2_cons (vl_451 l) ck_RX12_199_451 (ct2_cons (vl_450 l) ck_RX12_199_450 (ct2_cons (vl_449 l) ck_RX12_199_449 (ct2_cons (vl_448 l) ck_RX12_199_448 (ct2_cons (vl_447 l) ck_RX12_199_447 (ct2_cons (vl_446 l) ck_RX12_199_446 (ct2_cons (vl_445 l) ck_RX12_199_445 (ct2_cons (vl_444 l) ck_RX12_199_444 (ct2_cons (vl_443 l) ck_RX12_199_443 (ct2_cons (vl_442 l) ck_RX12_199_442 (ct2_cons (vl_441 l) ck_RX12_199_441 (ct2_cons (vl_440 l) ck_RX12_199_440 (ct2_cons (vl_439 l) ck_RX12_199_439 (ct2_cons (vl_438 l) ck_RX12_199_438 (ct2_cons (vl_437 l) ck_RX12_199_437 (ct2_cons (vl_436 l) ck_RX12_199_436 (ct2_cons (vl_435 l) ck_RX12_199_435 (ct2_cons (vl_434 l) ck_RX12_199_434 (ct2_cons (vl_433 l) ck_RX12_199_433 (ct2_cons (vl_432 l) ck_RX12_199_432 (ct2_cons (vl_431 l) ck_RX12_199_431 (ct2_cons (vl_430 l) ck_RX12_199_430 (ct2_cons (vl_429 l) ck_RX12_199_429 (ct2_cons (vl_428 l) ck_RX12_199_428 (ct2_cons (vl_427 l) ck_RX12_199_427 (ct2_cons (vl_426 l) ck_RX12_199_426 (ct2_cons (vl_425 l) ck_RX12_199_425 (ct2_cons (vl_424 l) ck_RX12_199_424 (ct2_cons (vl_423 l) ck_RX12_199_423 (ct2_cons (vl_422 l) ck_RX12_199_422 (ct2_cons (vl_421 l) ck_RX12_199_421 (ct2_cons (vl_420 l) ck_RX12_199_420 (ct2_cons (vl_419 l) ck_RX12_199_419 (ct2_cons (vl_418 l) ck_RX12_199_418 (ct2_cons (vl_417 l) ck_RX12_199_417 (ct2_cons (vl_416 l) ck_RX12_199_416 (ct2_cons (vl_415 l) ck_RX12_199_415 (ct2_cons (vl_414 l) ck_RX12_199_414 (ct2_cons (vl_413 l) ck_RX12_199_413 (ct2_cons (vl_412 l) ck_RX12_199_412 (ct2_cons (vl_411 l) ck_RX12_199_411 (ct2_cons (vl_410 l) ck_RX12_199_410 (ct2_cons (vl_409 l) ck_RX12_199_409 (ct2_cons (vl_408 l) ck_RX12_199_408 (ct2_cons (vl_407 l) ck_RX12_199_407 (ct2_cons (vl_406 l) ck_RX12_199_406 (ct2_cons (vl_405 l) ck_RX12_199_405 (ct2_cons (vl_404 l) ck_RX12_199_404 (ct2_cons (vl_403 l) ck_RX12_199_403 (ct2_cons (vl_402 l) ck_RX12_199_402 (ct2_cons (vl_401 l) ck_RX12_199_401 (ct2_cons (vl_400 l) ck_RX12_199_400 (ct2_cons (vl_399 l) ck_RX12_199_399 (ct2_cons (vl_398 l) ck_RX12_199_398 (ct2_cons (vl_397 l) ck_RX12_199_397 (ct2_cons (vl_396 l) ck_RX12_199_396 (ct2_cons (vl_395 l) ck_RX12_199_395 (ct2_cons (vl_394 l) ck_RX12_199_394 (ct2_cons (vl_393 l) ck_RX12_199_393 (ct2_cons (vl_392 l) ck_RX12_199_392 (ct2_cons (vl_389 l) ck_RX12_199_389 (ct2_cons (vl_388 l) ck_RX12_199_388 (ct2_cons (vl_387 l) ck_RX12_199_387 (ct2_cons (vl_386 l) ck_RX12_199_386 (ct2_cons (vl_383 l) ck_RX12_199_383 (ct2_cons (vl_390 l) ck_RX12_199_390 (ct2_cons (vl_324 l) ck_RX12_175_324 (ct2_cons (vl_385 l) ck_RX12_183_385 (ct2_cons (vl_391 l) ck_RX12_183_391 (ct2_cons (vl_314 l) ck_RX12_153_314 (ct2_cons (vl_343 l) ck_RX12_153_343 (ct2_nil)))))))))))))))))))))))))))))))))))))))))))))))))))))))))))))))))))))))))))))))))))))))))))))))))))))))))))))))))))))))))))))))))))))))))))))))))))))))))))))))))))))))))
theorem vl_547 (l : Launch) : Vld2 l vwCl gTbl con_547 := conR_ok3 gT_all (hd_547) rfl pn_RX12 tk_X12_readVoter bo_RX12 xo_RX12 (cto_547 l) ch_547 (cut_app (cut_all cc_547_0) (cut_app (cut_all cc_547_1) (cut_app (cut_all cc_547_2) (cut_app (cut_all cc_547_3) (cut_app (cut_all cc_547_4) (cut_app (cut_all cc_547_5) (cut_app (cut_all cc_547_6) (cut_app (cut_all cc_547_7) (cut_app (cut_all cc_547_8) (cut_app (cut_all cc_547_9) (cut_app (cut_all cc_547_10) (cut_app (cut_all cc_547_11) (cut_app (cut_all cc_547_12) (cut_all cc_547_13))))))))))))))
noncomputable def gh_548 : GI := [(0, 0), (0, 0), (0, 0), (0, 0), (0, 0), (0, 0), (0, 0), (0, 0), (0, 0), (0, 0), (0, 700), (0, 700), (0, 4), (0, 0), (0, 0), (0, 0), (0, 0), (0, 0), (0, 0), (0, 0), (0, 0), (0, 0), (0, 0), (0, 0), (0, 0), (0, 0), (0, 0), (0, 0), (0, 0), (0, 0), (0, 0), (0, 0), (0, 0), (0, 0), (0, 0), (0, 0), (0, 0), (0, 0), (0, 0), (0, 0), (0, 0), (0, 0), (0, 0), (0, 0), (0, 0), (0, 0), (0, 0)]
noncomputable def fh_548 : List AV := [(8, 2, 0), (8, 3, 0), (8, 4, 0), (8, 5, 0), (6, 1, 0), (8, 7, 0), (8, 8, 0), (8, 9, 0), (1, 10, 0), (1, 11, 0), (1, 12, 0), (8, 13, 0), (0, 0, 0), (8, 15, 0), (8, 16, 0), (8, 17, 0), (8, 18, 0), (8, 19, 0), (8, 20, 0), (8, 21, 0), (8, 22, 0), (8, 23, 0), (8, 24, 0), (8, 25, 0), (8, 26, 0), (8, 27, 0), (8, 28, 0), (8, 29, 0), (8, 30, 0), (8, 31, 0), (8, 32, 0), (8, 33, 0), (8, 34, 0), (8, 35, 0), (8, 36, 0), (8, 37, 0), (8, 38, 0), (8, 39, 0), (8, 40, 0), (8, 41, 0), (8, 42, 0), (8, 43, 0), (8, 44, 0), (8, 45, 0), (8, 46, 0)]
noncomputable def con_548 : Con2 := ((yX12_is, cX12_is, 4, some .boolean), (8, 200), ([(6, 0, 0), (13, 8, 0)], gh_548, [.inl (12, fh_548), .inr (0, [(700, (2, (-128), 127))])], []), [((0, 1, 0), gh_548 ++ [(0, 0)], [(false, .inl (12, fh_548)), (false, .inr (0, [(700, (2, (-128), 127))]))], [], [1])])
theorem hv_548 (l : Launch) {ec : List va_E} (h : ((1 = 1 → isE 8 ec) ∧ (1 ≠ 1 → ¬ isE 8 ec))) : VldE l vwCl gTbl con_548 ec := is_vld (i := 8) (v := 1) (G := gh_548) (fsA := fh_548) (sg := [(700, (2, (-128), 127))]) (by decide) (by decide +kernel) (a12 := (0, 0, 0)) (a10 := (1, 12, 0)) (a8 := (1, 10, 0)) (a9 := (1, 11, 0)) rfl rfl rfl rfl rfl (q12 := (0, 0)) (q10 := (0, 4)) (q8 := (0, 700)) (q9 := (0, 700)) rfl rfl rfl rfl (by decide +kernel) (by decide +kernel) (Or.inl ⟨h.1 rfl, rfl⟩)
/-- RookHustingModel isFull -/
def gi_234 : GI := [(0, 0), (0, 0), (0, 0), (0, 0), (0, 0), (0, 0), (0, 0), (0, 0), (0, 0), (0, 700), (0, 700), (0, 4), (0, 0), (0, 0), (0, 0), (0, 0), (0, 0), (0, 0), (0, 0), (0, 0), (0, 0), (0, 0), (0, 0), (0, 0), (0, 0), (0, 0), (0, 0), (0, 0), (0, 0), (0, 0), (0, 0), (0, 0), (0, 0), (0, 0), (0, 0), (0, 0), (0, 0), (0, 0), (0, 0), (0, 0), (0, 0), (0, 0), (0, 0), (0, 0), (0, 0), (0, 0), (0, 16), (0, 3), (0, 10), (0, 5), (0, 8), (0, 4), (0, 7), (0, 30), (0, 2147483647), (0, 0), (0, 0), (0, 0), (0, 0), (0, 0), (0, 0), (0, 0), (0, 0), (0, 0), (0, 0), (0, 0), (0, 0), (0, 0), (0, 0), (0, 0)]
def gi_235 : GI := [(0, 0), (0, 0), (0, 0), (0, 0), (0, 0), (0, 0), (0, 0), (0, 0), (0, 0), (0, 700), (0, 700), (0, 4), (0, 0), (0, 0), (0, 0), (0, 0), (0, 0), (0, 0), (0, 0), (0, 0), (0, 0), (0, 0), (0, 0), (0, 0), (0, 0), (0, 0), (0, 0), (0, 0), (0, 0), (0, 0), (0, 0), (0, 0), (0, 0), (0, 0), (0, 0), (0, 0), (0, 0), (0, 0), (0, 0), (0, 0), (0, 0), (0, 0), (0, 0), (0, 0), (0, 0), (0, 0), (0, 16), (0, 3), (0, 10), (0, 5), (0, 8), (5, 5), (0, 7), (0, 30), (0, 2147483647), (0, 0), (0, 0), (0, 0), (0, 0), (0, 0), (0, 0), (0, 0), (0, 0), (0, 0), (0, 0), (0, 0), (0, 0), (0, 0), (0, 0), (0, 0)]
noncomputable def con_549 : Con2 := ((yX12_isFull, cX12_isFull, 1, (some .boolean)), (9, 223), ([(6, 0, 0)], gi_202, [ac_154, .inr (0, [(700, (2, (-128), 127))]), ac_153], []), [((0, 0, 0), gi_234, [(false, ac_154), (false, .inr (0, [(700, (2, (-128), 127))])), (false, ac_153)], [], [1]), ((0, 1, 0), gi_235, [(false, ac_154), (false, .inr (0, [(700, (2, (-128), 127))])), (false, ac_153)], [], [1])])
theorem hd_549 : con_549.1 = (yX12_isFull, cX12_isFull, 1, (some .boolean)) := rfl
noncomputable def ct_549 : CTB2 := []
noncomputable def ft_549 : CTB2 := [(3, 165, 0, con_362, [0, 1]), (22, 165, 0, con_363, [0, 1]), (44, 165, 0, con_548, [0, 1]), (63, 165, 0, con_365, [0, 1])]
theorem ck_RX12_165_365 : COK2 RX12 vwCl gTbl 165 0 con_365 := ⟨wd_1603, wd_137, mh_X12_is, .inr (.inr ⟨rfl, wd_1600, wd_1602, wd_58, ⟨_, rfl, pd_X12_is⟩, 12, _, TX12, 45, rfl, rfl⟩)⟩
theorem ck_RX12_165_548 : COK2 RX12 vwCl gTbl 165 0 con_548 := ⟨wd_1603, wd_137, mh_X12_is, .inr (.inr ⟨rfl, wd_1600, wd_1602, wd_58, ⟨_, rfl, pd_X12_is⟩, 12, _, TX12, 45, rfl, rfl⟩)⟩
theorem fto_549 (l : Launch) {es : List va_E} (f2 : isFact 2 0 [0, 1] es) (f5 : isFact 5 0 [0, 1] es) (f8 : isFact 8 1 [0, 1] es) (f12 : isFact 12 0 [0, 1] es) : FTOK2 l RX12 vwCl gTbl es ft_549 := ft2_cons (fun ec he => hv_362 l (f2 ec he)) ck_RX12_165_362 (ft2_cons (fun ec he => hv_363 l (f5 ec he)) ck_RX12_165_363 (ft2_cons (fun ec he => hv_548 l (f8 ec he)) ck_RX12_165_548 (ft2_cons (fun ec he => hv_365 l (f12 ec he)) ck_RX12_165_365 (ft2_nil))))
noncomputable def cu_549 : List CUT2 := []
theorem ch_549 : staG tb_X12_isFull 1 bt_RX12 ft_549 ct_549 [] [] cu_549 26 con_549 = true := by decide +kernel
theorem cto_549 (l : Launch) : CTOK2 l RX12 vwCl gTbl ct_549 := ct2_nil
theorem hv_549 (l : Launch) {es : List va_E} (f2 : isFact 2 0 [0, 1] es) (f5 : isFact 5 0 [0, 1] es) (f8 : isFact 8 1 [0, 1] es) (f12 : isFact 12 0 [0, 1] es) : VldE l vwCl gTbl con_549 es := conE_ok3 gT_all (hd_549) rfl pn_RX12 tk_X12_isFull bo_RX12 xo_RX12 (fto_549 l f2 f5 f8 f12) (cto_549 l) ch_549 cut_nil
/-- RookHustingModel errs -/
def ac_189 : AC := .inl (12, [(8, 2, 0), (8, 3, 0), (8, 4, 0), (8, 5, 0), (8, 6, 0), (8, 7, 0), (8, 8, 0), (8, 9, 0), (8, 10, 0), (1, 11, 0), (8, 12, 0), (8, 13, 0), (0, 3, 0), (1, 11, 0), (8, 16, 0), (8, 17, 0), (8, 18, 0), (8, 19, 0), (8, 20, 0), (8, 21, 0), (8, 22, 0), (8, 23, 0), (8, 24, 0), (8, 25, 0), (8, 26, 0), (8, 27, 0), (8, 28, 0), (8, 29, 0), (8, 30, 0), (8, 31, 0), (8, 32, 0), (8, 33, 0), (8, 34, 0), (8, 35, 0), (8, 36, 0), (8, 37, 0), (8, 38, 0), (8, 39, 0), (8, 40, 0), (8, 41, 0), (8, 42, 0), (8, 43, 0), (8, 44, 0), (8, 45, 0), (8, 46, 0)])
noncomputable def con_550 : Con2 := ((yX12_errs, cX12_errs, 2, none), (1, 20), ([(6, 0, 0), (0, 3, 0)], gi_163, [ac_115], []), [((9, 0, 0), gi_164, [(true, ac_189)], [], [1, 1, 1, 1, 1, 1, 1, 1, 1, 1, 1, 1, 1, 1, 1, 1, 1, 1, 1, 1, 1, 1, 1, 1, 1, 1, 1, 1, 1, 1, 1, 1, 1, 1, 1, 1, 1, 1, 1, 1, 1, 1, 1, 1, 1])])
theorem hd_550 : con_550.1 = (yX12_errs, cX12_errs, 2, none) := rfl
noncomputable def ct_550 : CTB2 := [(1, 153, 0, con_314, [0])]
noncomputable def cu_550 : List CUT2 := []
theorem ch_550 : staG tb_X12_errs 1 bt_RX12 [] ct_550 [] [] cu_550 13 con_550 = true := by decide +kernel
theorem cto_550 (l : Launch) : CTOK2 l RX12 vwCl gTbl ct_550 := ct2_cons (vl_314 l) ck_RX12_153_314 (ct2_nil)
theorem vl_550 (l : Launch) : Vld2 l vwCl gTbl con_550 := conR_ok3 gT_all (hd_550) rfl pn_RX12 tk_X12_errs bo_RX12 xo_RX12 (cto_550 l) ch_550 cut_nil
/-- RookHustingModel good -/
def ac_190 : AC := .inl (12, [(8, 1, 0), (8, 2, 0), (8, 3, 0), (8, 4, 0), (8, 5, 0), (8, 6, 0), (8, 7, 0), (8, 8, 0), (8, 9, 0), (8, 10, 0), (8, 11, 0), (8, 12, 0), (0, 3, 0), (8, 14, 0), (8, 15, 0), (8, 16, 0), (8, 17, 0), (8, 18, 0), (8, 19, 0), (8, 20, 0), (8, 21, 0), (8, 22, 0), (8, 23, 0), (8, 24, 0), (8, 25, 0), (8, 26, 0), (8, 27, 0), (8, 28, 0), (8, 29, 0), (8, 30, 0), (8, 31, 0), (8, 32, 0), (8, 33, 0), (8, 34, 0), (8, 35, 0), (8, 36, 0), (8, 37, 0), (8, 38, 0), (8, 39, 0), (8, 40, 0), (8, 41, 0), (8, 42, 0), (8, 43, 0), (8, 44, 0), (8, 45, 0)])
noncomputable def con_551 : Con2 := ((yX12_good, cX12_good, 1, (some .boolean)), (0, 0), ([(6, 0, 0)], gi_153, [ac_190], []), [((0, 0, 0), gi_154, [(false, ac_190)], [], [1])])
theorem hd_551 : con_551.1 = (yX12_good, cX12_good, 1, (some .boolean)) := rfl
noncomputable def ct_551 : CTB2 := []
noncomputable def cu_551 : List CUT2 := []
theorem ch_551 : staG tb_X12_good 1 bt_RX12 [] ct_551 [] [] cu_551 7 con_551 = true := by decide +kernel
theorem cto_551 (l : Launch) : CTOK2 l RX12 vwCl gTbl ct_551 := ct2_nil
theorem vl_551 (l : Launch) : Vld2 l vwCl gTbl con_551 := conR_ok3 gT_all (hd_551) rfl pn_RX12 tk_X12_good bo_RX12 xo_RX12 (cto_551 l) ch_551 cut_nil
/-- RookHustingModel takes -/
def gi_236 : GI := [(0, 0), (0, 0), (0, 0), (0, 0), (0, 0), (0, 0), (0, 0), (0, 0), (0, 0), (0, 700), (0, 700), (0, 700), (0, 4), ((-2147483648), 2147483647), (0, 0), (0, 0), (0, 0), (0, 0), (0, 0), (0, 0), (0, 0), (0, 0), (0, 0), (0, 0), (0, 0), (0, 0), (0, 0), (0, 0), (0, 0), (0, 0), (0, 0), (0, 0), (0, 0), (0, 0), (0, 0), (0, 0), (0, 0), (0, 0), (0, 0), (0, 0), (0, 0), (0, 0), (0, 0), (0, 0), (0, 0), (0, 0), (0, 0), (0, 0), (0, 0), (0, 0), (0, 0), (0, 0), (0, 0), (0, 0), (0, 0), (0, 0), (0, 700), (0, 700), (0, 4), ((-2147483648), 2147483647), (0, 0), (0, 0), (0, 0), (0, 0), (0, 0), (0, 0), (0, 0), (0, 0), (0, 0), (0, 0), (0, 0), (0, 0), (0, 0), (0, 0), (0, 0), (0, 0), (0, 0), (0, 0), (0, 0), (0, 0), (0, 0), (0, 0), (0, 0), (0, 0), (0, 0), (0, 0), (0, 0), (0, 0), (0, 0), (0, 0), (0, 0), (0, 0), (0, 0)]
noncomputable def con_552 : Con2 := ((yX12_takes, cX12_takes, 3, (some .boolean)), (9, 223), ([(6, 0, 0), (13, 8, 0)], gi_160, [ac_113, .inr (0, [(700, (2, (-128), 127))])], []), [((0, 1, 0), gi_236, [(true, ac_114), (false, .inr (0, [(700, (2, (-128), 127))]))], [], [1, 1, 1, 1, 1, 1, 1, 1, 1, 1, 1, 1, 1, 1, 1, 1, 1, 1, 1, 1, 1, 1, 1, 1, 1, 1, 1, 1, 1, 1, 1, 1, 1, 1, 1, 1, 1, 1, 1, 1, 1, 1, 1, 1, 1, 1])])
theorem hd_552 : con_552.1 = (yX12_takes, cX12_takes, 3, (some .boolean)) := rfl
noncomputable def ct_552 : CTB2 := [(11, 169, 0, con_313, [0, 1])]
noncomputable def ft_552 : CTB2 := [(2, 165, 0, con_548, [0, 1])]
theorem fto_552 (l : Launch) {es : List va_E} (f8 : isFact 8 1 [0, 1] es) : FTOK2 l RX12 vwCl gTbl es ft_552 := ft2_cons (fun ec he => hv_548 l (f8 ec he)) ck_RX12_165_548 (ft2_nil)
noncomputable def cu_552 : List CUT2 := []
theorem ch_552 : staG tb_X12_takes 1 bt_RX12 ft_552 ct_552 [] [] cu_552 12 con_552 = true := by decide +kernel
theorem cto_552 (l : Launch) : CTOK2 l RX12 vwCl gTbl ct_552 := ct2_cons (vl_313 l) ck_RX12_169_313 (ct2_nil)
theorem hv_552 (l : Launch) {es : List va_E} (f8 : isFact 8 1 [0, 1] es) : VldE l vwCl gTbl con_552 es := conE_ok3 gT_all (hd_552) rfl pn_RX12 tk_X12_takes bo_RX12 xo_RX12 (fto_552 l f8) (cto_552 l) ch_552 cut_nil
/-- RookHustingModel is -/
noncomputable def con_553 : Con2 := ((yX12_is, cX12_is, 4, (some .boolean)), (8, 200), ([(6, 0, 0), (13, 3, 0)], gi_155, [ac_112, .inr (0, [(700, (2, (-128), 127))])], []), [((0, 0, 0), gi_156, [(false, ac_112), (false, .inr (0, [(700, (2, (-128), 127))]))], [], [1]), ((0, 1, 0), gi_157, [(false, ac_112), (false, .inr (0, [(700, (2, (-128), 127))]))], [], [1])])
theorem hd_553 : con_553.1 = (yX12_is, cX12_is, 4, (some .boolean)) := rfl
noncomputable def ct_553 : CTB2 := [(1, 153, 0, con_314, [0])]
noncomputable def cu_553 : List CUT2 := [((39, [(0, (6, 0, 0)), (1, (13, 3, 0)), (2, (0, 1, 0)), (3, (1, 50, 0))], [], gi_158, [(false, ac_112), (false, .inr (0, [(700, (2, (-128), 127))]))]), [([(10, 1), (11, (-1))], (-7))], ([(50, (-1))], 7)), ((39, [(0, (6, 0, 0)), (1, (13, 3, 0)), (2, (0, 0, 0)), (3, (1, 50, 0))], [], gi_159, [(false, ac_112), (false, .inr (0, [(700, (2, (-128), 127))]))]), [], ([(50, (-1))], 7))]
theorem ch_553 : staG tb_X12_is 1 bt_RX12 [] ct_553 [(55, [(0, (2, 0, 9), 0, 693)])] [23, 28] cu_553 25 con_553 = true := by decide +kernel
theorem cc_553 : cu_553.all (cutG tb_X12_is 1 bt_RX12 [] ct_553 [(55, [(0, (2, 0, 9), 0, 693)])] [23, 28] cu_553 25 con_553) = true := by decide +kernel
theorem cto_553 (l : Launch) : CTOK2 l RX12 vwCl gTbl ct_553 := ct2_cons (vl_314 l) ck_RX12_153_314 (ct2_nil)
theorem vl_553 (l : Launch) : Vld2 l vwCl gTbl con_553 := conR_ok3 gT_all (hd_553) rfl pn_RX12 tk_X12_is bo_RX12 xo_RX12 (cto_553 l) ch_553 (cut_all cc_553)
/-- RookHustingModel takes -/
noncomputable def con_554 : Con2 := ((yX12_takes, cX12_takes, 3, (some .boolean)), (9, 223), ([(6, 0, 0), (13, 3, 0)], gi_160, [ac_113, .inr (0, [(700, (2, (-128), 127))])], []), [((0, 0, 0), gi_161, [(false, ac_113), (false, .inr (0, [(700, (2, (-128), 127))]))], [], [1]), ((0, 1, 0), gi_162, [(true, ac_114), (false, .inr (0, [(700, (2, (-128), 127))]))], [], [1, 1, 1, 1, 1, 1, 1, 1, 1, 1, 1, 1, 1, 1, 1, 1, 1, 1, 1, 1, 1, 1, 1, 1, 1, 1, 1, 1, 1, 1, 1, 1, 1, 1, 1, 1, 1, 1, 1, 1, 1, 1, 1, 1, 1, 1])])
theorem hd_554 : con_554.1 = (yX12_takes, cX12_takes, 3, (some .boolean)) := rfl
theorem ck_RX12_165_553 : COK2 RX12 vwCl gTbl 165 0 con_553 := ⟨wd_1603, wd_137, mh_X12_is, .inr (.inr ⟨rfl, wd_1600, wd_1602, wd_58, ⟨_, rfl, pd_X12_is⟩, 12, _, TX12, 45, rfl, rfl⟩)⟩
noncomputable def ct_554 : CTB2 := [(2, 165, 0, con_553, [0, 1]), (11, 169, 0, con_313, [0, 1])]
noncomputable def cu_554 : List CUT2 := []
theorem ch_554 : staG tb_X12_takes 1 bt_RX12 [] ct_554 [] [] cu_554 12 con_554 = true := by decide +kernel
theorem cto_554 (l : Launch) : CTOK2 l RX12 vwCl gTbl ct_554 := ct2_cons (vl_553 l) ck_RX12_165_553 (ct2_cons (vl_313 l) ck_RX12_169_313 (ct2_nil))
theorem vl_554 (l : Launch) : Vld2 l vwCl gTbl con_554 := conR_ok3 gT_all (hd_554) rfl pn_RX12 tk_X12_takes bo_RX12 xo_RX12 (cto_554 l) ch_554 cut_nil
/-- RookHustingModel expects -/
noncomputable def con_555 : Con2 := ((yX12_expects, cX12_expects, 2, none), (10, 245), ([(6, 0, 0), (13, 3, 0)], gi_165, [ac_117, .inr (0, [(700, (2, (-128), 127))])], []), [((9, 0, 0), gi_166, [(true, ac_118), (false, .inr (0, [(700, (2, (-128), 127))]))], [], [1, 1, 1, 1, 1, 1, 1, 1, 1, 1, 1, 1, 1, 1, 1, 1, 1, 1, 1, 1, 1, 1, 1, 1, 1, 1, 1, 1, 1, 1, 1, 1, 1, 1, 1, 1, 1, 1, 1, 1, 1, 1, 1, 1, 1]), ((9, 0, 0), gi_167, [(true, ac_119), (false, .inr (0, [(700, (2, (-128), 127))]))], [], [1, 1, 1, 1, 1, 1, 1, 1, 1, 1, 1, 1, 1, 1, 1, 1, 1, 1, 1, 1, 1, 1, 1, 1, 1, 1, 1, 1, 1, 1, 1, 1, 1, 1, 1, 1, 1, 1, 1, 1, 1, 1, 1, 1, 1])])
theorem hd_555 : con_555.1 = (yX12_expects, cX12_expects, 2, none) := rfl
theorem ck_RX12_172_554 : COK2 RX12 vwCl gTbl 172 0 con_554 := ⟨wd_1599, wd_137, mh_X12_takes, .inr (.inr ⟨rfl, wd_1596, wd_1598, wd_57, ⟨_, rfl, pd_X12_takes⟩, 12, _, TX12, 45, rfl, rfl⟩)⟩
noncomputable def ct_555 : CTB2 := [(2, 172, 0, con_554, [0, 1]), (10, 175, 0, con_317, [0])]
noncomputable def cu_555 : List CUT2 := []
theorem ch_555 : staG tb_X12_expects 1 bt_RX12 [] ct_555 [] [] cu_555 10 con_555 = true := by decide +kernel
theorem cto_555 (l : Launch) : CTOK2 l RX12 vwCl gTbl ct_555 := ct2_cons (vl_554 l) ck_RX12_172_554 (ct2_cons (vl_317 l) ck_RX12_175_317 (ct2_nil))
theorem vl_555 (l : Launch) : Vld2 l vwCl gTbl con_555 := conR_ok3 gT_all (hd_555) rfl pn_RX12 tk_X12_expects bo_RX12 xo_RX12 (cto_555 l) ch_555 cut_nil
/-- RookHustingModel in -/
noncomputable def con_556 : Con2 := ((yX12_in, cX12_in, 6, (some .boolean)), (0, 0), ([(4, 0, 0), (3, 0, 0), (3, 40, 0)], gi_146, [], []), [((0, 0, 0), gi_147, [], [], [1]), ((0, 1, 0), [(0, 40), (0, 0), (0, 0), (0, 0)], [], [], [1])])
theorem hd_556 : con_556.1 = (yX12_in, cX12_in, 6, (some .boolean)) := rfl
noncomputable def ct_556 : CTB2 := []
noncomputable def cu_556 : List CUT2 := []
theorem ch_556 : staG tb_X12_in 1 bt_RX12 [] ct_556 [] [] cu_556 11 con_556 = true := by decide +kernel
theorem cto_556 (l : Launch) : CTOK2 l RX12 vwCl gTbl ct_556 := ct2_nil
theorem vl_556 (l : Launch) : Vld2 l vwCl gTbl con_556 := conR_ok3 gT_all (hd_556) rfl pn_RX12 tk_X12_in bo_RX12 xo_RX12 (cto_556 l) ch_556 cut_nil
/-- RookHustingModel number -/
def gi_237 : GI := [(0, 0), (0, 0), (0, 0), (0, 0), (0, 0), (0, 0), (0, 0), (0, 0), (0, 0), (0, 0), (0, 700), (0, 700), (0, 700), (2, 2), (0, 40), (0, 0), ((-1), 700), (0, 0), (0, 0), (0, 0), (0, 0), (0, 0), (0, 0), (0, 0), (0, 0), (0, 0), (0, 0), (0, 0), (0, 0), (0, 0), (0, 0), (0, 0), (0, 0), (0, 0), (0, 0), (0, 0), (0, 0), (0, 0), (0, 0), (0, 0), (0, 0), (0, 0), (0, 0), (0, 0), (0, 0), (0, 0), (0, 0), (0, 0), (0, 0), (0, 0), (0, 0), (0, 0), (0, 0), (0, 0), (0, 0), (0, 0), (0, 0), (0, 700), (0, 700), (0, 4), ((-2147483648), 2147483647), (0, 0), (0, 0), (0, 0), (0, 0), (0, 0), (0, 0), (0, 0), (0, 0), (0, 0), (0, 0), (0, 0), (0, 0), (0, 0), (0, 0), (0, 0), (0, 0), (0, 0), (0, 0), (0, 0), (0, 0), (0, 0), (0, 0), (0, 0), (0, 0), (0, 0), (0, 0), (0, 0), (0, 0), (0, 0), (0, 0), (0, 0), (0, 0), (0, 0)]
noncomputable def con_557 : Con2 := ((yX12_number, cX12_number, 4, (some .int)), (2, 46), ([(6, 0, 0), (0, 0, 0), (0, 40, 0)], gi_170, [ac_123, .inr (0, [(700, (2, (-128), 127))])], []), [((0, 0, 0), gi_171, [(true, ac_124), (false, .inr (0, [(700, (2, (-128), 127))]))], [], [1, 1, 1, 1, 1, 1, 1, 1, 1, 1, 1, 1, 1, 1, 1, 1, 1, 1, 1, 1, 1, 1, 1, 1, 1, 1, 1, 1, 1, 1, 1, 1, 1, 1, 1, 1, 1, 1, 1, 1, 1, 1, 1, 1, 1, 1]), ((1, 14, 0), gi_237, [(true, ac_125), (false, .inr (0, [(700, (2, (-128), 127))]))], [], [1, 1, 1, 1, 1, 1, 1, 1, 1, 1, 1, 1, 1, 1, 1, 1, 1, 1, 1, 1, 1, 1, 1, 1, 1, 1, 1, 1, 1, 1, 1, 1, 1, 1, 1, 1, 1, 1, 1, 1, 1, 1, 1, 1, 1, 1])])
theorem hd_557 : con_557.1 = (yX12_number, cX12_number, 4, (some .int)) := rfl
theorem ck_RX12_91_556 : COK2 RX12 vwCl gTbl 91 1 con_556 := ⟨wd_1544, wd_137, mh_X12_in, .inl ⟨rfl, wd_1542, wd_1543, pd_X12_in⟩⟩
noncomputable def ct_557 : CTB2 := [(1, 153, 0, con_314, [0]), (17, 175, 0, con_317, [0]), (21, 153, 0, con_322, [0]), (21, 153, 0, con_314, [0]), (36, 91, 1, con_556, []), (44, 175, 0, con_324, [0]), (48, 153, 0, con_322, [0]), (48, 153, 0, con_314, [0]), (48, 153, 0, con_325, [0]), (62, 169, 0, con_313, [0, 1])]
noncomputable def cu_557 : List CUT2 := []
theorem ch_557 : staG tb_X12_number 1 bt_RX12 [] ct_557 [] [] cu_557 31 con_557 = true := by decide +kernel
theorem cto_557 (l : Launch) : CTOK2 l RX12 vwCl gTbl ct_557 := ct2_cons (vl_314 l) ck_RX12_153_314 (ct2_cons (vl_317 l) ck_RX12_175_317 (ct2_cons (vl_322 l) ck_RX12_153_322 (ct2_cons (vl_314 l) ck_RX12_153_314 (ct2_cons (vl_556 l) ck_RX12_91_556 (ct2_cons (vl_324 l) ck_RX12_175_324 (ct2_cons (vl_322 l) ck_RX12_153_322 (ct2_cons (vl_314 l) ck_RX12_153_314 (ct2_cons (vl_325 l) ck_RX12_153_325 (ct2_cons (vl_313 l) ck_RX12_169_313 (ct2_nil))))))))))
theorem vl_557 (l : Launch) : Vld2 l vwCl gTbl con_557 := conR_ok3 gT_all (hd_557) rfl pn_RX12 tk_X12_number bo_RX12 xo_RX12 (cto_557 l) ch_557 cut_nil
/-- RookHustingModel number -/
noncomputable def con_558 : Con2 := ((yX12_number, cX12_number, 4, (some .int)), (1, 20), ([(6, 0, 0), (0, 0, 0), (0, 40, 0)], gi_170, [ac_126, .inr (0, [(700, (2, (-128), 127))])], []), [((0, 0, 0), gi_173, [(false, ac_126), (false, .inr (0, [(700, (2, (-128), 127))]))], [], [1])])
theorem hd_558 : con_558.1 = (yX12_number, cX12_number, 4, (some .int)) := rfl
noncomputable def ct_558 : CTB2 := [(1, 153, 0, con_322, [0]), (21, 153, 0, con_322, [0]), (48, 153, 0, con_322, [0])]
noncomputable def cu_558 : List CUT2 := []
theorem ch_558 : staG tb_X12_number 1 bt_RX12 [] ct_558 [] [] cu_558 13 con_558 = true := by decide +kernel
theorem cto_558 (l : Launch) : CTOK2 l RX12 vwCl gTbl ct_558 := ct2_cons (vl_322 l) ck_RX12_153_322 (ct2_cons (vl_322 l) ck_RX12_153_322 (ct2_cons (vl_322 l) ck_RX12_153_322 (ct2_nil)))
theorem vl_558 (l : Launch) : Vld2 l vwCl gTbl con_558 := conR_ok3 gT_all (hd_558) rfl pn_RX12 tk_X12_number bo_RX12 xo_RX12 (cto_558 l) ch_558 cut_nil
/-- RookHustingModel told -/
def gi_238 : GI := [(0, 0), (0, 0), (0, 0), (0, 0), (0, 0), (0, 0), (0, 0), (0, 0), (0, 0), (0, 0), (0, 0), (0, 700), (0, 700), (0, 700), (1, 1), ((-2147483648), 2147483647), (0, 0), ((-1), 700), (0, 0), (0, 0), (0, 0), (0, 0), (0, 0), (0, 0), (0, 0), (0, 0), (0, 0), (0, 0), (0, 0), (0, 0), (0, 0), (0, 0), (0, 0), (0, 0), (0, 0), (0, 0), (0, 0), (0, 0), (0, 0), (0, 0), (0, 0), (0, 0), (0, 0), (0, 0), (0, 0), (0, 0), (0, 0), (0, 0), (0, 0), (0, 40), (0, 0), (0, 0), (0, 0), (0, 0), (0, 0), (0, 0), (0, 0), (0, 0), (0, 700), (0, 700), (0, 4), ((-2147483648), 2147483647), (0, 0), (0, 0), (0, 0), (0, 0), (0, 0), (0, 0), (0, 0), (0, 0), (0, 0), (0, 0), (0, 0), (0, 0), (0, 0), (0, 0), (0, 0), (0, 0), (0, 0), (0, 0), (0, 0), (0, 0), (0, 0), (0, 0), (0, 0), (0, 0), (0, 0), (0, 0), (0, 0), (0, 0), (0, 0), (0, 0), (0, 0), (0, 0), (0, 0)]
noncomputable def con_559 : Con2 := ((yX12_told, cX12_told, 4, (some .int)), (11, 266), ([(6, 0, 0), (13, 3, 0), (0, 0, 0), (0, 40, 0)], gi_174, [ac_127, .inr (0, [(700, (2, (-128), 127))])], []), [((0, 0, 0), gi_175, [(true, ac_128), (false, .inr (0, [(700, (2, (-128), 127))]))], [], [1, 1, 1, 1, 1, 1, 1, 1, 1, 1, 1, 1, 1, 1, 1, 1, 1, 1, 1, 1, 1, 1, 1, 1, 1, 1, 1, 1, 1, 1, 1, 1, 1, 1, 1, 1, 1, 1, 1, 1, 1, 1, 1, 1, 1, 1]), ((1, 49, 0), gi_238, [(true, ac_129), (false, .inr (0, [(700, (2, (-128), 127))]))], [], [1, 1, 1, 1, 1, 1, 1, 1, 1, 1, 1, 1, 1, 1, 1, 1, 1, 1, 1, 1, 1, 1, 1, 1, 1, 1, 1, 1, 1, 1, 1, 1, 1, 1, 1, 1, 1, 1, 1, 1, 1, 1, 1, 1, 1, 1])])
theorem hd_559 : con_559.1 = (yX12_told, cX12_told, 4, (some .int)) := rfl
theorem ck_RX12_183_558 : COK2 RX12 vwCl gTbl 183 0 con_558 := ⟨wd_1618, wd_137, mh_X12_number, .inr (.inr ⟨rfl, wd_1615, wd_1617, wd_61, ⟨_, rfl, pd_X12_number⟩, 12, _, TX12, 45, rfl, rfl⟩)⟩
theorem ck_RX12_183_557 : COK2 RX12 vwCl gTbl 183 0 con_557 := ⟨wd_1618, wd_137, mh_X12_number, .inr (.inr ⟨rfl, wd_1615, wd_1617, wd_61, ⟨_, rfl, pd_X12_number⟩, 12, _, TX12, 45, rfl, rfl⟩)⟩
theorem ck_RX12_179_555 : COK2 RX12 vwCl gTbl 179 0 con_555 := ⟨wd_1595, wd_137, mh_X12_expects, .inr (.inr ⟨rfl, wd_1592, wd_1594, wd_56, ⟨_, rfl, pd_X12_expects⟩, 12, _, TX12, 45, rfl, rfl⟩)⟩
noncomputable def ct_559 : CTB2 := [(2, 179, 0, con_555, [0, 1]), (8, 183, 0, con_557, [0, 1]), (8, 183, 0, con_558, [0, 1])]
noncomputable def cu_559 : List CUT2 := []
theorem ch_559 : staG tb_X12_told 1 bt_RX12 [] ct_559 [] [] cu_559 10 con_559 = true := by decide +kernel
theorem cto_559 (l : Launch) : CTOK2 l RX12 vwCl gTbl ct_559 := ct2_cons (vl_555 l) ck_RX12_179_555 (ct2_cons (vl_557 l) ck_RX12_183_557 (ct2_cons (vl_558 l) ck_RX12_183_558 (ct2_nil)))
theorem vl_559 (l : Launch) : Vld2 l vwCl gTbl con_559 := conR_ok3 gT_all (hd_559) rfl pn_RX12 tk_X12_told bo_RX12 xo_RX12 (cto_559 l) ch_559 cut_nil
/-- RookHustingModel is -/
noncomputable def con_560 : Con2 := ((yX12_is, cX12_is, 4, (some .boolean)), (8, 200), ([(6, 0, 0), (13, 11, 0)], gi_155, [ac_112, .inr (0, [(700, (2, (-128), 127))])], []), [((0, 0, 0), gi_156, [(false, ac_112), (false, .inr (0, [(700, (2, (-128), 127))]))], [], [1]), ((0, 1, 0), gi_157, [(false, ac_112), (false, .inr (0, [(700, (2, (-128), 127))]))], [], [1])])
theorem hd_560 : con_560.1 = (yX12_is, cX12_is, 4, (some .boolean)) := rfl
noncomputable def ct_560 : CTB2 := [(1, 153, 0, con_314, [0])]
def gi_239 : GI := [(0, 0), (0, 0), (0, 0), (0, 0), (0, 0), (0, 0), (0, 0), (0, 0), (0, 0), (0, 0), (0, 700), (0, 700), (1, 1), (0, 0), (0, 0), (0, 0), (0, 0), (0, 0), (0, 0), (0, 0), (0, 0), (0, 0), (0, 0), (0, 0), (0, 0), (0, 0), (0, 0), (0, 0), (0, 0), (0, 0), (0, 0), (0, 0), (0, 0), (0, 0), (0, 0), (0, 0), (0, 0), (0, 0), (0, 0), (0, 0), (0, 0), (0, 0), (0, 0), (0, 0), (0, 0), (0, 0), (0, 0), (0, 0), (0, 0), (0, 0), (0, 5)]
def gi_240 : GI := [(0, 0), (0, 0), (0, 0), (0, 0), (0, 0), (0, 0), (0, 0), (0, 0), (0, 0), (0, 0), (0, 700), (0, 700), (0, 4), (0, 0), (0, 0), (0, 0), (0, 0), (0, 0), (0, 0), (0, 0), (0, 0), (0, 0), (0, 0), (0, 0), (0, 0), (0, 0), (0, 0), (0, 0), (0, 0), (0, 0), (0, 0), (0, 0), (0, 0), (0, 0), (0, 0), (0, 0), (0, 0), (0, 0), (0, 0), (0, 0), (0, 0), (0, 0), (0, 0), (0, 0), (0, 0), (0, 0), (0, 0), (0, 0), (0, 0), (0, 0), (0, 5)]
noncomputable def cu_560 : List CUT2 := [((39, [(0, (6, 0, 0)), (1, (13, 11, 0)), (2, (0, 1, 0)), (3, (1, 50, 0))], [], gi_239, [(false, ac_112), (false, .inr (0, [(700, (2, (-128), 127))]))]), [([(10, 1), (11, (-1))], (-5))], ([(50, (-1))], 5)), ((39, [(0, (6, 0, 0)), (1, (13, 11, 0)), (2, (0, 0, 0)), (3, (1, 50, 0))], [], gi_240, [(false, ac_112), (false, .inr (0, [(700, (2, (-128), 127))]))]), [], ([(50, (-1))], 5))]
theorem ch_560 : staG tb_X12_is 1 bt_RX12 [] ct_560 [(55, [(0, (2, 0, 9), 0, 695)])] [23, 28] cu_560 25 con_560 = true := by decide +kernel
theorem cc_560 : cu_560.all (cutG tb_X12_is 1 bt_RX12 [] ct_560 [(55, [(0, (2, 0, 9), 0, 695)])] [23, 28] cu_560 25 con_560) = true := by decide +kernel
theorem cto_560 (l : Launch) : CTOK2 l RX12 vwCl gTbl ct_560 := ct2_cons (vl_314 l) ck_RX12_153_314 (ct2_nil)
theorem vl_560 (l : Launch) : Vld2 l vwCl gTbl con_560 := conR_ok3 gT_all (hd_560) rfl pn_RX12 tk_X12_is bo_RX12 xo_RX12 (cto_560 l) ch_560 (cut_all cc_560)
/-- RookHustingModel takes -/
noncomputable def con_561 : Con2 := ((yX12_takes, cX12_takes, 3, (some .boolean)), (9, 223), ([(6, 0, 0), (13, 11, 0)], gi_160, [ac_113, .inr (0, [(700, (2, (-128), 127))])], []), [((0, 0, 0), gi_161, [(false, ac_113), (false, .inr (0, [(700, (2, (-128), 127))]))], [], [1]), ((0, 1, 0), gi_162, [(true, ac_114), (false, .inr (0, [(700, (2, (-128), 127))]))], [], [1, 1, 1, 1, 1, 1, 1, 1, 1, 1, 1, 1, 1, 1, 1, 1, 1, 1, 1, 1, 1, 1, 1, 1, 1, 1, 1, 1, 1, 1, 1, 1, 1, 1, 1, 1, 1, 1, 1, 1, 1, 1, 1, 1, 1, 1])])
theorem hd_561 : con_561.1 = (yX12_takes, cX12_takes, 3, (some .boolean)) := rfl
theorem ck_RX12_165_560 : COK2 RX12 vwCl gTbl 165 0 con_560 := ⟨wd_1603, wd_137, mh_X12_is, .inr (.inr ⟨rfl, wd_1600, wd_1602, wd_58, ⟨_, rfl, pd_X12_is⟩, 12, _, TX12, 45, rfl, rfl⟩)⟩
noncomputable def ct_561 : CTB2 := [(2, 165, 0, con_560, [0, 1]), (11, 169, 0, con_313, [0, 1])]
noncomputable def cu_561 : List CUT2 := []
theorem ch_561 : staG tb_X12_takes 1 bt_RX12 [] ct_561 [] [] cu_561 12 con_561 = true := by decide +kernel
theorem cto_561 (l : Launch) : CTOK2 l RX12 vwCl gTbl ct_561 := ct2_cons (vl_560 l) ck_RX12_165_560 (ct2_cons (vl_313 l) ck_RX12_169_313 (ct2_nil))
theorem vl_561 (l : Launch) : Vld2 l vwCl gTbl con_561 := conR_ok3 gT_all (hd_561) rfl pn_RX12 tk_X12_takes bo_RX12 xo_RX12 (cto_561 l) ch_561 cut_nil
/-- RookHustingModel expects -/
noncomputable def con_562 : Con2 := ((yX12_expects, cX12_expects, 2, none), (10, 245), ([(6, 0, 0), (13, 11, 0)], gi_165, [ac_117, .inr (0, [(700, (2, (-128), 127))])], []), [((9, 0, 0), gi_166, [(true, ac_118), (false, .inr (0, [(700, (2, (-128), 127))]))], [], [1, 1, 1, 1, 1, 1, 1, 1, 1, 1, 1, 1, 1, 1, 1, 1, 1, 1, 1, 1, 1, 1, 1, 1, 1, 1, 1, 1, 1, 1, 1, 1, 1, 1, 1, 1, 1, 1, 1, 1, 1, 1, 1, 1, 1]), ((9, 0, 0), gi_167, [(true, ac_119), (false, .inr (0, [(700, (2, (-128), 127))]))], [], [1, 1, 1, 1, 1, 1, 1, 1, 1, 1, 1, 1, 1, 1, 1, 1, 1, 1, 1, 1, 1, 1, 1, 1, 1, 1, 1, 1, 1, 1, 1, 1, 1, 1, 1, 1, 1, 1, 1, 1, 1, 1, 1, 1, 1])])
theorem hd_562 : con_562.1 = (yX12_expects, cX12_expects, 2, none) := rfl
theorem ck_RX12_172_561 : COK2 RX12 vwCl gTbl 172 0 con_561 := ⟨wd_1599, wd_137, mh_X12_takes, .inr (.inr ⟨rfl, wd_1596, wd_1598, wd_57, ⟨_, rfl, pd_X12_takes⟩, 12, _, TX12, 45, rfl, rfl⟩)⟩
noncomputable def ct_562 : CTB2 := [(2, 172, 0, con_561, [0, 1]), (10, 175, 0, con_317, [0])]
noncomputable def cu_562 : List CUT2 := []
theorem ch_562 : staG tb_X12_expects 1 bt_RX12 [] ct_562 [] [] cu_562 10 con_562 = true := by decide +kernel
theorem cto_562 (l : Launch) : CTOK2 l RX12 vwCl gTbl ct_562 := ct2_cons (vl_561 l) ck_RX12_172_561 (ct2_cons (vl_317 l) ck_RX12_175_317 (ct2_nil))
theorem vl_562 (l : Launch) : Vld2 l vwCl gTbl con_562 := conR_ok3 gT_all (hd_562) rfl pn_RX12 tk_X12_expects bo_RX12 xo_RX12 (cto_562 l) ch_562 cut_nil
/-- RookHustingModel in -/
noncomputable def con_563 : Con2 := ((yX12_in, cX12_in, 6, (some .boolean)), (0, 0), ([(4, 0, 0), (3, 0, 0), (3, 9, 0)], gi_146, [], []), [((0, 0, 0), gi_147, [], [], [1]), ((0, 1, 0), [(0, 9), (0, 0), (0, 0), (0, 0)], [], [], [1])])
theorem hd_563 : con_563.1 = (yX12_in, cX12_in, 6, (some .boolean)) := rfl
noncomputable def ct_563 : CTB2 := []
noncomputable def cu_563 : List CUT2 := []
theorem ch_563 : staG tb_X12_in 1 bt_RX12 [] ct_563 [] [] cu_563 11 con_563 = true := by decide +kernel
theorem cto_563 (l : Launch) : CTOK2 l RX12 vwCl gTbl ct_563 := ct2_nil
theorem vl_563 (l : Launch) : Vld2 l vwCl gTbl con_563 := conR_ok3 gT_all (hd_563) rfl pn_RX12 tk_X12_in bo_RX12 xo_RX12 (cto_563 l) ch_563 cut_nil
/-- RookHustingModel number -/
def gi_241 : GI := [(0, 0), (0, 0), (0, 0), (0, 0), (0, 0), (0, 0), (0, 0), (0, 0), (0, 0), (0, 0), (0, 700), (0, 700), (0, 700), (2, 2), (0, 9), (0, 0), ((-1), 700), (0, 0), (0, 0), (0, 0), (0, 0), (0, 0), (0, 0), (0, 0), (0, 0), (0, 0), (0, 0), (0, 0), (0, 0), (0, 0), (0, 0), (0, 0), (0, 0), (0, 0), (0, 0), (0, 0), (0, 0), (0, 0), (0, 0), (0, 0), (0, 0), (0, 0), (0, 0), (0, 0), (0, 0), (0, 0), (0, 0), (0, 0), (0, 0), (0, 0), (0, 0), (0, 0), (0, 0), (0, 0), (0, 0), (0, 0), (0, 0), (0, 700), (0, 700), (0, 4), ((-2147483648), 2147483647), (0, 0), (0, 0), (0, 0), (0, 0), (0, 0), (0, 0), (0, 0), (0, 0), (0, 0), (0, 0), (0, 0), (0, 0), (0, 0), (0, 0), (0, 0), (0, 0), (0, 0), (0, 0), (0, 0), (0, 0), (0, 0), (0, 0), (0, 0), (0, 0), (0, 0), (0, 0), (0, 0), (0, 0), (0, 0), (0, 0), (0, 0), (0, 0), (0, 0)]
noncomputable def con_564 : Con2 := ((yX12_number, cX12_number, 4, (some .int)), (2, 46), ([(6, 0, 0), (0, 0, 0), (0, 9, 0)], gi_170, [ac_123, .inr (0, [(700, (2, (-128), 127))])], []), [((0, 0, 0), gi_171, [(true, ac_124), (false, .inr (0, [(700, (2, (-128), 127))]))], [], [1, 1, 1, 1, 1, 1, 1, 1, 1, 1, 1, 1, 1, 1, 1, 1, 1, 1, 1, 1, 1, 1, 1, 1, 1, 1, 1, 1, 1, 1, 1, 1, 1, 1, 1, 1, 1, 1, 1, 1, 1, 1, 1, 1, 1, 1]), ((1, 14, 0), gi_241, [(true, ac_125), (false, .inr (0, [(700, (2, (-128), 127))]))], [], [1, 1, 1, 1, 1, 1, 1, 1, 1, 1, 1, 1, 1, 1, 1, 1, 1, 1, 1, 1, 1, 1, 1, 1, 1, 1, 1, 1, 1, 1, 1, 1, 1, 1, 1, 1, 1, 1, 1, 1, 1, 1, 1, 1, 1, 1])])
theorem hd_564 : con_564.1 = (yX12_number, cX12_number, 4, (some .int)) := rfl
theorem ck_RX12_91_563 : COK2 RX12 vwCl gTbl 91 1 con_563 := ⟨wd_1544, wd_137, mh_X12_in, .inl ⟨rfl, wd_1542, wd_1543, pd_X12_in⟩⟩
noncomputable def ct_564 : CTB2 := [(1, 153, 0, con_314, [0]), (17, 175, 0, con_317, [0]), (21, 153, 0, con_322, [0]), (21, 153, 0, con_314, [0]), (36, 91, 1, con_563, []), (44, 175, 0, con_324, [0]), (48, 153, 0, con_322, [0]), (48, 153, 0, con_314, [0]), (48, 153, 0, con_325, [0]), (62, 169, 0, con_313, [0, 1])]
noncomputable def cu_564 : List CUT2 := []
theorem ch_564 : staG tb_X12_number 1 bt_RX12 [] ct_564 [] [] cu_564 31 con_564 = true := by decide +kernel
theorem cto_564 (l : Launch) : CTOK2 l RX12 vwCl gTbl ct_564 := ct2_cons (vl_314 l) ck_RX12_153_314 (ct2_cons (vl_317 l) ck_RX12_175_317 (ct2_cons (vl_322 l) ck_RX12_153_322 (ct2_cons (vl_314 l) ck_RX12_153_314 (ct2_cons (vl_563 l) ck_RX12_91_563 (ct2_cons (vl_324 l) ck_RX12_175_324 (ct2_cons (vl_322 l) ck_RX12_153_322 (ct2_cons (vl_314 l) ck_RX12_153_314 (ct2_cons (vl_325 l) ck_RX12_153_325 (ct2_cons (vl_313 l) ck_RX12_169_313 (ct2_nil))))))))))
theorem vl_564 (l : Launch) : Vld2 l vwCl gTbl con_564 := conR_ok3 gT_all (hd_564) rfl pn_RX12 tk_X12_number bo_RX12 xo_RX12 (cto_564 l) ch_564 cut_nil
/-- RookHustingModel number -/
noncomputable def con_565 : Con2 := ((yX12_number, cX12_number, 4, (some .int)), (1, 20), ([(6, 0, 0), (0, 0, 0), (0, 9, 0)], gi_170, [ac_126, .inr (0, [(700, (2, (-128), 127))])], []), [((0, 0, 0), gi_173, [(false, ac_126), (false, .inr (0, [(700, (2, (-128), 127))]))], [], [1])])
theorem hd_565 : con_565.1 = (yX12_number, cX12_number, 4, (some .int)) := rfl
noncomputable def ct_565 : CTB2 := [(1, 153, 0, con_322, [0]), (21, 153, 0, con_322, [0]), (48, 153, 0, con_322, [0])]
noncomputable def cu_565 : List CUT2 := []
theorem ch_565 : staG tb_X12_number 1 bt_RX12 [] ct_565 [] [] cu_565 13 con_565 = true := by decide +kernel
theorem cto_565 (l : Launch) : CTOK2 l RX12 vwCl gTbl ct_565 := ct2_cons (vl_322 l) ck_RX12_153_322 (ct2_cons (vl_322 l) ck_RX12_153_322 (ct2_cons (vl_322 l) ck_RX12_153_322 (ct2_nil)))
theorem vl_565 (l : Launch) : Vld2 l vwCl gTbl con_565 := conR_ok3 gT_all (hd_565) rfl pn_RX12 tk_X12_number bo_RX12 xo_RX12 (cto_565 l) ch_565 cut_nil
/-- RookHustingModel told -/
def gi_242 : GI := [(0, 0), (0, 0), (0, 0), (0, 0), (0, 0), (0, 0), (0, 0), (0, 0), (0, 0), (0, 0), (0, 0), (0, 700), (0, 700), (0, 700), (1, 1), ((-2147483648), 2147483647), (0, 0), ((-1), 700), (0, 0), (0, 0), (0, 0), (0, 0), (0, 0), (0, 0), (0, 0), (0, 0), (0, 0), (0, 0), (0, 0), (0, 0), (0, 0), (0, 0), (0, 0), (0, 0), (0, 0), (0, 0), (0, 0), (0, 0), (0, 0), (0, 0), (0, 0), (0, 0), (0, 0), (0, 0), (0, 0), (0, 0), (0, 0), (0, 0), (0, 0), (0, 9), (0, 0), (0, 0), (0, 0), (0, 0), (0, 0), (0, 0), (0, 0), (0, 0), (0, 700), (0, 700), (0, 4), ((-2147483648), 2147483647), (0, 0), (0, 0), (0, 0), (0, 0), (0, 0), (0, 0), (0, 0), (0, 0), (0, 0), (0, 0), (0, 0), (0, 0), (0, 0), (0, 0), (0, 0), (0, 0), (0, 0), (0, 0), (0, 0), (0, 0), (0, 0), (0, 0), (0, 0), (0, 0), (0, 0), (0, 0), (0, 0), (0, 0), (0, 0), (0, 0), (0, 0), (0, 0), (0, 0)]
noncomputable def con_566 : Con2 := ((yX12_told, cX12_told, 4, (some .int)), (11, 266), ([(6, 0, 0), (13, 11, 0), (0, 0, 0), (0, 9, 0)], gi_174, [ac_127, .inr (0, [(700, (2, (-128), 127))])], []), [((0, 0, 0), gi_175, [(true, ac_128), (false, .inr (0, [(700, (2, (-128), 127))]))], [], [1, 1, 1, 1, 1, 1, 1, 1, 1, 1, 1, 1, 1, 1, 1, 1, 1, 1, 1, 1, 1, 1, 1, 1, 1, 1, 1, 1, 1, 1, 1, 1, 1, 1, 1, 1, 1, 1, 1, 1, 1, 1, 1, 1, 1, 1]), ((1, 49, 0), gi_242, [(true, ac_129), (false, .inr (0, [(700, (2, (-128), 127))]))], [], [1, 1, 1, 1, 1, 1, 1, 1, 1, 1, 1, 1, 1, 1, 1, 1, 1, 1, 1, 1, 1, 1, 1, 1, 1, 1, 1, 1, 1, 1, 1, 1, 1, 1, 1, 1, 1, 1, 1, 1, 1, 1, 1, 1, 1, 1])])
theorem hd_566 : con_566.1 = (yX12_told, cX12_told, 4, (some .int)) := rfl
theorem ck_RX12_183_565 : COK2 RX12 vwCl gTbl 183 0 con_565 := ⟨wd_1618, wd_137, mh_X12_number, .inr (.inr ⟨rfl, wd_1615, wd_1617, wd_61, ⟨_, rfl, pd_X12_number⟩, 12, _, TX12, 45, rfl, rfl⟩)⟩
theorem ck_RX12_183_564 : COK2 RX12 vwCl gTbl 183 0 con_564 := ⟨wd_1618, wd_137, mh_X12_number, .inr (.inr ⟨rfl, wd_1615, wd_1617, wd_61, ⟨_, rfl, pd_X12_number⟩, 12, _, TX12, 45, rfl, rfl⟩)⟩
theorem ck_RX12_179_562 : COK2 RX12 vwCl gTbl 179 0 con_562 := ⟨wd_1595, wd_137, mh_X12_expects, .inr (.inr ⟨rfl, wd_1592, wd_1594, wd_56, ⟨_, rfl, pd_X12_expects⟩, 12, _, TX12, 45, rfl, rfl⟩)⟩
noncomputable def ct_566 : CTB2 := [(2, 179, 0, con_562, [0, 1]), (8, 183, 0, con_564, [0, 1]), (8, 183, 0, con_565, [0, 1])]
noncomputable def cu_566 : List CUT2 := []
theorem ch_566 : staG tb_X12_told 1 bt_RX12 [] ct_566 [] [] cu_566 10 con_566 = true := by decide +kernel
theorem cto_566 (l : Launch) : CTOK2 l RX12 vwCl gTbl ct_566 := ct2_cons (vl_562 l) ck_RX12_179_562 (ct2_cons (vl_564 l) ck_RX12_183_564 (ct2_cons (vl_565 l) ck_RX12_183_565 (ct2_nil)))
theorem vl_566 (l : Launch) : Vld2 l vwCl gTbl con_566 := conR_ok3 gT_all (hd_566) rfl pn_RX12 tk_X12_told bo_RX12 xo_RX12 (cto_566 l) ch_566 cut_nil
/-- RookHustingModel is -/
noncomputable def con_567 : Con2 := ((yX12_is, cX12_is, 4, (some .boolean)), (8, 200), ([(6, 0, 0), (13, 11, 0)], gi_185, [ac_131, .inr (0, [(700, (2, (-128), 127))])], []), [((0, 0, 0), gi_186, [(false, ac_131), (false, .inr (0, [(700, (2, (-128), 127))]))], [], [1])])
theorem hd_567 : con_567.1 = (yX12_is, cX12_is, 4, (some .boolean)) := rfl
noncomputable def ct_567 : CTB2 := [(1, 153, 0, con_343, [0])]
noncomputable def cu_567 : List CUT2 := [((39, [(0, (6, 0, 0)), (1, (13, 11, 0)), (2, (0, 0, 0)), (3, (0, 0, 0))], [], gi_187, [(false, ac_131), (false, .inr (0, [(700, (2, (-128), 127))]))]), [], ([], 0))]
theorem ch_567 : staG tb_X12_is 1 bt_RX12 [] ct_567 [(55, [(0, (2, 0, 9), 0, 695)])] [23, 28] cu_567 10 con_567 = true := by decide +kernel
theorem cc_567 : cu_567.all (cutG tb_X12_is 1 bt_RX12 [] ct_567 [(55, [(0, (2, 0, 9), 0, 695)])] [23, 28] cu_567 10 con_567) = true := by decide +kernel
theorem cto_567 (l : Launch) : CTOK2 l RX12 vwCl gTbl ct_567 := ct2_cons (vl_343 l) ck_RX12_153_343 (ct2_nil)
theorem vl_567 (l : Launch) : Vld2 l vwCl gTbl con_567 := conR_ok3 gT_all (hd_567) rfl pn_RX12 tk_X12_is bo_RX12 xo_RX12 (cto_567 l) ch_567 (cut_all cc_567)
/-- RookHustingModel takes -/
noncomputable def con_568 : Con2 := ((yX12_takes, cX12_takes, 3, (some .boolean)), (9, 223), ([(6, 0, 0), (13, 11, 0)], gi_188, [ac_132, .inr (0, [(700, (2, (-128), 127))])], []), [((0, 0, 0), gi_189, [(false, ac_132), (false, .inr (0, [(700, (2, (-128), 127))]))], [], [1])])
theorem hd_568 : con_568.1 = (yX12_takes, cX12_takes, 3, (some .boolean)) := rfl
theorem ck_RX12_165_567 : COK2 RX12 vwCl gTbl 165 0 con_567 := ⟨wd_1603, wd_137, mh_X12_is, .inr (.inr ⟨rfl, wd_1600, wd_1602, wd_58, ⟨_, rfl, pd_X12_is⟩, 12, _, TX12, 45, rfl, rfl⟩)⟩
noncomputable def ct_568 : CTB2 := [(2, 165, 0, con_567, [0, 1])]
noncomputable def cu_568 : List CUT2 := []
theorem ch_568 : staG tb_X12_takes 1 bt_RX12 [] ct_568 [] [] cu_568 10 con_568 = true := by decide +kernel
theorem cto_568 (l : Launch) : CTOK2 l RX12 vwCl gTbl ct_568 := ct2_cons (vl_567 l) ck_RX12_165_567 (ct2_nil)
theorem vl_568 (l : Launch) : Vld2 l vwCl gTbl con_568 := conR_ok3 gT_all (hd_568) rfl pn_RX12 tk_X12_takes bo_RX12 xo_RX12 (cto_568 l) ch_568 cut_nil
/-- RookHustingModel expects -/
noncomputable def con_569 : Con2 := ((yX12_expects, cX12_expects, 2, none), (10, 245), ([(6, 0, 0), (13, 11, 0)], gi_191, [ac_134, .inr (0, [(700, (2, (-128), 127))])], []), [((9, 0, 0), gi_191, [(false, ac_134), (false, .inr (0, [(700, (2, (-128), 127))]))], [], [])])
theorem hd_569 : con_569.1 = (yX12_expects, cX12_expects, 2, none) := rfl
theorem ck_RX12_172_568 : COK2 RX12 vwCl gTbl 172 0 con_568 := ⟨wd_1599, wd_137, mh_X12_takes, .inr (.inr ⟨rfl, wd_1596, wd_1598, wd_57, ⟨_, rfl, pd_X12_takes⟩, 12, _, TX12, 45, rfl, rfl⟩)⟩
noncomputable def ct_569 : CTB2 := [(2, 172, 0, con_568, [0, 1]), (10, 175, 0, con_346, [0])]
noncomputable def cu_569 : List CUT2 := []
theorem ch_569 : staG tb_X12_expects 1 bt_RX12 [] ct_569 [] [] cu_569 10 con_569 = true := by decide +kernel
theorem cto_569 (l : Launch) : CTOK2 l RX12 vwCl gTbl ct_569 := ct2_cons (vl_568 l) ck_RX12_172_568 (ct2_cons (vl_346 l) ck_RX12_175_346 (ct2_nil))
theorem vl_569 (l : Launch) : Vld2 l vwCl gTbl con_569 := conR_ok3 gT_all (hd_569) rfl pn_RX12 tk_X12_expects bo_RX12 xo_RX12 (cto_569 l) ch_569 cut_nil
/-- RookHustingModel number -/
noncomputable def con_570 : Con2 := ((yX12_number, cX12_number, 4, (some .int)), (1, 20), ([(6, 0, 0), (0, 0, 0), (0, 9, 0)], gi_192, [ac_135, .inr (0, [(700, (2, (-128), 127))])], []), [((0, 0, 0), gi_193, [(false, ac_135), (false, .inr (0, [(700, (2, (-128), 127))]))], [], [1])])
theorem hd_570 : con_570.1 = (yX12_number, cX12_number, 4, (some .int)) := rfl
noncomputable def ct_570 : CTB2 := [(1, 153, 0, con_343, [0]), (21, 153, 0, con_343, [0]), (48, 153, 0, con_343, [0])]
noncomputable def cu_570 : List CUT2 := []
theorem ch_570 : staG tb_X12_number 1 bt_RX12 [] ct_570 [] [] cu_570 13 con_570 = true := by decide +kernel
theorem cto_570 (l : Launch) : CTOK2 l RX12 vwCl gTbl ct_570 := ct2_cons (vl_343 l) ck_RX12_153_343 (ct2_cons (vl_343 l) ck_RX12_153_343 (ct2_cons (vl_343 l) ck_RX12_153_343 (ct2_nil)))
theorem vl_570 (l : Launch) : Vld2 l vwCl gTbl con_570 := conR_ok3 gT_all (hd_570) rfl pn_RX12 tk_X12_number bo_RX12 xo_RX12 (cto_570 l) ch_570 cut_nil
/-- RookHustingModel told -/
noncomputable def con_571 : Con2 := ((yX12_told, cX12_told, 4, (some .int)), (11, 266), ([(6, 0, 0), (13, 11, 0), (0, 0, 0), (0, 9, 0)], gi_194, [ac_136, .inr (0, [(700, (2, (-128), 127))])], []), [((0, 0, 0), gi_195, [(false, ac_136), (false, .inr (0, [(700, (2, (-128), 127))]))], [], [1])])
theorem hd_571 : con_571.1 = (yX12_told, cX12_told, 4, (some .int)) := rfl
theorem ck_RX12_183_570 : COK2 RX12 vwCl gTbl 183 0 con_570 := ⟨wd_1618, wd_137, mh_X12_number, .inr (.inr ⟨rfl, wd_1615, wd_1617, wd_61, ⟨_, rfl, pd_X12_number⟩, 12, _, TX12, 45, rfl, rfl⟩)⟩
theorem ck_RX12_179_569 : COK2 RX12 vwCl gTbl 179 0 con_569 := ⟨wd_1595, wd_137, mh_X12_expects, .inr (.inr ⟨rfl, wd_1592, wd_1594, wd_56, ⟨_, rfl, pd_X12_expects⟩, 12, _, TX12, 45, rfl, rfl⟩)⟩
noncomputable def ct_571 : CTB2 := [(2, 179, 0, con_569, [0, 1]), (8, 183, 0, con_570, [0, 1])]
noncomputable def cu_571 : List CUT2 := []
theorem ch_571 : staG tb_X12_told 1 bt_RX12 [] ct_571 [] [] cu_571 10 con_571 = true := by decide +kernel
theorem cto_571 (l : Launch) : CTOK2 l RX12 vwCl gTbl ct_571 := ct2_cons (vl_569 l) ck_RX12_179_569 (ct2_cons (vl_570 l) ck_RX12_183_570 (ct2_nil))
theorem vl_571 (l : Launch) : Vld2 l vwCl gTbl con_571 := conR_ok3 gT_all (hd_571) rfl pn_RX12 tk_X12_told bo_RX12 xo_RX12 (cto_571 l) ch_571 cut_nil
/-- RookHustingModel isFull -/
def gi_243 : GI := [(0, 0), (0, 0), (0, 0), (0, 0), (0, 0), (0, 0), (0, 0), (0, 0), (0, 0), (0, 700), (0, 700), (0, 4), (0, 0), (0, 0), (0, 0), (0, 0), (0, 0), (0, 0), (0, 0), (0, 0), (0, 0), (0, 0), (0, 0), (0, 0), (0, 0), (0, 0), (0, 0), (0, 0), (0, 0), (0, 0), (0, 0), (0, 0), (0, 0), (0, 0), (0, 0), (0, 0), (0, 0), (0, 0), (0, 0), (0, 0), (0, 0), (0, 0), (0, 0), (0, 0), (0, 0), (0, 0), (0, 16), (0, 3), (0, 10), (0, 5), (0, 8), (0, 4), (0, 6), (0, 30), (0, 2147483647), (0, 0), (0, 0), (0, 0), (0, 0), (0, 0), (0, 0), (0, 0), (0, 0), (0, 0), (0, 0), (0, 0), (0, 0), (0, 0), (0, 0), (0, 0)]
noncomputable def con_572 : Con2 := ((yX12_isFull, cX12_isFull, 1, (some .boolean)), (9, 223), ([(6, 0, 0)], gi_202, [ac_154, .inr (0, [(700, (2, (-128), 127))]), ac_153], []), [((0, 0, 0), gi_243, [(false, ac_154), (false, .inr (0, [(700, (2, (-128), 127))])), (false, ac_153)], [], [1]), ((0, 1, 0), gi_203, [(false, ac_154), (false, .inr (0, [(700, (2, (-128), 127))])), (false, ac_153)], [], [1])])
theorem hd_572 : con_572.1 = (yX12_isFull, cX12_isFull, 1, (some .boolean)) := rfl
noncomputable def ct_572 : CTB2 := []
noncomputable def ft_572 : CTB2 := [(3, 165, 0, con_362, [0, 1]), (22, 165, 0, con_363, [0, 1]), (44, 165, 0, con_548, [0, 1]), (63, 165, 0, con_371, [0, 1])]
theorem fto_572 (l : Launch) {es : List va_E} (f2 : isFact 2 0 [0, 1] es) (f5 : isFact 5 0 [0, 1] es) (f8 : isFact 8 1 [0, 1] es) (f12 : isFact 12 1 [0, 1] es) : FTOK2 l RX12 vwCl gTbl es ft_572 := ft2_cons (fun ec he => hv_362 l (f2 ec he)) ck_RX12_165_362 (ft2_cons (fun ec he => hv_363 l (f5 ec he)) ck_RX12_165_363 (ft2_cons (fun ec he => hv_548 l (f8 ec he)) ck_RX12_165_548 (ft2_cons (fun ec he => hv_371 l (f12 ec he)) ck_RX12_165_371 (ft2_nil))))
noncomputable def cu_572 : List CUT2 := []
theorem ch_572 : staG tb_X12_isFull 1 bt_RX12 ft_572 ct_572 [] [] cu_572 33 con_572 = true := by decide +kernel
theorem cto_572 (l : Launch) : CTOK2 l RX12 vwCl gTbl ct_572 := ct2_nil
theorem hv_572 (l : Launch) {es : List va_E} (f2 : isFact 2 0 [0, 1] es) (f5 : isFact 5 0 [0, 1] es) (f8 : isFact 8 1 [0, 1] es) (f12 : isFact 12 1 [0, 1] es) : VldE l vwCl gTbl con_572 es := conE_ok3 gT_all (hd_572) rfl pn_RX12 tk_X12_isFull bo_RX12 xo_RX12 (fto_572 l f2 f5 f8 f12) (cto_572 l) ch_572 cut_nil
noncomputable def gh_573 : GI := [(0, 0), (0, 0), (0, 0), (0, 0), (0, 0), (0, 0), (0, 0), (0, 0), (0, 0), (0, 0), (0, 700), (0, 700), (0, 4), (0, 0), (0, 0), (0, 0), (0, 0), (0, 0), (0, 0), (0, 0), (0, 0), (0, 0), (0, 0), (0, 0), (0, 0), (0, 0), (0, 0), (0, 0), (0, 0), (0, 0), (0, 0), (0, 0), (0, 0), (0, 0), (0, 0), (0, 0), (0, 0), (0, 0), (0, 0), (0, 0), (0, 0), (0, 0), (0, 0), (0, 0), (0, 0), (0, 0), (0, 0)]
noncomputable def fh_573 : List AV := [(8, 2, 0), (8, 3, 0), (8, 4, 0), (8, 5, 0), (6, 1, 0), (8, 7, 0), (8, 8, 0), (8, 9, 0), (1, 10, 0), (1, 11, 0), (1, 12, 0), (8, 13, 0), (0, 0, 0), (8, 15, 0), (8, 16, 0), (8, 17, 0), (8, 18, 0), (8, 19, 0), (8, 20, 0), (8, 21, 0), (8, 22, 0), (8, 23, 0), (8, 24, 0), (8, 25, 0), (8, 26, 0), (8, 27, 0), (8, 28, 0), (8, 29, 0), (8, 30, 0), (8, 31, 0), (8, 32, 0), (8, 33, 0), (8, 34, 0), (8, 35, 0), (8, 36, 0), (8, 37, 0), (8, 38, 0), (8, 39, 0), (8, 40, 0), (8, 41, 0), (8, 42, 0), (8, 43, 0), (8, 44, 0), (8, 45, 0), (8, 46, 0)]
noncomputable def con_573 : Con2 := ((yX12_is, cX12_is, 4, some .boolean), (8, 200), ([(6, 0, 0), (13, 5, 0)], gh_573, [.inl (12, fh_573), .inr (0, [(700, (2, (-128), 127))])], []), [((0, 1, 0), gh_573 ++ [(0, 0)], [(false, .inl (12, fh_573)), (false, .inr (0, [(700, (2, (-128), 127))]))], [], [1])])
theorem hv_573 (l : Launch) {ec : List va_E} (h : ((1 = 1 → isE 5 ec) ∧ (1 ≠ 1 → ¬ isE 5 ec))) : VldE l vwCl gTbl con_573 ec := is_vld (i := 5) (v := 1) (G := gh_573) (fsA := fh_573) (sg := [(700, (2, (-128), 127))]) (by decide) (by decide +kernel) (a12 := (0, 0, 0)) (a10 := (1, 12, 0)) (a8 := (1, 10, 0)) (a9 := (1, 11, 0)) rfl rfl rfl rfl rfl (q12 := (0, 0)) (q10 := (0, 4)) (q8 := (0, 700)) (q9 := (0, 700)) rfl rfl rfl rfl (by decide +kernel) (by decide +kernel) (Or.inl ⟨h.1 rfl, rfl⟩)
/-- RookHustingModel isFull -/
def gi_244 : GI := [(0, 0), (0, 0), (0, 0), (0, 0), (0, 0), (0, 0), (0, 0), (0, 0), (0, 0), (0, 700), (0, 700), (0, 4), (0, 0), (0, 0), (0, 0), (0, 0), (0, 0), (0, 0), (0, 0), (0, 0), (0, 0), (0, 0), (0, 0), (0, 0), (0, 0), (0, 0), (0, 0), (0, 0), (0, 0), (0, 0), (0, 0), (0, 0), (0, 0), (0, 0), (0, 0), (0, 0), (0, 0), (0, 0), (0, 0), (0, 0), (0, 0), (0, 0), (0, 0), (0, 0), (0, 0), (0, 0), (0, 16), (0, 3), (0, 10), (0, 5), (0, 7), (0, 5), (0, 7), (0, 30), (0, 2147483647), (0, 0), (0, 0), (0, 0), (0, 0), (0, 0), (0, 0), (0, 0), (0, 0), (0, 0), (0, 0), (0, 0), (0, 0), (0, 0), (0, 0), (0, 0)]
def gi_245 : GI := [(0, 0), (0, 0), (0, 0), (0, 0), (0, 0), (0, 0), (0, 0), (0, 0), (0, 0), (0, 700), (0, 700), (0, 4), (0, 0), (0, 0), (0, 0), (0, 0), (0, 0), (0, 0), (0, 0), (0, 0), (0, 0), (0, 0), (0, 0), (0, 0), (0, 0), (0, 0), (0, 0), (0, 0), (0, 0), (0, 0), (0, 0), (0, 0), (0, 0), (0, 0), (0, 0), (0, 0), (0, 0), (0, 0), (0, 0), (0, 0), (0, 0), (0, 0), (0, 0), (0, 0), (0, 0), (0, 0), (0, 16), (0, 3), (0, 10), (0, 5), (8, 8), (0, 5), (0, 7), (0, 30), (0, 2147483647), (0, 0), (0, 0), (0, 0), (0, 0), (0, 0), (0, 0), (0, 0), (0, 0), (0, 0), (0, 0), (0, 0), (0, 0), (0, 0), (0, 0), (0, 0)]
noncomputable def con_574 : Con2 := ((yX12_isFull, cX12_isFull, 1, (some .boolean)), (9, 223), ([(6, 0, 0)], gi_202, [ac_154, .inr (0, [(700, (2, (-128), 127))]), ac_153], []), [((0, 0, 0), gi_244, [(false, ac_154), (false, .inr (0, [(700, (2, (-128), 127))])), (false, ac_153)], [], [1]), ((0, 1, 0), gi_245, [(false, ac_154), (false, .inr (0, [(700, (2, (-128), 127))])), (false, ac_153)], [], [1])])
theorem hd_574 : con_574.1 = (yX12_isFull, cX12_isFull, 1, (some .boolean)) := rfl
noncomputable def ct_574 : CTB2 := []
noncomputable def ft_574 : CTB2 := [(3, 165, 0, con_362, [0, 1]), (22, 165, 0, con_573, [0, 1]), (44, 165, 0, con_364, [0, 1]), (63, 165, 0, con_365, [0, 1])]
theorem ck_RX12_165_573 : COK2 RX12 vwCl gTbl 165 0 con_573 := ⟨wd_1603, wd_137, mh_X12_is, .inr (.inr ⟨rfl, wd_1600, wd_1602, wd_58, ⟨_, rfl, pd_X12_is⟩, 12, _, TX12, 45, rfl, rfl⟩)⟩
theorem fto_574 (l : Launch) {es : List va_E} (f2 : isFact 2 0 [0, 1] es) (f5 : isFact 5 1 [0, 1] es) (f8 : isFact 8 0 [0, 1] es) (f12 : isFact 12 0 [0, 1] es) : FTOK2 l RX12 vwCl gTbl es ft_574 := ft2_cons (fun ec he => hv_362 l (f2 ec he)) ck_RX12_165_362 (ft2_cons (fun ec he => hv_573 l (f5 ec he)) ck_RX12_165_573 (ft2_cons (fun ec he => hv_364 l (f8 ec he)) ck_RX12_165_364 (ft2_cons (fun ec he => hv_365 l (f12 ec he)) ck_RX12_165_365 (ft2_nil))))
noncomputable def cu_574 : List CUT2 := []
theorem ch_574 : staG tb_X12_isFull 1 bt_RX12 ft_574 ct_574 [] [] cu_574 26 con_574 = true := by decide +kernel
theorem cto_574 (l : Launch) : CTOK2 l RX12 vwCl gTbl ct_574 := ct2_nil
theorem hv_574 (l : Launch) {es : List va_E} (f2 : isFact 2 0 [0, 1] es) (f5 : isFact 5 1 [0, 1] es) (f8 : isFact 8 0 [0, 1] es) (f12 : isFact 12 0 [0, 1] es) : VldE l vwCl gTbl con_574 es := conE_ok3 gT_all (hd_574) rfl pn_RX12 tk_X12_isFull bo_RX12 xo_RX12 (fto_574 l f2 f5 f8 f12) (cto_574 l) ch_574 cut_nil
/-- RookHustingModel takes -/
noncomputable def con_575 : Con2 := ((yX12_takes, cX12_takes, 3, (some .boolean)), (9, 223), ([(6, 0, 0), (13, 5, 0)], gi_160, [ac_113, .inr (0, [(700, (2, (-128), 127))])], []), [((0, 1, 0), gi_236, [(true, ac_114), (false, .inr (0, [(700, (2, (-128), 127))]))], [], [1, 1, 1, 1, 1, 1, 1, 1, 1, 1, 1, 1, 1, 1, 1, 1, 1, 1, 1, 1, 1, 1, 1, 1, 1, 1, 1, 1, 1, 1, 1, 1, 1, 1, 1, 1, 1, 1, 1, 1, 1, 1, 1, 1, 1, 1])])
theorem hd_575 : con_575.1 = (yX12_takes, cX12_takes, 3, (some .boolean)) := rfl
noncomputable def ct_575 : CTB2 := [(11, 169, 0, con_313, [0, 1])]
noncomputable def ft_575 : CTB2 := [(2, 165, 0, con_573, [0, 1])]
theorem fto_575 (l : Launch) {es : List va_E} (f5 : isFact 5 1 [0, 1] es) : FTOK2 l RX12 vwCl gTbl es ft_575 := ft2_cons (fun ec he => hv_573 l (f5 ec he)) ck_RX12_165_573 (ft2_nil)
noncomputable def cu_575 : List CUT2 := []
theorem ch_575 : staG tb_X12_takes 1 bt_RX12 ft_575 ct_575 [] [] cu_575 12 con_575 = true := by decide +kernel
theorem cto_575 (l : Launch) : CTOK2 l RX12 vwCl gTbl ct_575 := ct2_cons (vl_313 l) ck_RX12_169_313 (ct2_nil)
theorem hv_575 (l : Launch) {es : List va_E} (f5 : isFact 5 1 [0, 1] es) : VldE l vwCl gTbl con_575 es := conE_ok3 gT_all (hd_575) rfl pn_RX12 tk_X12_takes bo_RX12 xo_RX12 (fto_575 l f5) (cto_575 l) ch_575 cut_nil
/-- RookHustingModel number -/
def gi_246 : GI := [(0, 0), (0, 0), (0, 4), (0, 0), (0, 0), (0, 0), (0, 0), (0, 0), (0, 0), (0, 0), (0, 700), (0, 700), (0, 700), (0, 4), ((-2147483648), 2147483647), (0, 0), ((-1), 700), (0, 0), (0, 0), (0, 0), (0, 0), (0, 0), (0, 0), (0, 0), (0, 0), (0, 0), (0, 0), (0, 0), (0, 0), (0, 0), (0, 0), (0, 0), (0, 0), (0, 0), (0, 0), (0, 0), (0, 0), (0, 0), (0, 0), (0, 0), (0, 0), (0, 0), (0, 0), (0, 0), (0, 0), (0, 0), (0, 0), (0, 0)]
def gi_247 : GI := [(0, 0), (0, 0), (0, 4), (0, 0), (0, 0), (0, 0), (0, 0), (0, 0), (0, 0), (0, 0), (0, 700), (0, 700), (0, 700), (0, 4), ((-2147483648), 2147483647), (0, 0), ((-1), 700), (0, 0), (0, 0), (0, 0), (0, 0), (0, 0), (0, 0), (0, 0), (0, 0), (0, 0), (0, 0), (0, 0), (0, 0), (0, 0), (0, 0), (0, 0), (0, 0), (0, 0), (0, 0), (0, 0), (0, 0), (0, 0), (0, 0), (0, 0), (0, 0), (0, 0), (0, 0), (0, 0), (0, 0), (0, 0), (0, 0), (0, 0), (0, 0)]
noncomputable def con_576 : Con2 := ((yX12_number, cX12_number, 4, (some .int)), (1, 20), ([(6, 0, 0), (0, 0, 0), (1, 2, 0)], gi_246, [ac_155, .inr (0, [(700, (2, (-128), 127))])], []), [((0, 0, 0), gi_247, [(false, ac_155), (false, .inr (0, [(700, (2, (-128), 127))]))], [], [1])])
theorem hd_576 : con_576.1 = (yX12_number, cX12_number, 4, (some .int)) := rfl
noncomputable def ct_576 : CTB2 := [(1, 153, 0, con_325, [0]), (21, 153, 0, con_325, [0]), (48, 153, 0, con_325, [0])]
noncomputable def cu_576 : List CUT2 := []
theorem ch_576 : staG tb_X12_number 1 bt_RX12 [] ct_576 [] [] cu_576 13 con_576 = true := by decide +kernel
theorem cto_576 (l : Launch) : CTOK2 l RX12 vwCl gTbl ct_576 := ct2_cons (vl_325 l) ck_RX12_153_325 (ct2_cons (vl_325 l) ck_RX12_153_325 (ct2_cons (vl_325 l) ck_RX12_153_325 (ct2_nil)))
theorem vl_576 (l : Launch) : Vld2 l vwCl gTbl con_576 := conR_ok3 gT_all (hd_576) rfl pn_RX12 tk_X12_number bo_RX12 xo_RX12 (cto_576 l) ch_576 cut_nil
/-- RookHustingModel in -/
def gi_248 : GI := [((-9223372036854775808), 9223372036854775807), (0, 0), (0, 4)]
def gi_249 : GI := [((-9223372036854775808), 9223372036854775807), (0, 0), (0, 4), (0, 0)]
noncomputable def con_577 : Con2 := ((yX12_in, cX12_in, 6, (some .boolean)), (0, 0), ([(4, 0, 0), (3, 0, 0), (4, 2, 0)], gi_248, [], []), [((0, 0, 0), gi_249, [], [], [1]), ((0, 1, 0), [(0, 4), (0, 0), (0, 4), (0, 0)], [], [], [1])])
theorem hd_577 : con_577.1 = (yX12_in, cX12_in, 6, (some .boolean)) := rfl
noncomputable def ct_577 : CTB2 := []
noncomputable def cu_577 : List CUT2 := []
theorem ch_577 : staG tb_X12_in 1 bt_RX12 [] ct_577 [] [] cu_577 11 con_577 = true := by decide +kernel
theorem cto_577 (l : Launch) : CTOK2 l RX12 vwCl gTbl ct_577 := ct2_nil
theorem vl_577 (l : Launch) : Vld2 l vwCl gTbl con_577 := conR_ok3 gT_all (hd_577) rfl pn_RX12 tk_X12_in bo_RX12 xo_RX12 (cto_577 l) ch_577 cut_nil
/-- RookHustingModel number -/
def gi_250 : GI := [(0, 0), (0, 0), (0, 4), (0, 0), (0, 0), (0, 0), (0, 0), (0, 0), (0, 0), (0, 0), (0, 700), (0, 700), (0, 700), (0, 4), ((-2147483648), 2147483647), (0, 0), ((-1), 700), (0, 0), (0, 0), (0, 0), (0, 0), (0, 0), (0, 0), (0, 0), (0, 0), (0, 0), (0, 0), (0, 0), (0, 0), (0, 0), (0, 0), (0, 0), (0, 0), (0, 0), (0, 0), (0, 0), (0, 0), (0, 0), (0, 0), (0, 0), (0, 0), (0, 0), (0, 0), (0, 0), (0, 0), (0, 0), (0, 0), (0, 0), (0, 0), (0, 0), (0, 0), (0, 0), (0, 0), (0, 0), (0, 0), (0, 0), (0, 0), (0, 0), (0, 0), (0, 4), (0, 0), (1, 2), (0, 0), (0, 0), (0, 0), (0, 0), (0, 0), (0, 0), (0, 0), (0, 0), (0, 0), (0, 0), (0, 0), (0, 0), (0, 0), (0, 0), (0, 0), (0, 0), (0, 0), (0, 0), (0, 0), (0, 0), (0, 0), (0, 0), (0, 0), (0, 0), (0, 0), (0, 0), (0, 0), (0, 0), (0, 0), (0, 0), (0, 0), (0, 0)]
noncomputable def con_578 : Con2 := ((yX12_number, cX12_number, 4, (some .int)), (2, 46), ([(6, 0, 0), (0, 0, 0), (1, 2, 0)], gi_246, [ac_123, .inr (0, [(700, (2, (-128), 127))])], []), [((0, 0, 0), gi_250, [(true, ac_124), (false, .inr (0, [(700, (2, (-128), 127))]))], [], [1, 1, 1, 1, 1, 1, 1, 1, 1, 1, 1, 1, 1, 1, 1, 1, 1, 1, 1, 1, 1, 1, 1, 1, 1, 1, 1, 1, 1, 1, 1, 1, 1, 1, 1, 1, 1, 1, 1, 1, 1, 1, 1, 1, 1, 1]), ((1, 14, 0), gi_212, [(true, ac_125), (false, .inr (0, [(700, (2, (-128), 127))]))], [], [1, 1, 1, 1, 1, 1, 1, 1, 1, 1, 1, 1, 1, 1, 1, 1, 1, 1, 1, 1, 1, 1, 1, 1, 1, 1, 1, 1, 1, 1, 1, 1, 1, 1, 1, 1, 1, 1, 1, 1, 1, 1, 1, 1, 1, 1])])
theorem hd_578 : con_578.1 = (yX12_number, cX12_number, 4, (some .int)) := rfl
theorem ck_RX12_91_577 : COK2 RX12 vwCl gTbl 91 1 con_577 := ⟨wd_1544, wd_137, mh_X12_in, .inl ⟨rfl, wd_1542, wd_1543, pd_X12_in⟩⟩
noncomputable def ct_578 : CTB2 := [(1, 153, 0, con_314, [0]), (17, 175, 0, con_317, [0]), (21, 153, 0, con_322, [0]), (21, 153, 0, con_314, [0]), (36, 91, 1, con_577, []), (44, 175, 0, con_324, [0]), (48, 153, 0, con_322, [0]), (48, 153, 0, con_314, [0]), (48, 153, 0, con_325, [0]), (62, 169, 0, con_313, [0, 1])]
noncomputable def cu_578 : List CUT2 := []
theorem ch_578 : staG tb_X12_number 1 bt_RX12 [] ct_578 [] [] cu_578 31 con_578 = true := by decide +kernel
theorem cto_578 (l : Launch) : CTOK2 l RX12 vwCl gTbl ct_578 := ct2_cons (vl_314 l) ck_RX12_153_314 (ct2_cons (vl_317 l) ck_RX12_175_317 (ct2_cons (vl_322 l) ck_RX12_153_322 (ct2_cons (vl_314 l) ck_RX12_153_314 (ct2_cons (vl_577 l) ck_RX12_91_577 (ct2_cons (vl_324 l) ck_RX12_175_324 (ct2_cons (vl_322 l) ck_RX12_153_322 (ct2_cons (vl_314 l) ck_RX12_153_314 (ct2_cons (vl_325 l) ck_RX12_153_325 (ct2_cons (vl_313 l) ck_RX12_169_313 (ct2_nil))))))))))
theorem vl_578 (l : Launch) : Vld2 l vwCl gTbl con_578 := conR_ok3 gT_all (hd_578) rfl pn_RX12 tk_X12_number bo_RX12 xo_RX12 (cto_578 l) ch_578 cut_nil
/-- RookHustingModel number -/
def gi_251 : GI := [(0, 0), (0, 0), ((-1), 4), (0, 0), (0, 0), (0, 0), (0, 0), (0, 0), (0, 0), (0, 0), (0, 700), (0, 700), (0, 700), (0, 4), ((-2147483648), 2147483647), (1, 2), ((-1), 700), (0, 0), (0, 0), (0, 0), (0, 0), (0, 0), (0, 0), (0, 0), (0, 0), (0, 0), (0, 0), (0, 0), (0, 0), (0, 0), (0, 0), (0, 0), (0, 0), (0, 0), (0, 0), (0, 0), (0, 0), (0, 0), (0, 0), (0, 0), (0, 0), (0, 0), (0, 0), (0, 0), (0, 0), (0, 0), (0, 0), (0, 0)]
def gi_252 : GI := [(0, 0), (0, 0), ((-1), 4), (0, 0), (0, 0), (0, 0), (0, 0), (0, 0), (0, 0), (0, 0), (0, 700), (0, 700), (0, 700), (0, 4), ((-2147483648), 2147483647), (1, 2), ((-1), 700), (0, 0), (0, 0), (0, 0), (0, 0), (0, 0), (0, 0), (0, 0), (0, 0), (0, 0), (0, 0), (0, 0), (0, 0), (0, 0), (0, 0), (0, 0), (0, 0), (0, 0), (0, 0), (0, 0), (0, 0), (0, 0), (0, 0), (0, 0), (0, 0), (0, 0), (0, 0), (0, 0), (0, 0), (0, 0), (0, 0), (0, 0), (0, 0)]
noncomputable def con_579 : Con2 := ((yX12_number, cX12_number, 4, (some .int)), (1, 20), ([(6, 0, 0), (0, 0, 0), (1, 2, 0)], gi_251, [ac_135, .inr (0, [(700, (2, (-128), 127))])], []), [((0, 0, 0), gi_252, [(false, ac_135), (false, .inr (0, [(700, (2, (-128), 127))]))], [], [1])])
theorem hd_579 : con_579.1 = (yX12_number, cX12_number, 4, (some .int)) := rfl
noncomputable def ct_579 : CTB2 := [(1, 153, 0, con_343, [0]), (21, 153, 0, con_343, [0]), (48, 153, 0, con_343, [0])]
noncomputable def cu_579 : List CUT2 := []
theorem ch_579 : staG tb_X12_number 1 bt_RX12 [] ct_579 [] [] cu_579 13 con_579 = true := by decide +kernel
theorem cto_579 (l : Launch) : CTOK2 l RX12 vwCl gTbl ct_579 := ct2_cons (vl_343 l) ck_RX12_153_343 (ct2_cons (vl_343 l) ck_RX12_153_343 (ct2_cons (vl_343 l) ck_RX12_153_343 (ct2_nil)))
theorem vl_579 (l : Launch) : Vld2 l vwCl gTbl con_579 := conR_ok3 gT_all (hd_579) rfl pn_RX12 tk_X12_number bo_RX12 xo_RX12 (cto_579 l) ch_579 cut_nil
/-- RookHustingModel readHedge -/
def gi_253 : GI := [(0, 0), (0, 0), (0, 0), (0, 0), (0, 0), (0, 0), (0, 0), (0, 0), (0, 700), (0, 700), (0, 700), (0, 4), ((-2147483648), 2147483647), (0, 0), ((-1), 700), (0, 0), (0, 0), (0, 0), (0, 0), (0, 0), (0, 0), (0, 0), (0, 0), (0, 0), (0, 0), (0, 0), (0, 0), (0, 0), (0, 0), (0, 0), (0, 0), (0, 0), (0, 0), (0, 0), (0, 0), (0, 0), (0, 0), (0, 0), (0, 0), (0, 0), (0, 0), (0, 0), (0, 0), (0, 0), (0, 0), (0, 0), (0, 16), (0, 3), (0, 10), (0, 5), (0, 8), (0, 5), (0, 0), (0, 30), (1, 26), (0, 0), (0, 0), (0, 0), (0, 0), (0, 0), (0, 0), (0, 0), (0, 0), (0, 0), (0, 0), (0, 0), (0, 0), (0, 0), (0, 0), (0, 0), (0, 0), (0, 0), (0, 0), (0, 0), (0, 0), (0, 0), (0, 0), (0, 700), (0, 700), (0, 4), ((-2147483648), 2147483647), (1, 2), (0, 700), (0, 0), (0, 0), (0, 0), (0, 0), (0, 0), (0, 0), (0, 0), (0, 0), (0, 0), (0, 0), (0, 0), (0, 0), (0, 0), (0, 0), (0, 0), (0, 0), (0, 0), (0, 0), (0, 0), (0, 0), (0, 0), (0, 0), (0, 0), (0, 0), (0, 0), (0, 0), (0, 0), (0, 0), (0, 0), (0, 0), (0, 0), (0, 0), (0, 0), (0, 0), (0, 0), (0, 0), (0, 0), (0, 0), (0, 0), (0, 0), (0, 0), (0, 0), (0, 0), (0, 0), (0, 0), (0, 0), (0, 0), (0, 0), (0, 0), (0, 0), (0, 0), (0, 0), (0, 0), (0, 0)]
def ac_191 : AC := .inr (1, [(1, (1, 46, 0)), (1, (1, 47, 0)), (1, (1, 48, 0)), (1, (1, 49, 0)), (1, (1, 50, 1)), (1, (1, 51, 0)), (1, (0, 0, 0)), (1, (1, 53, 0)), (1, (1, 54, 0)), (10, (2, 0, 300)), (16, (2, 0, 4)), (10, (2, 0, 40)), (1, (2, 0, 9)), (1, (0, 0, 0)), (5, (2, 0, 4)), (1, (2, 0, 9)), (1, (0, 0, 0)), (5, (2, 0, 4)), (1, (2, 0, 9)), (1, (0, 0, 0)), (5, (2, 0, 4)), (1, (2, 0, 9)), (1, (0, 0, 0)), (5, (2, 0, 4)), (1, (2, 0, 9)), (1, (0, 0, 0)), (5, (2, 0, 4)), (1, (2, 0, 9)), (1, (0, 0, 0)), (5, (2, 0, 4)), (1, (2, 0, 9)), (1, (0, 0, 0)), (5, (2, 0, 4)), (30, (0, 0, 0))])
def gi_254 : GI := [(0, 0), (0, 0), (0, 0), (0, 0), (0, 0), (0, 0), (0, 0), (0, 0), (0, 700), (0, 700), (0, 700), (2, 2), (0, 4), (0, 0), ((-1), 700), (0, 0), (0, 0), (0, 0), (0, 0), (0, 0), (0, 0), (0, 0), (0, 0), (0, 0), (0, 0), (0, 0), (0, 0), (0, 0), (0, 0), (0, 0), (0, 0), (0, 0), (0, 0), (0, 0), (0, 0), (0, 0), (0, 0), (0, 0), (0, 0), (0, 0), (0, 0), (0, 0), (0, 0), (0, 0), (0, 0), (0, 0), (0, 16), (0, 3), (0, 10), (1, 5), (0, 8), (0, 5), (0, 0), (0, 30), (1, 26), (0, 0), (0, 0), (0, 0), (0, 0), (0, 0), (0, 0), (0, 0), (0, 0), (0, 0), (0, 0), (0, 0), (0, 0), (0, 0), (0, 0), (0, 0), (0, 0), (0, 0), (0, 0), (0, 0), (0, 0), (0, 0), (0, 0), (0, 700), (0, 700), (0, 4), ((-2147483648), 2147483647), (0, 0), (0, 0), (0, 0), (0, 0), (0, 0), (0, 0), (0, 0), (0, 0), (0, 0), (0, 0), (0, 0), (0, 0), (0, 0), (0, 0), (0, 0), (0, 0), (0, 0), (0, 0), (0, 0), (0, 0), (0, 0), (0, 0), (0, 0), (0, 0), (0, 0), (0, 0), (0, 0), (0, 0), (0, 0), (0, 0), (0, 0), (0, 0), (0, 0), (0, 0), (0, 0), (0, 0), (0, 0), (0, 0), (0, 0), (0, 0), (0, 0), (0, 0), (0, 0), (0, 0), (0, 0), (0, 0), (0, 0), (0, 0), (0, 0), (0, 0), (0, 0), (0, 0), (0, 0), (0, 0), (0, 0), (0, 0)]
noncomputable def con_580 : Con2 := ((yX12_readHedge, cX12_readHedge, 2, none), (3, 69), ([(6, 0, 0)], gi_215, [ac_148, ac_156, .inr (0, [(700, (2, (-128), 127))])], []), [((9, 0, 0), gi_253, [(true, ac_149), (true, ac_191), (false, .inr (0, [(700, (2, (-128), 127))]))], [], [1, 1, 1, 1, 1, 1, 1, 1, 1, 1, 1, 1, 1, 1, 1, 1, 1, 1, 1, 1, 1, 1, 1, 1, 1, 1, 1, 1, 1, 1, 1, 1, 1, 1, 1, 1, 1, 1, 1, 1, 1, 1, 1, 1, 1, 1, 1, 1, 1, 1, 1, 1, 1, 1, 1, 1, 1, 1, 1, 1, 1, 1, 1, 1, 1, 1, 1, 1]), ((9, 0, 0), gi_254, [(true, ac_151), (true, ac_191), (false, .inr (0, [(700, (2, (-128), 127))]))], [], [1, 1, 1, 1, 1, 1, 1, 1, 1, 1, 1, 1, 1, 1, 1, 1, 1, 1, 1, 1, 1, 1, 1, 1, 1, 1, 1, 1, 1, 1, 1, 1, 1, 1, 1, 1, 1, 1, 1, 1, 1, 1, 1, 1, 1, 1, 1, 1, 1, 1, 1, 1, 1, 1, 1, 1, 1, 1, 1, 1, 1, 1, 1, 1, 1, 1, 1, 1])])
theorem hd_580 : con_580.1 = (yX12_readHedge, cX12_readHedge, 2, none) := rfl
theorem ck_RX12_183_579 : COK2 RX12 vwCl gTbl 183 0 con_579 := ⟨wd_1618, wd_137, mh_X12_number, .inr (.inr ⟨rfl, wd_1615, wd_1617, wd_61, ⟨_, rfl, pd_X12_number⟩, 12, _, TX12, 45, rfl, rfl⟩)⟩
theorem ck_RX12_183_578 : COK2 RX12 vwCl gTbl 183 0 con_578 := ⟨wd_1618, wd_137, mh_X12_number, .inr (.inr ⟨rfl, wd_1615, wd_1617, wd_61, ⟨_, rfl, pd_X12_number⟩, 12, _, TX12, 45, rfl, rfl⟩)⟩
theorem ck_RX12_183_576 : COK2 RX12 vwCl gTbl 183 0 con_576 := ⟨wd_1618, wd_137, mh_X12_number, .inr (.inr ⟨rfl, wd_1615, wd_1617, wd_61, ⟨_, rfl, pd_X12_number⟩, 12, _, TX12, 45, rfl, rfl⟩)⟩
noncomputable def ct_580 : CTB2 := [(27, 183, 0, con_385, [0, 2]), (32, 153, 0, con_314, [0]), (32, 153, 0, con_343, [0]), (61, 175, 0, con_324, [0]), (81, 183, 0, con_576, [0, 2]), (81, 183, 0, con_578, [0, 2]), (81, 183, 0, con_579, [0, 2])]
noncomputable def cu_580 : List CUT2 := []
theorem ch_580 : staG tb_X12_readHedge 1 bt_RX12 [] ct_580 [] [] cu_580 65 con_580 = true := by decide +kernel
theorem cto_580 (l : Launch) : CTOK2 l RX12 vwCl gTbl ct_580 := ct2_cons (vl_385 l) ck_RX12_183_385 (ct2_cons (vl_314 l) ck_RX12_153_314 (ct2_cons (vl_343 l) ck_RX12_153_343 (ct2_cons (vl_324 l) ck_RX12_175_324 (ct2_cons (vl_576 l) ck_RX12_183_576 (ct2_cons (vl_578 l) ck_RX12_183_578 (ct2_cons (vl_579 l) ck_RX12_183_579 (ct2_nil)))))))
theorem vl_580 (l : Launch) : Vld2 l vwCl gTbl con_580 := conR_ok3 gT_all (hd_580) rfl pn_RX12 tk_X12_readHedge bo_RX12 xo_RX12 (cto_580 l) ch_580 cut_nil
/-- RookHustingModel isFull -/
def gi_255 : GI := [(0, 0), (0, 0), (0, 0), (0, 0), (0, 0), (0, 0), (0, 0), (0, 0), (0, 0), (0, 700), (0, 700), (0, 4), (0, 0), (0, 0), (0, 0), (0, 0), (0, 0), (0, 0), (0, 0), (0, 0), (0, 0), (0, 0), (0, 0), (0, 0), (0, 0), (0, 0), (0, 0), (0, 0), (0, 0), (0, 0), (0, 0), (0, 0), (0, 0), (0, 0), (0, 0), (0, 0), (0, 0), (0, 0), (0, 0), (0, 0), (0, 0), (0, 0), (0, 0), (0, 0), (0, 0), (0, 0), (0, 16), (0, 3), (0, 10), (0, 5), (0, 7), (0, 5), (0, 6), (0, 30), (0, 2147483647), (0, 0), (0, 0), (0, 0), (0, 0), (0, 0), (0, 0), (0, 0), (0, 0), (0, 0), (0, 0), (0, 0), (0, 0), (0, 0), (0, 0), (0, 0)]
noncomputable def con_581 : Con2 := ((yX12_isFull, cX12_isFull, 1, (some .boolean)), (9, 223), ([(6, 0, 0)], gi_202, [ac_154, .inr (0, [(700, (2, (-128), 127))]), ac_153], []), [((0, 0, 0), gi_255, [(false, ac_154), (false, .inr (0, [(700, (2, (-128), 127))])), (false, ac_153)], [], [1]), ((0, 1, 0), gi_203, [(false, ac_154), (false, .inr (0, [(700, (2, (-128), 127))])), (false, ac_153)], [], [1])])
theorem hd_581 : con_581.1 = (yX12_isFull, cX12_isFull, 1, (some .boolean)) := rfl
noncomputable def ct_581 : CTB2 := []
noncomputable def ft_581 : CTB2 := [(3, 165, 0, con_362, [0, 1]), (22, 165, 0, con_573, [0, 1]), (44, 165, 0, con_364, [0, 1]), (63, 165, 0, con_371, [0, 1])]
theorem fto_581 (l : Launch) {es : List va_E} (f2 : isFact 2 0 [0, 1] es) (f5 : isFact 5 1 [0, 1] es) (f8 : isFact 8 0 [0, 1] es) (f12 : isFact 12 1 [0, 1] es) : FTOK2 l RX12 vwCl gTbl es ft_581 := ft2_cons (fun ec he => hv_362 l (f2 ec he)) ck_RX12_165_362 (ft2_cons (fun ec he => hv_573 l (f5 ec he)) ck_RX12_165_573 (ft2_cons (fun ec he => hv_364 l (f8 ec he)) ck_RX12_165_364 (ft2_cons (fun ec he => hv_371 l (f12 ec he)) ck_RX12_165_371 (ft2_nil))))
noncomputable def cu_581 : List CUT2 := []
theorem ch_581 : staG tb_X12_isFull 1 bt_RX12 ft_581 ct_581 [] [] cu_581 33 con_581 = true := by decide +kernel
theorem cto_581 (l : Launch) : CTOK2 l RX12 vwCl gTbl ct_581 := ct2_nil
theorem hv_581 (l : Launch) {es : List va_E} (f2 : isFact 2 0 [0, 1] es) (f5 : isFact 5 1 [0, 1] es) (f8 : isFact 8 0 [0, 1] es) (f12 : isFact 12 1 [0, 1] es) : VldE l vwCl gTbl con_581 es := conE_ok3 gT_all (hd_581) rfl pn_RX12 tk_X12_isFull bo_RX12 xo_RX12 (fto_581 l f2 f5 f8 f12) (cto_581 l) ch_581 cut_nil
/-- RookHustingModel isFull -/
def gi_256 : GI := [(0, 0), (0, 0), (0, 0), (0, 0), (0, 0), (0, 0), (0, 0), (0, 0), (0, 0), (0, 700), (0, 700), (0, 4), (0, 0), (0, 0), (0, 0), (0, 0), (0, 0), (0, 0), (0, 0), (0, 0), (0, 0), (0, 0), (0, 0), (0, 0), (0, 0), (0, 0), (0, 0), (0, 0), (0, 0), (0, 0), (0, 0), (0, 0), (0, 0), (0, 0), (0, 0), (0, 0), (0, 0), (0, 0), (0, 0), (0, 0), (0, 0), (0, 0), (0, 0), (0, 0), (0, 0), (0, 0), (0, 16), (0, 3), (0, 10), (0, 5), (0, 7), (0, 4), (0, 7), (0, 30), (0, 2147483647), (0, 0), (0, 0), (0, 0), (0, 0), (0, 0), (0, 0), (0, 0), (0, 0), (0, 0), (0, 0), (0, 0), (0, 0), (0, 0), (0, 0), (0, 0)]
noncomputable def con_582 : Con2 := ((yX12_isFull, cX12_isFull, 1, (some .boolean)), (9, 223), ([(6, 0, 0)], gi_202, [ac_154, .inr (0, [(700, (2, (-128), 127))]), ac_153], []), [((0, 0, 0), gi_256, [(false, ac_154), (false, .inr (0, [(700, (2, (-128), 127))])), (false, ac_153)], [], [1]), ((0, 1, 0), gi_203, [(false, ac_154), (false, .inr (0, [(700, (2, (-128), 127))])), (false, ac_153)], [], [1])])
theorem hd_582 : con_582.1 = (yX12_isFull, cX12_isFull, 1, (some .boolean)) := rfl
noncomputable def ct_582 : CTB2 := []
noncomputable def ft_582 : CTB2 := [(3, 165, 0, con_362, [0, 1]), (22, 165, 0, con_573, [0, 1]), (44, 165, 0, con_548, [0, 1]), (63, 165, 0, con_365, [0, 1])]
theorem fto_582 (l : Launch) {es : List va_E} (f2 : isFact 2 0 [0, 1] es) (f5 : isFact 5 1 [0, 1] es) (f8 : isFact 8 1 [0, 1] es) (f12 : isFact 12 0 [0, 1] es) : FTOK2 l RX12 vwCl gTbl es ft_582 := ft2_cons (fun ec he => hv_362 l (f2 ec he)) ck_RX12_165_362 (ft2_cons (fun ec he => hv_573 l (f5 ec he)) ck_RX12_165_573 (ft2_cons (fun ec he => hv_548 l (f8 ec he)) ck_RX12_165_548 (ft2_cons (fun ec he => hv_365 l (f12 ec he)) ck_RX12_165_365 (ft2_nil))))
noncomputable def cu_582 : List CUT2 := []
theorem ch_582 : staG tb_X12_isFull 1 bt_RX12 ft_582 ct_582 [] [] cu_582 32 con_582 = true := by decide +kernel
theorem cto_582 (l : Launch) : CTOK2 l RX12 vwCl gTbl ct_582 := ct2_nil
theorem hv_582 (l : Launch) {es : List va_E} (f2 : isFact 2 0 [0, 1] es) (f5 : isFact 5 1 [0, 1] es) (f8 : isFact 8 1 [0, 1] es) (f12 : isFact 12 0 [0, 1] es) : VldE l vwCl gTbl con_582 es := conE_ok3 gT_all (hd_582) rfl pn_RX12 tk_X12_isFull bo_RX12 xo_RX12 (fto_582 l f2 f5 f8 f12) (cto_582 l) ch_582 cut_nil
/-- RookHustingModel isFull -/
def gi_257 : GI := [(0, 0), (0, 0), (0, 0), (0, 0), (0, 0), (0, 0), (0, 0), (0, 0), (0, 0), (0, 700), (0, 700), (0, 4), (0, 0), (0, 0), (0, 0), (0, 0), (0, 0), (0, 0), (0, 0), (0, 0), (0, 0), (0, 0), (0, 0), (0, 0), (0, 0), (0, 0), (0, 0), (0, 0), (0, 0), (0, 0), (0, 0), (0, 0), (0, 0), (0, 0), (0, 0), (0, 0), (0, 0), (0, 0), (0, 0), (0, 0), (0, 0), (0, 0), (0, 0), (0, 0), (0, 0), (0, 0), (0, 16), (0, 3), (0, 10), (0, 5), (0, 7), (0, 4), (0, 6), (0, 30), (0, 2147483647), (0, 0), (0, 0), (0, 0), (0, 0), (0, 0), (0, 0), (0, 0), (0, 0), (0, 0), (0, 0), (0, 0), (0, 0), (0, 0), (0, 0), (0, 0)]
noncomputable def con_583 : Con2 := ((yX12_isFull, cX12_isFull, 1, (some .boolean)), (9, 223), ([(6, 0, 0)], gi_202, [ac_154, .inr (0, [(700, (2, (-128), 127))]), ac_153], []), [((0, 0, 0), gi_257, [(false, ac_154), (false, .inr (0, [(700, (2, (-128), 127))])), (false, ac_153)], [], [1]), ((0, 1, 0), gi_203, [(false, ac_154), (false, .inr (0, [(700, (2, (-128), 127))])), (false, ac_153)], [], [1])])
theorem hd_583 : con_583.1 = (yX12_isFull, cX12_isFull, 1, (some .boolean)) := rfl
noncomputable def ct_583 : CTB2 := []
noncomputable def ft_583 : CTB2 := [(3, 165, 0, con_362, [0, 1]), (22, 165, 0, con_573, [0, 1]), (44, 165, 0, con_548, [0, 1]), (63, 165, 0, con_371, [0, 1])]
theorem fto_583 (l : Launch) {es : List va_E} (f2 : isFact 2 0 [0, 1] es) (f5 : isFact 5 1 [0, 1] es) (f8 : isFact 8 1 [0, 1] es) (f12 : isFact 12 1 [0, 1] es) : FTOK2 l RX12 vwCl gTbl es ft_583 := ft2_cons (fun ec he => hv_362 l (f2 ec he)) ck_RX12_165_362 (ft2_cons (fun ec he => hv_573 l (f5 ec he)) ck_RX12_165_573 (ft2_cons (fun ec he => hv_548 l (f8 ec he)) ck_RX12_165_548 (ft2_cons (fun ec he => hv_371 l (f12 ec he)) ck_RX12_165_371 (ft2_nil))))
noncomputable def cu_583 : List CUT2 := []
theorem ch_583 : staG tb_X12_isFull 1 bt_RX12 ft_583 ct_583 [] [] cu_583 39 con_583 = true := by decide +kernel
theorem cto_583 (l : Launch) : CTOK2 l RX12 vwCl gTbl ct_583 := ct2_nil
theorem hv_583 (l : Launch) {es : List va_E} (f2 : isFact 2 0 [0, 1] es) (f5 : isFact 5 1 [0, 1] es) (f8 : isFact 8 1 [0, 1] es) (f12 : isFact 12 1 [0, 1] es) : VldE l vwCl gTbl con_583 es := conE_ok3 gT_all (hd_583) rfl pn_RX12 tk_X12_isFull bo_RX12 xo_RX12 (fto_583 l f2 f5 f8 f12) (cto_583 l) ch_583 cut_nil
noncomputable def gh_584 : GI := [(0, 0), (0, 0), (0, 0), (0, 0), (0, 0), (0, 0), (0, 0), (0, 0), (0, 0), (0, 0), (0, 700), (0, 700), (0, 4), (0, 0), (0, 0), (0, 0), (0, 0), (0, 0), (0, 0), (0, 0), (0, 0), (0, 0), (0, 0), (0, 0), (0, 0), (0, 0), (0, 0), (0, 0), (0, 0), (0, 0), (0, 0), (0, 0), (0, 0), (0, 0), (0, 0), (0, 0), (0, 0), (0, 0), (0, 0), (0, 0), (0, 0), (0, 0), (0, 0), (0, 0), (0, 0), (0, 0), (0, 0)]
noncomputable def fh_584 : List AV := [(8, 2, 0), (8, 3, 0), (8, 4, 0), (8, 5, 0), (6, 1, 0), (8, 7, 0), (8, 8, 0), (8, 9, 0), (1, 10, 0), (1, 11, 0), (1, 12, 0), (8, 13, 0), (0, 0, 0), (8, 15, 0), (8, 16, 0), (8, 17, 0), (8, 18, 0), (8, 19, 0), (8, 20, 0), (8, 21, 0), (8, 22, 0), (8, 23, 0), (8, 24, 0), (8, 25, 0), (8, 26, 0), (8, 27, 0), (8, 28, 0), (8, 29, 0), (8, 30, 0), (8, 31, 0), (8, 32, 0), (8, 33, 0), (8, 34, 0), (8, 35, 0), (8, 36, 0), (8, 37, 0), (8, 38, 0), (8, 39, 0), (8, 40, 0), (8, 41, 0), (8, 42, 0), (8, 43, 0), (8, 44, 0), (8, 45, 0), (8, 46, 0)]
noncomputable def con_584 : Con2 := ((yX12_is, cX12_is, 4, some .boolean), (8, 200), ([(6, 0, 0), (13, 2, 0)], gh_584, [.inl (12, fh_584), .inr (0, [(700, (2, (-128), 127))])], []), [((0, 1, 0), gh_584 ++ [(0, 0)], [(false, .inl (12, fh_584)), (false, .inr (0, [(700, (2, (-128), 127))]))], [], [1])])
theorem hv_584 (l : Launch) {ec : List va_E} (h : ((1 = 1 → isE 2 ec) ∧ (1 ≠ 1 → ¬ isE 2 ec))) : VldE l vwCl gTbl con_584 ec := is_vld (i := 2) (v := 1) (G := gh_584) (fsA := fh_584) (sg := [(700, (2, (-128), 127))]) (by decide) (by decide +kernel) (a12 := (0, 0, 0)) (a10 := (1, 12, 0)) (a8 := (1, 10, 0)) (a9 := (1, 11, 0)) rfl rfl rfl rfl rfl (q12 := (0, 0)) (q10 := (0, 4)) (q8 := (0, 700)) (q9 := (0, 700)) rfl rfl rfl rfl (by decide +kernel) (by decide +kernel) (Or.inl ⟨h.1 rfl, rfl⟩)
