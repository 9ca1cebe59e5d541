/-! ===== contracts, 4 ===== -/
/-- RookHustingModel bit -/
noncomputable def con_511 : Con2 := ((yX12_bit, cX12_bit, 2, (some .int)), (0, 0), ([(0, 11, 0), (0, 0, 0)], [(0, 0), (0, 0)], [], []), [((0, 1, 0), [(0, 0), (0, 0), (0, 0)], [], [], [1])])
theorem hd_511 : con_511.1 = (yX12_bit, cX12_bit, 2, (some .int)) := rfl
noncomputable def ct_511 : CTB2 := []
noncomputable def cu_511 : List CUT2 := []
theorem ch_511 : staG tb_X12_bit 1 bt_RX12 [] ct_511 [] [] cu_511 8 con_511 = true := by decide +kernel
theorem cto_511 (l : Launch) : CTOK2 l RX12 vwCl gTbl ct_511 := ct2_nil
theorem vl_511 (l : Launch) : Vld2 l vwCl gTbl con_511 := conR_ok3 gT_all (hd_511) rfl pn_RX12 tk_X12_bit bo_RX12 xo_RX12 (cto_511 l) ch_511 cut_nil
/-- RookHustingModel bit -/
noncomputable def con_512 : Con2 := ((yX12_bit, cX12_bit, 2, (some .int)), (0, 0), ([(0, 7, 0), (0, 4, 0)], [(0, 0), (0, 0)], [], []), [((0, 0, 0), [(0, 0), (0, 0), (0, 0)], [], [], [1])])
theorem hd_512 : con_512.1 = (yX12_bit, cX12_bit, 2, (some .int)) := rfl
noncomputable def ct_512 : CTB2 := []
noncomputable def cu_512 : List CUT2 := []
theorem ch_512 : staG tb_X12_bit 1 bt_RX12 [] ct_512 [] [] cu_512 8 con_512 = true := by decide +kernel
theorem cto_512 (l : Launch) : CTOK2 l RX12 vwCl gTbl ct_512 := ct2_nil
theorem vl_512 (l : Launch) : Vld2 l vwCl gTbl con_512 := conR_ok3 gT_all (hd_512) rfl pn_RX12 tk_X12_bit bo_RX12 xo_RX12 (cto_512 l) ch_512 cut_nil
/-- RookHustingModel bit -/
noncomputable def con_513 : Con2 := ((yX12_bit, cX12_bit, 2, (some .int)), (0, 0), ([(0, 7, 0), (0, 3, 0)], [(0, 0), (0, 0)], [], []), [((0, 0, 0), [(0, 0), (0, 0), (0, 0)], [], [], [1])])
theorem hd_513 : con_513.1 = (yX12_bit, cX12_bit, 2, (some .int)) := rfl
noncomputable def ct_513 : CTB2 := []
noncomputable def cu_513 : List CUT2 := []
theorem ch_513 : staG tb_X12_bit 1 bt_RX12 [] ct_513 [] [] cu_513 8 con_513 = true := by decide +kernel
theorem cto_513 (l : Launch) : CTOK2 l RX12 vwCl gTbl ct_513 := ct2_nil
theorem vl_513 (l : Launch) : Vld2 l vwCl gTbl con_513 := conR_ok3 gT_all (hd_513) rfl pn_RX12 tk_X12_bit bo_RX12 xo_RX12 (cto_513 l) ch_513 cut_nil
/-- RookHustingModel bit -/
noncomputable def con_514 : Con2 := ((yX12_bit, cX12_bit, 2, (some .int)), (0, 0), ([(0, 7, 0), (0, 2, 0)], [(0, 0), (0, 0)], [], []), [((0, 1, 0), [(0, 0), (0, 0), (0, 0)], [], [], [1])])
theorem hd_514 : con_514.1 = (yX12_bit, cX12_bit, 2, (some .int)) := rfl
noncomputable def ct_514 : CTB2 := []
noncomputable def cu_514 : List CUT2 := []
theorem ch_514 : staG tb_X12_bit 1 bt_RX12 [] ct_514 [] [] cu_514 8 con_514 = true := by decide +kernel
theorem cto_514 (l : Launch) : CTOK2 l RX12 vwCl gTbl ct_514 := ct2_nil
theorem vl_514 (l : Launch) : Vld2 l vwCl gTbl con_514 := conR_ok3 gT_all (hd_514) rfl pn_RX12 tk_X12_bit bo_RX12 xo_RX12 (cto_514 l) ch_514 cut_nil
/-- RookHustingModel bit -/
noncomputable def con_515 : Con2 := ((yX12_bit, cX12_bit, 2, (some .int)), (0, 0), ([(0, 7, 0), (0, 1, 0)], [(0, 0), (0, 0)], [], []), [((0, 1, 0), [(0, 0), (0, 0), (0, 0)], [], [], [1])])
theorem hd_515 : con_515.1 = (yX12_bit, cX12_bit, 2, (some .int)) := rfl
noncomputable def ct_515 : CTB2 := []
noncomputable def cu_515 : List CUT2 := []
theorem ch_515 : staG tb_X12_bit 1 bt_RX12 [] ct_515 [] [] cu_515 8 con_515 = true := by decide +kernel
theorem cto_515 (l : Launch) : CTOK2 l RX12 vwCl gTbl ct_515 := ct2_nil
theorem vl_515 (l : Launch) : Vld2 l vwCl gTbl con_515 := conR_ok3 gT_all (hd_515) rfl pn_RX12 tk_X12_bit bo_RX12 xo_RX12 (cto_515 l) ch_515 cut_nil
/-- RookHustingModel bit -/
noncomputable def con_516 : Con2 := ((yX12_bit, cX12_bit, 2, (some .int)), (0, 0), ([(0, 7, 0), (0, 0, 0)], [(0, 0), (0, 0)], [], []), [((0, 1, 0), [(0, 0), (0, 0), (0, 0)], [], [], [1])])
theorem hd_516 : con_516.1 = (yX12_bit, cX12_bit, 2, (some .int)) := rfl
noncomputable def ct_516 : CTB2 := []
noncomputable def cu_516 : List CUT2 := []
theorem ch_516 : staG tb_X12_bit 1 bt_RX12 [] ct_516 [] [] cu_516 8 con_516 = true := by decide +kernel
theorem cto_516 (l : Launch) : CTOK2 l RX12 vwCl gTbl ct_516 := ct2_nil
theorem vl_516 (l : Launch) : Vld2 l vwCl gTbl con_516 := conR_ok3 gT_all (hd_516) rfl pn_RX12 tk_X12_bit bo_RX12 xo_RX12 (cto_516 l) ch_516 cut_nil
/-- RookHustingModel bit -/
noncomputable def con_517 : Con2 := ((yX12_bit, cX12_bit, 2, (some .int)), (0, 0), ([(0, 30, 0), (0, 4, 0)], [(0, 0), (0, 0)], [], []), [((0, 1, 0), [(0, 0), (0, 0), (0, 0)], [], [], [1])])
theorem hd_517 : con_517.1 = (yX12_bit, cX12_bit, 2, (some .int)) := rfl
noncomputable def ct_517 : CTB2 := []
noncomputable def cu_517 : List CUT2 := []
theorem ch_517 : staG tb_X12_bit 1 bt_RX12 [] ct_517 [] [] cu_517 8 con_517 = true := by decide +kernel
theorem cto_517 (l : Launch) : CTOK2 l RX12 vwCl gTbl ct_517 := ct2_nil
theorem vl_517 (l : Launch) : Vld2 l vwCl gTbl con_517 := conR_ok3 gT_all (hd_517) rfl pn_RX12 tk_X12_bit bo_RX12 xo_RX12 (cto_517 l) ch_517 cut_nil
/-- RookHustingModel bit -/
noncomputable def con_518 : Con2 := ((yX12_bit, cX12_bit, 2, (some .int)), (0, 0), ([(0, 30, 0), (0, 3, 0)], [(0, 0), (0, 0)], [], []), [((0, 1, 0), [(0, 0), (0, 0), (0, 0)], [], [], [1])])
theorem hd_518 : con_518.1 = (yX12_bit, cX12_bit, 2, (some .int)) := rfl
noncomputable def ct_518 : CTB2 := []
noncomputable def cu_518 : List CUT2 := []
theorem ch_518 : staG tb_X12_bit 1 bt_RX12 [] ct_518 [] [] cu_518 8 con_518 = true := by decide +kernel
theorem cto_518 (l : Launch) : CTOK2 l RX12 vwCl gTbl ct_518 := ct2_nil
theorem vl_518 (l : Launch) : Vld2 l vwCl gTbl con_518 := conR_ok3 gT_all (hd_518) rfl pn_RX12 tk_X12_bit bo_RX12 xo_RX12 (cto_518 l) ch_518 cut_nil
/-- RookHustingModel bit -/
noncomputable def con_519 : Con2 := ((yX12_bit, cX12_bit, 2, (some .int)), (0, 0), ([(0, 30, 0), (0, 2, 0)], [(0, 0), (0, 0)], [], []), [((0, 1, 0), [(0, 0), (0, 0), (0, 0)], [], [], [1])])
theorem hd_519 : con_519.1 = (yX12_bit, cX12_bit, 2, (some .int)) := rfl
noncomputable def ct_519 : CTB2 := []
noncomputable def cu_519 : List CUT2 := []
theorem ch_519 : staG tb_X12_bit 1 bt_RX12 [] ct_519 [] [] cu_519 8 con_519 = true := by decide +kernel
theorem cto_519 (l : Launch) : CTOK2 l RX12 vwCl gTbl ct_519 := ct2_nil
theorem vl_519 (l : Launch) : Vld2 l vwCl gTbl con_519 := conR_ok3 gT_all (hd_519) rfl pn_RX12 tk_X12_bit bo_RX12 xo_RX12 (cto_519 l) ch_519 cut_nil
/-- RookHustingModel bit -/
noncomputable def con_520 : Con2 := ((yX12_bit, cX12_bit, 2, (some .int)), (0, 0), ([(0, 30, 0), (0, 1, 0)], [(0, 0), (0, 0)], [], []), [((0, 1, 0), [(0, 0), (0, 0), (0, 0)], [], [], [1])])
theorem hd_520 : con_520.1 = (yX12_bit, cX12_bit, 2, (some .int)) := rfl
noncomputable def ct_520 : CTB2 := []
noncomputable def cu_520 : List CUT2 := []
theorem ch_520 : staG tb_X12_bit 1 bt_RX12 [] ct_520 [] [] cu_520 8 con_520 = true := by decide +kernel
theorem cto_520 (l : Launch) : CTOK2 l RX12 vwCl gTbl ct_520 := ct2_nil
theorem vl_520 (l : Launch) : Vld2 l vwCl gTbl con_520 := conR_ok3 gT_all (hd_520) rfl pn_RX12 tk_X12_bit bo_RX12 xo_RX12 (cto_520 l) ch_520 cut_nil
/-- RookHustingModel bit -/
noncomputable def con_521 : Con2 := ((yX12_bit, cX12_bit, 2, (some .int)), (0, 0), ([(0, 30, 0), (0, 0, 0)], [(0, 0), (0, 0)], [], []), [((0, 0, 0), [(0, 0), (0, 0), (0, 0)], [], [], [1])])
theorem hd_521 : con_521.1 = (yX12_bit, cX12_bit, 2, (some .int)) := rfl
noncomputable def ct_521 : CTB2 := []
noncomputable def cu_521 : List CUT2 := []
theorem ch_521 : staG tb_X12_bit 1 bt_RX12 [] ct_521 [] [] cu_521 8 con_521 = true := by decide +kernel
theorem cto_521 (l : Launch) : CTOK2 l RX12 vwCl gTbl ct_521 := ct2_nil
theorem vl_521 (l : Launch) : Vld2 l vwCl gTbl con_521 := conR_ok3 gT_all (hd_521) rfl pn_RX12 tk_X12_bit bo_RX12 xo_RX12 (cto_521 l) ch_521 cut_nil
/-- RookHustingModel bit -/
noncomputable def con_522 : Con2 := ((yX12_bit, cX12_bit, 2, (some .int)), (0, 0), ([(0, 29, 0), (0, 4, 0)], [(0, 0), (0, 0)], [], []), [((0, 1, 0), [(0, 0), (0, 0), (0, 0)], [], [], [1])])
theorem hd_522 : con_522.1 = (yX12_bit, cX12_bit, 2, (some .int)) := rfl
noncomputable def ct_522 : CTB2 := []
noncomputable def cu_522 : List CUT2 := []
theorem ch_522 : staG tb_X12_bit 1 bt_RX12 [] ct_522 [] [] cu_522 8 con_522 = true := by decide +kernel
theorem cto_522 (l : Launch) : CTOK2 l RX12 vwCl gTbl ct_522 := ct2_nil
theorem vl_522 (l : Launch) : Vld2 l vwCl gTbl con_522 := conR_ok3 gT_all (hd_522) rfl pn_RX12 tk_X12_bit bo_RX12 xo_RX12 (cto_522 l) ch_522 cut_nil
/-- RookHustingModel bit -/
noncomputable def con_523 : Con2 := ((yX12_bit, cX12_bit, 2, (some .int)), (0, 0), ([(0, 29, 0), (0, 3, 0)], [(0, 0), (0, 0)], [], []), [((0, 1, 0), [(0, 0), (0, 0), (0, 0)], [], [], [1])])
theorem hd_523 : con_523.1 = (yX12_bit, cX12_bit, 2, (some .int)) := rfl
noncomputable def ct_523 : CTB2 := []
noncomputable def cu_523 : List CUT2 := []
theorem ch_523 : staG tb_X12_bit 1 bt_RX12 [] ct_523 [] [] cu_523 8 con_523 = true := by decide +kernel
theorem cto_523 (l : Launch) : CTOK2 l RX12 vwCl gTbl ct_523 := ct2_nil
theorem vl_523 (l : Launch) : Vld2 l vwCl gTbl con_523 := conR_ok3 gT_all (hd_523) rfl pn_RX12 tk_X12_bit bo_RX12 xo_RX12 (cto_523 l) ch_523 cut_nil
/-- RookHustingModel bit -/
noncomputable def con_524 : Con2 := ((yX12_bit, cX12_bit, 2, (some .int)), (0, 0), ([(0, 29, 0), (0, 2, 0)], [(0, 0), (0, 0)], [], []), [((0, 1, 0), [(0, 0), (0, 0), (0, 0)], [], [], [1])])
theorem hd_524 : con_524.1 = (yX12_bit, cX12_bit, 2, (some .int)) := rfl
noncomputable def ct_524 : CTB2 := []
noncomputable def cu_524 : List CUT2 := []
theorem ch_524 : staG tb_X12_bit 1 bt_RX12 [] ct_524 [] [] cu_524 8 con_524 = true := by decide +kernel
theorem cto_524 (l : Launch) : CTOK2 l RX12 vwCl gTbl ct_524 := ct2_nil
theorem vl_524 (l : Launch) : Vld2 l vwCl gTbl con_524 := conR_ok3 gT_all (hd_524) rfl pn_RX12 tk_X12_bit bo_RX12 xo_RX12 (cto_524 l) ch_524 cut_nil
/-- RookHustingModel bit -/
noncomputable def con_525 : Con2 := ((yX12_bit, cX12_bit, 2, (some .int)), (0, 0), ([(0, 29, 0), (0, 1, 0)], [(0, 0), (0, 0)], [], []), [((0, 0, 0), [(0, 0), (0, 0), (0, 0)], [], [], [1])])
theorem hd_525 : con_525.1 = (yX12_bit, cX12_bit, 2, (some .int)) := rfl
noncomputable def ct_525 : CTB2 := []
noncomputable def cu_525 : List CUT2 := []
theorem ch_525 : staG tb_X12_bit 1 bt_RX12 [] ct_525 [] [] cu_525 8 con_525 = true := by decide +kernel
theorem cto_525 (l : Launch) : CTOK2 l RX12 vwCl gTbl ct_525 := ct2_nil
theorem vl_525 (l : Launch) : Vld2 l vwCl gTbl con_525 := conR_ok3 gT_all (hd_525) rfl pn_RX12 tk_X12_bit bo_RX12 xo_RX12 (cto_525 l) ch_525 cut_nil
/-- RookHustingModel bit -/
noncomputable def con_526 : Con2 := ((yX12_bit, cX12_bit, 2, (some .int)), (0, 0), ([(0, 29, 0), (0, 0, 0)], [(0, 0), (0, 0)], [], []), [((0, 1, 0), [(0, 0), (0, 0), (0, 0)], [], [], [1])])
theorem hd_526 : con_526.1 = (yX12_bit, cX12_bit, 2, (some .int)) := rfl
noncomputable def ct_526 : CTB2 := []
noncomputable def cu_526 : List CUT2 := []
theorem ch_526 : staG tb_X12_bit 1 bt_RX12 [] ct_526 [] [] cu_526 8 con_526 = true := by decide +kernel
theorem cto_526 (l : Launch) : CTOK2 l RX12 vwCl gTbl ct_526 := ct2_nil
theorem vl_526 (l : Launch) : Vld2 l vwCl gTbl con_526 := conR_ok3 gT_all (hd_526) rfl pn_RX12 tk_X12_bit bo_RX12 xo_RX12 (cto_526 l) ch_526 cut_nil
/-- RookHustingModel bit -/
noncomputable def con_527 : Con2 := ((yX12_bit, cX12_bit, 2, (some .int)), (0, 0), ([(0, 27, 0), (0, 4, 0)], [(0, 0), (0, 0)], [], []), [((0, 1, 0), [(0, 0), (0, 0), (0, 0)], [], [], [1])])
theorem hd_527 : con_527.1 = (yX12_bit, cX12_bit, 2, (some .int)) := rfl
noncomputable def ct_527 : CTB2 := []
noncomputable def cu_527 : List CUT2 := []
theorem ch_527 : staG tb_X12_bit 1 bt_RX12 [] ct_527 [] [] cu_527 8 con_527 = true := by decide +kernel
theorem cto_527 (l : Launch) : CTOK2 l RX12 vwCl gTbl ct_527 := ct2_nil
theorem vl_527 (l : Launch) : Vld2 l vwCl gTbl con_527 := conR_ok3 gT_all (hd_527) rfl pn_RX12 tk_X12_bit bo_RX12 xo_RX12 (cto_527 l) ch_527 cut_nil
/-- RookHustingModel bit -/
noncomputable def con_528 : Con2 := ((yX12_bit, cX12_bit, 2, (some .int)), (0, 0), ([(0, 27, 0), (0, 3, 0)], [(0, 0), (0, 0)], [], []), [((0, 1, 0), [(0, 0), (0, 0), (0, 0)], [], [], [1])])
theorem hd_528 : con_528.1 = (yX12_bit, cX12_bit, 2, (some .int)) := rfl
noncomputable def ct_528 : CTB2 := []
noncomputable def cu_528 : List CUT2 := []
theorem ch_528 : staG tb_X12_bit 1 bt_RX12 [] ct_528 [] [] cu_528 8 con_528 = true := by decide +kernel
theorem cto_528 (l : Launch) : CTOK2 l RX12 vwCl gTbl ct_528 := ct2_nil
theorem vl_528 (l : Launch) : Vld2 l vwCl gTbl con_528 := conR_ok3 gT_all (hd_528) rfl pn_RX12 tk_X12_bit bo_RX12 xo_RX12 (cto_528 l) ch_528 cut_nil
/-- RookHustingModel bit -/
noncomputable def con_529 : Con2 := ((yX12_bit, cX12_bit, 2, (some .int)), (0, 0), ([(0, 27, 0), (0, 2, 0)], [(0, 0), (0, 0)], [], []), [((0, 0, 0), [(0, 0), (0, 0), (0, 0)], [], [], [1])])
theorem hd_529 : con_529.1 = (yX12_bit, cX12_bit, 2, (some .int)) := rfl
noncomputable def ct_529 : CTB2 := []
noncomputable def cu_529 : List CUT2 := []
theorem ch_529 : staG tb_X12_bit 1 bt_RX12 [] ct_529 [] [] cu_529 8 con_529 = true := by decide +kernel
theorem cto_529 (l : Launch) : CTOK2 l RX12 vwCl gTbl ct_529 := ct2_nil
theorem vl_529 (l : Launch) : Vld2 l vwCl gTbl con_529 := conR_ok3 gT_all (hd_529) rfl pn_RX12 tk_X12_bit bo_RX12 xo_RX12 (cto_529 l) ch_529 cut_nil
/-- RookHustingModel bit -/
noncomputable def con_530 : Con2 := ((yX12_bit, cX12_bit, 2, (some .int)), (0, 0), ([(0, 27, 0), (0, 1, 0)], [(0, 0), (0, 0)], [], []), [((0, 1, 0), [(0, 0), (0, 0), (0, 0)], [], [], [1])])
theorem hd_530 : con_530.1 = (yX12_bit, cX12_bit, 2, (some .int)) := rfl
noncomputable def ct_530 : CTB2 := []
noncomputable def cu_530 : List CUT2 := []
theorem ch_530 : staG tb_X12_bit 1 bt_RX12 [] ct_530 [] [] cu_530 8 con_530 = true := by decide +kernel
theorem cto_530 (l : Launch) : CTOK2 l RX12 vwCl gTbl ct_530 := ct2_nil
theorem vl_530 (l : Launch) : Vld2 l vwCl gTbl con_530 := conR_ok3 gT_all (hd_530) rfl pn_RX12 tk_X12_bit bo_RX12 xo_RX12 (cto_530 l) ch_530 cut_nil
/-- RookHustingModel bit -/
noncomputable def con_531 : Con2 := ((yX12_bit, cX12_bit, 2, (some .int)), (0, 0), ([(0, 27, 0), (0, 0, 0)], [(0, 0), (0, 0)], [], []), [((0, 1, 0), [(0, 0), (0, 0), (0, 0)], [], [], [1])])
theorem hd_531 : con_531.1 = (yX12_bit, cX12_bit, 2, (some .int)) := rfl
noncomputable def ct_531 : CTB2 := []
noncomputable def cu_531 : List CUT2 := []
theorem ch_531 : staG tb_X12_bit 1 bt_RX12 [] ct_531 [] [] cu_531 8 con_531 = true := by decide +kernel
theorem cto_531 (l : Launch) : CTOK2 l RX12 vwCl gTbl ct_531 := ct2_nil
theorem vl_531 (l : Launch) : Vld2 l vwCl gTbl con_531 := conR_ok3 gT_all (hd_531) rfl pn_RX12 tk_X12_bit bo_RX12 xo_RX12 (cto_531 l) ch_531 cut_nil
/-- RookHustingModel bit -/
noncomputable def con_532 : Con2 := ((yX12_bit, cX12_bit, 2, (some .int)), (0, 0), ([(0, 23, 0), (0, 4, 0)], [(0, 0), (0, 0)], [], []), [((0, 1, 0), [(0, 0), (0, 0), (0, 0)], [], [], [1])])
theorem hd_532 : con_532.1 = (yX12_bit, cX12_bit, 2, (some .int)) := rfl
noncomputable def ct_532 : CTB2 := []
noncomputable def cu_532 : List CUT2 := []
theorem ch_532 : staG tb_X12_bit 1 bt_RX12 [] ct_532 [] [] cu_532 8 con_532 = true := by decide +kernel
theorem cto_532 (l : Launch) : CTOK2 l RX12 vwCl gTbl ct_532 := ct2_nil
theorem vl_532 (l : Launch) : Vld2 l vwCl gTbl con_532 := conR_ok3 gT_all (hd_532) rfl pn_RX12 tk_X12_bit bo_RX12 xo_RX12 (cto_532 l) ch_532 cut_nil
/-- RookHustingModel bit -/
noncomputable def con_533 : Con2 := ((yX12_bit, cX12_bit, 2, (some .int)), (0, 0), ([(0, 23, 0), (0, 3, 0)], [(0, 0), (0, 0)], [], []), [((0, 0, 0), [(0, 0), (0, 0), (0, 0)], [], [], [1])])
theorem hd_533 : con_533.1 = (yX12_bit, cX12_bit, 2, (some .int)) := rfl
noncomputable def ct_533 : CTB2 := []
noncomputable def cu_533 : List CUT2 := []
theorem ch_533 : staG tb_X12_bit 1 bt_RX12 [] ct_533 [] [] cu_533 8 con_533 = true := by decide +kernel
theorem cto_533 (l : Launch) : CTOK2 l RX12 vwCl gTbl ct_533 := ct2_nil
theorem vl_533 (l : Launch) : Vld2 l vwCl gTbl con_533 := conR_ok3 gT_all (hd_533) rfl pn_RX12 tk_X12_bit bo_RX12 xo_RX12 (cto_533 l) ch_533 cut_nil
/-- RookHustingModel bit -/
noncomputable def con_534 : Con2 := ((yX12_bit, cX12_bit, 2, (some .int)), (0, 0), ([(0, 23, 0), (0, 2, 0)], [(0, 0), (0, 0)], [], []), [((0, 1, 0), [(0, 0), (0, 0), (0, 0)], [], [], [1])])
theorem hd_534 : con_534.1 = (yX12_bit, cX12_bit, 2, (some .int)) := rfl
noncomputable def ct_534 : CTB2 := []
noncomputable def cu_534 : List CUT2 := []
theorem ch_534 : staG tb_X12_bit 1 bt_RX12 [] ct_534 [] [] cu_534 8 con_534 = true := by decide +kernel
theorem cto_534 (l : Launch) : CTOK2 l RX12 vwCl gTbl ct_534 := ct2_nil
theorem vl_534 (l : Launch) : Vld2 l vwCl gTbl con_534 := conR_ok3 gT_all (hd_534) rfl pn_RX12 tk_X12_bit bo_RX12 xo_RX12 (cto_534 l) ch_534 cut_nil
/-- RookHustingModel bit -/
noncomputable def con_535 : Con2 := ((yX12_bit, cX12_bit, 2, (some .int)), (0, 0), ([(0, 23, 0), (0, 1, 0)], [(0, 0), (0, 0)], [], []), [((0, 1, 0), [(0, 0), (0, 0), (0, 0)], [], [], [1])])
theorem hd_535 : con_535.1 = (yX12_bit, cX12_bit, 2, (some .int)) := rfl
noncomputable def ct_535 : CTB2 := []
noncomputable def cu_535 : List CUT2 := []
theorem ch_535 : staG tb_X12_bit 1 bt_RX12 [] ct_535 [] [] cu_535 8 con_535 = true := by decide +kernel
theorem cto_535 (l : Launch) : CTOK2 l RX12 vwCl gTbl ct_535 := ct2_nil
theorem vl_535 (l : Launch) : Vld2 l vwCl gTbl con_535 := conR_ok3 gT_all (hd_535) rfl pn_RX12 tk_X12_bit bo_RX12 xo_RX12 (cto_535 l) ch_535 cut_nil
/-- RookHustingModel bit -/
noncomputable def con_536 : Con2 := ((yX12_bit, cX12_bit, 2, (some .int)), (0, 0), ([(0, 23, 0), (0, 0, 0)], [(0, 0), (0, 0)], [], []), [((0, 1, 0), [(0, 0), (0, 0), (0, 0)], [], [], [1])])
theorem hd_536 : con_536.1 = (yX12_bit, cX12_bit, 2, (some .int)) := rfl
noncomputable def ct_536 : CTB2 := []
noncomputable def cu_536 : List CUT2 := []
theorem ch_536 : staG tb_X12_bit 1 bt_RX12 [] ct_536 [] [] cu_536 8 con_536 = true := by decide +kernel
theorem cto_536 (l : Launch) : CTOK2 l RX12 vwCl gTbl ct_536 := ct2_nil
theorem vl_536 (l : Launch) : Vld2 l vwCl gTbl con_536 := conR_ok3 gT_all (hd_536) rfl pn_RX12 tk_X12_bit bo_RX12 xo_RX12 (cto_536 l) ch_536 cut_nil
/-- RookHustingModel bit -/
noncomputable def con_537 : Con2 := ((yX12_bit, cX12_bit, 2, (some .int)), (0, 0), ([(0, 15, 0), (0, 4, 0)], [(0, 0), (0, 0)], [], []), [((0, 0, 0), [(0, 0), (0, 0), (0, 0)], [], [], [1])])
theorem hd_537 : con_537.1 = (yX12_bit, cX12_bit, 2, (some .int)) := rfl
noncomputable def ct_537 : CTB2 := []
noncomputable def cu_537 : List CUT2 := []
theorem ch_537 : staG tb_X12_bit 1 bt_RX12 [] ct_537 [] [] cu_537 8 con_537 = true := by decide +kernel
theorem cto_537 (l : Launch) : CTOK2 l RX12 vwCl gTbl ct_537 := ct2_nil
theorem vl_537 (l : Launch) : Vld2 l vwCl gTbl con_537 := conR_ok3 gT_all (hd_537) rfl pn_RX12 tk_X12_bit bo_RX12 xo_RX12 (cto_537 l) ch_537 cut_nil
/-- RookHustingModel bit -/
noncomputable def con_538 : Con2 := ((yX12_bit, cX12_bit, 2, (some .int)), (0, 0), ([(0, 15, 0), (0, 3, 0)], [(0, 0), (0, 0)], [], []), [((0, 1, 0), [(0, 0), (0, 0), (0, 0)], [], [], [1])])
theorem hd_538 : con_538.1 = (yX12_bit, cX12_bit, 2, (some .int)) := rfl
noncomputable def ct_538 : CTB2 := []
noncomputable def cu_538 : List CUT2 := []
theorem ch_538 : staG tb_X12_bit 1 bt_RX12 [] ct_538 [] [] cu_538 8 con_538 = true := by decide +kernel
theorem cto_538 (l : Launch) : CTOK2 l RX12 vwCl gTbl ct_538 := ct2_nil
theorem vl_538 (l : Launch) : Vld2 l vwCl gTbl con_538 := conR_ok3 gT_all (hd_538) rfl pn_RX12 tk_X12_bit bo_RX12 xo_RX12 (cto_538 l) ch_538 cut_nil
/-- RookHustingModel bit -/
noncomputable def con_539 : Con2 := ((yX12_bit, cX12_bit, 2, (some .int)), (0, 0), ([(0, 15, 0), (0, 2, 0)], [(0, 0), (0, 0)], [], []), [((0, 1, 0), [(0, 0), (0, 0), (0, 0)], [], [], [1])])
theorem hd_539 : con_539.1 = (yX12_bit, cX12_bit, 2, (some .int)) := rfl
noncomputable def ct_539 : CTB2 := []
noncomputable def cu_539 : List CUT2 := []
theorem ch_539 : staG tb_X12_bit 1 bt_RX12 [] ct_539 [] [] cu_539 8 con_539 = true := by decide +kernel
theorem cto_539 (l : Launch) : CTOK2 l RX12 vwCl gTbl ct_539 := ct2_nil
theorem vl_539 (l : Launch) : Vld2 l vwCl gTbl con_539 := conR_ok3 gT_all (hd_539) rfl pn_RX12 tk_X12_bit bo_RX12 xo_RX12 (cto_539 l) ch_539 cut_nil
/-- RookHustingModel bit -/
noncomputable def con_540 : Con2 := ((yX12_bit, cX12_bit, 2, (some .int)), (0, 0), ([(0, 15, 0), (0, 1, 0)], [(0, 0), (0, 0)], [], []), [((0, 1, 0), [(0, 0), (0, 0), (0, 0)], [], [], [1])])
theorem hd_540 : con_540.1 = (yX12_bit, cX12_bit, 2, (some .int)) := rfl
noncomputable def ct_540 : CTB2 := []
noncomputable def cu_540 : List CUT2 := []
theorem ch_540 : staG tb_X12_bit 1 bt_RX12 [] ct_540 [] [] cu_540 8 con_540 = true := by decide +kernel
theorem cto_540 (l : Launch) : CTOK2 l RX12 vwCl gTbl ct_540 := ct2_nil
theorem vl_540 (l : Launch) : Vld2 l vwCl gTbl con_540 := conR_ok3 gT_all (hd_540) rfl pn_RX12 tk_X12_bit bo_RX12 xo_RX12 (cto_540 l) ch_540 cut_nil
/-- RookHustingModel bit -/
noncomputable def con_541 : Con2 := ((yX12_bit, cX12_bit, 2, (some .int)), (0, 0), ([(0, 15, 0), (0, 0, 0)], [(0, 0), (0, 0)], [], []), [((0, 1, 0), [(0, 0), (0, 0), (0, 0)], [], [], [1])])
theorem hd_541 : con_541.1 = (yX12_bit, cX12_bit, 2, (some .int)) := rfl
noncomputable def ct_541 : CTB2 := []
noncomputable def cu_541 : List CUT2 := []
theorem ch_541 : staG tb_X12_bit 1 bt_RX12 [] ct_541 [] [] cu_541 8 con_541 = true := by decide +kernel
theorem cto_541 (l : Launch) : CTOK2 l RX12 vwCl gTbl ct_541 := ct2_nil
theorem vl_541 (l : Launch) : Vld2 l vwCl gTbl con_541 := conR_ok3 gT_all (hd_541) rfl pn_RX12 tk_X12_bit bo_RX12 xo_RX12 (cto_541 l) ch_541 cut_nil
/-- RookHustingModel bit -/
noncomputable def con_542 : Con2 := ((yX12_bit, cX12_bit, 2, (some .int)), (0, 0), ([(0, 31, 0), (0, 4, 0)], [(0, 0), (0, 0)], [], []), [((0, 1, 0), [(0, 0), (0, 0), (0, 0)], [], [], [1])])
theorem hd_542 : con_542.1 = (yX12_bit, cX12_bit, 2, (some .int)) := rfl
noncomputable def ct_542 : CTB2 := []
noncomputable def cu_542 : List CUT2 := []
theorem ch_542 : staG tb_X12_bit 1 bt_RX12 [] ct_542 [] [] cu_542 8 con_542 = true := by decide +kernel
theorem cto_542 (l : Launch) : CTOK2 l RX12 vwCl gTbl ct_542 := ct2_nil
theorem vl_542 (l : Launch) : Vld2 l vwCl gTbl con_542 := conR_ok3 gT_all (hd_542) rfl pn_RX12 tk_X12_bit bo_RX12 xo_RX12 (cto_542 l) ch_542 cut_nil
/-- RookHustingModel bit -/
noncomputable def con_543 : Con2 := ((yX12_bit, cX12_bit, 2, (some .int)), (0, 0), ([(0, 31, 0), (0, 3, 0)], [(0, 0), (0, 0)], [], []), [((0, 1, 0), [(0, 0), (0, 0), (0, 0)], [], [], [1])])
theorem hd_543 : con_543.1 = (yX12_bit, cX12_bit, 2, (some .int)) := rfl
noncomputable def ct_543 : CTB2 := []
noncomputable def cu_543 : List CUT2 := []
theorem ch_543 : staG tb_X12_bit 1 bt_RX12 [] ct_543 [] [] cu_543 8 con_543 = true := by decide +kernel
theorem cto_543 (l : Launch) : CTOK2 l RX12 vwCl gTbl ct_543 := ct2_nil
theorem vl_543 (l : Launch) : Vld2 l vwCl gTbl con_543 := conR_ok3 gT_all (hd_543) rfl pn_RX12 tk_X12_bit bo_RX12 xo_RX12 (cto_543 l) ch_543 cut_nil
/-- RookHustingModel bit -/
noncomputable def con_544 : Con2 := ((yX12_bit, cX12_bit, 2, (some .int)), (0, 0), ([(0, 31, 0), (0, 2, 0)], [(0, 0), (0, 0)], [], []), [((0, 1, 0), [(0, 0), (0, 0), (0, 0)], [], [], [1])])
theorem hd_544 : con_544.1 = (yX12_bit, cX12_bit, 2, (some .int)) := rfl
noncomputable def ct_544 : CTB2 := []
noncomputable def cu_544 : List CUT2 := []
theorem ch_544 : staG tb_X12_bit 1 bt_RX12 [] ct_544 [] [] cu_544 8 con_544 = true := by decide +kernel
theorem cto_544 (l : Launch) : CTOK2 l RX12 vwCl gTbl ct_544 := ct2_nil
theorem vl_544 (l : Launch) : Vld2 l vwCl gTbl con_544 := conR_ok3 gT_all (hd_544) rfl pn_RX12 tk_X12_bit bo_RX12 xo_RX12 (cto_544 l) ch_544 cut_nil
/-- RookHustingModel bit -/
noncomputable def con_545 : Con2 := ((yX12_bit, cX12_bit, 2, (some .int)), (0, 0), ([(0, 31, 0), (0, 1, 0)], [(0, 0), (0, 0)], [], []), [((0, 1, 0), [(0, 0), (0, 0), (0, 0)], [], [], [1])])
theorem hd_545 : con_545.1 = (yX12_bit, cX12_bit, 2, (some .int)) := rfl
noncomputable def ct_545 : CTB2 := []
noncomputable def cu_545 : List CUT2 := []
theorem ch_545 : staG tb_X12_bit 1 bt_RX12 [] ct_545 [] [] cu_545 8 con_545 = true := by decide +kernel
theorem cto_545 (l : Launch) : CTOK2 l RX12 vwCl gTbl ct_545 := ct2_nil
theorem vl_545 (l : Launch) : Vld2 l vwCl gTbl con_545 := conR_ok3 gT_all (hd_545) rfl pn_RX12 tk_X12_bit bo_RX12 xo_RX12 (cto_545 l) ch_545 cut_nil
/-- RookHustingModel bit -/
noncomputable def con_546 : Con2 := ((yX12_bit, cX12_bit, 2, (some .int)), (0, 0), ([(0, 31, 0), (0, 0, 0)], [(0, 0), (0, 0)], [], []), [((0, 1, 0), [(0, 0), (0, 0), (0, 0)], [], [], [1])])
theorem hd_546 : con_546.1 = (yX12_bit, cX12_bit, 2, (some .int)) := rfl
noncomputable def ct_546 : CTB2 := []
noncomputable def cu_546 : List CUT2 := []
theorem ch_546 : staG tb_X12_bit 1 bt_RX12 [] ct_546 [] [] cu_546 8 con_546 = true := by decide +kernel
theorem cto_546 (l : Launch) : CTOK2 l RX12 vwCl gTbl ct_546 := ct2_nil
theorem vl_546 (l : Launch) : Vld2 l vwCl gTbl con_546 := conR_ok3 gT_all (hd_546) rfl pn_RX12 tk_X12_bit bo_RX12 xo_RX12 (cto_546 l) ch_546 cut_nil
