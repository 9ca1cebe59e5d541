/-! ===== the law, a case in pieces ===== -/
theorem cj_69_0_11 : cokL col_69 aSw [] (1, 607, 0) 2060 69 (pcI (jun_69 11) 0) = true := by decide +kernel
theorem cj_69_0_12 : cokL col_69 aSw [] (1, 607, 0) 2060 69 (pcI (jun_69 12) 0) = true := by decide +kernel
theorem cj_69_0_13 : cokL col_69 aSw [] (1, 607, 0) 2060 69 (pcI (jun_69 13) 0) = true := by decide +kernel
theorem cj_69_0_14 : cokL col_69 aSw [] (1, 607, 0) 2060 69 (pcI (jun_69 14) 0) = true := by decide +kernel
theorem cj_69_0_15 : cokL col_69 aSw [] (1, 607, 0) 2060 69 (pcI (jun_69 15) 0) = true := by decide +kernel
theorem cj_69_0_16 : cokL col_69 aSw [] (1, 607, 0) 2060 69 (pcI (jun_69 16) 0) = true := by decide +kernel
