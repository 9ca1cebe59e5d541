/-! ===== the law, a case in pieces ===== -/
theorem cj_69_0_23 : cokL col_69 aSw [] (1, 607, 0) 2060 69 (pcI (jun_69 23) 0) = true := by decide +kernel
theorem cj_69_0_24 : cokL col_69 aSw [] (1, 607, 0) 2060 69 (pcI (jun_69 24) 0) = true := by decide +kernel
theorem cj_69_0_25 : cokL col_69 aSw [] (1, 607, 0) 2060 69 (pcI (jun_69 25) 0) = true := by decide +kernel
theorem cj_69_0_26 : cokL col_69 aSw [] (1, 607, 0) 2060 69 (pcI (jun_69 26) 0) = true := by decide +kernel
theorem cj_69_0_27 : cokL col_69 aSw [] (1, 607, 0) 2060 69 (pcI (jun_69 27) 0) = true := by decide +kernel
theorem cj_69_0_28 : cokL col_69 aSw [] (1, 607, 0) 2060 69 (pcI (jun_69 28) 0) = true := by decide +kernel
