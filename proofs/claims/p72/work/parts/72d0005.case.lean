/-! ===== the law, a case in pieces ===== -/
theorem cj_69_0_29 : cokL col_69 aSw [] (1, 607, 0) 2060 69 (pcI (jun_69 29) 0) = true := by decide +kernel
theorem cj_69_0_30 : cokL col_69 aSw [] (1, 607, 0) 2060 69 (pcI (jun_69 30) 0) = true := by decide +kernel
theorem cj_69_0_31 : cokL col_69 aSw [] (1, 607, 0) 2060 69 (pcI (jun_69 31) 0) = true := by decide +kernel
theorem cj_69_0_32 : cokL col_69 aSw [] (1, 607, 0) 2060 69 (pcI (jun_69 32) 0) = true := by decide +kernel
theorem cj_69_0_33 : cokL col_69 aSw [] (1, 607, 0) 2060 69 (pcI (jun_69 33) 0) = true := by decide +kernel
theorem cj_69_0_34 : cokL col_69 aSw [] (1, 607, 0) 2060 69 (pcI (jun_69 34) 0) = true := by decide +kernel
