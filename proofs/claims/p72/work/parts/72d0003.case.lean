/-! ===== the law, a case in pieces ===== -/
theorem cj_69_0_17 : cokL col_69 aSw [] (1, 607, 0) 2060 69 (pcI (jun_69 17) 0) = true := by decide +kernel
theorem cj_69_0_18 : cokL col_69 aSw [] (1, 607, 0) 2060 69 (pcI (jun_69 18) 0) = true := by decide +kernel
theorem cj_69_0_19 : cokL col_69 aSw [] (1, 607, 0) 2060 69 (pcI (jun_69 19) 0) = true := by decide +kernel
theorem cj_69_0_20 : cokL col_69 aSw [] (1, 607, 0) 2060 69 (pcI (jun_69 20) 0) = true := by decide +kernel
theorem cj_69_0_21 : cokL col_69 aSw [] (1, 607, 0) 2060 69 (pcI (jun_69 21) 0) = true := by decide +kernel
theorem cj_69_0_22 : cokL col_69 aSw [] (1, 607, 0) 2060 69 (pcI (jun_69 22) 0) = true := by decide +kernel
