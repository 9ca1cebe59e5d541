/-! ===== the law, a case in pieces ===== -/
theorem cj_69_0_5 : cokL col_69 aSw [] (1, 607, 0) 2060 69 (pcI (jun_69 5) 0) = true := by decide +kernel
theorem cj_69_0_6 : cokL col_69 aSw [] (1, 607, 0) 2060 69 (pcI (jun_69 6) 0) = true := by decide +kernel
theorem cj_69_0_7 : cokL col_69 aSw [] (1, 607, 0) 2060 69 (pcI (jun_69 7) 0) = true := by decide +kernel
theorem cj_69_0_8 : cokL col_69 aSw [] (1, 607, 0) 2060 69 (pcI (jun_69 8) 0) = true := by decide +kernel
theorem cj_69_0_9 : cokL col_69 aSw [] (1, 607, 0) 2060 69 (pcI (jun_69 9) 0) = true := by decide +kernel
theorem cj_69_0_10 : cokL col_69 aSw [] (1, 607, 0) 2060 69 (pcI (jun_69 10) 0) = true := by decide +kernel
