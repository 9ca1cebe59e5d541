/-! ===== the law, a case in pieces ===== -/
theorem cj_69_0_35 : cokL col_69 aSw [] (1, 607, 0) 2060 69 (pcI (jun_69 35) 0) = true := by decide +kernel
theorem cj_69_0_36 : cokL col_69 aSw [] (1, 607, 0) 2060 69 (pcI (jun_69 36) 0) = true := by decide +kernel
theorem cj_69_0_37 : cokL col_69 aSw [] (1, 607, 0) 2060 69 (pcI (jun_69 37) 0) = true := by decide +kernel
theorem cj_69_0_38 : cokL col_69 aSw [] (1, 607, 0) 2060 69 (pcI (jun_69 38) 0) = true := by decide +kernel
theorem cj_69_0_39 : cokL col_69 aSw [] (1, 607, 0) 2060 69 (pcI (jun_69 39) 0) = true := by decide +kernel
theorem cj_69_0_40 : cokL col_69 aSw [] (1, 607, 0) 2060 69 (pcI (jun_69 40) 0) = true := by decide +kernel
