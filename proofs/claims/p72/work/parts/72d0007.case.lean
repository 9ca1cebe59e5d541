/-! ===== the law, a case in pieces ===== -/
theorem cj_69_0_41 : cokL col_69 aSw [] (1, 607, 0) 2060 69 (pcI (jun_69 41) 0) = true := by decide +kernel
theorem cj_69_0_42 : cokL col_69 aSw [] (1, 607, 0) 2060 69 (pcI (jun_69 42) 0) = true := by decide +kernel
theorem cj_69_0_43 : cokL col_69 aSw [] (1, 607, 0) 2060 69 (pcI (jun_69 43) 0) = true := by decide +kernel
theorem cj_69_0_44 : cokL col_69 aSw [] (1, 607, 0) 2060 69 (pcI (jun_69 44) 0) = true := by decide +kernel
theorem cj_69_0_45 : cokL col_69 aSw [] (1, 607, 0) 2060 69 (pcI (jun_69 45) 0) = true := by decide +kernel
theorem cj_69_0_46 : cokL col_69 aSw [] (1, 607, 0) 2060 69 (pcI (jun_69 46) 0) = true := by decide +kernel
