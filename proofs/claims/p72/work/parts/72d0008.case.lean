/-! ===== the law, a case in pieces ===== -/
theorem cj_69_0_47 : cokL col_69 aSw [] (1, 607, 0) 2060 69 (pcI (jun_69 47) 0) = true := by decide +kernel
theorem cj_69_0_48 : cokL col_69 aSw [] (1, 607, 0) 2060 69 (pcI (jun_69 48) 0) = true := by decide +kernel
theorem cj_69_0_49 : cokL col_69 aSw [] (1, 607, 0) 2060 69 (pcI (jun_69 49) 0) = true := by decide +kernel
theorem cj_69_0_50 : cokL col_69 aSw [] (1, 607, 0) 2060 69 (pcI (jun_69 50) 0) = true := by decide +kernel
theorem cj_69_0_51 : cokL col_69 aSw [] (1, 607, 0) 2060 69 (pcI (jun_69 51) 0) = true := by decide +kernel
theorem cj_69_0_52 : cokL col_69 aSw [] (1, 607, 0) 2060 69 (pcI (jun_69 52) 0) = true := by decide +kernel
