/-! ===== the law, a case in pieces ===== -/
theorem cj_70_0_5 : cokL col_70 aSw [] (1, 607, 0) 2103 70 (pcI (jun_70 5) 0) = true := by decide +kernel
theorem cj_70_0_6 : cokL col_70 aSw [] (1, 607, 0) 2103 70 (pcI (jun_70 6) 0) = true := by decide +kernel
theorem cj_70_0_7 : cokL col_70 aSw [] (1, 607, 0) 2103 70 (pcI (jun_70 7) 0) = true := by decide +kernel
theorem cj_70_0_8 : cokL col_70 aSw [] (1, 607, 0) 2103 70 (pcI (jun_70 8) 0) = true := by decide +kernel
theorem cj_70_0_9 : cokL col_70 aSw [] (1, 607, 0) 2103 70 (pcI (jun_70 9) 0) = true := by decide +kernel
theorem cj_70_0_10 : cokL col_70 aSw [] (1, 607, 0) 2103 70 (pcI (jun_70 10) 0) = true := by decide +kernel
