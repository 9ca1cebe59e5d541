/-! ===== the law, a case in pieces ===== -/
theorem ci_68_1 : cokL col_68 aSw [] (1, 610, 0) 2037 68 (pcI run_68 1) = true := by decide +kernel
theorem ci_68_2 : cokL col_68 aSw [] (1, 610, 0) 2037 68 (pcI run_68 2) = true := by decide +kernel
theorem ci_68_3 : cokL col_68 aSw [] (1, 610, 0) 2037 68 (pcI run_68 3) = true := by decide +kernel
theorem ci_68_4 : cokL col_68 aSw [] (1, 610, 0) 2037 68 (pcI run_68 4) = true := by decide +kernel
theorem ci_68_5 : cokL col_68 aSw [] (1, 610, 0) 2037 68 (pcI run_68 5) = true := by decide +kernel
theorem ci_68_6 : cokL col_68 aSw [] (1, 610, 0) 2037 68 (pcI run_68 6) = true := by decide +kernel
