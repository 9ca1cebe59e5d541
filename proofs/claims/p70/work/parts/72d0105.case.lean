/-! ===== the law, a case in pieces ===== -/
theorem ci_68_29 : cokL col_68 aSw [] (1, 610, 0) 2037 68 (pcI run_68 29) = true := by decide +kernel
theorem ci_68_30 : cokL col_68 aSw [] (1, 610, 0) 2037 68 (pcI run_68 30) = true := by decide +kernel
theorem ci_68_31 : cokL col_68 aSw [] (1, 610, 0) 2037 68 (pcI run_68 31) = true := by decide +kernel
theorem ci_68_32 : cokL col_68 aSw [] (1, 610, 0) 2037 68 (pcI run_68 32) = true := by decide +kernel
theorem ci_68_33 : cokL col_68 aSw [] (1, 610, 0) 2037 68 (pcI run_68 33) = true := by decide +kernel
theorem ci_68_34 : cokL col_68 aSw [] (1, 610, 0) 2037 68 (pcI run_68 34) = true := by decide +kernel
