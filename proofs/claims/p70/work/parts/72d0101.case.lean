/-! ===== the law, a case in pieces ===== -/
theorem ci_68_5 : cokL col_68 aSw [] (1, 610, 0) 2037 68 (pcI run_68 5) = true := by decide +kernel
theorem ci_68_6 : cokL col_68 aSw [] (1, 610, 0) 2037 68 (pcI run_68 6) = true := by decide +kernel
theorem ci_68_7 : cokL col_68 aSw [] (1, 610, 0) 2037 68 (pcI run_68 7) = true := by decide +kernel
theorem ci_68_8 : cokL col_68 aSw [] (1, 610, 0) 2037 68 (pcI run_68 8) = true := by decide +kernel
theorem ci_68_9 : cokL col_68 aSw [] (1, 610, 0) 2037 68 (pcI run_68 9) = true := by decide +kernel
theorem ci_68_10 : cokL col_68 aSw [] (1, 610, 0) 2037 68 (pcI run_68 10) = true := by decide +kernel
