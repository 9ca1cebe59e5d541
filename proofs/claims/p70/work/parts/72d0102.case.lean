/-! ===== the law, a case in pieces ===== -/
theorem ci_68_11 : cokL col_68 aSw [] (1, 610, 0) 2037 68 (pcI run_68 11) = true := by decide +kernel
theorem ci_68_12 : cokL col_68 aSw [] (1, 610, 0) 2037 68 (pcI run_68 12) = true := by decide +kernel
theorem ci_68_13 : cokL col_68 aSw [] (1, 610, 0) 2037 68 (pcI run_68 13) = true := by decide +kernel
theorem ci_68_14 : cokL col_68 aSw [] (1, 610, 0) 2037 68 (pcI run_68 14) = true := by decide +kernel
theorem ci_68_15 : cokL col_68 aSw [] (1, 610, 0) 2037 68 (pcI run_68 15) = true := by decide +kernel
theorem ci_68_16 : cokL col_68 aSw [] (1, 610, 0) 2037 68 (pcI run_68 16) = true := by decide +kernel
