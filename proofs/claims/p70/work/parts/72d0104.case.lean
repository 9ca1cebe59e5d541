/-! ===== the law, a case in pieces ===== -/
theorem ci_68_23 : cokL col_68 aSw [] (1, 610, 0) 2037 68 (pcI run_68 23) = true := by decide +kernel
theorem ci_68_24 : cokL col_68 aSw [] (1, 610, 0) 2037 68 (pcI run_68 24) = true := by decide +kernel
theorem ci_68_25 : cokL col_68 aSw [] (1, 610, 0) 2037 68 (pcI run_68 25) = true := by decide +kernel
theorem ci_68_26 : cokL col_68 aSw [] (1, 610, 0) 2037 68 (pcI run_68 26) = true := by decide +kernel
theorem ci_68_27 : cokL col_68 aSw [] (1, 610, 0) 2037 68 (pcI run_68 27) = true := by decide +kernel
theorem ci_68_28 : cokL col_68 aSw [] (1, 610, 0) 2037 68 (pcI run_68 28) = true := by decide +kernel
