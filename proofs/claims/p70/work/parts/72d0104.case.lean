/-! ===== the law, a case in pieces ===== -/
theorem ci_68_19 : cokL col_68 aSw [] (1, 610, 0) 2037 68 (pcI run_68 19) = true := by decide +kernel
theorem ci_68_20 : cokL col_68 aSw [] (1, 610, 0) 2037 68 (pcI run_68 20) = true := by decide +kernel
theorem ci_68_21 : cokL col_68 aSw [] (1, 610, 0) 2037 68 (pcI run_68 21) = true := by decide +kernel
theorem ci_68_22 : cokL col_68 aSw [] (1, 610, 0) 2037 68 (pcI run_68 22) = true := by decide +kernel
theorem ci_68_23 : cokL col_68 aSw [] (1, 610, 0) 2037 68 (pcI run_68 23) = true := by decide +kernel
theorem ci_68_24 : cokL col_68 aSw [] (1, 610, 0) 2037 68 (pcI run_68 24) = true := by decide +kernel
