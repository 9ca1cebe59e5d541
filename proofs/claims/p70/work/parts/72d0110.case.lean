/-! ===== the law, a case in pieces ===== -/
theorem ci_68_52 : cokL col_68 aSw [] (1, 610, 0) 2037 68 (pcI run_68 52) = true := by decide +kernel
theorem ci_68_53 : cokL col_68 aSw [] (1, 610, 0) 2037 68 (pcI run_68 53) = true := by decide +kernel
theorem ci_68_54 : cokL col_68 aSw [] (1, 610, 0) 2037 68 (pcI run_68 54) = true := by decide +kernel
theorem ci_68_55 : cokL col_68 aSw [] (1, 610, 0) 2037 68 (pcI run_68 55) = true := by decide +kernel
theorem ci_68_56 : cokL col_68 aSw [] (1, 610, 0) 2037 68 (pcI run_68 56) = true := by decide +kernel
theorem ci_68_57 : cokL col_68 aSw [] (1, 610, 0) 2037 68 (pcI run_68 57) = true := by decide +kernel
