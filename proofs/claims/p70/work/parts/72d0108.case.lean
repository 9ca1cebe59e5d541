/-! ===== the law, a case in pieces ===== -/
theorem ci_68_47 : cokL col_68 aSw [] (1, 610, 0) 2037 68 (pcI run_68 47) = true := by decide +kernel
theorem ci_68_48 : cokL col_68 aSw [] (1, 610, 0) 2037 68 (pcI run_68 48) = true := by decide +kernel
theorem ci_68_49 : cokL col_68 aSw [] (1, 610, 0) 2037 68 (pcI run_68 49) = true := by decide +kernel
theorem ci_68_50 : cokL col_68 aSw [] (1, 610, 0) 2037 68 (pcI run_68 50) = true := by decide +kernel
theorem ci_68_51 : cokL col_68 aSw [] (1, 610, 0) 2037 68 (pcI run_68 51) = true := by decide +kernel
theorem ci_68_52 : cokL col_68 aSw [] (1, 610, 0) 2037 68 (pcI run_68 52) = true := by decide +kernel
