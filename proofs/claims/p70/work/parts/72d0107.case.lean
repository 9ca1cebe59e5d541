/-! ===== the law, a case in pieces ===== -/
theorem ci_68_34 : cokL col_68 aSw [] (1, 610, 0) 2037 68 (pcI run_68 34) = true := by decide +kernel
theorem ci_68_35 : cokL col_68 aSw [] (1, 610, 0) 2037 68 (pcI run_68 35) = true := by decide +kernel
theorem ci_68_36 : cokL col_68 aSw [] (1, 610, 0) 2037 68 (pcI run_68 36) = true := by decide +kernel
theorem ci_68_37 : cokL col_68 aSw [] (1, 610, 0) 2037 68 (pcI run_68 37) = true := by decide +kernel
theorem ci_68_38 : cokL col_68 aSw [] (1, 610, 0) 2037 68 (pcI run_68 38) = true := by decide +kernel
theorem ci_68_39 : cokL col_68 aSw [] (1, 610, 0) 2037 68 (pcI run_68 39) = true := by decide +kernel
