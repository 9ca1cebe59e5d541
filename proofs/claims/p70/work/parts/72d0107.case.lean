/-! ===== the law, a case in pieces ===== -/
theorem ci_68_41 : cokL col_68 aSw [] (1, 610, 0) 2037 68 (pcI run_68 41) = true := by decide +kernel
theorem ci_68_42 : cokL col_68 aSw [] (1, 610, 0) 2037 68 (pcI run_68 42) = true := by decide +kernel
theorem ci_68_43 : cokL col_68 aSw [] (1, 610, 0) 2037 68 (pcI run_68 43) = true := by decide +kernel
theorem ci_68_44 : cokL col_68 aSw [] (1, 610, 0) 2037 68 (pcI run_68 44) = true := by decide +kernel
theorem ci_68_45 : cokL col_68 aSw [] (1, 610, 0) 2037 68 (pcI run_68 45) = true := by decide +kernel
theorem ci_68_46 : cokL col_68 aSw [] (1, 610, 0) 2037 68 (pcI run_68 46) = true := by decide +kernel
