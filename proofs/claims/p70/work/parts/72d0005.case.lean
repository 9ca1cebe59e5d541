/-! ===== the law, a case in pieces ===== -/
theorem ci_67_29 : cokL col_67 aSw [] (1, 610, 0) 2014 67 (pcI run_67 29) = true := by decide +kernel
theorem ci_67_30 : cokL col_67 aSw [] (1, 610, 0) 2014 67 (pcI run_67 30) = true := by decide +kernel
theorem ci_67_31 : cokL col_67 aSw [] (1, 610, 0) 2014 67 (pcI run_67 31) = true := by decide +kernel
theorem ci_67_32 : cokL col_67 aSw [] (1, 610, 0) 2014 67 (pcI run_67 32) = true := by decide +kernel
theorem ci_67_33 : cokL col_67 aSw [] (1, 610, 0) 2014 67 (pcI run_67 33) = true := by decide +kernel
theorem ci_67_34 : cokL col_67 aSw [] (1, 610, 0) 2014 67 (pcI run_67 34) = true := by decide +kernel
