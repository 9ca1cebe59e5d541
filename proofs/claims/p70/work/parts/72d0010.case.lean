/-! ===== the law, a case in pieces ===== -/
theorem ci_67_52 : cokL col_67 aSw [] (1, 610, 0) 2014 67 (pcI run_67 52) = true := by decide +kernel
theorem ci_67_53 : cokL col_67 aSw [] (1, 610, 0) 2014 67 (pcI run_67 53) = true := by decide +kernel
theorem ci_67_54 : cokL col_67 aSw [] (1, 610, 0) 2014 67 (pcI run_67 54) = true := by decide +kernel
theorem ci_67_55 : cokL col_67 aSw [] (1, 610, 0) 2014 67 (pcI run_67 55) = true := by decide +kernel
theorem ci_67_56 : cokL col_67 aSw [] (1, 610, 0) 2014 67 (pcI run_67 56) = true := by decide +kernel
theorem ci_67_57 : cokL col_67 aSw [] (1, 610, 0) 2014 67 (pcI run_67 57) = true := by decide +kernel
