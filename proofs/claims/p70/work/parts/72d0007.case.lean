/-! ===== the law, a case in pieces ===== -/
theorem ci_67_41 : cokL col_67 aSw [] (1, 610, 0) 2014 67 (pcI run_67 41) = true := by decide +kernel
theorem ci_67_42 : cokL col_67 aSw [] (1, 610, 0) 2014 67 (pcI run_67 42) = true := by decide +kernel
theorem ci_67_43 : cokL col_67 aSw [] (1, 610, 0) 2014 67 (pcI run_67 43) = true := by decide +kernel
theorem ci_67_44 : cokL col_67 aSw [] (1, 610, 0) 2014 67 (pcI run_67 44) = true := by decide +kernel
theorem ci_67_45 : cokL col_67 aSw [] (1, 610, 0) 2014 67 (pcI run_67 45) = true := by decide +kernel
theorem ci_67_46 : cokL col_67 aSw [] (1, 610, 0) 2014 67 (pcI run_67 46) = true := by decide +kernel
