/-! ===== the law, a case in pieces ===== -/
theorem ci_67_19 : cokL col_67 aSw [] (1, 610, 0) 2014 67 (pcI run_67 19) = true := by decide +kernel
theorem ci_67_20 : cokL col_67 aSw [] (1, 610, 0) 2014 67 (pcI run_67 20) = true := by decide +kernel
theorem ci_67_21 : cokL col_67 aSw [] (1, 610, 0) 2014 67 (pcI run_67 21) = true := by decide +kernel
theorem ci_67_22 : cokL col_67 aSw [] (1, 610, 0) 2014 67 (pcI run_67 22) = true := by decide +kernel
theorem ci_67_23 : cokL col_67 aSw [] (1, 610, 0) 2014 67 (pcI run_67 23) = true := by decide +kernel
theorem ci_67_24 : cokL col_67 aSw [] (1, 610, 0) 2014 67 (pcI run_67 24) = true := by decide +kernel
