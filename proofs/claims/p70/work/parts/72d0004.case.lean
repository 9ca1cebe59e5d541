/-! ===== the law, a case in pieces ===== -/
theorem ci_67_23 : cokL col_67 aSw [] (1, 610, 0) 2014 67 (pcI run_67 23) = true := by decide +kernel
theorem ci_67_24 : cokL col_67 aSw [] (1, 610, 0) 2014 67 (pcI run_67 24) = true := by decide +kernel
theorem ci_67_25 : cokL col_67 aSw [] (1, 610, 0) 2014 67 (pcI run_67 25) = true := by decide +kernel
theorem ci_67_26 : cokL col_67 aSw [] (1, 610, 0) 2014 67 (pcI run_67 26) = true := by decide +kernel
theorem ci_67_27 : cokL col_67 aSw [] (1, 610, 0) 2014 67 (pcI run_67 27) = true := by decide +kernel
theorem ci_67_28 : cokL col_67 aSw [] (1, 610, 0) 2014 67 (pcI run_67 28) = true := by decide +kernel
