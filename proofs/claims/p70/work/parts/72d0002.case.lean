/-! ===== the law, a case in pieces ===== -/
theorem ci_67_11 : cokL col_67 aSw [] (1, 610, 0) 2014 67 (pcI run_67 11) = true := by decide +kernel
theorem ci_67_12 : cokL col_67 aSw [] (1, 610, 0) 2014 67 (pcI run_67 12) = true := by decide +kernel
theorem ci_67_13 : cokL col_67 aSw [] (1, 610, 0) 2014 67 (pcI run_67 13) = true := by decide +kernel
theorem ci_67_14 : cokL col_67 aSw [] (1, 610, 0) 2014 67 (pcI run_67 14) = true := by decide +kernel
theorem ci_67_15 : cokL col_67 aSw [] (1, 610, 0) 2014 67 (pcI run_67 15) = true := by decide +kernel
theorem ci_67_16 : cokL col_67 aSw [] (1, 610, 0) 2014 67 (pcI run_67 16) = true := by decide +kernel
