/-! ===== the law, a case in pieces ===== -/
theorem ci_67_1 : cokL col_67 aSw [] (1, 610, 0) 2014 67 (pcI run_67 1) = true := by decide +kernel
theorem ci_67_2 : cokL col_67 aSw [] (1, 610, 0) 2014 67 (pcI run_67 2) = true := by decide +kernel
theorem ci_67_3 : cokL col_67 aSw [] (1, 610, 0) 2014 67 (pcI run_67 3) = true := by decide +kernel
theorem ci_67_4 : cokL col_67 aSw [] (1, 610, 0) 2014 67 (pcI run_67 4) = true := by decide +kernel
theorem ci_67_5 : cokL col_67 aSw [] (1, 610, 0) 2014 67 (pcI run_67 5) = true := by decide +kernel
theorem ci_67_6 : cokL col_67 aSw [] (1, 610, 0) 2014 67 (pcI run_67 6) = true := by decide +kernel
