/-! ===== the law, a case in pieces ===== -/
theorem ci_67_5 : cokL col_67 aSw [] (1, 610, 0) 2014 67 (pcI run_67 5) = true := by decide +kernel
theorem ci_67_6 : cokL col_67 aSw [] (1, 610, 0) 2014 67 (pcI run_67 6) = true := by decide +kernel
theorem ci_67_7 : cokL col_67 aSw [] (1, 610, 0) 2014 67 (pcI run_67 7) = true := by decide +kernel
theorem ci_67_8 : cokL col_67 aSw [] (1, 610, 0) 2014 67 (pcI run_67 8) = true := by decide +kernel
theorem ci_67_9 : cokL col_67 aSw [] (1, 610, 0) 2014 67 (pcI run_67 9) = true := by decide +kernel
theorem ci_67_10 : cokL col_67 aSw [] (1, 610, 0) 2014 67 (pcI run_67 10) = true := by decide +kernel
