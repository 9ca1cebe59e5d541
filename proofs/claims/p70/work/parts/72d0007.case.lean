/-! ===== the law, a case in pieces ===== -/
theorem ci_67_34 : cokL col_67 aSw [] (1, 610, 0) 2014 67 (pcI run_67 34) = true := by decide +kernel
theorem ci_67_35 : cokL col_67 aSw [] (1, 610, 0) 2014 67 (pcI run_67 35) = true := by decide +kernel
theorem ci_67_36 : cokL col_67 aSw [] (1, 610, 0) 2014 67 (pcI run_67 36) = true := by decide +kernel
theorem ci_67_37 : cokL col_67 aSw [] (1, 610, 0) 2014 67 (pcI run_67 37) = true := by decide +kernel
theorem ci_67_38 : cokL col_67 aSw [] (1, 610, 0) 2014 67 (pcI run_67 38) = true := by decide +kernel
theorem ci_67_39 : cokL col_67 aSw [] (1, 610, 0) 2014 67 (pcI run_67 39) = true := by decide +kernel
