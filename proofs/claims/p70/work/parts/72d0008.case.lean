/-! ===== the law, a case in pieces ===== -/
theorem ci_67_47 : cokL col_67 aSw [] (1, 610, 0) 2014 67 (pcI run_67 47) = true := by decide +kernel
theorem ci_67_48 : cokL col_67 aSw [] (1, 610, 0) 2014 67 (pcI run_67 48) = true := by decide +kernel
theorem ci_67_49 : cokL col_67 aSw [] (1, 610, 0) 2014 67 (pcI run_67 49) = true := by decide +kernel
theorem ci_67_50 : cokL col_67 aSw [] (1, 610, 0) 2014 67 (pcI run_67 50) = true := by decide +kernel
theorem ci_67_51 : cokL col_67 aSw [] (1, 610, 0) 2014 67 (pcI run_67 51) = true := by decide +kernel
theorem ci_67_52 : cokL col_67 aSw [] (1, 610, 0) 2014 67 (pcI run_67 52) = true := by decide +kernel
