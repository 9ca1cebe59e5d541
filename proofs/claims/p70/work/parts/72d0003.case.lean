/-! ===== the law, a case in pieces ===== -/
theorem ci_67_13 : cokL col_67 aSw [] (1, 610, 0) 2014 67 (pcI run_67 13) = true := by decide +kernel
theorem ci_67_14 : cokL col_67 aSw [] (1, 610, 0) 2014 67 (pcI run_67 14) = true := by decide +kernel
theorem ci_67_15 : cokL col_67 aSw [] (1, 610, 0) 2014 67 (pcI run_67 15) = true := by decide +kernel
theorem ci_67_16 : cokL col_67 aSw [] (1, 610, 0) 2014 67 (pcI run_67 16) = true := by decide +kernel
theorem ci_67_17 : cokL col_67 aSw [] (1, 610, 0) 2014 67 (pcI run_67 17) = true := by decide +kernel
theorem cj_67_18_0 : cokL col_67 aSw [] (1, 610, 0) 2014 67 (pcI (jun_67 0) 18) = true := by decide +kernel
theorem cj_67_18_1 : cokL col_67 aSw [] (1, 610, 0) 2014 67 (pcI (jun_67 1) 18) = true := by decide +kernel
theorem cj_67_18_2 : cokL col_67 aSw [] (1, 610, 0) 2014 67 (pcI (jun_67 2) 18) = true := by decide +kernel
theorem cj_67_18_3 : cokL col_67 aSw [] (1, 610, 0) 2014 67 (pcI (jun_67 3) 18) = true := by decide +kernel
theorem cj_67_18_4 : cokL col_67 aSw [] (1, 610, 0) 2014 67 (pcI (jun_67 4) 18) = true := by decide +kernel
theorem ci_67_18 : cokL col_67 aSw [] (1, 610, 0) 2014 67 (pcI run_67 18) = true := cokL_J (n := 5) (N := jun_67) (by decide) (fun _ _ _ _ _ _ h => runJ_ok (by decide) h) (lt_all (lt_all (lt_all (lt_all (lt_all (lt_none) cj_67_18_0) cj_67_18_1) cj_67_18_2) cj_67_18_3) cj_67_18_4)
