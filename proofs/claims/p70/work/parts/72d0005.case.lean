/-! ===== the law, a case in pieces ===== -/
theorem ci_67_25 : cokL col_67 aSw [] (1, 610, 0) 2014 67 (pcI run_67 25) = true := by decide +kernel
theorem ci_67_26 : cokL col_67 aSw [] (1, 610, 0) 2014 67 (pcI run_67 26) = true := by decide +kernel
theorem ci_67_27 : cokL col_67 aSw [] (1, 610, 0) 2014 67 (pcI run_67 27) = true := by decide +kernel
theorem ci_67_28 : cokL col_67 aSw [] (1, 610, 0) 2014 67 (pcI run_67 28) = true := by decide +kernel
theorem ci_67_29 : cokL col_67 aSw [] (1, 610, 0) 2014 67 (pcI run_67 29) = true := by decide +kernel
theorem cj_67_30_0 : cokL col_67 aSw [] (1, 610, 0) 2014 67 (pcI (jun_67 0) 30) = true := by decide +kernel
theorem cj_67_30_1 : cokL col_67 aSw [] (1, 610, 0) 2014 67 (pcI (jun_67 1) 30) = true := by decide +kernel
theorem cj_67_30_2 : cokL col_67 aSw [] (1, 610, 0) 2014 67 (pcI (jun_67 2) 30) = true := by decide +kernel
theorem cj_67_30_3 : cokL col_67 aSw [] (1, 610, 0) 2014 67 (pcI (jun_67 3) 30) = true := by decide +kernel
theorem cj_67_30_4 : cokL col_67 aSw [] (1, 610, 0) 2014 67 (pcI (jun_67 4) 30) = true := by decide +kernel
theorem ci_67_30 : cokL col_67 aSw [] (1, 610, 0) 2014 67 (pcI run_67 30) = true := cokL_J (n := 5) (N := jun_67) (by decide) (fun _ _ _ _ _ _ h => runJ_ok (by decide) h) (lt_all (lt_all (lt_all (lt_all (lt_all (lt_none) cj_67_30_0) cj_67_30_1) cj_67_30_2) cj_67_30_3) cj_67_30_4)
