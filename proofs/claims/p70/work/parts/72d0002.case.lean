/-! ===== the law, a case in pieces ===== -/
theorem ci_67_7 : cokL col_67 aSw [] (1, 610, 0) 2014 67 (pcI run_67 7) = true := by decide +kernel
theorem ci_67_8 : cokL col_67 aSw [] (1, 610, 0) 2014 67 (pcI run_67 8) = true := by decide +kernel
theorem ci_67_9 : cokL col_67 aSw [] (1, 610, 0) 2014 67 (pcI run_67 9) = true := by decide +kernel
theorem ci_67_10 : cokL col_67 aSw [] (1, 610, 0) 2014 67 (pcI run_67 10) = true := by decide +kernel
theorem ci_67_11 : cokL col_67 aSw [] (1, 610, 0) 2014 67 (pcI run_67 11) = true := by decide +kernel
theorem cj_67_12_0 : cokL col_67 aSw [] (1, 610, 0) 2014 67 (pcI (jun_67 0) 12) = true := by decide +kernel
theorem cj_67_12_1 : cokL col_67 aSw [] (1, 610, 0) 2014 67 (pcI (jun_67 1) 12) = true := by decide +kernel
theorem cj_67_12_2 : cokL col_67 aSw [] (1, 610, 0) 2014 67 (pcI (jun_67 2) 12) = true := by decide +kernel
theorem cj_67_12_3 : cokL col_67 aSw [] (1, 610, 0) 2014 67 (pcI (jun_67 3) 12) = true := by decide +kernel
theorem cj_67_12_4 : cokL col_67 aSw [] (1, 610, 0) 2014 67 (pcI (jun_67 4) 12) = true := by decide +kernel
theorem ci_67_12 : cokL col_67 aSw [] (1, 610, 0) 2014 67 (pcI run_67 12) = true := cokL_J (n := 5) (N := jun_67) (by decide) (fun _ _ _ _ _ _ h => runJ_ok (by decide) h) (lt_all (lt_all (lt_all (lt_all (lt_all (lt_none) cj_67_12_0) cj_67_12_1) cj_67_12_2) cj_67_12_3) cj_67_12_4)
