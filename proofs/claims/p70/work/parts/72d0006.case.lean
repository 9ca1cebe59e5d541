/-! ===== the law, a case in pieces ===== -/
theorem ci_67_31 : cokL col_67 aSw [] (1, 610, 0) 2014 67 (pcI run_67 31) = true := by decide +kernel
theorem ci_67_32 : cokL col_67 aSw [] (1, 610, 0) 2014 67 (pcI run_67 32) = true := by decide +kernel
theorem cj_67_33_0 : cokL col_67 aSw [] (1, 610, 0) 2014 67 (pcI (jun_67 0) 33) = true := by decide +kernel
theorem cj_67_33_1 : cokL col_67 aSw [] (1, 610, 0) 2014 67 (pcI (jun_67 1) 33) = true := by decide +kernel
theorem cj_67_33_2 : cokL col_67 aSw [] (1, 610, 0) 2014 67 (pcI (jun_67 2) 33) = true := by decide +kernel
theorem cj_67_33_3 : cokL col_67 aSw [] (1, 610, 0) 2014 67 (pcI (jun_67 3) 33) = true := by decide +kernel
theorem cj_67_33_4 : cokL col_67 aSw [] (1, 610, 0) 2014 67 (pcI (jun_67 4) 33) = true := by decide +kernel
theorem ci_67_33 : cokL col_67 aSw [] (1, 610, 0) 2014 67 (pcI run_67 33) = true := cokL_J (n := 5) (N := jun_67) (by decide) (fun _ _ _ _ _ _ h => runJ_ok (by decide) h) (lt_all (lt_all (lt_all (lt_all (lt_all (lt_none) cj_67_33_0) cj_67_33_1) cj_67_33_2) cj_67_33_3) cj_67_33_4)
