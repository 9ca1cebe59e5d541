/-! ===== the law, a case in pieces ===== -/
theorem ci_67_40 : cokL col_67 aSw [] (1, 610, 0) 2014 67 (pcI run_67 40) = true := by decide +kernel
theorem ci_67_41 : cokL col_67 aSw [] (1, 610, 0) 2014 67 (pcI run_67 41) = true := by decide +kernel
theorem ci_67_42 : cokL col_67 aSw [] (1, 610, 0) 2014 67 (pcI run_67 42) = true := by decide +kernel
theorem ci_67_43 : cokL col_67 aSw [] (1, 610, 0) 2014 67 (pcI run_67 43) = true := by decide +kernel
theorem ci_67_44 : cokL col_67 aSw [] (1, 610, 0) 2014 67 (pcI run_67 44) = true := by decide +kernel
theorem cj_67_45_0 : cokL col_67 aSw [] (1, 610, 0) 2014 67 (pcI (jun_67 0) 45) = true := by decide +kernel
theorem cj_67_45_1 : cokL col_67 aSw [] (1, 610, 0) 2014 67 (pcI (jun_67 1) 45) = true := by decide +kernel
theorem cj_67_45_2 : cokL col_67 aSw [] (1, 610, 0) 2014 67 (pcI (jun_67 2) 45) = true := by decide +kernel
theorem cj_67_45_3 : cokL col_67 aSw [] (1, 610, 0) 2014 67 (pcI (jun_67 3) 45) = true := by decide +kernel
theorem cj_67_45_4 : cokL col_67 aSw [] (1, 610, 0) 2014 67 (pcI (jun_67 4) 45) = true := by decide +kernel
theorem ci_67_45 : cokL col_67 aSw [] (1, 610, 0) 2014 67 (pcI run_67 45) = true := cokL_J (n := 5) (N := jun_67) (by decide) (fun _ _ _ _ _ _ h => runJ_ok (by decide) h) (lt_all (lt_all (lt_all (lt_all (lt_all (lt_none) cj_67_45_0) cj_67_45_1) cj_67_45_2) cj_67_45_3) cj_67_45_4)
