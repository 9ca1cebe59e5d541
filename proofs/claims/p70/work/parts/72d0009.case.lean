/-! ===== the law, a case in pieces ===== -/
theorem ci_67_46 : cokL col_67 aSw [] (1, 610, 0) 2014 67 (pcI run_67 46) = true := by decide +kernel
theorem ci_67_47 : cokL col_67 aSw [] (1, 610, 0) 2014 67 (pcI run_67 47) = true := by decide +kernel
theorem ci_67_48 : cokL col_67 aSw [] (1, 610, 0) 2014 67 (pcI run_67 48) = true := by decide +kernel
theorem ci_67_49 : cokL col_67 aSw [] (1, 610, 0) 2014 67 (pcI run_67 49) = true := by decide +kernel
theorem ci_67_50 : cokL col_67 aSw [] (1, 610, 0) 2014 67 (pcI run_67 50) = true := by decide +kernel
theorem cj_67_51_0 : cokL col_67 aSw [] (1, 610, 0) 2014 67 (pcI (jun_67 0) 51) = true := by decide +kernel
theorem cj_67_51_1 : cokL col_67 aSw [] (1, 610, 0) 2014 67 (pcI (jun_67 1) 51) = true := by decide +kernel
theorem cj_67_51_2 : cokL col_67 aSw [] (1, 610, 0) 2014 67 (pcI (jun_67 2) 51) = true := by decide +kernel
theorem cj_67_51_3 : cokL col_67 aSw [] (1, 610, 0) 2014 67 (pcI (jun_67 3) 51) = true := by decide +kernel
theorem cj_67_51_4 : cokL col_67 aSw [] (1, 610, 0) 2014 67 (pcI (jun_67 4) 51) = true := by decide +kernel
theorem ci_67_51 : cokL col_67 aSw [] (1, 610, 0) 2014 67 (pcI run_67 51) = true := cokL_J (n := 5) (N := jun_67) (by decide) (fun _ _ _ _ _ _ h => runJ_ok (by decide) h) (lt_all (lt_all (lt_all (lt_all (lt_all (lt_none) cj_67_51_0) cj_67_51_1) cj_67_51_2) cj_67_51_3) cj_67_51_4)
