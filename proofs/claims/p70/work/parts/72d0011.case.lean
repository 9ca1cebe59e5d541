/-! ===== the law, a case in pieces ===== -/
theorem ci_67_58 : cokL col_67 aSw [] (1, 610, 0) 2014 67 (pcI run_67 58) = true := by decide +kernel
theorem ci_67_59 : cokL col_67 aSw [] (1, 610, 0) 2014 67 (pcI run_67 59) = true := by decide +kernel
theorem ci_67_60 : cokL col_67 aSw [] (1, 610, 0) 2014 67 (pcI run_67 60) = true := by decide +kernel
theorem ci_67_61 : cokL col_67 aSw [] (1, 610, 0) 2014 67 (pcI run_67 61) = true := by decide +kernel
theorem ci_67_62 : cokL col_67 aSw [] (1, 610, 0) 2014 67 (pcI run_67 62) = true := by decide +kernel
theorem cj_67_63_0 : cokL col_67 aSw [] (1, 610, 0) 2014 67 (pcI (jun_67 0) 63) = true := by decide +kernel
theorem cj_67_63_1 : cokL col_67 aSw [] (1, 610, 0) 2014 67 (pcI (jun_67 1) 63) = true := by decide +kernel
theorem cj_67_63_2 : cokL col_67 aSw [] (1, 610, 0) 2014 67 (pcI (jun_67 2) 63) = true := by decide +kernel
theorem cj_67_63_3 : cokL col_67 aSw [] (1, 610, 0) 2014 67 (pcI (jun_67 3) 63) = true := by decide +kernel
theorem cj_67_63_4 : cokL col_67 aSw [] (1, 610, 0) 2014 67 (pcI (jun_67 4) 63) = true := by decide +kernel
theorem ci_67_63 : cokL col_67 aSw [] (1, 610, 0) 2014 67 (pcI run_67 63) = true := cokL_J (n := 5) (N := jun_67) (by decide) (fun _ _ _ _ _ _ h => runJ_ok (by decide) h) (lt_all (lt_all (lt_all (lt_all (lt_all (lt_none) cj_67_63_0) cj_67_63_1) cj_67_63_2) cj_67_63_3) cj_67_63_4)
