/-! ===== the law, a case in pieces ===== -/
theorem ci_71_22 : cokL col_71 aSw [] (1, 607, 0) 2176 71 (pcI run_71 22) = true := cokL_J (n := 3) (N := kun_71) (by decide) (fun _ _ _ _ _ _ h => runEn_ok (by decide) (by decide) (by decide) h) (lt_all (lt_all (lt_all (lt_none) cj_71_22_0) cj_71_22_1) cj_71_22_2)
theorem ci_71_23 : cokL col_71 aSw [] (1, 607, 0) 2176 71 (pcI run_71 23) = true := by decide +kernel
theorem ci_71_24 : cokL col_71 aSw [] (1, 607, 0) 2176 71 (pcI run_71 24) = true := by decide +kernel
theorem cj_71_25_0 : cokL col_71 aSw [] (1, 607, 0) 2176 71 (pcI (kun_71 0) 25) = true := by decide +kernel
theorem cj_71_25_1 : cokL col_71 aSw [] (1, 607, 0) 2176 71 (pcI (kun_71 1) 25) = true := by decide +kernel
theorem cj_71_25_2 : cokL col_71 aSw [] (1, 607, 0) 2176 71 (pcI (kun_71 2) 25) = true := by decide +kernel
theorem ci_71_25 : cokL col_71 aSw [] (1, 607, 0) 2176 71 (pcI run_71 25) = true := cokL_J (n := 3) (N := kun_71) (by decide) (fun _ _ _ _ _ _ h => runEn_ok (by decide) (by decide) (by decide) h) (lt_all (lt_all (lt_all (lt_none) cj_71_25_0) cj_71_25_1) cj_71_25_2)
theorem cj_71_26_0 : cokL col_71 aSw [] (1, 607, 0) 2176 71 (pcI (kun_71 0) 26) = true := by decide +kernel
