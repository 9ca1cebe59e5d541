/-! ===== the law, a case in pieces ===== -/
theorem cj_71_10_1 : cokL col_71 aSw [] (1, 607, 0) 2176 71 (pcI (kun_71 1) 10) = true := by decide +kernel
theorem cj_71_10_2 : cokL col_71 aSw [] (1, 607, 0) 2176 71 (pcI (kun_71 2) 10) = true := by decide +kernel
theorem ci_71_10 : cokL col_71 aSw [] (1, 607, 0) 2176 71 (pcI run_71 10) = true := cokL_J (n := 3) (N := kun_71) (by decide) (fun _ _ _ _ _ _ h => runEn_ok (by decide) (by decide) (by decide) h) (lt_all (lt_all (lt_all (lt_none) cj_71_10_0) cj_71_10_1) cj_71_10_2)
theorem ci_71_11 : cokL col_71 aSw [] (1, 607, 0) 2176 71 (pcI run_71 11) = true := by decide +kernel
theorem ci_71_12 : cokL col_71 aSw [] (1, 607, 0) 2176 71 (pcI run_71 12) = true := by decide +kernel
theorem cj_71_13_0 : cokL col_71 aSw [] (1, 607, 0) 2176 71 (pcI (kun_71 0) 13) = true := by decide +kernel
theorem cj_71_13_1 : cokL col_71 aSw [] (1, 607, 0) 2176 71 (pcI (kun_71 1) 13) = true := by decide +kernel
