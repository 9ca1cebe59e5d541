/-! ===== the law, a case in pieces ===== -/
theorem cj_71_8_1 : cokL col_71 aSw [] (1, 607, 0) 2176 71 (pcI (kun_71 1) 8) = true := by decide +kernel
theorem cj_71_8_2 : cokL col_71 aSw [] (1, 607, 0) 2176 71 (pcI (kun_71 2) 8) = true := by decide +kernel
theorem ci_71_8 : cokL col_71 aSw [] (1, 607, 0) 2176 71 (pcI run_71 8) = true := cokL_J (n := 3) (N := kun_71) (by decide) (fun _ _ _ _ _ _ h => runEn_ok (by decide) (by decide) (by decide) h) (lt_all (lt_all (lt_all (lt_none) cj_71_8_0) cj_71_8_1) cj_71_8_2)
theorem cj_71_9_0 : cokL col_71 aSw [] (1, 607, 0) 2176 71 (pcI (kun_71 0) 9) = true := by decide +kernel
theorem cj_71_9_1 : cokL col_71 aSw [] (1, 607, 0) 2176 71 (pcI (kun_71 1) 9) = true := by decide +kernel
theorem cj_71_9_2 : cokL col_71 aSw [] (1, 607, 0) 2176 71 (pcI (kun_71 2) 9) = true := by decide +kernel
theorem ci_71_9 : cokL col_71 aSw [] (1, 607, 0) 2176 71 (pcI run_71 9) = true := cokL_J (n := 3) (N := kun_71) (by decide) (fun _ _ _ _ _ _ h => runEn_ok (by decide) (by decide) (by decide) h) (lt_all (lt_all (lt_all (lt_none) cj_71_9_0) cj_71_9_1) cj_71_9_2)
theorem cj_71_10_0 : cokL col_71 aSw [] (1, 607, 0) 2176 71 (pcI (kun_71 0) 10) = true := by decide +kernel
