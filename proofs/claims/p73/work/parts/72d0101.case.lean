/-! ===== the law, a case in pieces ===== -/
theorem ci_71_5 : cokL col_71 aSw [] (1, 607, 0) 2176 71 (pcI run_71 5) = true := by decide +kernel
theorem ci_71_6 : cokL col_71 aSw [] (1, 607, 0) 2176 71 (pcI run_71 6) = true := by decide +kernel
theorem cj_71_7_0 : cokL col_71 aSw [] (1, 607, 0) 2176 71 (pcI (kun_71 0) 7) = true := by decide +kernel
theorem cj_71_7_1 : cokL col_71 aSw [] (1, 607, 0) 2176 71 (pcI (kun_71 1) 7) = true := by decide +kernel
theorem cj_71_7_2 : cokL col_71 aSw [] (1, 607, 0) 2176 71 (pcI (kun_71 2) 7) = true := by decide +kernel
theorem ci_71_7 : cokL col_71 aSw [] (1, 607, 0) 2176 71 (pcI run_71 7) = true := cokL_J (n := 3) (N := kun_71) (by decide) (fun _ _ _ _ _ _ h => runEn_ok (by decide) (by decide) (by decide) h) (lt_all (lt_all (lt_all (lt_none) cj_71_7_0) cj_71_7_1) cj_71_7_2)
theorem cj_71_8_0 : cokL col_71 aSw [] (1, 607, 0) 2176 71 (pcI (kun_71 0) 8) = true := by decide +kernel
