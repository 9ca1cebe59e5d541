/-! ===== the law, a case in pieces ===== -/
theorem cj_71_15_2 : cokL col_71 aSw [] (1, 607, 0) 2176 71 (pcI (kun_71 2) 15) = true := by decide +kernel
theorem ci_71_15 : cokL col_71 aSw [] (1, 607, 0) 2176 71 (pcI run_71 15) = true := cokL_J (n := 3) (N := kun_71) (by decide) (fun _ _ _ _ _ _ h => runEn_ok (by decide) (by decide) (by decide) h) (lt_all (lt_all (lt_all (lt_none) cj_71_15_0) cj_71_15_1) cj_71_15_2)
theorem cj_71_16_0 : cokL col_71 aSw [] (1, 607, 0) 2176 71 (pcI (kun_71 0) 16) = true := by decide +kernel
theorem cj_71_16_1 : cokL col_71 aSw [] (1, 607, 0) 2176 71 (pcI (kun_71 1) 16) = true := by decide +kernel
theorem cj_71_16_2 : cokL col_71 aSw [] (1, 607, 0) 2176 71 (pcI (kun_71 2) 16) = true := by decide +kernel
theorem ci_71_16 : cokL col_71 aSw [] (1, 607, 0) 2176 71 (pcI run_71 16) = true := cokL_J (n := 3) (N := kun_71) (by decide) (fun _ _ _ _ _ _ h => runEn_ok (by decide) (by decide) (by decide) h) (lt_all (lt_all (lt_all (lt_none) cj_71_16_0) cj_71_16_1) cj_71_16_2)
theorem ci_71_17 : cokL col_71 aSw [] (1, 607, 0) 2176 71 (pcI run_71 17) = true := by decide +kernel
theorem ci_71_18 : cokL col_71 aSw [] (1, 607, 0) 2176 71 (pcI run_71 18) = true := by decide +kernel
