/-! ===== the law, a case in pieces ===== -/
theorem cj_71_28_1 : cokL col_71 aSw [] (1, 607, 0) 2176 71 (pcI (kun_71 1) 28) = true := by decide +kernel
theorem cj_71_28_2 : cokL col_71 aSw [] (1, 607, 0) 2176 71 (pcI (kun_71 2) 28) = true := by decide +kernel
theorem ci_71_28 : cokL col_71 aSw [] (1, 607, 0) 2176 71 (pcI run_71 28) = true := cokL_J (n := 3) (N := kun_71) (by decide) (fun _ _ _ _ _ _ h => runEn_ok (by decide) (by decide) (by decide) h) (lt_all (lt_all (lt_all (lt_none) cj_71_28_0) cj_71_28_1) cj_71_28_2)
theorem ci_71_29 : cokL col_71 aSw [] (1, 607, 0) 2176 71 (pcI run_71 29) = true := by decide +kernel
theorem ci_71_30 : cokL col_71 aSw [] (1, 607, 0) 2176 71 (pcI run_71 30) = true := by decide +kernel
theorem ci_71_31 : cokL col_71 aSw [] (1, 607, 0) 2176 71 (pcI run_71 31) = true := by decide +kernel
theorem ci_71_32 : cokL col_71 aSw [] (1, 607, 0) 2176 71 (pcI run_71 32) = true := by decide +kernel
