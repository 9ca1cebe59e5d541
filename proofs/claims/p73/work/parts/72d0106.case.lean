/-! ===== the law, a case in pieces ===== -/
theorem cj_71_19_0 : cokL col_71 aSw [] (1, 607, 0) 2176 71 (pcI (kun_71 0) 19) = true := by decide +kernel
theorem cj_71_19_1 : cokL col_71 aSw [] (1, 607, 0) 2176 71 (pcI (kun_71 1) 19) = true := by decide +kernel
theorem cj_71_19_2 : cokL col_71 aSw [] (1, 607, 0) 2176 71 (pcI (kun_71 2) 19) = true := by decide +kernel
theorem ci_71_19 : cokL col_71 aSw [] (1, 607, 0) 2176 71 (pcI run_71 19) = true := cokL_J (n := 3) (N := kun_71) (by decide) (fun _ _ _ _ _ _ h => runEn_ok (by decide) (by decide) (by decide) h) (lt_all (lt_all (lt_all (lt_none) cj_71_19_0) cj_71_19_1) cj_71_19_2)
theorem cj_71_20_0 : cokL col_71 aSw [] (1, 607, 0) 2176 71 (pcI (kun_71 0) 20) = true := by decide +kernel
theorem cj_71_20_1 : cokL col_71 aSw [] (1, 607, 0) 2176 71 (pcI (kun_71 1) 20) = true := by decide +kernel
theorem cj_71_20_2 : cokL col_71 aSw [] (1, 607, 0) 2176 71 (pcI (kun_71 2) 20) = true := by decide +kernel
