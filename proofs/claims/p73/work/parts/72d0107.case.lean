/-! ===== the law, a case in pieces ===== -/
theorem ci_71_20 : cokL col_71 aSw [] (1, 607, 0) 2176 71 (pcI run_71 20) = true := cokL_J (n := 3) (N := kun_71) (by decide) (fun _ _ _ _ _ _ h => runEn_ok (by decide) (by decide) (by decide) h) (lt_all (lt_all (lt_all (lt_none) cj_71_20_0) cj_71_20_1) cj_71_20_2)
theorem cj_71_21_0 : cokL col_71 aSw [] (1, 607, 0) 2176 71 (pcI (kun_71 0) 21) = true := by decide +kernel
theorem cj_71_21_1 : cokL col_71 aSw [] (1, 607, 0) 2176 71 (pcI (kun_71 1) 21) = true := by decide +kernel
theorem cj_71_21_2 : cokL col_71 aSw [] (1, 607, 0) 2176 71 (pcI (kun_71 2) 21) = true := by decide +kernel
theorem ci_71_21 : cokL col_71 aSw [] (1, 607, 0) 2176 71 (pcI run_71 21) = true := cokL_J (n := 3) (N := kun_71) (by decide) (fun _ _ _ _ _ _ h => runEn_ok (by decide) (by decide) (by decide) h) (lt_all (lt_all (lt_all (lt_none) cj_71_21_0) cj_71_21_1) cj_71_21_2)
theorem cj_71_22_0 : cokL col_71 aSw [] (1, 607, 0) 2176 71 (pcI (kun_71 0) 22) = true := by decide +kernel
theorem cj_71_22_1 : cokL col_71 aSw [] (1, 607, 0) 2176 71 (pcI (kun_71 1) 22) = true := by decide +kernel
theorem cj_71_22_2 : cokL col_71 aSw [] (1, 607, 0) 2176 71 (pcI (kun_71 2) 22) = true := by decide +kernel
