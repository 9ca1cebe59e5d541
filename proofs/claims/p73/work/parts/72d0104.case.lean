/-! ===== the law, a case in pieces ===== -/
theorem cj_71_13_2 : cokL col_71 aSw [] (1, 607, 0) 2176 71 (pcI (kun_71 2) 13) = true := by decide +kernel
theorem ci_71_13 : cokL col_71 aSw [] (1, 607, 0) 2176 71 (pcI run_71 13) = true := cokL_J (n := 3) (N := kun_71) (by decide) (fun _ _ _ _ _ _ h => runEn_ok (by decide) (by decide) (by decide) h) (lt_all (lt_all (lt_all (lt_none) cj_71_13_0) cj_71_13_1) cj_71_13_2)
theorem cj_71_14_0 : cokL col_71 aSw [] (1, 607, 0) 2176 71 (pcI (kun_71 0) 14) = true := by decide +kernel
theorem cj_71_14_1 : cokL col_71 aSw [] (1, 607, 0) 2176 71 (pcI (kun_71 1) 14) = true := by decide +kernel
theorem cj_71_14_2 : cokL col_71 aSw [] (1, 607, 0) 2176 71 (pcI (kun_71 2) 14) = true := by decide +kernel
theorem ci_71_14 : cokL col_71 aSw [] (1, 607, 0) 2176 71 (pcI run_71 14) = true := cokL_J (n := 3) (N := kun_71) (by decide) (fun _ _ _ _ _ _ h => runEn_ok (by decide) (by decide) (by decide) h) (lt_all (lt_all (lt_all (lt_none) cj_71_14_0) cj_71_14_1) cj_71_14_2)
theorem cj_71_15_0 : cokL col_71 aSw [] (1, 607, 0) 2176 71 (pcI (kun_71 0) 15) = true := by decide +kernel
theorem cj_71_15_1 : cokL col_71 aSw [] (1, 607, 0) 2176 71 (pcI (kun_71 1) 15) = true := by decide +kernel
