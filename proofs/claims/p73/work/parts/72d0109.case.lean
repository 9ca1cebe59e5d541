/-! ===== the law, a case in pieces ===== -/
theorem cj_71_26_1 : cokL col_71 aSw [] (1, 607, 0) 2176 71 (pcI (kun_71 1) 26) = true := by decide +kernel
theorem cj_71_26_2 : cokL col_71 aSw [] (1, 607, 0) 2176 71 (pcI (kun_71 2) 26) = true := by decide +kernel
theorem ci_71_26 : cokL col_71 aSw [] (1, 607, 0) 2176 71 (pcI run_71 26) = true := cokL_J (n := 3) (N := kun_71) (by decide) (fun _ _ _ _ _ _ h => runEn_ok (by decide) (by decide) (by decide) h) (lt_all (lt_all (lt_all (lt_none) cj_71_26_0) cj_71_26_1) cj_71_26_2)
theorem cj_71_27_0 : cokL col_71 aSw [] (1, 607, 0) 2176 71 (pcI (kun_71 0) 27) = true := by decide +kernel
theorem cj_71_27_1 : cokL col_71 aSw [] (1, 607, 0) 2176 71 (pcI (kun_71 1) 27) = true := by decide +kernel
theorem cj_71_27_2 : cokL col_71 aSw [] (1, 607, 0) 2176 71 (pcI (kun_71 2) 27) = true := by decide +kernel
theorem ci_71_27 : cokL col_71 aSw [] (1, 607, 0) 2176 71 (pcI run_71 27) = true := cokL_J (n := 3) (N := kun_71) (by decide) (fun _ _ _ _ _ _ h => runEn_ok (by decide) (by decide) (by decide) h) (lt_all (lt_all (lt_all (lt_none) cj_71_27_0) cj_71_27_1) cj_71_27_2)
theorem cj_71_28_0 : cokL col_71 aSw [] (1, 607, 0) 2176 71 (pcI (kun_71 0) 28) = true := by decide +kernel
