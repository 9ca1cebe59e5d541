/-! ===== the law, a case in pieces ===== -/
theorem ci_68_25 : cokL col_68 aSw [] (1, 610, 0) 2037 68 (pcI run_68 25) = true := by decide +kernel
theorem ci_68_26 : cokL col_68 aSw [] (1, 610, 0) 2037 68 (pcI run_68 26) = true := by decide +kernel
theorem ci_68_27 : cokL col_68 aSw [] (1, 610, 0) 2037 68 (pcI run_68 27) = true := by decide +kernel
theorem ci_68_28 : cokL col_68 aSw [] (1, 610, 0) 2037 68 (pcI run_68 28) = true := by decide +kernel
theorem ci_68_29 : cokL col_68 aSw [] (1, 610, 0) 2037 68 (pcI run_68 29) = true := by decide +kernel
theorem cj_68_30_0 : cokL col_68 aSw [] (1, 610, 0) 2037 68 (pcI (jun_68 0) 30) = true := by decide +kernel
theorem cj_68_30_1 : cokL col_68 aSw [] (1, 610, 0) 2037 68 (pcI (jun_68 1) 30) = true := by decide +kernel
theorem cj_68_30_2 : cokL col_68 aSw [] (1, 610, 0) 2037 68 (pcI (jun_68 2) 30) = true := by decide +kernel
theorem cj_68_30_3 : cokL col_68 aSw [] (1, 610, 0) 2037 68 (pcI (jun_68 3) 30) = true := by decide +kernel
theorem cj_68_30_4 : cokL col_68 aSw [] (1, 610, 0) 2037 68 (pcI (jun_68 4) 30) = true := by decide +kernel
theorem ci_68_30 : cokL col_68 aSw [] (1, 610, 0) 2037 68 (pcI run_68 30) = true := cokL_J (n := 5) (N := jun_68) (by decide) (fun _ _ _ _ _ _ h => runJ_ok (by decide) h) (lt_all (lt_all (lt_all (lt_all (lt_all (lt_none) cj_68_30_0) cj_68_30_1) cj_68_30_2) cj_68_30_3) cj_68_30_4)
