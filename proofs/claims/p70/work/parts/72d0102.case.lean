/-! ===== the law, a case in pieces ===== -/
theorem ci_68_7 : cokL col_68 aSw [] (1, 610, 0) 2037 68 (pcI run_68 7) = true := by decide +kernel
theorem ci_68_8 : cokL col_68 aSw [] (1, 610, 0) 2037 68 (pcI run_68 8) = true := by decide +kernel
theorem ci_68_9 : cokL col_68 aSw [] (1, 610, 0) 2037 68 (pcI run_68 9) = true := by decide +kernel
theorem ci_68_10 : cokL col_68 aSw [] (1, 610, 0) 2037 68 (pcI run_68 10) = true := by decide +kernel
theorem ci_68_11 : cokL col_68 aSw [] (1, 610, 0) 2037 68 (pcI run_68 11) = true := by decide +kernel
theorem cj_68_12_0 : cokL col_68 aSw [] (1, 610, 0) 2037 68 (pcI (jun_68 0) 12) = true := by decide +kernel
theorem cj_68_12_1 : cokL col_68 aSw [] (1, 610, 0) 2037 68 (pcI (jun_68 1) 12) = true := by decide +kernel
theorem cj_68_12_2 : cokL col_68 aSw [] (1, 610, 0) 2037 68 (pcI (jun_68 2) 12) = true := by decide +kernel
theorem cj_68_12_3 : cokL col_68 aSw [] (1, 610, 0) 2037 68 (pcI (jun_68 3) 12) = true := by decide +kernel
theorem cj_68_12_4 : cokL col_68 aSw [] (1, 610, 0) 2037 68 (pcI (jun_68 4) 12) = true := by decide +kernel
theorem ci_68_12 : cokL col_68 aSw [] (1, 610, 0) 2037 68 (pcI run_68 12) = true := cokL_J (n := 5) (N := jun_68) (by decide) (fun _ _ _ _ _ _ h => runJ_ok (by decide) h) (lt_all (lt_all (lt_all (lt_all (lt_all (lt_none) cj_68_12_0) cj_68_12_1) cj_68_12_2) cj_68_12_3) cj_68_12_4)
