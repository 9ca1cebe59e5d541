/-! ===== the law, a case in pieces ===== -/
theorem ci_68_13 : cokL col_68 aSw [] (1, 610, 0) 2037 68 (pcI run_68 13) = true := by decide +kernel
theorem ci_68_14 : cokL col_68 aSw [] (1, 610, 0) 2037 68 (pcI run_68 14) = true := by decide +kernel
theorem ci_68_15 : cokL col_68 aSw [] (1, 610, 0) 2037 68 (pcI run_68 15) = true := by decide +kernel
theorem ci_68_16 : cokL col_68 aSw [] (1, 610, 0) 2037 68 (pcI run_68 16) = true := by decide +kernel
theorem ci_68_17 : cokL col_68 aSw [] (1, 610, 0) 2037 68 (pcI run_68 17) = true := by decide +kernel
theorem cj_68_18_0 : cokL col_68 aSw [] (1, 610, 0) 2037 68 (pcI (jun_68 0) 18) = true := by decide +kernel
theorem cj_68_18_1 : cokL col_68 aSw [] (1, 610, 0) 2037 68 (pcI (jun_68 1) 18) = true := by decide +kernel
theorem cj_68_18_2 : cokL col_68 aSw [] (1, 610, 0) 2037 68 (pcI (jun_68 2) 18) = true := by decide +kernel
theorem cj_68_18_3 : cokL col_68 aSw [] (1, 610, 0) 2037 68 (pcI (jun_68 3) 18) = true := by decide +kernel
theorem cj_68_18_4 : cokL col_68 aSw [] (1, 610, 0) 2037 68 (pcI (jun_68 4) 18) = true := by decide +kernel
theorem ci_68_18 : cokL col_68 aSw [] (1, 610, 0) 2037 68 (pcI run_68 18) = true := cokL_J (n := 5) (N := jun_68) (by decide) (fun _ _ _ _ _ _ h => runJ_ok (by decide) h) (lt_all (lt_all (lt_all (lt_all (lt_all (lt_none) cj_68_18_0) cj_68_18_1) cj_68_18_2) cj_68_18_3) cj_68_18_4)
