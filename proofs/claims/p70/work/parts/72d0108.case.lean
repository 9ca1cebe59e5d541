/-! ===== the law, a case in pieces ===== -/
theorem ci_68_40 : cokL col_68 aSw [] (1, 610, 0) 2037 68 (pcI run_68 40) = true := by decide +kernel
theorem ci_68_41 : cokL col_68 aSw [] (1, 610, 0) 2037 68 (pcI run_68 41) = true := by decide +kernel
theorem ci_68_42 : cokL col_68 aSw [] (1, 610, 0) 2037 68 (pcI run_68 42) = true := by decide +kernel
theorem ci_68_43 : cokL col_68 aSw [] (1, 610, 0) 2037 68 (pcI run_68 43) = true := by decide +kernel
theorem ci_68_44 : cokL col_68 aSw [] (1, 610, 0) 2037 68 (pcI run_68 44) = true := by decide +kernel
theorem cj_68_45_0 : cokL col_68 aSw [] (1, 610, 0) 2037 68 (pcI (jun_68 0) 45) = true := by decide +kernel
theorem cj_68_45_1 : cokL col_68 aSw [] (1, 610, 0) 2037 68 (pcI (jun_68 1) 45) = true := by decide +kernel
theorem cj_68_45_2 : cokL col_68 aSw [] (1, 610, 0) 2037 68 (pcI (jun_68 2) 45) = true := by decide +kernel
theorem cj_68_45_3 : cokL col_68 aSw [] (1, 610, 0) 2037 68 (pcI (jun_68 3) 45) = true := by decide +kernel
theorem cj_68_45_4 : cokL col_68 aSw [] (1, 610, 0) 2037 68 (pcI (jun_68 4) 45) = true := by decide +kernel
theorem ci_68_45 : cokL col_68 aSw [] (1, 610, 0) 2037 68 (pcI run_68 45) = true := cokL_J (n := 5) (N := jun_68) (by decide) (fun _ _ _ _ _ _ h => runJ_ok (by decide) h) (lt_all (lt_all (lt_all (lt_all (lt_all (lt_none) cj_68_45_0) cj_68_45_1) cj_68_45_2) cj_68_45_3) cj_68_45_4)
