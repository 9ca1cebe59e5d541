/-! ===== the law, a case in pieces ===== -/
theorem ci_68_46 : cokL col_68 aSw [] (1, 610, 0) 2037 68 (pcI run_68 46) = true := by decide +kernel
theorem ci_68_47 : cokL col_68 aSw [] (1, 610, 0) 2037 68 (pcI run_68 47) = true := by decide +kernel
theorem ci_68_48 : cokL col_68 aSw [] (1, 610, 0) 2037 68 (pcI run_68 48) = true := by decide +kernel
theorem ci_68_49 : cokL col_68 aSw [] (1, 610, 0) 2037 68 (pcI run_68 49) = true := by decide +kernel
theorem ci_68_50 : cokL col_68 aSw [] (1, 610, 0) 2037 68 (pcI run_68 50) = true := by decide +kernel
theorem cj_68_51_0 : cokL col_68 aSw [] (1, 610, 0) 2037 68 (pcI (jun_68 0) 51) = true := by decide +kernel
theorem cj_68_51_1 : cokL col_68 aSw [] (1, 610, 0) 2037 68 (pcI (jun_68 1) 51) = true := by decide +kernel
theorem cj_68_51_2 : cokL col_68 aSw [] (1, 610, 0) 2037 68 (pcI (jun_68 2) 51) = true := by decide +kernel
theorem cj_68_51_3 : cokL col_68 aSw [] (1, 610, 0) 2037 68 (pcI (jun_68 3) 51) = true := by decide +kernel
theorem cj_68_51_4 : cokL col_68 aSw [] (1, 610, 0) 2037 68 (pcI (jun_68 4) 51) = true := by decide +kernel
theorem ci_68_51 : cokL col_68 aSw [] (1, 610, 0) 2037 68 (pcI run_68 51) = true := cokL_J (n := 5) (N := jun_68) (by decide) (fun _ _ _ _ _ _ h => runJ_ok (by decide) h) (lt_all (lt_all (lt_all (lt_all (lt_all (lt_none) cj_68_51_0) cj_68_51_1) cj_68_51_2) cj_68_51_3) cj_68_51_4)
