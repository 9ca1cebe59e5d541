/-! ===== the law, a case in pieces ===== -/
theorem ci_68_31 : cokL col_68 aSw [] (1, 610, 0) 2037 68 (pcI run_68 31) = true := by decide +kernel
theorem ci_68_32 : cokL col_68 aSw [] (1, 610, 0) 2037 68 (pcI run_68 32) = true := by decide +kernel
theorem cj_68_33_0 : cokL col_68 aSw [] (1, 610, 0) 2037 68 (pcI (jun_68 0) 33) = true := by decide +kernel
theorem cj_68_33_1 : cokL col_68 aSw [] (1, 610, 0) 2037 68 (pcI (jun_68 1) 33) = true := by decide +kernel
theorem cj_68_33_2 : cokL col_68 aSw [] (1, 610, 0) 2037 68 (pcI (jun_68 2) 33) = true := by decide +kernel
theorem cj_68_33_3 : cokL col_68 aSw [] (1, 610, 0) 2037 68 (pcI (jun_68 3) 33) = true := by decide +kernel
theorem cj_68_33_4 : cokL col_68 aSw [] (1, 610, 0) 2037 68 (pcI (jun_68 4) 33) = true := by decide +kernel
theorem ci_68_33 : cokL col_68 aSw [] (1, 610, 0) 2037 68 (pcI run_68 33) = true := cokL_J (n := 5) (N := jun_68) (by decide) (fun _ _ _ _ _ _ h => runJ_ok (by decide) h) (lt_all (lt_all (lt_all (lt_all (lt_all (lt_none) cj_68_33_0) cj_68_33_1) cj_68_33_2) cj_68_33_3) cj_68_33_4)
