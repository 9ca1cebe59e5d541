/-! ===== the law, a case in pieces ===== -/
theorem ci_68_58 : cokL col_68 aSw [] (1, 610, 0) 2037 68 (pcI run_68 58) = true := by decide +kernel
theorem ci_68_59 : cokL col_68 aSw [] (1, 610, 0) 2037 68 (pcI run_68 59) = true := by decide +kernel
theorem ci_68_60 : cokL col_68 aSw [] (1, 610, 0) 2037 68 (pcI run_68 60) = true := by decide +kernel
theorem ci_68_61 : cokL col_68 aSw [] (1, 610, 0) 2037 68 (pcI run_68 61) = true := by decide +kernel
theorem ci_68_62 : cokL col_68 aSw [] (1, 610, 0) 2037 68 (pcI run_68 62) = true := by decide +kernel
theorem cj_68_63_0 : cokL col_68 aSw [] (1, 610, 0) 2037 68 (pcI (jun_68 0) 63) = true := by decide +kernel
theorem cj_68_63_1 : cokL col_68 aSw [] (1, 610, 0) 2037 68 (pcI (jun_68 1) 63) = true := by decide +kernel
theorem cj_68_63_2 : cokL col_68 aSw [] (1, 610, 0) 2037 68 (pcI (jun_68 2) 63) = true := by decide +kernel
theorem cj_68_63_3 : cokL col_68 aSw [] (1, 610, 0) 2037 68 (pcI (jun_68 3) 63) = true := by decide +kernel
theorem cj_68_63_4 : cokL col_68 aSw [] (1, 610, 0) 2037 68 (pcI (jun_68 4) 63) = true := by decide +kernel
theorem ci_68_63 : cokL col_68 aSw [] (1, 610, 0) 2037 68 (pcI run_68 63) = true := cokL_J (n := 5) (N := jun_68) (by decide) (fun _ _ _ _ _ _ h => runJ_ok (by decide) h) (lt_all (lt_all (lt_all (lt_all (lt_all (lt_none) cj_68_63_0) cj_68_63_1) cj_68_63_2) cj_68_63_3) cj_68_63_4)
