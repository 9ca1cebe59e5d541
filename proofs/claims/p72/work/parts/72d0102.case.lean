/-! ===== the law, a case in pieces ===== -/
theorem cj_70_0_11 : cokL col_70 aSw [] (1, 607, 0) 2103 70 (pcI (jun_70 11) 0) = true := by decide +kernel
theorem ci_70_0 : cokL col_70 aSw [] (1, 607, 0) 2103 70 (pcI run_70 0) = true := cokL_J (n := 12) (N := jun_70) (by decide) (fun _ _ _ _ _ _ h => runJ_ok (by decide) h) (lt_all (lt_all (lt_all (lt_all (lt_all (lt_all (lt_all (lt_all (lt_all (lt_all (lt_all (lt_all (lt_none) cj_70_0_0) cj_70_0_1) cj_70_0_2) cj_70_0_3) cj_70_0_4) cj_70_0_5) cj_70_0_6) cj_70_0_7) cj_70_0_8) cj_70_0_9) cj_70_0_10) cj_70_0_11)
theorem cs_70 : cok (PQ Q_law) aSw [] (1, 607, 0) 2103 70 = true := cok_col (n := 1) lqc_70 cn_70 (lt_all (lt_none) ci_70_0)
