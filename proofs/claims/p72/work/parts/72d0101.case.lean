/-! ===== the law, a case in pieces ===== -/
theorem cs_70 : cok (PQ Q_law) aSw [] (1, 607, 0) 2103 70 = true := cok_col (n := 1) lqc_70 cn_70 (lt_all (lt_none) ci_70_0)
