/-! ===== the law, a case in pieces ===== -/
theorem cs_69 : cok (PQ Q_law) aSw [] (1, 607, 0) 2060 69 = true := cok_col (n := 1) lqc_69 cn_69 (lt_all (lt_none) ci_69_0)
