/-! ===== the law, a case in pieces ===== -/
noncomputable def TL_c71 : List (Nat × ClassFile.Instr × Nat) := tl_29 ++ (tl_30)
noncomputable def col_71 (y : AS) : Option (List ASR) := runC TL_c71 tb_L_law 1 ct_law rf_law XS_law (room_1.frames, room_1.locals) k_law 2235 66 (y, rl_law)
noncomputable def run_71 : NXT := fun pc loc st G hp r => runW TL_c71 tb_L_law 1 ct_law rf_law [(2270, 1204)] XS_law (room_1.frames, room_1.locals) k_law 66 ((pc, loc, st, G, hp), r)
theorem lqc_71 : ∀ y L, col_71 y = some L → (∀ z ∈ L, run_71 z.1.1 z.1.2.1 z.1.2.2.1 z.1.2.2.2.1 z.1.2.2.2.2 z.2 = true) → Q_law y := fun y L h hz => ⟨TL_c71, 66 + 66, ap_all tl_29_ok (tl_30_ok), runC_ok h hz⟩
theorem cn_71 : cokL col_71 aSw [] (1, 607, 0) 2176 71 (pcN 36) = true := by decide +kernel
noncomputable def kun_71 (j : Nat) : NXT := fun pc loc st G hp r => runEn TL_c71 tb_L_law 1 ct_law rf_law [(2270, 1204)] XS_law (room_1.frames, room_1.locals) k_law 2235 10 4 j 66 ((pc, loc, st, G, hp), r)
theorem ci_71_0 : cokL col_71 aSw [] (1, 607, 0) 2176 71 (pcI run_71 0) = true := by decide +kernel
theorem ci_71_1 : cokL col_71 aSw [] (1, 607, 0) 2176 71 (pcI run_71 1) = true := by decide +kernel
theorem ci_71_2 : cokL col_71 aSw [] (1, 607, 0) 2176 71 (pcI run_71 2) = true := by decide +kernel
theorem ci_71_3 : cokL col_71 aSw [] (1, 607, 0) 2176 71 (pcI run_71 3) = true := by decide +kernel
theorem ci_71_4 : cokL col_71 aSw [] (1, 607, 0) 2176 71 (pcI run_71 4) = true := by decide +kernel
