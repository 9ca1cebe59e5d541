/-! ===== the law, a case in pieces ===== -/
noncomputable def TL_c67 : List (Nat × ClassFile.Instr × Nat) := tl_26 ++ (tl_30)
noncomputable def col_67 (y : AS) : Option (List ASR) := runC TL_c67 tb_L_law 1 ct_law rf_law XS_law (room_1.frames, room_1.locals) k_law 2048 66 (y, rl_law)
noncomputable def run_67 : NXT := fun pc loc st G hp r => runW TL_c67 tb_L_law 1 ct_law rf_law [(2048, 2), (2071, 2), (2091, 2)] XS_law (room_1.frames, room_1.locals) k_law 66 ((pc, loc, st, G, hp), r)
theorem hc_67 : ∀ y L, col_67 y = some L → (∀ z ∈ L, run_67 z.1.1 z.1.2.1 z.1.2.2.1 z.1.2.2.2.1 z.1.2.2.2.2 z.2 = true) → Q_law y := fun y L h hz => ⟨TL_c67, 66 + 66, ap_all tl_26_ok (tl_30_ok), runC_ok h hz⟩
theorem cn_67 : cokL col_67 aSw [] (1, 610, 0) 2014 67 (pcN 64) = true := by decide +kernel
theorem ci_67_0 : cokL col_67 aSw [] (1, 610, 0) 2014 67 (pcI run_67 0) = true := by decide +kernel
theorem ci_67_1 : cokL col_67 aSw [] (1, 610, 0) 2014 67 (pcI run_67 1) = true := by decide +kernel
theorem ci_67_2 : cokL col_67 aSw [] (1, 610, 0) 2014 67 (pcI run_67 2) = true := by decide +kernel
theorem ci_67_3 : cokL col_67 aSw [] (1, 610, 0) 2014 67 (pcI run_67 3) = true := by decide +kernel
theorem ci_67_4 : cokL col_67 aSw [] (1, 610, 0) 2014 67 (pcI run_67 4) = true := by decide +kernel
