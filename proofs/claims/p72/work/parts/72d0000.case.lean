/-! ===== the law, a case in pieces ===== -/
noncomputable def TL_c69 : List (Nat × ClassFile.Instr × Nat) := tl_27 ++ (tl_30)
noncomputable def col_69 (y : AS) : Option (List ASR) := runC TL_c69 tb_L_law 1 ct_law rf_law XS_law (room_1.frames, room_1.locals) k_law 2094 64 (y, rl_law)
noncomputable def run_69 : NXT := fun pc loc st G hp r => runW TL_c69 tb_L_law 1 ct_law rf_law [(2207, 1203)] XS_law (room_1.frames, room_1.locals) k_law 64 ((pc, loc, st, G, hp), r)
theorem lqc_69 : ∀ y L, col_69 y = some L → (∀ z ∈ L, run_69 z.1.1 z.1.2.1 z.1.2.2.1 z.1.2.2.2.1 z.1.2.2.2.2 z.2 = true) → Q_law y := fun y L h hz => ⟨TL_c69, 64 + 64, ap_all tl_27_ok (tl_30_ok), runC_ok h hz⟩
theorem cn_69 : cokL col_69 aSw [] (1, 607, 0) 2060 69 (pcN 1) = true := by decide +kernel
noncomputable def jun_69 (j : Nat) : NXT := fun pc loc st G hp r => runJ TL_c69 tb_L_law 1 ct_law rf_law [(2207, 1203)] XS_law (room_1.frames, room_1.locals) k_law 2109 54 j 64 ((pc, loc, st, G, hp), r)
theorem cj_69_0_0 : cokL col_69 aSw [] (1, 607, 0) 2060 69 (pcI (jun_69 0) 0) = true := by decide +kernel
theorem cj_69_0_1 : cokL col_69 aSw [] (1, 607, 0) 2060 69 (pcI (jun_69 1) 0) = true := by decide +kernel
theorem cj_69_0_2 : cokL col_69 aSw [] (1, 607, 0) 2060 69 (pcI (jun_69 2) 0) = true := by decide +kernel
theorem cj_69_0_3 : cokL col_69 aSw [] (1, 607, 0) 2060 69 (pcI (jun_69 3) 0) = true := by decide +kernel
theorem cj_69_0_4 : cokL col_69 aSw [] (1, 607, 0) 2060 69 (pcI (jun_69 4) 0) = true := by decide +kernel
