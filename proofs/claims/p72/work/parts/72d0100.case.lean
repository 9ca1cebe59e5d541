/-! ===== the law, a case in pieces ===== -/
noncomputable def TL_c70 : List (Nat × ClassFile.Instr × Nat) := tl_27 ++ (tl_28 ++ (tl_29 ++ (tl_30)))
noncomputable def col_70 (y : AS) : Option (List ASR) := runC TL_c70 tb_L_law 1 ct_law rf_law XS_law (room_1.frames, room_1.locals) k_law 2137 64 (y, rl_law)
noncomputable def run_70 : NXT := fun pc loc st G hp r => runW TL_c70 tb_L_law 1 ct_law rf_law [(2207, 1203)] XS_law (room_1.frames, room_1.locals) k_law 64 ((pc, loc, st, G, hp), r)
theorem lqc_70 : ∀ y L, col_70 y = some L → (∀ z ∈ L, run_70 z.1.1 z.1.2.1 z.1.2.2.1 z.1.2.2.2.1 z.1.2.2.2.2 z.2 = true) → Q_law y := fun y L h hz => ⟨TL_c70, 64 + 64, ap_all tl_27_ok (ap_all tl_28_ok (ap_all tl_29_ok (tl_30_ok))), runC_ok h hz⟩
theorem cn_70 : cokL col_70 aSw [] (1, 607, 0) 2103 70 (pcN 1) = true := by decide +kernel
noncomputable def jun_70 (j : Nat) : NXT := fun pc loc st G hp r => runJ TL_c70 tb_L_law 1 ct_law rf_law [(2207, 1203)] XS_law (room_1.frames, room_1.locals) k_law 2167 12 j 64 ((pc, loc, st, G, hp), r)
theorem cj_70_0_0 : cokL col_70 aSw [] (1, 607, 0) 2103 70 (pcI (jun_70 0) 0) = true := by decide +kernel
theorem cj_70_0_1 : cokL col_70 aSw [] (1, 607, 0) 2103 70 (pcI (jun_70 1) 0) = true := by decide +kernel
theorem cj_70_0_2 : cokL col_70 aSw [] (1, 607, 0) 2103 70 (pcI (jun_70 2) 0) = true := by decide +kernel
theorem cj_70_0_3 : cokL col_70 aSw [] (1, 607, 0) 2103 70 (pcI (jun_70 3) 0) = true := by decide +kernel
theorem cj_70_0_4 : cokL col_70 aSw [] (1, 607, 0) 2103 70 (pcI (jun_70 4) 0) = true := by decide +kernel
