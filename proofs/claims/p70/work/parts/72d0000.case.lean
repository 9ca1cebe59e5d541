/-! ===== the law, a case in pieces ===== -/
noncomputable def TL_c67 : List (Nat × ClassFile.Instr × Nat) := tl_26 ++ (tl_30)
noncomputable def col_67 (y : AS) : Option (List ASR) := runC TL_c67 tb_L_law 1 ct_law rf_law XS_law (room_1.frames, room_1.locals) k_law 2048 66 (y, rl_law)
noncomputable def run_67 : NXT := fun pc loc st G hp r => runW TL_c67 tb_L_law 1 ct_law rf_law [(2048, 2), (2071, 2), (2091, 2)] XS_law (room_1.frames, room_1.locals) k_law 66 ((pc, loc, st, G, hp), r)
theorem lqc_67 : ∀ y L, col_67 y = some L → (∀ z ∈ L, run_67 z.1.1 z.1.2.1 z.1.2.2.1 z.1.2.2.2.1 z.1.2.2.2.2 z.2 = true) → Q_law y := fun y L h hz => ⟨TL_c67, 66 + 66, ap_all tl_26_ok (tl_30_ok), runC_ok h hz⟩
theorem cn_67 : cokL col_67 aSw [] (1, 610, 0) 2014 67 (pcN 64) = true := by decide +kernel
noncomputable def jun_67 (j : Nat) : NXT := fun pc loc st G hp r => runJ TL_c67 tb_L_law 1 ct_law rf_law [(2048, 2), (2071, 2), (2091, 2)] XS_law (room_1.frames, room_1.locals) k_law 2053 5 j 66 ((pc, loc, st, G, hp), r)
theorem cj_67_0_0 : cokL col_67 aSw [] (1, 610, 0) 2014 67 (pcI (jun_67 0) 0) = true := by decide +kernel
theorem cj_67_0_1 : cokL col_67 aSw [] (1, 610, 0) 2014 67 (pcI (jun_67 1) 0) = true := by decide +kernel
theorem cj_67_0_2 : cokL col_67 aSw [] (1, 610, 0) 2014 67 (pcI (jun_67 2) 0) = true := by decide +kernel
theorem cj_67_0_3 : cokL col_67 aSw [] (1, 610, 0) 2014 67 (pcI (jun_67 3) 0) = true := by decide +kernel
theorem cj_67_0_4 : cokL col_67 aSw [] (1, 610, 0) 2014 67 (pcI (jun_67 4) 0) = true := by decide +kernel
theorem ci_67_0 : cokL col_67 aSw [] (1, 610, 0) 2014 67 (pcI run_67 0) = true := cokL_J (n := 5) (N := jun_67) (by decide) (fun _ _ _ _ _ _ h => runJ_ok (by decide) h) (lt_all (lt_all (lt_all (lt_all (lt_all (lt_none) cj_67_0_0) cj_67_0_1) cj_67_0_2) cj_67_0_3) cj_67_0_4)
