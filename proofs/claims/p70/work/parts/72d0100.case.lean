/-! ===== the law, a case in pieces ===== -/
noncomputable def TL_c68 : List (Nat × ClassFile.Instr × Nat) := tl_26 ++ (tl_27 ++ (tl_30))
noncomputable def col_68 (y : AS) : Option (List ASR) := runC TL_c68 tb_L_law 1 ct_law rf_law XS_law (room_1.frames, room_1.locals) k_law 2071 66 (y, rl_law)
noncomputable def run_68 : NXT := fun pc loc st G hp r => runW TL_c68 tb_L_law 1 ct_law rf_law [(2048, 2), (2071, 2), (2091, 2)] XS_law (room_1.frames, room_1.locals) k_law 66 ((pc, loc, st, G, hp), r)
theorem lqc_68 : ∀ y L, col_68 y = some L → (∀ z ∈ L, run_68 z.1.1 z.1.2.1 z.1.2.2.1 z.1.2.2.2.1 z.1.2.2.2.2 z.2 = true) → Q_law y := fun y L h hz => ⟨TL_c68, 66 + 66, ap_all tl_26_ok (ap_all tl_27_ok (tl_30_ok)), runC_ok h hz⟩
theorem cn_68 : cokL col_68 aSw [] (1, 610, 0) 2037 68 (pcN 64) = true := by decide +kernel
noncomputable def jun_68 (j : Nat) : NXT := fun pc loc st G hp r => runJ TL_c68 tb_L_law 1 ct_law rf_law [(2048, 2), (2071, 2), (2091, 2)] XS_law (room_1.frames, room_1.locals) k_law 2076 5 j 66 ((pc, loc, st, G, hp), r)
theorem cj_68_0_0 : cokL col_68 aSw [] (1, 610, 0) 2037 68 (pcI (jun_68 0) 0) = true := by decide +kernel
theorem cj_68_0_1 : cokL col_68 aSw [] (1, 610, 0) 2037 68 (pcI (jun_68 1) 0) = true := by decide +kernel
theorem cj_68_0_2 : cokL col_68 aSw [] (1, 610, 0) 2037 68 (pcI (jun_68 2) 0) = true := by decide +kernel
theorem cj_68_0_3 : cokL col_68 aSw [] (1, 610, 0) 2037 68 (pcI (jun_68 3) 0) = true := by decide +kernel
theorem cj_68_0_4 : cokL col_68 aSw [] (1, 610, 0) 2037 68 (pcI (jun_68 4) 0) = true := by decide +kernel
theorem ci_68_0 : cokL col_68 aSw [] (1, 610, 0) 2037 68 (pcI run_68 0) = true := cokL_J (n := 5) (N := jun_68) (by decide) (fun _ _ _ _ _ _ h => runJ_ok (by decide) h) (lt_all (lt_all (lt_all (lt_all (lt_all (lt_none) cj_68_0_0) cj_68_0_1) cj_68_0_2) cj_68_0_3) cj_68_0_4)
