/-! ===== the law, cases 0 and on ===== -/
noncomputable def TL_c0 : List (Nat × ClassFile.Instr × Nat) := tl_0 ++ (tl_1 ++ (tl_30))
noncomputable def P_c0 (a : AS) : Bool := runW TL_c0 tb_L_law 1 ct_law rf_law [(2270, 1204)] XS_law (room_1.frames, room_1.locals) k_law 66 (a, rl_law)
theorem pq_c0 : ∀ y, P_c0 y = true → Q_law y := fun y h => ⟨TL_c0, 66, ap_all tl_0_ok (ap_all tl_1_ok (tl_30_ok)), h⟩
theorem cs_0 : cok P_c0 aSw [] (1, 607, 0) 303 0 = true := by decide +kernel
noncomputable def TL_c1 : List (Nat × ClassFile.Instr × Nat) := tl_1 ++ (tl_30)
noncomputable def P_c1 (a : AS) : Bool := runW TL_c1 tb_L_law 1 ct_law rf_law [(2270, 1204)] XS_law (room_1.frames, room_1.locals) k_law 66 (a, rl_law)
theorem pq_c1 : ∀ y, P_c1 y = true → Q_law y := fun y h => ⟨TL_c1, 66, ap_all tl_1_ok (tl_30_ok), h⟩
theorem cs_1 : cok P_c1 aSw [] (1, 607, 0) 366 1 = true := by decide +kernel
noncomputable def TL_c2 : List (Nat × ClassFile.Instr × Nat) := tl_1 ++ (tl_30)
noncomputable def P_c2 (a : AS) : Bool := runW TL_c2 tb_L_law 1 ct_law rf_law [(2270, 1204)] XS_law (room_1.frames, room_1.locals) k_law 66 (a, rl_law)
theorem pq_c2 : ∀ y, P_c2 y = true → Q_law y := fun y h => ⟨TL_c2, 66, ap_all tl_1_ok (tl_30_ok), h⟩
theorem cs_2 : cok P_c2 aSw [] (1, 607, 0) 389 2 = true := by decide +kernel
noncomputable def TL_c3 : List (Nat × ClassFile.Instr × Nat) := tl_1 ++ (tl_2 ++ (tl_30))
noncomputable def P_c3 (a : AS) : Bool := runW TL_c3 tb_L_law 1 ct_law rf_law [(2270, 1204)] XS_law (room_1.frames, room_1.locals) k_law 66 (a, rl_law)
theorem pq_c3 : ∀ y, P_c3 y = true → Q_law y := fun y h => ⟨TL_c3, 66, ap_all tl_1_ok (ap_all tl_2_ok (tl_30_ok)), h⟩
theorem cs_3 : cok P_c3 aSw [] (1, 607, 0) 402 3 = true := by decide +kernel
noncomputable def TL_c4 : List (Nat × ClassFile.Instr × Nat) := tl_2 ++ (tl_30)
noncomputable def P_c4 (a : AS) : Bool := runW TL_c4 tb_L_law 1 ct_law rf_law [(2270, 1204)] XS_law (room_1.frames, room_1.locals) k_law 66 (a, rl_law)
theorem pq_c4 : ∀ y, P_c4 y = true → Q_law y := fun y h => ⟨TL_c4, 66, ap_all tl_2_ok (tl_30_ok), h⟩
theorem cs_4 : cok P_c4 aSw [] (1, 607, 0) 425 4 = true := by decide +kernel
noncomputable def TL_c5 : List (Nat × ClassFile.Instr × Nat) := tl_2 ++ (tl_3 ++ (tl_30))
noncomputable def P_c5 (a : AS) : Bool := runW TL_c5 tb_L_law 1 ct_law rf_law [(2270, 1204)] XS_law (room_1.frames, room_1.locals) k_law 66 (a, rl_law)
theorem pq_c5 : ∀ y, P_c5 y = true → Q_law y := fun y h => ⟨TL_c5, 66, ap_all tl_2_ok (ap_all tl_3_ok (tl_30_ok)), h⟩
theorem cs_5 : cok P_c5 aSw [] (1, 607, 0) 458 5 = true := by decide +kernel
noncomputable def TL_c6 : List (Nat × ClassFile.Instr × Nat) := tl_3 ++ (tl_30)
noncomputable def P_c6 (a : AS) : Bool := runW TL_c6 tb_L_law 1 ct_law rf_law [(2270, 1204)] XS_law (room_1.frames, room_1.locals) k_law 66 (a, rl_law)
theorem pq_c6 : ∀ y, P_c6 y = true → Q_law y := fun y h => ⟨TL_c6, 66, ap_all tl_3_ok (tl_30_ok), h⟩
theorem cs_6 : cok P_c6 aSw [] (1, 607, 0) 481 6 = true := by decide +kernel
noncomputable def TL_c7 : List (Nat × ClassFile.Instr × Nat) := tl_3 ++ (tl_30)
noncomputable def P_c7 (a : AS) : Bool := runW TL_c7 tb_L_law 1 ct_law rf_law [(2270, 1204)] XS_law (room_1.frames, room_1.locals) k_law 66 (a, rl_law)
theorem pq_c7 : ∀ y, P_c7 y = true → Q_law y := fun y h => ⟨TL_c7, 66, ap_all tl_3_ok (tl_30_ok), h⟩
theorem cs_7 : cok P_c7 aSw [] (1, 607, 0) 514 7 = true := by decide +kernel
noncomputable def TL_c8 : List (Nat × ClassFile.Instr × Nat) := tl_4 ++ (tl_30)
noncomputable def P_c8 (a : AS) : Bool := runW TL_c8 tb_L_law 1 ct_law rf_law [(2270, 1204)] XS_law (room_1.frames, room_1.locals) k_law 66 (a, rl_law)
theorem pq_c8 : ∀ y, P_c8 y = true → Q_law y := fun y h => ⟨TL_c8, 66, ap_all tl_4_ok (tl_30_ok), h⟩
theorem cs_8 : cok P_c8 aSw [] (1, 607, 0) 537 8 = true := by decide +kernel
