/-! ===== the law, cases 9 and on ===== -/
noncomputable def TL_c9 : List (Nat × ClassFile.Instr × Nat) := tl_4 ++ (tl_5 ++ (tl_30))
noncomputable def P_c9 (a : AS) : Bool := runW TL_c9 tb_L_law 1 ct_law rf_law [(2270, 1204)] XS_law (room_1.frames, room_1.locals) k_law 66 (a, rl_law)
theorem pq_c9 : ∀ y, P_c9 y = true → Q_law y := fun y h => ⟨TL_c9, 66, ap_all tl_4_ok (ap_all tl_5_ok (tl_30_ok)), h⟩
theorem cs_9 : cok P_c9 aSw [] (1, 607, 0) 570 9 = true := by decide +kernel
noncomputable def TL_c10 : List (Nat × ClassFile.Instr × Nat) := tl_5 ++ (tl_30)
noncomputable def P_c10 (a : AS) : Bool := runW TL_c10 tb_L_law 1 ct_law rf_law [(2270, 1204)] XS_law (room_1.frames, room_1.locals) k_law 66 (a, rl_law)
theorem pq_c10 : ∀ y, P_c10 y = true → Q_law y := fun y h => ⟨TL_c10, 66, ap_all tl_5_ok (tl_30_ok), h⟩
theorem cs_10 : cok P_c10 aSw [] (1, 607, 0) 613 10 = true := by decide +kernel
noncomputable def TL_c11 : List (Nat × ClassFile.Instr × Nat) := tl_5 ++ (tl_6 ++ (tl_30))
noncomputable def P_c11 (a : AS) : Bool := runW TL_c11 tb_L_law 1 ct_law rf_law [(2270, 1204)] XS_law (room_1.frames, room_1.locals) k_law 66 (a, rl_law)
theorem pq_c11 : ∀ y, P_c11 y = true → Q_law y := fun y h => ⟨TL_c11, 66, ap_all tl_5_ok (ap_all tl_6_ok (tl_30_ok)), h⟩
theorem cs_11 : cok P_c11 aSw [] (1, 607, 0) 646 11 = true := by decide +kernel
noncomputable def TL_c12 : List (Nat × ClassFile.Instr × Nat) := tl_6 ++ (tl_30)
noncomputable def P_c12 (a : AS) : Bool := runW TL_c12 tb_L_law 1 ct_law rf_law [(2270, 1204)] XS_law (room_1.frames, room_1.locals) k_law 66 (a, rl_law)
theorem pq_c12 : ∀ y, P_c12 y = true → Q_law y := fun y h => ⟨TL_c12, 66, ap_all tl_6_ok (tl_30_ok), h⟩
theorem cs_12 : cok P_c12 aSw [] (1, 607, 0) 669 12 = true := by decide +kernel
noncomputable def TL_c13 : List (Nat × ClassFile.Instr × Nat) := tl_6 ++ (tl_30)
noncomputable def P_c13 (a : AS) : Bool := runW TL_c13 tb_L_law 1 ct_law rf_law [(2270, 1204)] XS_law (room_1.frames, room_1.locals) k_law 66 (a, rl_law)
theorem pq_c13 : ∀ y, P_c13 y = true → Q_law y := fun y h => ⟨TL_c13, 66, ap_all tl_6_ok (tl_30_ok), h⟩
theorem cs_13 : cok P_c13 aSw [] (1, 607, 0) 692 13 = true := by decide +kernel
noncomputable def TL_c14 : List (Nat × ClassFile.Instr × Nat) := tl_6 ++ (tl_7 ++ (tl_30))
noncomputable def P_c14 (a : AS) : Bool := runW TL_c14 tb_L_law 1 ct_law rf_law [(2270, 1204)] XS_law (room_1.frames, room_1.locals) k_law 66 (a, rl_law)
theorem pq_c14 : ∀ y, P_c14 y = true → Q_law y := fun y h => ⟨TL_c14, 66, ap_all tl_6_ok (ap_all tl_7_ok (tl_30_ok)), h⟩
theorem cs_14 : cok P_c14 aSw [] (1, 607, 0) 715 14 = true := by decide +kernel
noncomputable def TL_c15 : List (Nat × ClassFile.Instr × Nat) := tl_7 ++ (tl_30)
noncomputable def P_c15 (a : AS) : Bool := runW TL_c15 tb_L_law 1 ct_law rf_law [(2270, 1204)] XS_law (room_1.frames, room_1.locals) k_law 66 (a, rl_law)
theorem pq_c15 : ∀ y, P_c15 y = true → Q_law y := fun y h => ⟨TL_c15, 66, ap_all tl_7_ok (tl_30_ok), h⟩
theorem cs_15 : cok P_c15 aSw [] (1, 607, 0) 748 15 = true := by decide +kernel
noncomputable def TL_c16 : List (Nat × ClassFile.Instr × Nat) := tl_7 ++ (tl_30)
noncomputable def P_c16 (a : AS) : Bool := runW TL_c16 tb_L_law 1 ct_law rf_law [(2270, 1204)] XS_law (room_1.frames, room_1.locals) k_law 66 (a, rl_law)
theorem pq_c16 : ∀ y, P_c16 y = true → Q_law y := fun y h => ⟨TL_c16, 66, ap_all tl_7_ok (tl_30_ok), h⟩
theorem cs_16 : cok P_c16 aSw [] (1, 607, 0) 761 16 = true := by decide +kernel
noncomputable def TL_c17 : List (Nat × ClassFile.Instr × Nat) := tl_7 ++ (tl_30)
noncomputable def P_c17 (a : AS) : Bool := runW TL_c17 tb_L_law 1 ct_law rf_law [(2270, 1204)] XS_law (room_1.frames, room_1.locals) k_law 66 (a, rl_law)
theorem pq_c17 : ∀ y, P_c17 y = true → Q_law y := fun y h => ⟨TL_c17, 66, ap_all tl_7_ok (tl_30_ok), h⟩
theorem cs_17 : cok P_c17 aSw [] (1, 607, 0) 774 17 = true := by decide +kernel
