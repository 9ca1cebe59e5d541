/-! ===== the law, cases 27 and on ===== -/
noncomputable def TL_c27 : List (Nat × ClassFile.Instr × Nat) := tl_12 ++ (tl_30)
noncomputable def P_c27 (a : AS) : Bool := runW TL_c27 tb_L_law 1 ct_law rf_law [(2270, 1204)] XS_law (room_1.frames, room_1.locals) k_law 66 (a, rl_law)
theorem pq_c27 : ∀ y, P_c27 y = true → Q_law y := fun y h => ⟨TL_c27, 66, ap_all tl_12_ok (tl_30_ok), h⟩
theorem cs_27 : cok P_c27 aSw [] (1, 607, 0) 1054 27 = true := by decide +kernel
noncomputable def TL_c28 : List (Nat × ClassFile.Instr × Nat) := tl_12 ++ (tl_30)
noncomputable def P_c28 (a : AS) : Bool := runW TL_c28 tb_L_law 1 ct_law rf_law [(2270, 1204)] XS_law (room_1.frames, room_1.locals) k_law 66 (a, rl_law)
theorem pq_c28 : ∀ y, P_c28 y = true → Q_law y := fun y h => ⟨TL_c28, 66, ap_all tl_12_ok (tl_30_ok), h⟩
theorem cs_28 : cok P_c28 aSw [] (1, 607, 0) 1077 28 = true := by decide +kernel
noncomputable def TL_c29 : List (Nat × ClassFile.Instr × Nat) := tl_12 ++ (tl_13 ++ (tl_30))
noncomputable def P_c29 (a : AS) : Bool := runW TL_c29 tb_L_law 1 ct_law rf_law [(2270, 1204)] XS_law (room_1.frames, room_1.locals) k_law 66 (a, rl_law)
theorem pq_c29 : ∀ y, P_c29 y = true → Q_law y := fun y h => ⟨TL_c29, 66, ap_all tl_12_ok (ap_all tl_13_ok (tl_30_ok)), h⟩
theorem cs_29 : cok P_c29 aSw [] (1, 607, 0) 1100 29 = true := by decide +kernel
noncomputable def TL_c30 : List (Nat × ClassFile.Instr × Nat) := tl_13 ++ (tl_30)
noncomputable def P_c30 (a : AS) : Bool := runW TL_c30 tb_L_law 1 ct_law rf_law [(2270, 1204)] XS_law (room_1.frames, room_1.locals) k_law 66 (a, rl_law)
theorem pq_c30 : ∀ y, P_c30 y = true → Q_law y := fun y h => ⟨TL_c30, 66, ap_all tl_13_ok (tl_30_ok), h⟩
theorem cs_30 : cok P_c30 aSw [] (1, 607, 0) 1123 30 = true := by decide +kernel
noncomputable def TL_c31 : List (Nat × ClassFile.Instr × Nat) := tl_13 ++ (tl_30)
noncomputable def P_c31 (a : AS) : Bool := runW TL_c31 tb_L_law 1 ct_law rf_law [(2270, 1204)] XS_law (room_1.frames, room_1.locals) k_law 66 (a, rl_law)
theorem pq_c31 : ∀ y, P_c31 y = true → Q_law y := fun y h => ⟨TL_c31, 66, ap_all tl_13_ok (tl_30_ok), h⟩
theorem cs_31 : cok P_c31 aSw [] (1, 607, 0) 1136 31 = true := by decide +kernel
noncomputable def TL_c32 : List (Nat × ClassFile.Instr × Nat) := tl_13 ++ (tl_30)
noncomputable def P_c32 (a : AS) : Bool := runW TL_c32 tb_L_law 1 ct_law rf_law [(2270, 1204)] XS_law (room_1.frames, room_1.locals) k_law 66 (a, rl_law)
theorem pq_c32 : ∀ y, P_c32 y = true → Q_law y := fun y h => ⟨TL_c32, 66, ap_all tl_13_ok (tl_30_ok), h⟩
theorem cs_32 : cok P_c32 aSw [] (1, 607, 0) 1149 32 = true := by decide +kernel
noncomputable def TL_c33 : List (Nat × ClassFile.Instr × Nat) := tl_13 ++ (tl_14 ++ (tl_30))
noncomputable def P_c33 (a : AS) : Bool := runW TL_c33 tb_L_law 1 ct_law rf_law [(2270, 1204)] XS_law (room_1.frames, room_1.locals) k_law 66 (a, rl_law)
theorem pq_c33 : ∀ y, P_c33 y = true → Q_law y := fun y h => ⟨TL_c33, 66, ap_all tl_13_ok (ap_all tl_14_ok (tl_30_ok)), h⟩
theorem cs_33 : cok P_c33 aSw [] (1, 607, 0) 1172 33 = true := by decide +kernel
noncomputable def TL_c34 : List (Nat × ClassFile.Instr × Nat) := tl_14 ++ (tl_30)
noncomputable def P_c34 (a : AS) : Bool := runW TL_c34 tb_L_law 1 ct_law rf_law [(2270, 1204)] XS_law (room_1.frames, room_1.locals) k_law 66 (a, rl_law)
theorem pq_c34 : ∀ y, P_c34 y = true → Q_law y := fun y h => ⟨TL_c34, 66, ap_all tl_14_ok (tl_30_ok), h⟩
theorem cs_34 : cok P_c34 aSw [] (1, 607, 0) 1195 34 = true := by decide +kernel
noncomputable def TL_c35 : List (Nat × ClassFile.Instr × Nat) := tl_14 ++ (tl_30)
noncomputable def P_c35 (a : AS) : Bool := runW TL_c35 tb_L_law 1 ct_law rf_law [(2270, 1204)] XS_law (room_1.frames, room_1.locals) k_law 66 (a, rl_law)
theorem pq_c35 : ∀ y, P_c35 y = true → Q_law y := fun y h => ⟨TL_c35, 66, ap_all tl_14_ok (tl_30_ok), h⟩
theorem cs_35 : cok P_c35 aSw [] (1, 607, 0) 1208 35 = true := by decide +kernel
