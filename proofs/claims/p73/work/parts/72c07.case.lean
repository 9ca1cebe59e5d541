/-! ===== the law, cases 63 and on ===== -/
noncomputable def TL_c63 : List (Nat × ClassFile.Instr × Nat) := tl_24 ++ (tl_30)
noncomputable def P_c63 (a : AS) : Bool := runW TL_c63 tb_L_law 1 ct_law rf_law [(2270, 1204)] XS_law (room_1.frames, room_1.locals) k_law 66 (a, rl_law)
theorem pq_c63 : ∀ y, P_c63 y = true → Q_law y := fun y h => ⟨TL_c63, 66, ap_all tl_24_ok (tl_30_ok), h⟩
theorem cs_63 : cok P_c63 aSw [] (1, 607, 0) 1882 63 = true := by decide +kernel
noncomputable def TL_c64 : List (Nat × ClassFile.Instr × Nat) := tl_24 ++ (tl_25 ++ (tl_30))
noncomputable def P_c64 (a : AS) : Bool := runW TL_c64 tb_L_law 1 ct_law rf_law [(2270, 1204)] XS_law (room_1.frames, room_1.locals) k_law 66 (a, rl_law)
theorem pq_c64 : ∀ y, P_c64 y = true → Q_law y := fun y h => ⟨TL_c64, 66, ap_all tl_24_ok (ap_all tl_25_ok (tl_30_ok)), h⟩
theorem cs_64 : cok P_c64 aSw [] (1, 607, 0) 1915 64 = true := by decide +kernel
noncomputable def TL_c65 : List (Nat × ClassFile.Instr × Nat) := tl_25 ++ (tl_26 ++ (tl_30))
noncomputable def P_c65 (a : AS) : Bool := runW TL_c65 tb_L_law 1 ct_law rf_law [(2270, 1204)] XS_law (room_1.frames, room_1.locals) k_law 66 (a, rl_law)
theorem pq_c65 : ∀ y, P_c65 y = true → Q_law y := fun y h => ⟨TL_c65, 66, ap_all tl_25_ok (ap_all tl_26_ok (tl_30_ok)), h⟩
theorem cs_65 : cok P_c65 aSw [] (1, 607, 0) 1958 65 = true := by decide +kernel
noncomputable def TL_c66 : List (Nat × ClassFile.Instr × Nat) := tl_26 ++ (tl_30)
noncomputable def P_c66 (a : AS) : Bool := runW TL_c66 tb_L_law 1 ct_law rf_law [(2270, 1204)] XS_law (room_1.frames, room_1.locals) k_law 66 (a, rl_law)
theorem pq_c66 : ∀ y, P_c66 y = true → Q_law y := fun y h => ⟨TL_c66, 66, ap_all tl_26_ok (tl_30_ok), h⟩
theorem cs_66 : cok P_c66 aSw [] (1, 607, 0) 1991 66 = true := by decide +kernel
noncomputable def TL_c67 : List (Nat × ClassFile.Instr × Nat) := tl_26 ++ (tl_30)
noncomputable def P_c67 (a : AS) : Bool := runW TL_c67 tb_L_law 1 ct_law rf_law [(2270, 1204)] XS_law (room_1.frames, room_1.locals) k_law 66 (a, rl_law)
theorem pq_c67 : ∀ y, P_c67 y = true → Q_law y := fun y h => ⟨TL_c67, 66, ap_all tl_26_ok (tl_30_ok), h⟩
theorem cs_67 : cok P_c67 aSw [] (1, 607, 0) 2014 67 = true := by decide +kernel
noncomputable def TL_c68 : List (Nat × ClassFile.Instr × Nat) := tl_26 ++ (tl_27 ++ (tl_30))
noncomputable def P_c68 (a : AS) : Bool := runW TL_c68 tb_L_law 1 ct_law rf_law [(2270, 1204)] XS_law (room_1.frames, room_1.locals) k_law 66 (a, rl_law)
theorem pq_c68 : ∀ y, P_c68 y = true → Q_law y := fun y h => ⟨TL_c68, 66, ap_all tl_26_ok (ap_all tl_27_ok (tl_30_ok)), h⟩
theorem cs_68 : cok P_c68 aSw [] (1, 607, 0) 2037 68 = true := by decide +kernel
noncomputable def TL_c70 : List (Nat × ClassFile.Instr × Nat) := tl_27 ++ (tl_28 ++ (tl_29 ++ (tl_30)))
noncomputable def P_c70 (a : AS) : Bool := runW TL_c70 tb_L_law 1 ct_law rf_law [(2270, 1204)] XS_law (room_1.frames, room_1.locals) k_law 66 (a, rl_law)
theorem pq_c70 : ∀ y, P_c70 y = true → Q_law y := fun y h => ⟨TL_c70, 66, ap_all tl_27_ok (ap_all tl_28_ok (ap_all tl_29_ok (tl_30_ok))), h⟩
theorem cs_70 : cok P_c70 aSw [] (1, 607, 0) 2103 70 = true := by decide +kernel
