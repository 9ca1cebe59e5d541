/-! ===== the law, cases 45 and on ===== -/
noncomputable def TL_c45 : List (Nat × ClassFile.Instr × Nat) := tl_16 ++ (tl_17 ++ (tl_30))
noncomputable def P_c45 (a : AS) : Bool := runW TL_c45 tb_L_law 1 ct_law rf_law [(2270, 1204)] XS_law (room_1.frames, room_1.locals) k_law 66 (a, rl_law)
theorem pq_c45 : ∀ y, P_c45 y = true → Q_law y := fun y h => ⟨TL_c45, 66, ap_all tl_16_ok (ap_all tl_17_ok (tl_30_ok)), h⟩
theorem cs_45 : cok P_c45 aSw [] (1, 607, 0) 1408 45 = true := by decide +kernel
noncomputable def TL_c46 : List (Nat × ClassFile.Instr × Nat) := tl_17 ++ (tl_30)
noncomputable def P_c46 (a : AS) : Bool := runW TL_c46 tb_L_law 1 ct_law rf_law [(2270, 1204)] XS_law (room_1.frames, room_1.locals) k_law 66 (a, rl_law)
theorem pq_c46 : ∀ y, P_c46 y = true → Q_law y := fun y h => ⟨TL_c46, 66, ap_all tl_17_ok (tl_30_ok), h⟩
theorem cs_46 : cok P_c46 aSw [] (1, 607, 0) 1431 46 = true := by decide +kernel
noncomputable def TL_c47 : List (Nat × ClassFile.Instr × Nat) := tl_17 ++ (tl_30)
noncomputable def P_c47 (a : AS) : Bool := runW TL_c47 tb_L_law 1 ct_law rf_law [(2270, 1204)] XS_law (room_1.frames, room_1.locals) k_law 66 (a, rl_law)
theorem pq_c47 : ∀ y, P_c47 y = true → Q_law y := fun y h => ⟨TL_c47, 66, ap_all tl_17_ok (tl_30_ok), h⟩
theorem cs_47 : cok P_c47 aSw [] (1, 607, 0) 1444 47 = true := by decide +kernel
noncomputable def TL_c48 : List (Nat × ClassFile.Instr × Nat) := tl_17 ++ (tl_30)
noncomputable def P_c48 (a : AS) : Bool := runW TL_c48 tb_L_law 1 ct_law rf_law [(2270, 1204)] XS_law (room_1.frames, room_1.locals) k_law 66 (a, rl_law)
theorem pq_c48 : ∀ y, P_c48 y = true → Q_law y := fun y h => ⟨TL_c48, 66, ap_all tl_17_ok (tl_30_ok), h⟩
theorem cs_48 : cok P_c48 aSw [] (1, 607, 0) 1457 48 = true := by decide +kernel
noncomputable def TL_c49 : List (Nat × ClassFile.Instr × Nat) := tl_17 ++ (tl_18 ++ (tl_30))
noncomputable def P_c49 (a : AS) : Bool := runW TL_c49 tb_L_law 1 ct_law rf_law [(2270, 1204)] XS_law (room_1.frames, room_1.locals) k_law 66 (a, rl_law)
theorem pq_c49 : ∀ y, P_c49 y = true → Q_law y := fun y h => ⟨TL_c49, 66, ap_all tl_17_ok (ap_all tl_18_ok (tl_30_ok)), h⟩
theorem cs_49 : cok P_c49 aSw [] (1, 607, 0) 1480 49 = true := by decide +kernel
noncomputable def TL_c50 : List (Nat × ClassFile.Instr × Nat) := tl_18 ++ (tl_30)
noncomputable def P_c50 (a : AS) : Bool := runW TL_c50 tb_L_law 1 ct_law rf_law [(2270, 1204)] XS_law (room_1.frames, room_1.locals) k_law 66 (a, rl_law)
theorem pq_c50 : ∀ y, P_c50 y = true → Q_law y := fun y h => ⟨TL_c50, 66, ap_all tl_18_ok (tl_30_ok), h⟩
theorem cs_50 : cok P_c50 aSw [] (1, 607, 0) 1493 50 = true := by decide +kernel
noncomputable def TL_c51 : List (Nat × ClassFile.Instr × Nat) := tl_18 ++ (tl_30)
noncomputable def P_c51 (a : AS) : Bool := runW TL_c51 tb_L_law 1 ct_law rf_law [(2270, 1204)] XS_law (room_1.frames, room_1.locals) k_law 66 (a, rl_law)
theorem pq_c51 : ∀ y, P_c51 y = true → Q_law y := fun y h => ⟨TL_c51, 66, ap_all tl_18_ok (tl_30_ok), h⟩
theorem cs_51 : cok P_c51 aSw [] (1, 607, 0) 1506 51 = true := by decide +kernel
noncomputable def TL_c52 : List (Nat × ClassFile.Instr × Nat) := tl_18 ++ (tl_30)
noncomputable def P_c52 (a : AS) : Bool := runW TL_c52 tb_L_law 1 ct_law rf_law [(2270, 1204)] XS_law (room_1.frames, room_1.locals) k_law 66 (a, rl_law)
theorem pq_c52 : ∀ y, P_c52 y = true → Q_law y := fun y h => ⟨TL_c52, 66, ap_all tl_18_ok (tl_30_ok), h⟩
theorem cs_52 : cok P_c52 aSw [] (1, 607, 0) 1519 52 = true := by decide +kernel
noncomputable def TL_c53 : List (Nat × ClassFile.Instr × Nat) := tl_18 ++ (tl_19 ++ (tl_30))
noncomputable def P_c53 (a : AS) : Bool := runW TL_c53 tb_L_law 1 ct_law rf_law [(2270, 1204)] XS_law (room_1.frames, room_1.locals) k_law 66 (a, rl_law)
theorem pq_c53 : ∀ y, P_c53 y = true → Q_law y := fun y h => ⟨TL_c53, 66, ap_all tl_18_ok (ap_all tl_19_ok (tl_30_ok)), h⟩
theorem cs_53 : cok P_c53 aSw [] (1, 607, 0) 1552 53 = true := by decide +kernel
