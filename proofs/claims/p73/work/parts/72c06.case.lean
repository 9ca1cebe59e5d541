/-! ===== the law, cases 54 and on ===== -/
noncomputable def TL_c54 : List (Nat × ClassFile.Instr × Nat) := tl_19 ++ (tl_30)
noncomputable def P_c54 (a : AS) : Bool := runW TL_c54 tb_L_law 1 ct_law rf_law [(2270, 1204)] XS_law (room_1.frames, room_1.locals) k_law 66 (a, rl_law)
theorem pq_c54 : ∀ y, P_c54 y = true → Q_law y := fun y h => ⟨TL_c54, 66, ap_all tl_19_ok (tl_30_ok), h⟩
theorem cs_54 : cok P_c54 aSw [] (1, 607, 0) 1585 54 = true := by decide +kernel
noncomputable def TL_c55 : List (Nat × ClassFile.Instr × Nat) := tl_19 ++ (tl_20 ++ (tl_30))
noncomputable def P_c55 (a : AS) : Bool := runW TL_c55 tb_L_law 1 ct_law rf_law [(2270, 1204)] XS_law (room_1.frames, room_1.locals) k_law 66 (a, rl_law)
theorem pq_c55 : ∀ y, P_c55 y = true → Q_law y := fun y h => ⟨TL_c55, 66, ap_all tl_19_ok (ap_all tl_20_ok (tl_30_ok)), h⟩
theorem cs_55 : cok P_c55 aSw [] (1, 607, 0) 1618 55 = true := by decide +kernel
noncomputable def TL_c56 : List (Nat × ClassFile.Instr × Nat) := tl_20 ++ (tl_21 ++ (tl_30))
noncomputable def P_c56 (a : AS) : Bool := runW TL_c56 tb_L_law 1 ct_law rf_law [(2270, 1204)] XS_law (room_1.frames, room_1.locals) k_law 66 (a, rl_law)
theorem pq_c56 : ∀ y, P_c56 y = true → Q_law y := fun y h => ⟨TL_c56, 66, ap_all tl_20_ok (ap_all tl_21_ok (tl_30_ok)), h⟩
theorem cs_56 : cok P_c56 aSw [] (1, 607, 0) 1651 56 = true := by decide +kernel
noncomputable def TL_c57 : List (Nat × ClassFile.Instr × Nat) := tl_21 ++ (tl_22 ++ (tl_30))
noncomputable def P_c57 (a : AS) : Bool := runW TL_c57 tb_L_law 1 ct_law rf_law [(2270, 1204)] XS_law (room_1.frames, room_1.locals) k_law 66 (a, rl_law)
theorem pq_c57 : ∀ y, P_c57 y = true → Q_law y := fun y h => ⟨TL_c57, 66, ap_all tl_21_ok (ap_all tl_22_ok (tl_30_ok)), h⟩
theorem cs_57 : cok P_c57 aSw [] (1, 607, 0) 1704 57 = true := by decide +kernel
noncomputable def TL_c58 : List (Nat × ClassFile.Instr × Nat) := tl_22 ++ (tl_30)
noncomputable def P_c58 (a : AS) : Bool := runW TL_c58 tb_L_law 1 ct_law rf_law [(2270, 1204)] XS_law (room_1.frames, room_1.locals) k_law 66 (a, rl_law)
theorem pq_c58 : ∀ y, P_c58 y = true → Q_law y := fun y h => ⟨TL_c58, 66, ap_all tl_22_ok (tl_30_ok), h⟩
theorem cs_58 : cok P_c58 aSw [] (1, 607, 0) 1757 58 = true := by decide +kernel
noncomputable def TL_c59 : List (Nat × ClassFile.Instr × Nat) := tl_22 ++ (tl_23 ++ (tl_30))
noncomputable def P_c59 (a : AS) : Bool := runW TL_c59 tb_L_law 1 ct_law rf_law [(2270, 1204)] XS_law (room_1.frames, room_1.locals) k_law 66 (a, rl_law)
theorem pq_c59 : ∀ y, P_c59 y = true → Q_law y := fun y h => ⟨TL_c59, 66, ap_all tl_22_ok (ap_all tl_23_ok (tl_30_ok)), h⟩
theorem cs_59 : cok P_c59 aSw [] (1, 607, 0) 1790 59 = true := by decide +kernel
noncomputable def TL_c60 : List (Nat × ClassFile.Instr × Nat) := tl_23 ++ (tl_24 ++ (tl_30))
noncomputable def P_c60 (a : AS) : Bool := runW TL_c60 tb_L_law 1 ct_law rf_law [(2270, 1204)] XS_law (room_1.frames, room_1.locals) k_law 66 (a, rl_law)
theorem pq_c60 : ∀ y, P_c60 y = true → Q_law y := fun y h => ⟨TL_c60, 66, ap_all tl_23_ok (ap_all tl_24_ok (tl_30_ok)), h⟩
theorem cs_60 : cok P_c60 aSw [] (1, 607, 0) 1823 60 = true := by decide +kernel
noncomputable def TL_c61 : List (Nat × ClassFile.Instr × Nat) := tl_24 ++ (tl_30)
noncomputable def P_c61 (a : AS) : Bool := runW TL_c61 tb_L_law 1 ct_law rf_law [(2270, 1204)] XS_law (room_1.frames, room_1.locals) k_law 66 (a, rl_law)
theorem pq_c61 : ∀ y, P_c61 y = true → Q_law y := fun y h => ⟨TL_c61, 66, ap_all tl_24_ok (tl_30_ok), h⟩
theorem cs_61 : cok P_c61 aSw [] (1, 607, 0) 1856 61 = true := by decide +kernel
noncomputable def TL_c62 : List (Nat × ClassFile.Instr × Nat) := tl_24 ++ (tl_30)
noncomputable def P_c62 (a : AS) : Bool := runW TL_c62 tb_L_law 1 ct_law rf_law [(2270, 1204)] XS_law (room_1.frames, room_1.locals) k_law 66 (a, rl_law)
theorem pq_c62 : ∀ y, P_c62 y = true → Q_law y := fun y h => ⟨TL_c62, 66, ap_all tl_24_ok (tl_30_ok), h⟩
theorem cs_62 : cok P_c62 aSw [] (1, 607, 0) 1869 62 = true := by decide +kernel
