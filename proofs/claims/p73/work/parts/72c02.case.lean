/-! ===== the law, cases 18 and on ===== -/
noncomputable def TL_c18 : List (Nat × ClassFile.Instr × Nat) := tl_8 ++ (tl_30)
noncomputable def P_c18 (a : AS) : Bool := runW TL_c18 tb_L_law 1 ct_law rf_law [(2270, 1204)] XS_law (room_1.frames, room_1.locals) k_law 66 (a, rl_law)
theorem pq_c18 : ∀ y, P_c18 y = true → Q_law y := fun y h => ⟨TL_c18, 66, ap_all tl_8_ok (tl_30_ok), h⟩
theorem cs_18 : cok P_c18 aSw [] (1, 607, 0) 797 18 = true := by decide +kernel
noncomputable def TL_c19 : List (Nat × ClassFile.Instr × Nat) := tl_8 ++ (tl_30)
noncomputable def P_c19 (a : AS) : Bool := runW TL_c19 tb_L_law 1 ct_law rf_law [(2270, 1204)] XS_law (room_1.frames, room_1.locals) k_law 66 (a, rl_law)
theorem pq_c19 : ∀ y, P_c19 y = true → Q_law y := fun y h => ⟨TL_c19, 66, ap_all tl_8_ok (tl_30_ok), h⟩
theorem cs_19 : cok P_c19 aSw [] (1, 607, 0) 820 19 = true := by decide +kernel
noncomputable def TL_c20 : List (Nat × ClassFile.Instr × Nat) := tl_8 ++ (tl_9 ++ (tl_30))
noncomputable def P_c20 (a : AS) : Bool := runW TL_c20 tb_L_law 1 ct_law rf_law [(2270, 1204)] XS_law (room_1.frames, room_1.locals) k_law 66 (a, rl_law)
theorem pq_c20 : ∀ y, P_c20 y = true → Q_law y := fun y h => ⟨TL_c20, 66, ap_all tl_8_ok (ap_all tl_9_ok (tl_30_ok)), h⟩
theorem cs_20 : cok P_c20 aSw [] (1, 607, 0) 833 20 = true := by decide +kernel
noncomputable def TL_c21 : List (Nat × ClassFile.Instr × Nat) := tl_9 ++ (tl_30)
noncomputable def P_c21 (a : AS) : Bool := runW TL_c21 tb_L_law 1 ct_law rf_law [(2270, 1204)] XS_law (room_1.frames, room_1.locals) k_law 66 (a, rl_law)
theorem pq_c21 : ∀ y, P_c21 y = true → Q_law y := fun y h => ⟨TL_c21, 66, ap_all tl_9_ok (tl_30_ok), h⟩
theorem cs_21 : cok P_c21 aSw [] (1, 607, 0) 866 21 = true := by decide +kernel
noncomputable def TL_c22 : List (Nat × ClassFile.Instr × Nat) := tl_9 ++ (tl_10 ++ (tl_30))
noncomputable def P_c22 (a : AS) : Bool := runW TL_c22 tb_L_law 1 ct_law rf_law [(2270, 1204)] XS_law (room_1.frames, room_1.locals) k_law 66 (a, rl_law)
theorem pq_c22 : ∀ y, P_c22 y = true → Q_law y := fun y h => ⟨TL_c22, 66, ap_all tl_9_ok (ap_all tl_10_ok (tl_30_ok)), h⟩
theorem cs_22 : cok P_c22 aSw [] (1, 607, 0) 899 22 = true := by decide +kernel
noncomputable def TL_c23 : List (Nat × ClassFile.Instr × Nat) := tl_10 ++ (tl_30)
noncomputable def P_c23 (a : AS) : Bool := runW TL_c23 tb_L_law 1 ct_law rf_law [(2270, 1204)] XS_law (room_1.frames, room_1.locals) k_law 66 (a, rl_law)
theorem pq_c23 : ∀ y, P_c23 y = true → Q_law y := fun y h => ⟨TL_c23, 66, ap_all tl_10_ok (tl_30_ok), h⟩
theorem cs_23 : cok P_c23 aSw [] (1, 607, 0) 932 23 = true := by decide +kernel
noncomputable def TL_c24 : List (Nat × ClassFile.Instr × Nat) := tl_10 ++ (tl_11 ++ (tl_30))
noncomputable def P_c24 (a : AS) : Bool := runW TL_c24 tb_L_law 1 ct_law rf_law [(2270, 1204)] XS_law (room_1.frames, room_1.locals) k_law 66 (a, rl_law)
theorem pq_c24 : ∀ y, P_c24 y = true → Q_law y := fun y h => ⟨TL_c24, 66, ap_all tl_10_ok (ap_all tl_11_ok (tl_30_ok)), h⟩
theorem cs_24 : cok P_c24 aSw [] (1, 607, 0) 965 24 = true := by decide +kernel
noncomputable def TL_c25 : List (Nat × ClassFile.Instr × Nat) := tl_11 ++ (tl_30)
noncomputable def P_c25 (a : AS) : Bool := runW TL_c25 tb_L_law 1 ct_law rf_law [(2270, 1204)] XS_law (room_1.frames, room_1.locals) k_law 66 (a, rl_law)
theorem pq_c25 : ∀ y, P_c25 y = true → Q_law y := fun y h => ⟨TL_c25, 66, ap_all tl_11_ok (tl_30_ok), h⟩
theorem cs_25 : cok P_c25 aSw [] (1, 607, 0) 998 25 = true := by decide +kernel
noncomputable def TL_c26 : List (Nat × ClassFile.Instr × Nat) := tl_11 ++ (tl_12 ++ (tl_30))
noncomputable def P_c26 (a : AS) : Bool := runW TL_c26 tb_L_law 1 ct_law rf_law [(2270, 1204)] XS_law (room_1.frames, room_1.locals) k_law 66 (a, rl_law)
theorem pq_c26 : ∀ y, P_c26 y = true → Q_law y := fun y h => ⟨TL_c26, 66, ap_all tl_11_ok (ap_all tl_12_ok (tl_30_ok)), h⟩
theorem cs_26 : cok P_c26 aSw [] (1, 607, 0) 1031 26 = true := by decide +kernel
