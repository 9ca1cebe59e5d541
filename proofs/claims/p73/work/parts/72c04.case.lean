/-! ===== the law, cases 36 and on ===== -/
noncomputable def TL_c36 : List (Nat × ClassFile.Instr × Nat) := tl_14 ++ (tl_30)
noncomputable def P_c36 (a : AS) : Bool := runW TL_c36 tb_L_law 1 ct_law rf_law [(2270, 1204)] XS_law (room_1.frames, room_1.locals) k_law 66 (a, rl_law)
theorem pq_c36 : ∀ y, P_c36 y = true → Q_law y := fun y h => ⟨TL_c36, 66, ap_all tl_14_ok (tl_30_ok), h⟩
theorem cs_36 : cok P_c36 aSw [] (1, 607, 0) 1231 36 = true := by decide +kernel
noncomputable def TL_c37 : List (Nat × ClassFile.Instr × Nat) := tl_14 ++ (tl_30)
noncomputable def P_c37 (a : AS) : Bool := runW TL_c37 tb_L_law 1 ct_law rf_law [(2270, 1204)] XS_law (room_1.frames, room_1.locals) k_law 66 (a, rl_law)
theorem pq_c37 : ∀ y, P_c37 y = true → Q_law y := fun y h => ⟨TL_c37, 66, ap_all tl_14_ok (tl_30_ok), h⟩
theorem cs_37 : cok P_c37 aSw [] (1, 607, 0) 1244 37 = true := by decide +kernel
noncomputable def TL_c38 : List (Nat × ClassFile.Instr × Nat) := tl_15 ++ (tl_30)
noncomputable def P_c38 (a : AS) : Bool := runW TL_c38 tb_L_law 1 ct_law rf_law [(2270, 1204)] XS_law (room_1.frames, room_1.locals) k_law 66 (a, rl_law)
theorem pq_c38 : ∀ y, P_c38 y = true → Q_law y := fun y h => ⟨TL_c38, 66, ap_all tl_15_ok (tl_30_ok), h⟩
theorem cs_38 : cok P_c38 aSw [] (1, 607, 0) 1267 38 = true := by decide +kernel
noncomputable def TL_c39 : List (Nat × ClassFile.Instr × Nat) := tl_15 ++ (tl_30)
noncomputable def P_c39 (a : AS) : Bool := runW TL_c39 tb_L_law 1 ct_law rf_law [(2270, 1204)] XS_law (room_1.frames, room_1.locals) k_law 66 (a, rl_law)
theorem pq_c39 : ∀ y, P_c39 y = true → Q_law y := fun y h => ⟨TL_c39, 66, ap_all tl_15_ok (tl_30_ok), h⟩
theorem cs_39 : cok P_c39 aSw [] (1, 607, 0) 1290 39 = true := by decide +kernel
noncomputable def TL_c40 : List (Nat × ClassFile.Instr × Nat) := tl_15 ++ (tl_30)
noncomputable def P_c40 (a : AS) : Bool := runW TL_c40 tb_L_law 1 ct_law rf_law [(2270, 1204)] XS_law (room_1.frames, room_1.locals) k_law 66 (a, rl_law)
theorem pq_c40 : ∀ y, P_c40 y = true → Q_law y := fun y h => ⟨TL_c40, 66, ap_all tl_15_ok (tl_30_ok), h⟩
theorem cs_40 : cok P_c40 aSw [] (1, 607, 0) 1303 40 = true := by decide +kernel
noncomputable def TL_c41 : List (Nat × ClassFile.Instr × Nat) := tl_15 ++ (tl_16 ++ (tl_30))
noncomputable def P_c41 (a : AS) : Bool := runW TL_c41 tb_L_law 1 ct_law rf_law [(2270, 1204)] XS_law (room_1.frames, room_1.locals) k_law 66 (a, rl_law)
theorem pq_c41 : ∀ y, P_c41 y = true → Q_law y := fun y h => ⟨TL_c41, 66, ap_all tl_15_ok (ap_all tl_16_ok (tl_30_ok)), h⟩
theorem cs_41 : cok P_c41 aSw [] (1, 607, 0) 1326 41 = true := by decide +kernel
noncomputable def TL_c42 : List (Nat × ClassFile.Instr × Nat) := tl_16 ++ (tl_30)
noncomputable def P_c42 (a : AS) : Bool := runW TL_c42 tb_L_law 1 ct_law rf_law [(2270, 1204)] XS_law (room_1.frames, room_1.locals) k_law 66 (a, rl_law)
theorem pq_c42 : ∀ y, P_c42 y = true → Q_law y := fun y h => ⟨TL_c42, 66, ap_all tl_16_ok (tl_30_ok), h⟩
theorem cs_42 : cok P_c42 aSw [] (1, 607, 0) 1349 42 = true := by decide +kernel
noncomputable def TL_c43 : List (Nat × ClassFile.Instr × Nat) := tl_16 ++ (tl_30)
noncomputable def P_c43 (a : AS) : Bool := runW TL_c43 tb_L_law 1 ct_law rf_law [(2270, 1204)] XS_law (room_1.frames, room_1.locals) k_law 66 (a, rl_law)
theorem pq_c43 : ∀ y, P_c43 y = true → Q_law y := fun y h => ⟨TL_c43, 66, ap_all tl_16_ok (tl_30_ok), h⟩
theorem cs_43 : cok P_c43 aSw [] (1, 607, 0) 1372 43 = true := by decide +kernel
noncomputable def TL_c44 : List (Nat × ClassFile.Instr × Nat) := tl_16 ++ (tl_30)
noncomputable def P_c44 (a : AS) : Bool := runW TL_c44 tb_L_law 1 ct_law rf_law [(2270, 1204)] XS_law (room_1.frames, room_1.locals) k_law 66 (a, rl_law)
theorem pq_c44 : ∀ y, P_c44 y = true → Q_law y := fun y h => ⟨TL_c44, 66, ap_all tl_16_ok (tl_30_ok), h⟩
theorem cs_44 : cok P_c44 aSw [] (1, 607, 0) 1395 44 = true := by decide +kernel
