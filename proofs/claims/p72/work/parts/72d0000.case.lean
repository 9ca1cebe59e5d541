/-! ===== the law, a case in pieces ===== -/
noncomputable def TL_c69 : List (Nat × ClassFile.Instr × Nat) := tl_27 ++ (tl_30)
noncomputable def col_69 (y : AS) : Option (List ASR) := runC TL_c69 tb_L_law 1 ct_law rf_law XS_law (room_1.frames, room_1.locals) k_law 2094 64 (y, rl_law)
noncomputable def run_69 : NXT := fun pc loc st G hp r => runW TL_c69 tb_L_law 1 ct_law rf_law [(2207, 1203)] XS_law (room_1.frames, room_1.locals) k_law 64 ((pc, loc, st, G, hp), r)
theorem lqc_69 : ∀ y L, col_69 y = some L → (∀ z ∈ L, run_69 z.1.1 z.1.2.1 z.1.2.2.1 z.1.2.2.2.1 z.1.2.2.2.2 z.2 = true) → Q_law y := fun y L h hz => ⟨TL_c69, 64 + 64, ap_all tl_27_ok (tl_30_ok), runC_ok h hz⟩
theorem cn_69 : cokL col_69 aSw [] (1, 607, 0) 2060 69 (pcN 1) = true := by decide +kernel
noncomputable def jun_69 (j : Nat) : NXT := fun pc loc st G hp r => runJ TL_c69 tb_L_law 1 ct_law rf_law [(2207, 1203)] XS_law (room_1.frames, room_1.locals) k_law 2109 54 j 64 ((pc, loc, st, G, hp), r)
theorem cj_69_0_0 : cokL col_69 aSw [] (1, 607, 0) 2060 69 (pcI (jun_69 0) 0) = true := by decide +kernel
theorem cj_69_0_1 : cokL col_69 aSw [] (1, 607, 0) 2060 69 (pcI (jun_69 1) 0) = true := by decide +kernel
theorem cj_69_0_2 : cokL col_69 aSw [] (1, 607, 0) 2060 69 (pcI (jun_69 2) 0) = true := by decide +kernel
theorem cj_69_0_3 : cokL col_69 aSw [] (1, 607, 0) 2060 69 (pcI (jun_69 3) 0) = true := by decide +kernel
theorem cj_69_0_4 : cokL col_69 aSw [] (1, 607, 0) 2060 69 (pcI (jun_69 4) 0) = true := by decide +kernel
theorem cj_69_0_5 : cokL col_69 aSw [] (1, 607, 0) 2060 69 (pcI (jun_69 5) 0) = true := by decide +kernel
theorem cj_69_0_6 : cokL col_69 aSw [] (1, 607, 0) 2060 69 (pcI (jun_69 6) 0) = true := by decide +kernel
theorem cj_69_0_7 : cokL col_69 aSw [] (1, 607, 0) 2060 69 (pcI (jun_69 7) 0) = true := by decide +kernel
theorem cj_69_0_8 : cokL col_69 aSw [] (1, 607, 0) 2060 69 (pcI (jun_69 8) 0) = true := by decide +kernel
theorem cj_69_0_9 : cokL col_69 aSw [] (1, 607, 0) 2060 69 (pcI (jun_69 9) 0) = true := by decide +kernel
theorem cj_69_0_10 : cokL col_69 aSw [] (1, 607, 0) 2060 69 (pcI (jun_69 10) 0) = true := by decide +kernel
theorem cj_69_0_11 : cokL col_69 aSw [] (1, 607, 0) 2060 69 (pcI (jun_69 11) 0) = true := by decide +kernel
theorem cj_69_0_12 : cokL col_69 aSw [] (1, 607, 0) 2060 69 (pcI (jun_69 12) 0) = true := by decide +kernel
theorem cj_69_0_13 : cokL col_69 aSw [] (1, 607, 0) 2060 69 (pcI (jun_69 13) 0) = true := by decide +kernel
theorem cj_69_0_14 : cokL col_69 aSw [] (1, 607, 0) 2060 69 (pcI (jun_69 14) 0) = true := by decide +kernel
theorem cj_69_0_15 : cokL col_69 aSw [] (1, 607, 0) 2060 69 (pcI (jun_69 15) 0) = true := by decide +kernel
theorem cj_69_0_16 : cokL col_69 aSw [] (1, 607, 0) 2060 69 (pcI (jun_69 16) 0) = true := by decide +kernel
theorem cj_69_0_17 : cokL col_69 aSw [] (1, 607, 0) 2060 69 (pcI (jun_69 17) 0) = true := by decide +kernel
theorem cj_69_0_18 : cokL col_69 aSw [] (1, 607, 0) 2060 69 (pcI (jun_69 18) 0) = true := by decide +kernel
theorem cj_69_0_19 : cokL col_69 aSw [] (1, 607, 0) 2060 69 (pcI (jun_69 19) 0) = true := by decide +kernel
theorem cj_69_0_20 : cokL col_69 aSw [] (1, 607, 0) 2060 69 (pcI (jun_69 20) 0) = true := by decide +kernel
theorem cj_69_0_21 : cokL col_69 aSw [] (1, 607, 0) 2060 69 (pcI (jun_69 21) 0) = true := by decide +kernel
theorem cj_69_0_22 : cokL col_69 aSw [] (1, 607, 0) 2060 69 (pcI (jun_69 22) 0) = true := by decide +kernel
theorem cj_69_0_23 : cokL col_69 aSw [] (1, 607, 0) 2060 69 (pcI (jun_69 23) 0) = true := by decide +kernel
theorem cj_69_0_24 : cokL col_69 aSw [] (1, 607, 0) 2060 69 (pcI (jun_69 24) 0) = true := by decide +kernel
theorem cj_69_0_25 : cokL col_69 aSw [] (1, 607, 0) 2060 69 (pcI (jun_69 25) 0) = true := by decide +kernel
theorem cj_69_0_26 : cokL col_69 aSw [] (1, 607, 0) 2060 69 (pcI (jun_69 26) 0) = true := by decide +kernel
theorem cj_69_0_27 : cokL col_69 aSw [] (1, 607, 0) 2060 69 (pcI (jun_69 27) 0) = true := by decide +kernel
theorem cj_69_0_28 : cokL col_69 aSw [] (1, 607, 0) 2060 69 (pcI (jun_69 28) 0) = true := by decide +kernel
theorem cj_69_0_29 : cokL col_69 aSw [] (1, 607, 0) 2060 69 (pcI (jun_69 29) 0) = true := by decide +kernel
theorem cj_69_0_30 : cokL col_69 aSw [] (1, 607, 0) 2060 69 (pcI (jun_69 30) 0) = true := by decide +kernel
theorem cj_69_0_31 : cokL col_69 aSw [] (1, 607, 0) 2060 69 (pcI (jun_69 31) 0) = true := by decide +kernel
theorem cj_69_0_32 : cokL col_69 aSw [] (1, 607, 0) 2060 69 (pcI (jun_69 32) 0) = true := by decide +kernel
theorem cj_69_0_33 : cokL col_69 aSw [] (1, 607, 0) 2060 69 (pcI (jun_69 33) 0) = true := by decide +kernel
theorem cj_69_0_34 : cokL col_69 aSw [] (1, 607, 0) 2060 69 (pcI (jun_69 34) 0) = true := by decide +kernel
theorem cj_69_0_35 : cokL col_69 aSw [] (1, 607, 0) 2060 69 (pcI (jun_69 35) 0) = true := by decide +kernel
theorem cj_69_0_36 : cokL col_69 aSw [] (1, 607, 0) 2060 69 (pcI (jun_69 36) 0) = true := by decide +kernel
theorem cj_69_0_37 : cokL col_69 aSw [] (1, 607, 0) 2060 69 (pcI (jun_69 37) 0) = true := by decide +kernel
theorem cj_69_0_38 : cokL col_69 aSw [] (1, 607, 0) 2060 69 (pcI (jun_69 38) 0) = true := by decide +kernel
theorem cj_69_0_39 : cokL col_69 aSw [] (1, 607, 0) 2060 69 (pcI (jun_69 39) 0) = true := by decide +kernel
theorem cj_69_0_40 : cokL col_69 aSw [] (1, 607, 0) 2060 69 (pcI (jun_69 40) 0) = true := by decide +kernel
theorem cj_69_0_41 : cokL col_69 aSw [] (1, 607, 0) 2060 69 (pcI (jun_69 41) 0) = true := by decide +kernel
theorem cj_69_0_42 : cokL col_69 aSw [] (1, 607, 0) 2060 69 (pcI (jun_69 42) 0) = true := by decide +kernel
theorem cj_69_0_43 : cokL col_69 aSw [] (1, 607, 0) 2060 69 (pcI (jun_69 43) 0) = true := by decide +kernel
theorem cj_69_0_44 : cokL col_69 aSw [] (1, 607, 0) 2060 69 (pcI (jun_69 44) 0) = true := by decide +kernel
theorem cj_69_0_45 : cokL col_69 aSw [] (1, 607, 0) 2060 69 (pcI (jun_69 45) 0) = true := by decide +kernel
theorem cj_69_0_46 : cokL col_69 aSw [] (1, 607, 0) 2060 69 (pcI (jun_69 46) 0) = true := by decide +kernel
theorem cj_69_0_47 : cokL col_69 aSw [] (1, 607, 0) 2060 69 (pcI (jun_69 47) 0) = true := by decide +kernel
theorem cj_69_0_48 : cokL col_69 aSw [] (1, 607, 0) 2060 69 (pcI (jun_69 48) 0) = true := by decide +kernel
theorem cj_69_0_49 : cokL col_69 aSw [] (1, 607, 0) 2060 69 (pcI (jun_69 49) 0) = true := by decide +kernel
theorem cj_69_0_50 : cokL col_69 aSw [] (1, 607, 0) 2060 69 (pcI (jun_69 50) 0) = true := by decide +kernel
theorem cj_69_0_51 : cokL col_69 aSw [] (1, 607, 0) 2060 69 (pcI (jun_69 51) 0) = true := by decide +kernel
theorem cj_69_0_52 : cokL col_69 aSw [] (1, 607, 0) 2060 69 (pcI (jun_69 52) 0) = true := by decide +kernel
theorem cj_69_0_53 : cokL col_69 aSw [] (1, 607, 0) 2060 69 (pcI (jun_69 53) 0) = true := by decide +kernel
theorem ci_69_0 : cokL col_69 aSw [] (1, 607, 0) 2060 69 (pcI run_69 0) = true := cokL_J (n := 54) (N := jun_69) (by decide) (fun _ _ _ _ _ _ h => runJ_ok (by decide) h) (lt_all (lt_all (lt_all (lt_all (lt_all (lt_all (lt_all (lt_all (lt_all (lt_all (lt_all (lt_all (lt_all (lt_all (lt_all (lt_all (lt_all (lt_all (lt_all (lt_all (lt_all (lt_all (lt_all (lt_all (lt_all (lt_all (lt_all (lt_all (lt_all (lt_all (lt_all (lt_all (lt_all (lt_all (lt_all (lt_all (lt_all (lt_all (lt_all (lt_all (lt_all (lt_all (lt_all (lt_all (lt_all (lt_all (lt_all (lt_all (lt_all (lt_all (lt_all (lt_all (lt_all (lt_all (lt_none) cj_69_0_0) cj_69_0_1) cj_69_0_2) cj_69_0_3) cj_69_0_4) cj_69_0_5) cj_69_0_6) cj_69_0_7) cj_69_0_8) cj_69_0_9) cj_69_0_10) cj_69_0_11) cj_69_0_12) cj_69_0_13) cj_69_0_14) cj_69_0_15) cj_69_0_16) cj_69_0_17) cj_69_0_18) cj_69_0_19) cj_69_0_20) cj_69_0_21) cj_69_0_22) cj_69_0_23) cj_69_0_24) cj_69_0_25) cj_69_0_26) cj_69_0_27) cj_69_0_28) cj_69_0_29) cj_69_0_30) cj_69_0_31) cj_69_0_32) cj_69_0_33) cj_69_0_34) cj_69_0_35) cj_69_0_36) cj_69_0_37) cj_69_0_38) cj_69_0_39) cj_69_0_40) cj_69_0_41) cj_69_0_42) cj_69_0_43) cj_69_0_44) cj_69_0_45) cj_69_0_46) cj_69_0_47) cj_69_0_48) cj_69_0_49) cj_69_0_50) cj_69_0_51) cj_69_0_52) cj_69_0_53)
