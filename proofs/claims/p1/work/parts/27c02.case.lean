/-! ===== the law, cases 18 and on ===== -/
theorem cs_18 : cok (runL tb_L_law ct_law (room_1.frames, room_1.locals) XS_6 (0, 6, 0) 82) aSw [] (1, 6, 0) 797 18 = true := by decide +kernel
theorem cs_19 : cok (runL tb_L_law ct_law (room_1.frames, room_1.locals) XS_6 (0, 6, 0) 82) aSw [] (1, 6, 0) 820 19 = true := by decide +kernel
theorem cs_20 : cok (runL tb_L_law ct_law (room_1.frames, room_1.locals) XS_6 (0, 6, 0) 82) aSw [] (1, 6, 0) 833 20 = true := by decide +kernel
theorem cs_21 : cok (runL tb_L_law ct_law (room_1.frames, room_1.locals) XS_6 (0, 6, 0) 82) aSw [] (1, 6, 0) 866 21 = true := by decide +kernel
theorem cs_22 : cok (runL tb_L_law ct_law (room_1.frames, room_1.locals) XS_6 (0, 6, 0) 82) aSw [] (1, 6, 0) 899 22 = true := by decide +kernel
theorem cs_23 : cok (runL tb_L_law ct_law (room_1.frames, room_1.locals) XS_6 (0, 6, 0) 82) aSw [] (1, 6, 0) 932 23 = true := by decide +kernel
theorem cs_24 : cok (runL tb_L_law ct_law (room_1.frames, room_1.locals) XS_6 (0, 6, 0) 82) aSw [] (1, 6, 0) 965 24 = true := by decide +kernel
theorem cs_25 : cok (runL tb_L_law ct_law (room_1.frames, room_1.locals) XS_6 (0, 6, 0) 82) aSw [] (1, 6, 0) 998 25 = true := by decide +kernel
theorem cs_26 : cok (runL tb_L_law ct_law (room_1.frames, room_1.locals) XS_6 (0, 6, 0) 82) aSw [] (1, 6, 0) 1031 26 = true := by decide +kernel
