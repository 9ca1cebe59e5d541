/-! ===== the law, cases 9 and on ===== -/
theorem cs_9 : cok (runL tb_L_law ct_law (room_1.frames, room_1.locals) XS_6 (0, 6, 0) 82) aSw [] (1, 6, 0) 570 9 = true := by decide +kernel
theorem cs_10 : cok (runL tb_L_law ct_law (room_1.frames, room_1.locals) XS_6 (0, 6, 0) 82) aSw [] (1, 6, 0) 613 10 = true := by decide +kernel
theorem cs_11 : cok (runL tb_L_law ct_law (room_1.frames, room_1.locals) XS_6 (0, 6, 0) 82) aSw [] (1, 6, 0) 646 11 = true := by decide +kernel
theorem cs_12 : cok (runL tb_L_law ct_law (room_1.frames, room_1.locals) XS_6 (0, 6, 0) 82) aSw [] (1, 6, 0) 669 12 = true := by decide +kernel
theorem cs_13 : cok (runL tb_L_law ct_law (room_1.frames, room_1.locals) XS_6 (0, 6, 0) 82) aSw [] (1, 6, 0) 692 13 = true := by decide +kernel
theorem cs_14 : cok (runL tb_L_law ct_law (room_1.frames, room_1.locals) XS_6 (0, 6, 0) 82) aSw [] (1, 6, 0) 715 14 = true := by decide +kernel
theorem cs_15 : cok (runL tb_L_law ct_law (room_1.frames, room_1.locals) XS_6 (0, 6, 0) 82) aSw [] (1, 6, 0) 748 15 = true := by decide +kernel
theorem cs_16 : cok (runL tb_L_law ct_law (room_1.frames, room_1.locals) XS_6 (0, 6, 0) 82) aSw [] (1, 6, 0) 761 16 = true := by decide +kernel
theorem cs_17 : cok (runL tb_L_law ct_law (room_1.frames, room_1.locals) XS_6 (0, 6, 0) 82) aSw [] (1, 6, 0) 774 17 = true := by decide +kernel
