/-! ===== the law, cases 0 and on ===== -/
theorem cs_0 : cok (runL tb_L_law ct_law (room_1.frames, room_1.locals) XS_6 (0, 6, 0) 82) aSw [] (1, 6, 0) 303 0 = true := by decide +kernel
theorem cs_1 : cok (runL tb_L_law ct_law (room_1.frames, room_1.locals) XS_6 (0, 6, 0) 82) aSw [] (1, 6, 0) 366 1 = true := by decide +kernel
theorem cs_2 : cok (runL tb_L_law ct_law (room_1.frames, room_1.locals) XS_6 (0, 6, 0) 82) aSw [] (1, 6, 0) 389 2 = true := by decide +kernel
theorem cs_3 : cok (runL tb_L_law ct_law (room_1.frames, room_1.locals) XS_6 (0, 6, 0) 82) aSw [] (1, 6, 0) 402 3 = true := by decide +kernel
theorem cs_4 : cok (runL tb_L_law ct_law (room_1.frames, room_1.locals) XS_6 (0, 6, 0) 82) aSw [] (1, 6, 0) 425 4 = true := by decide +kernel
theorem cs_5 : cok (runL tb_L_law ct_law (room_1.frames, room_1.locals) XS_6 (0, 6, 0) 82) aSw [] (1, 6, 0) 458 5 = true := by decide +kernel
theorem cs_6 : cok (runL tb_L_law ct_law (room_1.frames, room_1.locals) XS_6 (0, 6, 0) 82) aSw [] (1, 6, 0) 481 6 = true := by decide +kernel
theorem cs_7 : cok (runL tb_L_law ct_law (room_1.frames, room_1.locals) XS_6 (0, 6, 0) 82) aSw [] (1, 6, 0) 514 7 = true := by decide +kernel
theorem cs_8 : cok (runL tb_L_law ct_law (room_1.frames, room_1.locals) XS_6 (0, 6, 0) 82) aSw [] (1, 6, 0) 537 8 = true := by decide +kernel
