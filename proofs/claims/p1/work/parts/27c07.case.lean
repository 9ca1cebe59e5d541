/-! ===== the law, cases 63 and on ===== -/
theorem cs_63 : cok (runL tb_L_law ct_law (room_1.frames, room_1.locals) XS_6 (0, 6, 0) 82) aSw [] (1, 6, 0) 1884 63 = true := by decide +kernel
theorem cs_64 : cok (runL tb_L_law ct_law (room_1.frames, room_1.locals) XS_6 (0, 6, 0) 82) aSw [] (1, 6, 0) 1917 64 = true := by decide +kernel
theorem cs_65 : cok (runL tb_L_law ct_law (room_1.frames, room_1.locals) XS_6 (0, 6, 0) 82) aSw [] (1, 6, 0) 1960 65 = true := by decide +kernel
theorem cs_66 : cok (runL tb_L_law ct_law (room_1.frames, room_1.locals) XS_6 (0, 6, 0) 82) aSw [] (1, 6, 0) 1993 66 = true := by decide +kernel
theorem cs_67 : cok (runL tb_L_law ct_law (room_1.frames, room_1.locals) XS_6 (0, 6, 0) 82) aSw [] (1, 6, 0) 2016 67 = true := by decide +kernel
theorem cs_68 : cok (runL tb_L_law ct_law (room_1.frames, room_1.locals) XS_6 (0, 6, 0) 82) aSw [] (1, 6, 0) 2039 68 = true := by decide +kernel
theorem cs_69 : cok (runL tb_L_law ct_law (room_1.frames, room_1.locals) XS_6 (0, 6, 0) 82) aSw [] (1, 6, 0) 2062 69 = true := by decide +kernel
theorem cs_70 : cok (runL tb_L_law ct_law (room_1.frames, room_1.locals) XS_6 (0, 6, 0) 82) aSw [] (1, 6, 0) 2105 70 = true := by decide +kernel
theorem cs_71 : cok (runL tb_L_law ct_law (room_1.frames, room_1.locals) XS_6 (0, 6, 0) 82) aSw [] (1, 6, 0) 2178 71 = true := by decide +kernel
