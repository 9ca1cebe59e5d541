/-! ===== the law, cases 54 and on ===== -/
theorem cs_54 : cok (runL tb_L_law ct_law (room_1.frames, room_1.locals) XS_6 (0, 6, 0) 82) aSw [] (1, 6, 0) 1585 54 = true := by decide +kernel
theorem cs_55 : cok (runL tb_L_law ct_law (room_1.frames, room_1.locals) XS_6 (0, 6, 0) 82) aSw [] (1, 6, 0) 1618 55 = true := by decide +kernel
theorem cs_56 : cok (runL tb_L_law ct_law (room_1.frames, room_1.locals) XS_6 (0, 6, 0) 82) aSw [] (1, 6, 0) 1651 56 = true := by decide +kernel
theorem cs_57 : cok (runL tb_L_law ct_law (room_1.frames, room_1.locals) XS_6 (0, 6, 0) 82) aSw [] (1, 6, 0) 1704 57 = true := by decide +kernel
theorem cs_58 : cok (runL tb_L_law ct_law (room_1.frames, room_1.locals) XS_6 (0, 6, 0) 82) aSw [] (1, 6, 0) 1758 58 = true := by decide +kernel
theorem cs_59 : cok (runL tb_L_law ct_law (room_1.frames, room_1.locals) XS_6 (0, 6, 0) 82) aSw [] (1, 6, 0) 1792 59 = true := by decide +kernel
theorem cs_60 : cok (runL tb_L_law ct_law (room_1.frames, room_1.locals) XS_6 (0, 6, 0) 82) aSw [] (1, 6, 0) 1825 60 = true := by decide +kernel
theorem cs_61 : cok (runL tb_L_law ct_law (room_1.frames, room_1.locals) XS_6 (0, 6, 0) 82) aSw [] (1, 6, 0) 1858 61 = true := by decide +kernel
theorem cs_62 : cok (runL tb_L_law ct_law (room_1.frames, room_1.locals) XS_6 (0, 6, 0) 82) aSw [] (1, 6, 0) 1871 62 = true := by decide +kernel
