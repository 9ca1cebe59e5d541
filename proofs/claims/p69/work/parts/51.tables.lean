/-! ===== the tables of the methods ===== -/
theorem in_X12 : ∀ w ∈ u_ws RX12 TX12 45, w ∈ gTbl := ae_in [1445, 1447, 1449, 1451, 1453, 1455, 1457, 1459, 1461, 1463, 1465, 1467, 1469, 1471, 1473, 1475, 1477, 1479, 1481, 1483, 1485, 1487, 1489, 1491, 1493, 1495, 1497, 1499, 1501, 1503, 1505, 1507, 1509, 1511, 1513, 1515, 1517, 1519, 1521, 1523, 1525, 1527, 1529, 1531, 1533] (by decide +kernel) (by decide +kernel)
theorem fk_RX12_150 : FOK RX12 vwCl gTbl (150, 12, 12, 0) := ⟨RX12, TX12, 45, tyX12, rfl, by decide, in_X12, wd_1412, tyX12_ok, nmX12, fun _ => ⟨rfl, rfl⟩⟩
theorem fk_RX12_119 : FOK RX12 vwCl gTbl (119, 12, 8, 0) := ⟨RX12, TX12, 45, tyX12, rfl, by decide, in_X12, wd_1408, tyX12_ok, nmX12, fun _ => ⟨rfl, rfl⟩⟩
theorem fk_RX12_126 : FOK RX12 vwCl gTbl (126, 12, 9, 0) := ⟨RX12, TX12, 45, tyX12, rfl, by decide, in_X12, wd_1409, tyX12_ok, nmX12, fun _ => ⟨rfl, rfl⟩⟩
theorem fk_RX12_129 : FOK RX12 vwCl gTbl (129, 12, 10, 0) := ⟨RX12, TX12, 45, tyX12, rfl, by decide, in_X12, wd_1410, tyX12_ok, nmX12, fun _ => ⟨rfl, rfl⟩⟩
theorem fk_RX12_20 : FOK RX12 vwCl gTbl (20, 12, 4, 9) := ⟨RX12, TX12, 45, tyX12, rfl, by decide, in_X12, wd_1404, tyX12_ok, nmX12, fun h => absurd h (by decide)⟩
theorem jok : JOK gTbl := ae_in [621, 631, 625, 635, 641, 638, 646, 2186, 2187, 626, 642, 622, 623, 624, 139, 632, 633, 634, 636, 637, 140, 639, 640, 644, 645, 141, 619, 620, 629, 630] (by decide +kernel) (by decide +kernel)
