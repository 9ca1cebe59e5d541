theorem zs_3 : staG tb_X12_advance 1 bt_RX12 [] ct_3 [] [] cu_3 52 con_3 = true := by decide +kernel
theorem zc_3 : cu_3.all (cutG tb_X12_advance 1 bt_RX12 [] ct_3 [] [] cu_3 52 con_3) = true := by decide +kernel
