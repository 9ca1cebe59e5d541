theorem zb_0 : (List.range 3).all (fun i => Nat.ble i 4) = true := by decide +kernel
