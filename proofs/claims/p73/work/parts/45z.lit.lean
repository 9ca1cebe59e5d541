/-! ===== long lists, said briefly ===== -/
noncomputable def jl_n {α : Type} (L : List (List α → List α)) : List α := List.rec (motive := fun _ => List α) [] (fun f _ ih => f ih) L
noncomputable def jl_r {α : Type} (n : Nat) (f : List α → List α) (l : List α) : List α := Nat.rec (motive := fun _ => List α) l (fun _ ih => f ih) n
noncomputable def jl_x {α : Type} (a : α) (l : List α) : List α := a :: l
/-- intervals: n times (0, 0); not below 0; from below 0; below 0; all ints; all longs -/
noncomputable def jl_z (n : Nat) (l : GI) : GI := Nat.rec (motive := fun _ => GI) l (fun _ ih => (Int.ofNat 0, Int.ofNat 0) :: ih) n
noncomputable def jl_i (a b : Nat) (l : GI) : GI := (Int.ofNat a, Int.ofNat b) :: l
noncomputable def jl_m (a b : Nat) (l : GI) : GI := (Int.negSucc a, Int.ofNat b) :: l
noncomputable def jl_k (a b : Nat) (l : GI) : GI := (Int.negSucc a, Int.negSucc b) :: l
noncomputable def jl_t (l : GI) : GI := (Int.negSucc 2147483647, Int.ofNat 2147483647) :: l
noncomputable def jl_u (l : GI) : GI := (Int.negSucc 9223372036854775807, Int.ofNat 9223372036854775807) :: l
/-- names, rows, values as they are: n of them in a row, the last one ahead of q -/
noncomputable def jl_1 (q n : Nat) (l : List AV) : List AV := Nat.rec (motive := fun _ => List AV) l (fun m ih => (1, Int.ofNat (Nat.sub q (Nat.succ m)), Int.ofNat 0) :: ih) n
noncomputable def jl_4 (q n : Nat) (l : List AV) : List AV := Nat.rec (motive := fun _ => List AV) l (fun m ih => (4, Int.ofNat (Nat.sub q (Nat.succ m)), Int.ofNat 0) :: ih) n
noncomputable def jl_6 (q n : Nat) (l : List AV) : List AV := Nat.rec (motive := fun _ => List AV) l (fun m ih => (6, Int.ofNat (Nat.sub q (Nat.succ m)), Int.ofNat 0) :: ih) n
noncomputable def jl_8 (q n : Nat) (l : List AV) : List AV := Nat.rec (motive := fun _ => List AV) l (fun m ih => (8, Int.ofNat (Nat.sub q (Nat.succ m)), Int.ofNat 0) :: ih) n
noncomputable def jl_c (v : Nat) (l : List AV) : List AV := (0, Int.ofNat v, Int.ofNat 0) :: l
/-- rows of numbers: lone names; n numbers within a .. b -/
noncomputable def js_1 (q n : Nat) (l : List (Nat × AV)) : List (Nat × AV) := Nat.rec (motive := fun _ => List (Nat × AV)) l (fun m ih => (1, (1, Int.ofNat (Nat.sub q (Nat.succ m)), Int.ofNat 0)) :: ih) n
noncomputable def js_4 (q n : Nat) (l : List (Nat × AV)) : List (Nat × AV) := Nat.rec (motive := fun _ => List (Nat × AV)) l (fun m ih => (1, (4, Int.ofNat (Nat.sub q (Nat.succ m)), Int.ofNat 0)) :: ih) n
noncomputable def js_2 (n a b : Nat) (l : List (Nat × AV)) : List (Nat × AV) := (n, (2, Int.ofNat a, Int.ofNat b)) :: l
noncomputable def js_m (n a b : Nat) (l : List (Nat × AV)) : List (Nat × AV) := (n, (2, Int.negSucc a, Int.ofNat b)) :: l
noncomputable def js_5 (n a b : Nat) (l : List (Nat × AV)) : List (Nat × AV) := (n, (5, Int.negSucc a, Int.ofNat b)) :: l
