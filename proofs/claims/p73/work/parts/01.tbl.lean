-- ===== PART A: goes FIRST, ahead of the names: the tables' words, and 'selects' of the private methods out of them =====
noncomputable def nthL {α : Type} (l : List α) : Nat → Option α := List.rec (motive := fun _ => Nat → Option α) (fun _ => none) (fun a _ ih n => Nat.rec (motive := fun _ => Option α) (some a) (fun m _ => ih m) n) l
theorem nthL_eq {α : Type} : ∀ {l : List α} {n : Nat}, nthL l n = l[n]?
  | [], n => by
    show (none : Option α) = _
    rw [List.getElem?_nil]
  | a :: r, 0 => rfl
  | a :: r, n + 1 => by
    show nthL r n = _
    rw [nthL_eq, List.getElem?_cons_succ]
theorem nthL_mem {α : Type} {l : List α} {n : Nat} {w : α} (h : nthL l n = some w) : w ∈ l := List.mem_of_getElem? (by rw [← nthL_eq]; exact h)
theorem lw_m1 {w : Cond} (i : Nat) (h : nthL tables_1_1 i = some w) : w ∈ tables_1 := List.mem_append_left _ (nthL_mem h)
theorem lw_m2 {w : Cond} (i : Nat) (h : nthL tables_1_2 i = some w) : w ∈ tables_1 := List.mem_append_right _ (List.mem_append_left _ (nthL_mem h))
theorem lw_m3 {w : Cond} (i : Nat) (h : nthL tables_1_3 i = some w) : w ∈ tables_1 := List.mem_append_right _ (List.mem_append_right _ (List.mem_append_left _ (nthL_mem h)))
theorem lw_m4 {w : Cond} (i : Nat) (h : nthL tables_1_4 i = some w) : w ∈ tables_1 := List.mem_append_right _ (List.mem_append_right _ (List.mem_append_right _ (List.mem_append_left _ (nthL_mem h))))
theorem lw_m5 {w : Cond} (i : Nat) (h : nthL tables_1_5 i = some w) : w ∈ tables_1 := List.mem_append_right _ (List.mem_append_right _ (List.mem_append_right _ (List.mem_append_right _ (List.mem_append_left _ (nthL_mem h)))))
theorem lw_m6 {w : Cond} (i : Nat) (h : nthL tables_1_6 i = some w) : w ∈ tables_1 := List.mem_append_right _ (List.mem_append_right _ (List.mem_append_right _ (List.mem_append_right _ (List.mem_append_right _ (List.mem_append_left _ (nthL_mem h))))))
theorem lw_m7 {w : Cond} (i : Nat) (h : nthL tables_1_7 i = some w) : w ∈ tables_1 := List.mem_append_right _ (List.mem_append_right _ (List.mem_append_right _ (List.mem_append_right _ (List.mem_append_right _ (List.mem_append_right _ (List.mem_append_left _ (nthL_mem h)))))))
theorem lw_m8 {w : Cond} (i : Nat) (h : nthL tables_1_8 i = some w) : w ∈ tables_1 := List.mem_append_right _ (List.mem_append_right _ (List.mem_append_right _ (List.mem_append_right _ (List.mem_append_right _ (List.mem_append_right _ (List.mem_append_right _ (List.mem_append_left _ (nthL_mem h))))))))
theorem lw_m9 {w : Cond} (i : Nat) (h : nthL tables_1_9 i = some w) : w ∈ tables_1 := List.mem_append_right _ (List.mem_append_right _ (List.mem_append_right _ (List.mem_append_right _ (List.mem_append_right _ (List.mem_append_right _ (List.mem_append_right _ (List.mem_append_right _ ((nthL_mem h)))))))))
/-- a private method of a class that the tables say can be made, by its rows of tables_1 -/
def lw_okq (q : MethodName × Nat) : Prop := (q.1.cls ≠ "java/lang/invoke/MethodHandle" ∧ q.1.cls ≠ "java/lang/invoke/VarHandle") ∧ Cond.instantiable q.1.cls q.2 ∈ tables_1 ∧ Cond.privateMethod q.1 ∈ tables_1 ∧ Cond.instanceMethod q.1 ∈ tables_1
set_option maxRecDepth 16384 in
theorem lw_p0 : lw_okq (⟨"RookHusting$Reader", "readHead", "()V"⟩, 4) := ⟨⟨by decide +kernel, by decide +kernel⟩, lw_m1 60 rfl, lw_m3 2 rfl, lw_m3 3 rfl⟩
set_option maxRecDepth 16384 in
theorem lw_p1 : lw_okq (⟨"RookHusting$Reader", "takeWord", "(Ljava/lang/String;)V"⟩, 4) := ⟨⟨by decide +kernel, by decide +kernel⟩, lw_m1 60 rfl, lw_m3 7 rfl, lw_m3 8 rfl⟩
set_option maxRecDepth 16384 in
theorem lw_p2 : lw_okq (⟨"RookHusting$Reader", "blame", "(I)V"⟩, 4) := ⟨⟨by decide +kernel, by decide +kernel⟩, lw_m1 60 rfl, lw_m3 63 rfl, lw_m3 64 rfl⟩
set_option maxRecDepth 16384 in
theorem lw_p3 : lw_okq (⟨"RookHusting$Reader", "takeNamed", "(Ljava/lang/String;II)I"⟩, 4) := ⟨⟨by decide +kernel, by decide +kernel⟩, lw_m1 60 rfl, lw_m3 69 rfl, lw_m3 70 rfl⟩
set_option maxRecDepth 16384 in
theorem lw_p4 : lw_okq (⟨"RookHusting$Reader", "takeNumber", "(III)I"⟩, 4) := ⟨⟨by decide +kernel, by decide +kernel⟩, lw_m1 60 rfl, lw_m3 73 rfl, lw_m3 74 rfl⟩
set_option maxRecDepth 16384 in
theorem lw_p5 : lw_okq (⟨"RookHusting$Reader", "readField", "()V"⟩, 4) := ⟨⟨by decide +kernel, by decide +kernel⟩, lw_m1 60 rfl, lw_m3 83 rfl, lw_m3 84 rfl⟩
set_option maxRecDepth 16384 in
theorem lw_p6 : lw_okq (⟨"RookHusting$Reader", "readHedge", "()V"⟩, 4) := ⟨⟨by decide +kernel, by decide +kernel⟩, lw_m1 60 rfl, lw_m3 94 rfl, lw_m3 95 rfl⟩
set_option maxRecDepth 16384 in
theorem lw_p7 : lw_okq (⟨"RookHusting$Reader", "readMan", "()V"⟩, 4) := ⟨⟨by decide +kernel, by decide +kernel⟩, lw_m1 60 rfl, lw_m3 103 rfl, lw_m3 104 rfl⟩
set_option maxRecDepth 16384 in
theorem lw_p8 : lw_okq (⟨"RookHusting$Reader", "readVoter", "()V"⟩, 4) := ⟨⟨by decide +kernel, by decide +kernel⟩, lw_m1 60 rfl, lw_m3 114 rfl, lw_m3 115 rfl⟩
set_option maxRecDepth 16384 in
theorem lw_p9 : lw_okq (⟨"RookHusting$Reader", "takeSign", "()V"⟩, 4) := ⟨⟨by decide +kernel, by decide +kernel⟩, lw_m1 60 rfl, lw_m3 127 rfl, lw_m3 128 rfl⟩
set_option maxRecDepth 16384 in
theorem lw_p10 : lw_okq (⟨"RookHusting", "forget", "()V"⟩, 16) := ⟨⟨by decide +kernel, by decide +kernel⟩, lw_m1 22 rfl, lw_m3 138 rfl, lw_m3 139 rfl⟩
set_option maxRecDepth 16384 in
theorem lw_p11 : lw_okq (⟨"RookHusting", "isField", "(I)Z"⟩, 16) := ⟨⟨by decide +kernel, by decide +kernel⟩, lw_m1 22 rfl, lw_m3 150 rfl, lw_m3 151 rfl⟩
set_option maxRecDepth 16384 in
theorem lw_p12 : lw_okq (⟨"RookHusting", "isMan", "(I)Z"⟩, 16) := ⟨⟨by decide +kernel, by decide +kernel⟩, lw_m1 22 rfl, lw_m3 165 rfl, lw_m3 166 rfl⟩
set_option maxRecDepth 16384 in
theorem lw_p13 : lw_okq (⟨"RookHusting", "isVoter", "(I)Z"⟩, 16) := ⟨⟨by decide +kernel, by decide +kernel⟩, lw_m1 22 rfl, lw_m3 173 rfl, lw_m3 174 rfl⟩
set_option maxRecDepth 16384 in
theorem lw_p14 : lw_okq (⟨"RookHusting", "isSet", "(I)Z"⟩, 16) := ⟨⟨by decide +kernel, by decide +kernel⟩, lw_m1 22 rfl, lw_m3 185 rfl, lw_m3 186 rfl⟩
set_option maxRecDepth 16384 in
theorem lw_p15 : lw_okq (⟨"RookHusting", "isTold", "()Z"⟩, 16) := ⟨⟨by decide +kernel, by decide +kernel⟩, lw_m1 22 rfl, lw_m3 189 rfl, lw_m3 190 rfl⟩
def lw_privs_1 : List (MethodName × Nat) := [(⟨"RookHusting$Reader", "readHead", "()V"⟩, 4), (⟨"RookHusting$Reader", "takeWord", "(Ljava/lang/String;)V"⟩, 4), (⟨"RookHusting$Reader", "blame", "(I)V"⟩, 4), (⟨"RookHusting$Reader", "takeNamed", "(Ljava/lang/String;II)I"⟩, 4), (⟨"RookHusting$Reader", "takeNumber", "(III)I"⟩, 4), (⟨"RookHusting$Reader", "readField", "()V"⟩, 4), (⟨"RookHusting$Reader", "readHedge", "()V"⟩, 4), (⟨"RookHusting$Reader", "readMan", "()V"⟩, 4), (⟨"RookHusting$Reader", "readVoter", "()V"⟩, 4), (⟨"RookHusting$Reader", "takeSign", "()V"⟩, 4), (⟨"RookHusting", "forget", "()V"⟩, 16), (⟨"RookHusting", "isField", "(I)Z"⟩, 16), (⟨"RookHusting", "isMan", "(I)Z"⟩, 16), (⟨"RookHusting", "isVoter", "(I)Z"⟩, 16), (⟨"RookHusting", "isSet", "(I)Z"⟩, 16), (⟨"RookHusting", "isTold", "()Z"⟩, 16)]
theorem lw_r1 : ∀ q ∈ lw_privs_1, lw_okq q := List.forall_mem_cons.mpr ⟨lw_p0, List.forall_mem_cons.mpr ⟨lw_p1, List.forall_mem_cons.mpr ⟨lw_p2, List.forall_mem_cons.mpr ⟨lw_p3, List.forall_mem_cons.mpr ⟨lw_p4, List.forall_mem_cons.mpr ⟨lw_p5, List.forall_mem_cons.mpr ⟨lw_p6, List.forall_mem_cons.mpr ⟨lw_p7, List.forall_mem_cons.mpr ⟨lw_p8, List.forall_mem_cons.mpr ⟨lw_p9, List.forall_mem_cons.mpr ⟨lw_p10, List.forall_mem_cons.mpr ⟨lw_p11, List.forall_mem_cons.mpr ⟨lw_p12, List.forall_mem_cons.mpr ⟨lw_p13, List.forall_mem_cons.mpr ⟨lw_p14, List.forall_mem_cons.mpr ⟨lw_p15, fun _ h => absurd h List.not_mem_nil⟩⟩⟩⟩⟩⟩⟩⟩⟩⟩⟩⟩⟩⟩⟩⟩
set_option maxRecDepth 16384 in
theorem lw_p16 : lw_okq (⟨"RookHusting$Election", "lastOfFewest", "([III)I"⟩, 2) := ⟨⟨by decide +kernel, by decide +kernel⟩, lw_m1 239 rfl, lw_m3 215 rfl, lw_m3 216 rfl⟩
set_option maxRecDepth 16384 in
theorem lw_p17 : lw_okq (⟨"RookHusting$Election", "firstOfMost", "([IIII)I"⟩, 2) := ⟨⟨by decide +kernel, by decide +kernel⟩, lw_m1 239 rfl, lw_m3 222 rfl, lw_m3 223 rfl⟩
set_option maxRecDepth 16384 in
theorem lw_p18 : lw_okq (⟨"RookHusting$Election", "allMen", "()I"⟩, 2) := ⟨⟨by decide +kernel, by decide +kernel⟩, lw_m1 239 rfl, lw_m3 234 rfl, lw_m3 235 rfl⟩
set_option maxRecDepth 16384 in
theorem lw_p19 : lw_okq (⟨"RookHusting", "settle", "()V"⟩, 16) := ⟨⟨by decide +kernel, by decide +kernel⟩, lw_m1 22 rfl, lw_m4 3 rfl, lw_m4 4 rfl⟩
set_option maxRecDepth 16384 in
theorem lw_p20 : lw_okq (⟨"RookHusting$Harvest", "frighten", "(LRookHusting$Hundred;LRookHusting$Scene;I)V"⟩, 9) := ⟨⟨by decide +kernel, by decide +kernel⟩, lw_m2 41 rfl, lw_m4 28 rfl, lw_m4 29 rfl⟩
set_option maxRecDepth 16384 in
theorem lw_p21 : lw_okq (⟨"RookHusting$Harvest", "beginNextDay", "(I)V"⟩, 9) := ⟨⟨by decide +kernel, by decide +kernel⟩, lw_m2 41 rfl, lw_m4 36 rfl, lw_m4 37 rfl⟩
set_option maxRecDepth 16384 in
theorem lw_p22 : lw_okq (⟨"RookHusting$Harvest", "eatAndFly", "(LRookHusting$Scene;I)V"⟩, 9) := ⟨⟨by decide +kernel, by decide +kernel⟩, lw_m2 41 rfl, lw_m4 40 rfl, lw_m4 41 rfl⟩
set_option maxRecDepth 16384 in
theorem lw_p23 : lw_okq (⟨"RookHusting$Harvest", "leastFeared", "(II)I"⟩, 9) := ⟨⟨by decide +kernel, by decide +kernel⟩, lw_m2 41 rfl, lw_m4 45 rfl, lw_m4 46 rfl⟩
set_option maxRecDepth 16384 in
theorem lw_p24 : lw_okq (⟨"RookHusting$Election", "isWantedMore", "(III)Z"⟩, 2) := ⟨⟨by decide +kernel, by decide +kernel⟩, lw_m1 239 rfl, lw_m4 62 rfl, lw_m4 63 rfl⟩
set_option maxRecDepth 16384 in
theorem lw_p25 : lw_okq (⟨"RookHusting$Election", "isOver", "(II)Z"⟩, 2) := ⟨⟨by decide +kernel, by decide +kernel⟩, lw_m1 239 rfl, lw_m4 74 rfl, lw_m4 75 rfl⟩
set_option maxRecDepth 16384 in
theorem lw_p26 : lw_okq (⟨"RookHusting$Election", "isRing", "(III)Z"⟩, 2) := ⟨⟨by decide +kernel, by decide +kernel⟩, lw_m1 239 rfl, lw_m4 87 rfl, lw_m4 88 rfl⟩
set_option maxRecDepth 16384 in
theorem lw_p27 : lw_okq (⟨"RookHusting$Election", "hatsOf", "(I)I"⟩, 2) := ⟨⟨by decide +kernel, by decide +kernel⟩, lw_m1 239 rfl, lw_m4 99 rfl, lw_m4 100 rfl⟩
set_option maxRecDepth 16384 in
theorem lw_p28 : lw_okq (⟨"RookHusting$Election", "winnerOfAll", "(I)I"⟩, 2) := ⟨⟨by decide +kernel, by decide +kernel⟩, lw_m1 239 rfl, lw_m4 103 rfl, lw_m4 104 rfl⟩
set_option maxRecDepth 16384 in
theorem lw_p29 : lw_okq (⟨"RookHusting", "learnPlain", "()V"⟩, 16) := ⟨⟨by decide +kernel, by decide +kernel⟩, lw_m1 22 rfl, lw_m4 111 rfl, lw_m4 112 rfl⟩
set_option maxRecDepth 16384 in
theorem lw_p30 : lw_okq (⟨"RookHusting$Election", "gainsBehind", "(IIII)Z"⟩, 2) := ⟨⟨by decide +kernel, by decide +kernel⟩, lw_m1 239 rfl, lw_m4 120 rfl, lw_m4 121 rfl⟩
set_option maxRecDepth 16384 in
theorem lw_p31 : lw_okq (⟨"RookHusting", "isDay", "(I)Z"⟩, 16) := ⟨⟨by decide +kernel, by decide +kernel⟩, lw_m1 22 rfl, lw_m4 173 rfl, lw_m4 174 rfl⟩
def lw_privs_2 : List (MethodName × Nat) := [(⟨"RookHusting$Election", "lastOfFewest", "([III)I"⟩, 2), (⟨"RookHusting$Election", "firstOfMost", "([IIII)I"⟩, 2), (⟨"RookHusting$Election", "allMen", "()I"⟩, 2), (⟨"RookHusting", "settle", "()V"⟩, 16), (⟨"RookHusting$Harvest", "frighten", "(LRookHusting$Hundred;LRookHusting$Scene;I)V"⟩, 9), (⟨"RookHusting$Harvest", "beginNextDay", "(I)V"⟩, 9), (⟨"RookHusting$Harvest", "eatAndFly", "(LRookHusting$Scene;I)V"⟩, 9), (⟨"RookHusting$Harvest", "leastFeared", "(II)I"⟩, 9), (⟨"RookHusting$Election", "isWantedMore", "(III)Z"⟩, 2), (⟨"RookHusting$Election", "isOver", "(II)Z"⟩, 2), (⟨"RookHusting$Election", "isRing", "(III)Z"⟩, 2), (⟨"RookHusting$Election", "hatsOf", "(I)I"⟩, 2), (⟨"RookHusting$Election", "winnerOfAll", "(I)I"⟩, 2), (⟨"RookHusting", "learnPlain", "()V"⟩, 16), (⟨"RookHusting$Election", "gainsBehind", "(IIII)Z"⟩, 2), (⟨"RookHusting", "isDay", "(I)Z"⟩, 16)]
theorem lw_r2 : ∀ q ∈ lw_privs_2, lw_okq q := List.forall_mem_cons.mpr ⟨lw_p16, List.forall_mem_cons.mpr ⟨lw_p17, List.forall_mem_cons.mpr ⟨lw_p18, List.forall_mem_cons.mpr ⟨lw_p19, List.forall_mem_cons.mpr ⟨lw_p20, List.forall_mem_cons.mpr ⟨lw_p21, List.forall_mem_cons.mpr ⟨lw_p22, List.forall_mem_cons.mpr ⟨lw_p23, List.forall_mem_cons.mpr ⟨lw_p24, List.forall_mem_cons.mpr ⟨lw_p25, List.forall_mem_cons.mpr ⟨lw_p26, List.forall_mem_cons.mpr ⟨lw_p27, List.forall_mem_cons.mpr ⟨lw_p28, List.forall_mem_cons.mpr ⟨lw_p29, List.forall_mem_cons.mpr ⟨lw_p30, List.forall_mem_cons.mpr ⟨lw_p31, fun _ h => absurd h List.not_mem_nil⟩⟩⟩⟩⟩⟩⟩⟩⟩⟩⟩⟩⟩⟩⟩⟩
set_option maxRecDepth 16384 in
theorem lw_p32 : lw_okq (⟨"RookHusting", "cellNow", "([III)I"⟩, 16) := ⟨⟨by decide +kernel, by decide +kernel⟩, lw_m1 22 rfl, lw_m4 177 rfl, lw_m4 178 rfl⟩
set_option maxRecDepth 16384 in
theorem lw_p33 : lw_okq (⟨"RookHusting", "isEatingDay", "(I)Z"⟩, 16) := ⟨⟨by decide +kernel, by decide +kernel⟩, lw_m1 22 rfl, lw_m4 193 rfl, lw_m4 194 rfl⟩
set_option maxRecDepth 16384 in
theorem lw_p34 : lw_okq (⟨"RookHusting", "sumNow", "([II)I"⟩, 16) := ⟨⟨by decide +kernel, by decide +kernel⟩, lw_m1 22 rfl, lw_m4 205 rfl, lw_m4 206 rfl⟩
set_option maxRecDepth 16384 in
theorem lw_p35 : lw_okq (⟨"RookHusting", "mostNow", "([II)I"⟩, 16) := ⟨⟨by decide +kernel, by decide +kernel⟩, lw_m1 22 rfl, lw_m4 217 rfl, lw_m4 218 rfl⟩
set_option maxRecDepth 16384 in
theorem lw_p36 : lw_okq (⟨"RookHusting", "firstZeroNow", "([II)I"⟩, 16) := ⟨⟨by decide +kernel, by decide +kernel⟩, lw_m1 22 rfl, lw_m4 233 rfl, lw_m4 234 rfl⟩
set_option maxRecDepth 16384 in
theorem lw_p37 : lw_okq (⟨"RookHusting$PutSearch", "fillFrom", "(II)V"⟩, 8) := ⟨⟨by decide +kernel, by decide +kernel⟩, lw_m2 82 rfl, lw_m5 66 rfl, lw_m5 67 rfl⟩
set_option maxRecDepth 16384 in
theorem lw_p38 : lw_okq (⟨"RookHusting$PutSearch", "weighRow", "(I)V"⟩, 8) := ⟨⟨by decide +kernel, by decide +kernel⟩, lw_m2 82 rfl, lw_m5 71 rfl, lw_m5 72 rfl⟩
set_option maxRecDepth 16384 in
theorem lw_p39 : lw_okq (⟨"RookHusting", "leftByLaw", "(I)I"⟩, 16) := ⟨⟨by decide +kernel, by decide +kernel⟩, lw_m1 22 rfl, lw_m5 96 rfl, lw_m5 97 rfl⟩
set_option maxRecDepth 16384 in
theorem lw_p40 : lw_okq (⟨"RookHusting", "leftOnTrial", "()I"⟩, 16) := ⟨⟨by decide +kernel, by decide +kernel⟩, lw_m1 22 rfl, lw_m5 100 rfl, lw_m5 101 rfl⟩
set_option maxRecDepth 16384 in
theorem lw_p41 : lw_okq (⟨"RookHusting", "wrongSeen", "(II)I"⟩, 16) := ⟨⟨by decide +kernel, by decide +kernel⟩, lw_m1 22 rfl, lw_m5 121 rfl, lw_m5 122 rfl⟩
set_option maxRecDepth 16384 in
theorem lw_p42 : lw_okq (⟨"RookHusting", "guessAll", "(II)V"⟩, 16) := ⟨⟨by decide +kernel, by decide +kernel⟩, lw_m1 22 rfl, lw_m5 139 rfl, lw_m5 140 rfl⟩
set_option maxRecDepth 16384 in
theorem lw_p43 : lw_okq (⟨"RookHusting", "isAsSeen", "(I)Z"⟩, 16) := ⟨⟨by decide +kernel, by decide +kernel⟩, lw_m1 22 rfl, lw_m5 144 rfl, lw_m5 145 rfl⟩
set_option maxRecDepth 16384 in
theorem lw_p44 : lw_okq (⟨"RookHusting$Guesses", "mostAlike", "(I)I"⟩, 4) := ⟨⟨by decide +kernel, by decide +kernel⟩, lw_m2 118 rfl, lw_m5 162 rfl, lw_m5 163 rfl⟩
set_option maxRecDepth 16384 in
theorem lw_p45 : lw_okq (⟨"RookHusting$Guesses", "countAlike", "(II)I"⟩, 4) := ⟨⟨by decide +kernel, by decide +kernel⟩, lw_m2 118 rfl, lw_m5 167 rfl, lw_m5 168 rfl⟩
set_option maxRecDepth 16384 in
theorem lw_p46 : lw_okq (⟨"RookHusting", "gainOf", "(IIII)I"⟩, 16) := ⟨⟨by decide +kernel, by decide +kernel⟩, lw_m1 22 rfl, lw_m5 180 rfl, lw_m5 181 rfl⟩
set_option maxRecDepth 16384 in
theorem lw_p47 : lw_okq (⟨"RookHusting", "isChanceDay", "(I)Z"⟩, 16) := ⟨⟨by decide +kernel, by decide +kernel⟩, lw_m1 22 rfl, lw_m5 192 rfl, lw_m5 193 rfl⟩
def lw_privs_3 : List (MethodName × Nat) := [(⟨"RookHusting", "cellNow", "([III)I"⟩, 16), (⟨"RookHusting", "isEatingDay", "(I)Z"⟩, 16), (⟨"RookHusting", "sumNow", "([II)I"⟩, 16), (⟨"RookHusting", "mostNow", "([II)I"⟩, 16), (⟨"RookHusting", "firstZeroNow", "([II)I"⟩, 16), (⟨"RookHusting$PutSearch", "fillFrom", "(II)V"⟩, 8), (⟨"RookHusting$PutSearch", "weighRow", "(I)V"⟩, 8), (⟨"RookHusting", "leftByLaw", "(I)I"⟩, 16), (⟨"RookHusting", "leftOnTrial", "()I"⟩, 16), (⟨"RookHusting", "wrongSeen", "(II)I"⟩, 16), (⟨"RookHusting", "guessAll", "(II)V"⟩, 16), (⟨"RookHusting", "isAsSeen", "(I)Z"⟩, 16), (⟨"RookHusting$Guesses", "mostAlike", "(I)I"⟩, 4), (⟨"RookHusting$Guesses", "countAlike", "(II)I"⟩, 4), (⟨"RookHusting", "gainOf", "(IIII)I"⟩, 16), (⟨"RookHusting", "isChanceDay", "(I)Z"⟩, 16)]
theorem lw_r3 : ∀ q ∈ lw_privs_3, lw_okq q := List.forall_mem_cons.mpr ⟨lw_p32, List.forall_mem_cons.mpr ⟨lw_p33, List.forall_mem_cons.mpr ⟨lw_p34, List.forall_mem_cons.mpr ⟨lw_p35, List.forall_mem_cons.mpr ⟨lw_p36, List.forall_mem_cons.mpr ⟨lw_p37, List.forall_mem_cons.mpr ⟨lw_p38, List.forall_mem_cons.mpr ⟨lw_p39, List.forall_mem_cons.mpr ⟨lw_p40, List.forall_mem_cons.mpr ⟨lw_p41, List.forall_mem_cons.mpr ⟨lw_p42, List.forall_mem_cons.mpr ⟨lw_p43, List.forall_mem_cons.mpr ⟨lw_p44, List.forall_mem_cons.mpr ⟨lw_p45, List.forall_mem_cons.mpr ⟨lw_p46, List.forall_mem_cons.mpr ⟨lw_p47, fun _ h => absurd h List.not_mem_nil⟩⟩⟩⟩⟩⟩⟩⟩⟩⟩⟩⟩⟩⟩⟩⟩
set_option maxRecDepth 16384 in
theorem lw_p48 : lw_okq (⟨"RookHusting", "windWeight", "(II)J"⟩, 16) := ⟨⟨by decide +kernel, by decide +kernel⟩, lw_m1 22 rfl, lw_m5 197 rfl, lw_m5 198 rfl⟩
set_option maxRecDepth 16384 in
theorem lw_p49 : lw_okq (⟨"RookHusting", "drawWind", "(J)I"⟩, 16) := ⟨⟨by decide +kernel, by decide +kernel⟩, lw_m1 22 rfl, lw_m5 217 rfl, lw_m5 218 rfl⟩
set_option maxRecDepth 16384 in
theorem lw_p50 : lw_okq (⟨"RookHusting", "drawHarvest", "(J)V"⟩, 16) := ⟨⟨by decide +kernel, by decide +kernel⟩, lw_m1 22 rfl, lw_m5 225 rfl, lw_m5 226 rfl⟩
set_option maxRecDepth 16384 in
theorem lw_p51 : lw_okq (⟨"RookHustingModel", "advance", "()V"⟩, 45) := ⟨⟨by decide +kernel, by decide +kernel⟩, lw_m6 72 rfl, lw_m7 2 rfl, lw_m7 3 rfl⟩
set_option maxRecDepth 16384 in
theorem lw_p52 : lw_okq (⟨"RookHustingModel", "see", "(I)I"⟩, 45) := ⟨⟨by decide +kernel, by decide +kernel⟩, lw_m6 72 rfl, lw_m7 6 rfl, lw_m7 7 rfl⟩
set_option maxRecDepth 16384 in
theorem lw_p53 : lw_okq (⟨"RookHustingModel", "good", "()Z"⟩, 45) := ⟨⟨by decide +kernel, by decide +kernel⟩, lw_m6 72 rfl, lw_m7 16 rfl, lw_m7 17 rfl⟩
set_option maxRecDepth 16384 in
theorem lw_p54 : lw_okq (⟨"RookHustingModel", "readLine", "()V"⟩, 45) := ⟨⟨by decide +kernel, by decide +kernel⟩, lw_m6 72 rfl, lw_m7 20 rfl, lw_m7 21 rfl⟩
set_option maxRecDepth 16384 in
theorem lw_p55 : lw_okq (⟨"RookHustingModel", "readFirst", "()V"⟩, 45) := ⟨⟨by decide +kernel, by decide +kernel⟩, lw_m6 72 rfl, lw_m7 24 rfl, lw_m7 25 rfl⟩
set_option maxRecDepth 16384 in
theorem lw_p56 : lw_okq (⟨"RookHustingModel", "expects", "(Ljava/lang/String;)V"⟩, 45) := ⟨⟨by decide +kernel, by decide +kernel⟩, lw_m6 72 rfl, lw_m7 29 rfl, lw_m7 30 rfl⟩
set_option maxRecDepth 16384 in
theorem lw_p57 : lw_okq (⟨"RookHustingModel", "takes", "(Ljava/lang/String;)Z"⟩, 45) := ⟨⟨by decide +kernel, by decide +kernel⟩, lw_m6 72 rfl, lw_m7 33 rfl, lw_m7 34 rfl⟩
set_option maxRecDepth 16384 in
theorem lw_p58 : lw_okq (⟨"RookHustingModel", "is", "(Ljava/lang/String;)Z"⟩, 45) := ⟨⟨by decide +kernel, by decide +kernel⟩, lw_m6 72 rfl, lw_m7 37 rfl, lw_m7 38 rfl⟩
set_option maxRecDepth 16384 in
theorem lw_p59 : lw_okq (⟨"RookHustingModel", "errs", "(I)V"⟩, 45) := ⟨⟨by decide +kernel, by decide +kernel⟩, lw_m6 72 rfl, lw_m7 43 rfl, lw_m7 44 rfl⟩
set_option maxRecDepth 16384 in
theorem lw_p60 : lw_okq (⟨"RookHustingModel", "told", "(Ljava/lang/String;II)I"⟩, 45) := ⟨⟨by decide +kernel, by decide +kernel⟩, lw_m6 72 rfl, lw_m7 48 rfl, lw_m7 49 rfl⟩
set_option maxRecDepth 16384 in
theorem lw_p61 : lw_okq (⟨"RookHustingModel", "number", "(II)I"⟩, 45) := ⟨⟨by decide +kernel, by decide +kernel⟩, lw_m6 72 rfl, lw_m7 52 rfl, lw_m7 53 rfl⟩
set_option maxRecDepth 16384 in
theorem lw_p62 : lw_okq (⟨"RookHustingModel", "readNext", "()V"⟩, 45) := ⟨⟨by decide +kernel, by decide +kernel⟩, lw_m6 72 rfl, lw_m7 58 rfl, lw_m7 59 rfl⟩
set_option maxRecDepth 16384 in
theorem lw_p63 : lw_okq (⟨"RookHustingModel", "isFull", "()Z"⟩, 45) := ⟨⟨by decide +kernel, by decide +kernel⟩, lw_m6 72 rfl, lw_m7 66 rfl, lw_m7 67 rfl⟩
def lw_privs_4 : List (MethodName × Nat) := [(⟨"RookHusting", "windWeight", "(II)J"⟩, 16), (⟨"RookHusting", "drawWind", "(J)I"⟩, 16), (⟨"RookHusting", "drawHarvest", "(J)V"⟩, 16), (⟨"RookHustingModel", "advance", "()V"⟩, 45), (⟨"RookHustingModel", "see", "(I)I"⟩, 45), (⟨"RookHustingModel", "good", "()Z"⟩, 45), (⟨"RookHustingModel", "readLine", "()V"⟩, 45), (⟨"RookHustingModel", "readFirst", "()V"⟩, 45), (⟨"RookHustingModel", "expects", "(Ljava/lang/String;)V"⟩, 45), (⟨"RookHustingModel", "takes", "(Ljava/lang/String;)Z"⟩, 45), (⟨"RookHustingModel", "is", "(Ljava/lang/String;)Z"⟩, 45), (⟨"RookHustingModel", "errs", "(I)V"⟩, 45), (⟨"RookHustingModel", "told", "(Ljava/lang/String;II)I"⟩, 45), (⟨"RookHustingModel", "number", "(II)I"⟩, 45), (⟨"RookHustingModel", "readNext", "()V"⟩, 45), (⟨"RookHustingModel", "isFull", "()Z"⟩, 45)]
theorem lw_r4 : ∀ q ∈ lw_privs_4, lw_okq q := List.forall_mem_cons.mpr ⟨lw_p48, List.forall_mem_cons.mpr ⟨lw_p49, List.forall_mem_cons.mpr ⟨lw_p50, List.forall_mem_cons.mpr ⟨lw_p51, List.forall_mem_cons.mpr ⟨lw_p52, List.forall_mem_cons.mpr ⟨lw_p53, List.forall_mem_cons.mpr ⟨lw_p54, List.forall_mem_cons.mpr ⟨lw_p55, List.forall_mem_cons.mpr ⟨lw_p56, List.forall_mem_cons.mpr ⟨lw_p57, List.forall_mem_cons.mpr ⟨lw_p58, List.forall_mem_cons.mpr ⟨lw_p59, List.forall_mem_cons.mpr ⟨lw_p60, List.forall_mem_cons.mpr ⟨lw_p61, List.forall_mem_cons.mpr ⟨lw_p62, List.forall_mem_cons.mpr ⟨lw_p63, fun _ h => absurd h List.not_mem_nil⟩⟩⟩⟩⟩⟩⟩⟩⟩⟩⟩⟩⟩⟩⟩⟩
set_option maxRecDepth 16384 in
theorem lw_p64 : lw_okq (⟨"RookHustingModel", "readHedge", "()V"⟩, 45) := ⟨⟨by decide +kernel, by decide +kernel⟩, lw_m6 72 rfl, lw_m7 72 rfl, lw_m7 73 rfl⟩
set_option maxRecDepth 16384 in
theorem lw_p65 : lw_okq (⟨"RookHustingModel", "readVoter", "()V"⟩, 45) := ⟨⟨by decide +kernel, by decide +kernel⟩, lw_m6 72 rfl, lw_m7 78 rfl, lw_m7 79 rfl⟩
set_option maxRecDepth 16384 in
theorem lw_p66 : lw_okq (⟨"RookHustingModel", "isField", "(J)Z"⟩, 45) := ⟨⟨by decide +kernel, by decide +kernel⟩, lw_m6 72 rfl, lw_m7 90 rfl, lw_m7 91 rfl⟩
set_option maxRecDepth 16384 in
theorem lw_p67 : lw_okq (⟨"RookHustingModel", "fields", "()I"⟩, 45) := ⟨⟨by decide +kernel, by decide +kernel⟩, lw_m6 72 rfl, lw_m7 94 rfl, lw_m7 95 rfl⟩
set_option maxRecDepth 16384 in
theorem lw_p68 : lw_okq (⟨"RookHustingModel", "isMan", "(I)Z"⟩, 45) := ⟨⟨by decide +kernel, by decide +kernel⟩, lw_m6 72 rfl, lw_m7 102 rfl, lw_m7 103 rfl⟩
set_option maxRecDepth 16384 in
theorem lw_p69 : lw_okq (⟨"RookHustingModel", "men", "()I"⟩, 45) := ⟨⟨by decide +kernel, by decide +kernel⟩, lw_m6 72 rfl, lw_m7 106 rfl, lw_m7 107 rfl⟩
set_option maxRecDepth 16384 in
theorem lw_p70 : lw_okq (⟨"RookHustingModel", "isVoter", "(I)Z"⟩, 45) := ⟨⟨by decide +kernel, by decide +kernel⟩, lw_m6 72 rfl, lw_m7 114 rfl, lw_m7 115 rfl⟩
set_option maxRecDepth 16384 in
theorem lw_p71 : lw_okq (⟨"RookHustingModel", "hatsOf", "(I)I"⟩, 45) := ⟨⟨by decide +kernel, by decide +kernel⟩, lw_m6 72 rfl, lw_m7 118 rfl, lw_m7 119 rfl⟩
set_option maxRecDepth 16384 in
theorem lw_p72 : lw_okq (⟨"RookHustingModel", "rowsAsTold", "()V"⟩, 45) := ⟨⟨by decide +kernel, by decide +kernel⟩, lw_m6 72 rfl, lw_m7 126 rfl, lw_m7 127 rfl⟩
set_option maxRecDepth 16384 in
theorem lw_p73 : lw_okq (⟨"RookHustingModel", "isSet", "(I)Z"⟩, 45) := ⟨⟨by decide +kernel, by decide +kernel⟩, lw_m6 72 rfl, lw_m7 134 rfl, lw_m7 135 rfl⟩
set_option maxRecDepth 16384 in
theorem lw_p74 : lw_okq (⟨"RookHustingModel", "isHundred", "()Z"⟩, 45) := ⟨⟨by decide +kernel, by decide +kernel⟩, lw_m6 72 rfl, lw_m7 138 rfl, lw_m7 139 rfl⟩
set_option maxRecDepth 16384 in
theorem lw_p75 : lw_okq (⟨"RookHustingModel", "allMen", "()I"⟩, 45) := ⟨⟨by decide +kernel, by decide +kernel⟩, lw_m6 72 rfl, lw_m7 142 rfl, lw_m7 143 rfl⟩
set_option maxRecDepth 16384 in
theorem lw_p76 : lw_okq (⟨"RookHustingModel", "votesOf", "(III)I"⟩, 45) := ⟨⟨by decide +kernel, by decide +kernel⟩, lw_m6 72 rfl, lw_m7 147 rfl, lw_m7 148 rfl⟩
set_option maxRecDepth 16384 in
theorem lw_p77 : lw_okq (⟨"RookHustingModel", "timesOf", "(IIII)I"⟩, 45) := ⟨⟨by decide +kernel, by decide +kernel⟩, lw_m6 72 rfl, lw_m7 151 rfl, lw_m7 152 rfl⟩
set_option maxRecDepth 16384 in
theorem lw_p78 : lw_okq (⟨"RookHustingModel", "electsOf", "(II)I"⟩, 45) := ⟨⟨by decide +kernel, by decide +kernel⟩, lw_m6 72 rfl, lw_m7 162 rfl, lw_m7 163 rfl⟩
set_option maxRecDepth 16384 in
theorem lw_p79 : lw_okq (⟨"RookHustingModel", "fewestOf", "(I)I"⟩, 45) := ⟨⟨by decide +kernel, by decide +kernel⟩, lw_m6 72 rfl, lw_m7 166 rfl, lw_m7 167 rfl⟩
def lw_privs_5 : List (MethodName × Nat) := [(⟨"RookHustingModel", "readHedge", "()V"⟩, 45), (⟨"RookHustingModel", "readVoter", "()V"⟩, 45), (⟨"RookHustingModel", "isField", "(J)Z"⟩, 45), (⟨"RookHustingModel", "fields", "()I"⟩, 45), (⟨"RookHustingModel", "isMan", "(I)Z"⟩, 45), (⟨"RookHustingModel", "men", "()I"⟩, 45), (⟨"RookHustingModel", "isVoter", "(I)Z"⟩, 45), (⟨"RookHustingModel", "hatsOf", "(I)I"⟩, 45), (⟨"RookHustingModel", "rowsAsTold", "()V"⟩, 45), (⟨"RookHustingModel", "isSet", "(I)Z"⟩, 45), (⟨"RookHustingModel", "isHundred", "()Z"⟩, 45), (⟨"RookHustingModel", "allMen", "()I"⟩, 45), (⟨"RookHustingModel", "votesOf", "(III)I"⟩, 45), (⟨"RookHustingModel", "timesOf", "(IIII)I"⟩, 45), (⟨"RookHustingModel", "electsOf", "(II)I"⟩, 45), (⟨"RookHustingModel", "fewestOf", "(I)I"⟩, 45)]
theorem lw_r5 : ∀ q ∈ lw_privs_5, lw_okq q := List.forall_mem_cons.mpr ⟨lw_p64, List.forall_mem_cons.mpr ⟨lw_p65, List.forall_mem_cons.mpr ⟨lw_p66, List.forall_mem_cons.mpr ⟨lw_p67, List.forall_mem_cons.mpr ⟨lw_p68, List.forall_mem_cons.mpr ⟨lw_p69, List.forall_mem_cons.mpr ⟨lw_p70, List.forall_mem_cons.mpr ⟨lw_p71, List.forall_mem_cons.mpr ⟨lw_p72, List.forall_mem_cons.mpr ⟨lw_p73, List.forall_mem_cons.mpr ⟨lw_p74, List.forall_mem_cons.mpr ⟨lw_p75, List.forall_mem_cons.mpr ⟨lw_p76, List.forall_mem_cons.mpr ⟨lw_p77, List.forall_mem_cons.mpr ⟨lw_p78, List.forall_mem_cons.mpr ⟨lw_p79, fun _ h => absurd h List.not_mem_nil⟩⟩⟩⟩⟩⟩⟩⟩⟩⟩⟩⟩⟩⟩⟩⟩
set_option maxRecDepth 16384 in
theorem lw_p80 : lw_okq (⟨"RookHustingModel", "mostOf", "(II)I"⟩, 45) := ⟨⟨by decide +kernel, by decide +kernel⟩, lw_m6 72 rfl, lw_m7 170 rfl, lw_m7 171 rfl⟩
set_option maxRecDepth 16384 in
theorem lw_p81 : lw_okq (⟨"RookHustingModel", "electAll", "(I)V"⟩, 45) := ⟨⟨by decide +kernel, by decide +kernel⟩, lw_m6 72 rfl, lw_m7 178 rfl, lw_m7 179 rfl⟩
set_option maxRecDepth 16384 in
theorem lw_p82 : lw_okq (⟨"RookHustingModel", "overOf", "(II)I"⟩, 45) := ⟨⟨by decide +kernel, by decide +kernel⟩, lw_m6 72 rfl, lw_m7 186 rfl, lw_m7 187 rfl⟩
set_option maxRecDepth 16384 in
theorem lw_p83 : lw_okq (⟨"RookHustingModel", "wantsMore", "(III)Z"⟩, 45) := ⟨⟨by decide +kernel, by decide +kernel⟩, lw_m6 72 rfl, lw_m7 190 rfl, lw_m7 191 rfl⟩
set_option maxRecDepth 16384 in
theorem lw_p84 : lw_okq (⟨"RookHustingModel", "isOver", "(II)Z"⟩, 45) := ⟨⟨by decide +kernel, by decide +kernel⟩, lw_m6 72 rfl, lw_m7 198 rfl, lw_m7 199 rfl⟩
set_option maxRecDepth 16384 in
theorem lw_p85 : lw_okq (⟨"RookHustingModel", "isRing", "(III)Z"⟩, 45) := ⟨⟨by decide +kernel, by decide +kernel⟩, lw_m6 72 rfl, lw_m7 206 rfl, lw_m7 207 rfl⟩
set_option maxRecDepth 16384 in
theorem lw_p86 : lw_okq (⟨"RookHustingModel", "hatsIn", "(I)I"⟩, 45) := ⟨⟨by decide +kernel, by decide +kernel⟩, lw_m6 72 rfl, lw_m7 215 rfl, lw_m7 216 rfl⟩
set_option maxRecDepth 16384 in
theorem lw_p87 : lw_okq (⟨"RookHustingModel", "gainsOf", "(I)Z"⟩, 45) := ⟨⟨by decide +kernel, by decide +kernel⟩, lw_m6 72 rfl, lw_m7 223 rfl, lw_m7 224 rfl⟩
set_option maxRecDepth 16384 in
theorem lw_p88 : lw_okq (⟨"RookHustingModel", "doesGain", "(IIII)Z"⟩, 45) := ⟨⟨by decide +kernel, by decide +kernel⟩, lw_m6 72 rfl, lw_m7 227 rfl, lw_m7 228 rfl⟩
set_option maxRecDepth 16384 in
theorem lw_p89 : lw_okq (⟨"RookHustingModel", "asItIs", "()V"⟩, 45) := ⟨⟨by decide +kernel, by decide +kernel⟩, lw_m6 72 rfl, lw_m8 31 rfl, lw_m8 32 rfl⟩
set_option maxRecDepth 16384 in
theorem lw_p90 : lw_okq (⟨"RookHustingModel", "asElected", "(I)V"⟩, 45) := ⟨⟨by decide +kernel, by decide +kernel⟩, lw_m6 72 rfl, lw_m8 35 rfl, lw_m8 36 rfl⟩
set_option maxRecDepth 16384 in
theorem lw_p91 : lw_okq (⟨"RookHustingModel", "speeches", "()V"⟩, 45) := ⟨⟨by decide +kernel, by decide +kernel⟩, lw_m6 72 rfl, lw_m8 39 rfl, lw_m8 40 rfl⟩
set_option maxRecDepth 16384 in
theorem lw_p92 : lw_okq (⟨"RookHustingModel", "putMan", "(II)V"⟩, 45) := ⟨⟨by decide +kernel, by decide +kernel⟩, lw_m6 72 rfl, lw_m8 43 rfl, lw_m8 44 rfl⟩
set_option maxRecDepth 16384 in
theorem lw_p93 : lw_okq (⟨"RookHustingModel", "hedgesOf", "(I)I"⟩, 45) := ⟨⟨by decide +kernel, by decide +kernel⟩, lw_m6 72 rfl, lw_m8 59 rfl, lw_m8 60 rfl⟩
set_option maxRecDepth 16384 in
theorem lw_p94 : lw_okq (⟨"RookHustingModel", "asksDay", "(I)Z"⟩, 45) := ⟨⟨by decide +kernel, by decide +kernel⟩, lw_m6 72 rfl, lw_m8 67 rfl, lw_m8 68 rfl⟩
set_option maxRecDepth 16384 in
theorem lw_p95 : lw_okq (⟨"RookHustingModel", "asksHundred", "()Z"⟩, 45) := ⟨⟨by decide +kernel, by decide +kernel⟩, lw_m6 72 rfl, lw_m8 71 rfl, lw_m8 72 rfl⟩
def lw_privs_6 : List (MethodName × Nat) := [(⟨"RookHustingModel", "mostOf", "(II)I"⟩, 45), (⟨"RookHustingModel", "electAll", "(I)V"⟩, 45), (⟨"RookHustingModel", "overOf", "(II)I"⟩, 45), (⟨"RookHustingModel", "wantsMore", "(III)Z"⟩, 45), (⟨"RookHustingModel", "isOver", "(II)Z"⟩, 45), (⟨"RookHustingModel", "isRing", "(III)Z"⟩, 45), (⟨"RookHustingModel", "hatsIn", "(I)I"⟩, 45), (⟨"RookHustingModel", "gainsOf", "(I)Z"⟩, 45), (⟨"RookHustingModel", "doesGain", "(IIII)Z"⟩, 45), (⟨"RookHustingModel", "asItIs", "()V"⟩, 45), (⟨"RookHustingModel", "asElected", "(I)V"⟩, 45), (⟨"RookHustingModel", "speeches", "()V"⟩, 45), (⟨"RookHustingModel", "putMan", "(II)V"⟩, 45), (⟨"RookHustingModel", "hedgesOf", "(I)I"⟩, 45), (⟨"RookHustingModel", "asksDay", "(I)Z"⟩, 45), (⟨"RookHustingModel", "asksHundred", "()Z"⟩, 45)]
theorem lw_r6 : ∀ q ∈ lw_privs_6, lw_okq q := List.forall_mem_cons.mpr ⟨lw_p80, List.forall_mem_cons.mpr ⟨lw_p81, List.forall_mem_cons.mpr ⟨lw_p82, List.forall_mem_cons.mpr ⟨lw_p83, List.forall_mem_cons.mpr ⟨lw_p84, List.forall_mem_cons.mpr ⟨lw_p85, List.forall_mem_cons.mpr ⟨lw_p86, List.forall_mem_cons.mpr ⟨lw_p87, List.forall_mem_cons.mpr ⟨lw_p88, List.forall_mem_cons.mpr ⟨lw_p89, List.forall_mem_cons.mpr ⟨lw_p90, List.forall_mem_cons.mpr ⟨lw_p91, List.forall_mem_cons.mpr ⟨lw_p92, List.forall_mem_cons.mpr ⟨lw_p93, List.forall_mem_cons.mpr ⟨lw_p94, List.forall_mem_cons.mpr ⟨lw_p95, fun _ h => absurd h List.not_mem_nil⟩⟩⟩⟩⟩⟩⟩⟩⟩⟩⟩⟩⟩⟩⟩⟩
set_option maxRecDepth 16384 in
theorem lw_p96 : lw_okq (⟨"RookHustingModel", "goAll", "()V"⟩, 45) := ⟨⟨by decide +kernel, by decide +kernel⟩, lw_m6 72 rfl, lw_m8 75 rfl, lw_m8 76 rfl⟩
set_option maxRecDepth 16384 in
theorem lw_p97 : lw_okq (⟨"RookHustingModel", "days", "()I"⟩, 45) := ⟨⟨by decide +kernel, by decide +kernel⟩, lw_m6 72 rfl, lw_m8 79 rfl, lw_m8 80 rfl⟩
set_option maxRecDepth 16384 in
theorem lw_p98 : lw_okq (⟨"RookHustingModel", "fearOf", "(II)I"⟩, 45) := ⟨⟨by decide +kernel, by decide +kernel⟩, lw_m6 72 rfl, lw_m8 83 rfl, lw_m8 84 rfl⟩
set_option maxRecDepth 16384 in
theorem lw_p99 : lw_okq (⟨"RookHustingModel", "goDay", "(I)V"⟩, 45) := ⟨⟨by decide +kernel, by decide +kernel⟩, lw_m6 72 rfl, lw_m8 88 rfl, lw_m8 89 rfl⟩
set_option maxRecDepth 16384 in
theorem lw_p100 : lw_okq (⟨"RookHustingModel", "flyTo", "(II)I"⟩, 45) := ⟨⟨by decide +kernel, by decide +kernel⟩, lw_m6 72 rfl, lw_m8 92 rfl, lw_m8 93 rfl⟩
set_option maxRecDepth 16384 in
theorem lw_p101 : lw_okq (⟨"RookHustingModel", "isDay", "(J)Z"⟩, 45) := ⟨⟨by decide +kernel, by decide +kernel⟩, lw_m6 72 rfl, lw_m8 96 rfl, lw_m8 97 rfl⟩
set_option maxRecDepth 16384 in
theorem lw_p102 : lw_okq (⟨"RookHustingModel", "asksAhead", "(I)Z"⟩, 45) := ⟨⟨by decide +kernel, by decide +kernel⟩, lw_m6 72 rfl, lw_m8 112 rfl, lw_m8 113 rfl⟩
set_option maxRecDepth 16384 in
theorem lw_p103 : lw_okq (⟨"RookHustingModel", "isAhead", "(J)Z"⟩, 45) := ⟨⟨by decide +kernel, by decide +kernel⟩, lw_m6 72 rfl, lw_m8 116 rfl, lw_m8 117 rfl⟩
set_option maxRecDepth 16384 in
theorem lw_p104 : lw_okq (⟨"RookHustingModel", "allCorn", "(I)I"⟩, 45) := ⟨⟨by decide +kernel, by decide +kernel⟩, lw_m6 72 rfl, lw_m8 128 rfl, lw_m8 129 rfl⟩
set_option maxRecDepth 16384 in
theorem lw_p105 : lw_okq (⟨"RookHustingModel", "asksField", "(I)Z"⟩, 45) := ⟨⟨by decide +kernel, by decide +kernel⟩, lw_m6 72 rfl, lw_m8 140 rfl, lw_m8 141 rfl⟩
set_option maxRecDepth 16384 in
theorem lw_p106 : lw_okq (⟨"RookHustingModel", "asksRows", "()Z"⟩, 45) := ⟨⟨by decide +kernel, by decide +kernel⟩, lw_m6 72 rfl, lw_m8 188 rfl, lw_m8 189 rfl⟩
set_option maxRecDepth 16384 in
theorem lw_p107 : lw_okq (⟨"RookHustingModel", "tryRow", "()V"⟩, 45) := ⟨⟨by decide +kernel, by decide +kernel⟩, lw_m6 72 rfl, lw_m8 192 rfl, lw_m8 193 rfl⟩
set_option maxRecDepth 16384 in
theorem lw_p108 : lw_okq (⟨"RookHustingModel", "menIn", "()I"⟩, 45) := ⟨⟨by decide +kernel, by decide +kernel⟩, lw_m6 72 rfl, lw_m8 196 rfl, lw_m8 197 rfl⟩
set_option maxRecDepth 16384 in
theorem lw_p109 : lw_okq (⟨"RookHustingModel", "allLast", "()I"⟩, 45) := ⟨⟨by decide +kernel, by decide +kernel⟩, lw_m6 72 rfl, lw_m8 200 rfl, lw_m8 201 rfl⟩
set_option maxRecDepth 16384 in
theorem lw_p110 : lw_okq (⟨"RookHustingModel", "nextRow", "()Z"⟩, 45) := ⟨⟨by decide +kernel, by decide +kernel⟩, lw_m6 72 rfl, lw_m8 204 rfl, lw_m8 205 rfl⟩
set_option maxRecDepth 16384 in
theorem lw_p111 : lw_okq (⟨"RookHustingModel", "leftBy", "(I)I"⟩, 45) := ⟨⟨by decide +kernel, by decide +kernel⟩, lw_m6 72 rfl, lw_m8 224 rfl, lw_m8 225 rfl⟩
def lw_privs_7 : List (MethodName × Nat) := [(⟨"RookHustingModel", "goAll", "()V"⟩, 45), (⟨"RookHustingModel", "days", "()I"⟩, 45), (⟨"RookHustingModel", "fearOf", "(II)I"⟩, 45), (⟨"RookHustingModel", "goDay", "(I)V"⟩, 45), (⟨"RookHustingModel", "flyTo", "(II)I"⟩, 45), (⟨"RookHustingModel", "isDay", "(J)Z"⟩, 45), (⟨"RookHustingModel", "asksAhead", "(I)Z"⟩, 45), (⟨"RookHustingModel", "isAhead", "(J)Z"⟩, 45), (⟨"RookHustingModel", "allCorn", "(I)I"⟩, 45), (⟨"RookHustingModel", "asksField", "(I)Z"⟩, 45), (⟨"RookHustingModel", "asksRows", "()Z"⟩, 45), (⟨"RookHustingModel", "tryRow", "()V"⟩, 45), (⟨"RookHustingModel", "menIn", "()I"⟩, 45), (⟨"RookHustingModel", "allLast", "()I"⟩, 45), (⟨"RookHustingModel", "nextRow", "()Z"⟩, 45), (⟨"RookHustingModel", "leftBy", "(I)I"⟩, 45)]
theorem lw_r7 : ∀ q ∈ lw_privs_7, lw_okq q := List.forall_mem_cons.mpr ⟨lw_p96, List.forall_mem_cons.mpr ⟨lw_p97, List.forall_mem_cons.mpr ⟨lw_p98, List.forall_mem_cons.mpr ⟨lw_p99, List.forall_mem_cons.mpr ⟨lw_p100, List.forall_mem_cons.mpr ⟨lw_p101, List.forall_mem_cons.mpr ⟨lw_p102, List.forall_mem_cons.mpr ⟨lw_p103, List.forall_mem_cons.mpr ⟨lw_p104, List.forall_mem_cons.mpr ⟨lw_p105, List.forall_mem_cons.mpr ⟨lw_p106, List.forall_mem_cons.mpr ⟨lw_p107, List.forall_mem_cons.mpr ⟨lw_p108, List.forall_mem_cons.mpr ⟨lw_p109, List.forall_mem_cons.mpr ⟨lw_p110, List.forall_mem_cons.mpr ⟨lw_p111, fun _ h => absurd h List.not_mem_nil⟩⟩⟩⟩⟩⟩⟩⟩⟩⟩⟩⟩⟩⟩⟩⟩
set_option maxRecDepth 16384 in
theorem lw_p112 : lw_okq (⟨"RookHustingModel", "layMay", "(II)I"⟩, 45) := ⟨⟨by decide +kernel, by decide +kernel⟩, lw_m6 72 rfl, lw_m9 4 rfl, lw_m9 5 rfl⟩
set_option maxRecDepth 16384 in
theorem lw_p113 : lw_okq (⟨"RookHustingModel", "askSeen", "(II)I"⟩, 45) := ⟨⟨by decide +kernel, by decide +kernel⟩, lw_m6 72 rfl, lw_m9 8 rfl, lw_m9 9 rfl⟩
set_option maxRecDepth 16384 in
theorem lw_p114 : lw_okq (⟨"RookHustingModel", "numberAt", "(II)J"⟩, 45) := ⟨⟨by decide +kernel, by decide +kernel⟩, lw_m6 72 rfl, lw_m9 15 rfl, lw_m9 16 rfl⟩
set_option maxRecDepth 16384 in
theorem lw_p115 : lw_okq (⟨"RookHustingModel", "isSeen", "(I)Z"⟩, 45) := ⟨⟨by decide +kernel, by decide +kernel⟩, lw_m6 72 rfl, lw_m9 20 rfl, lw_m9 21 rfl⟩
set_option maxRecDepth 16384 in
theorem lw_p116 : lw_okq (⟨"RookHustingModel", "askOf", "()I"⟩, 45) := ⟨⟨by decide +kernel, by decide +kernel⟩, lw_m6 72 rfl, lw_m9 28 rfl, lw_m9 29 rfl⟩
set_option maxRecDepth 16384 in
theorem lw_p117 : lw_okq (⟨"RookHustingModel", "sameBy", "(II)I"⟩, 45) := ⟨⟨by decide +kernel, by decide +kernel⟩, lw_m6 72 rfl, lw_m9 32 rfl, lw_m9 33 rfl⟩
set_option maxRecDepth 16384 in
theorem lw_p118 : lw_okq (⟨"RookHustingModel", "areFields", "(II)Z"⟩, 45) := ⟨⟨by decide +kernel, by decide +kernel⟩, lw_m6 72 rfl, lw_m9 44 rfl, lw_m9 45 rfl⟩
set_option maxRecDepth 16384 in
theorem lw_p119 : lw_okq (⟨"RookHustingModel", "getsBy", "(IIIII)I"⟩, 45) := ⟨⟨by decide +kernel, by decide +kernel⟩, lw_m6 72 rfl, lw_m9 48 rfl, lw_m9 49 rfl⟩
set_option maxRecDepth 16384 in
theorem lw_p120 : lw_okq (⟨"RookHustingModel", "isWinds", "(II)Z"⟩, 45) := ⟨⟨by decide +kernel, by decide +kernel⟩, lw_m6 72 rfl, lw_m9 61 rfl, lw_m9 62 rfl⟩
set_option maxRecDepth 16384 in
theorem lw_p121 : lw_okq (⟨"RookHustingModel", "layWinds", "(III)V"⟩, 45) := ⟨⟨by decide +kernel, by decide +kernel⟩, lw_m6 72 rfl, lw_m9 67 rfl, lw_m9 68 rfl⟩
set_option maxRecDepth 16384 in
theorem lw_p122 : lw_okq (⟨"RookHustingModel", "keepAct", "(I)Z"⟩, 45) := ⟨⟨by decide +kernel, by decide +kernel⟩, lw_m6 72 rfl, lw_m9 79 rfl, lw_m9 80 rfl⟩
set_option maxRecDepth 16384 in
theorem lw_p123 : lw_okq (⟨"RookHustingModel", "goDrawn", "(J)V"⟩, 45) := ⟨⟨by decide +kernel, by decide +kernel⟩, lw_m6 72 rfl, lw_m9 103 rfl, lw_m9 104 rfl⟩
def lw_privs_8 : List (MethodName × Nat) := [(⟨"RookHustingModel", "layMay", "(II)I"⟩, 45), (⟨"RookHustingModel", "askSeen", "(II)I"⟩, 45), (⟨"RookHustingModel", "numberAt", "(II)J"⟩, 45), (⟨"RookHustingModel", "isSeen", "(I)Z"⟩, 45), (⟨"RookHustingModel", "askOf", "()I"⟩, 45), (⟨"RookHustingModel", "sameBy", "(II)I"⟩, 45), (⟨"RookHustingModel", "areFields", "(II)Z"⟩, 45), (⟨"RookHustingModel", "getsBy", "(IIIII)I"⟩, 45), (⟨"RookHustingModel", "isWinds", "(II)Z"⟩, 45), (⟨"RookHustingModel", "layWinds", "(III)V"⟩, 45), (⟨"RookHustingModel", "keepAct", "(I)Z"⟩, 45), (⟨"RookHustingModel", "goDrawn", "(J)V"⟩, 45)]
theorem lw_r8 : ∀ q ∈ lw_privs_8, lw_okq q := List.forall_mem_cons.mpr ⟨lw_p112, List.forall_mem_cons.mpr ⟨lw_p113, List.forall_mem_cons.mpr ⟨lw_p114, List.forall_mem_cons.mpr ⟨lw_p115, List.forall_mem_cons.mpr ⟨lw_p116, List.forall_mem_cons.mpr ⟨lw_p117, List.forall_mem_cons.mpr ⟨lw_p118, List.forall_mem_cons.mpr ⟨lw_p119, List.forall_mem_cons.mpr ⟨lw_p120, List.forall_mem_cons.mpr ⟨lw_p121, List.forall_mem_cons.mpr ⟨lw_p122, List.forall_mem_cons.mpr ⟨lw_p123, fun _ h => absurd h List.not_mem_nil⟩⟩⟩⟩⟩⟩⟩⟩⟩⟩⟩⟩
def lw_privs : List (MethodName × Nat) := lw_privs_1 ++ (lw_privs_2 ++ (lw_privs_3 ++ (lw_privs_4 ++ (lw_privs_5 ++ (lw_privs_6 ++ (lw_privs_7 ++ (lw_privs_8)))))))
def lw_tbl : List Cond := k2_sels lw_privs ++ tables_1
theorem lw_privs_ok : ∀ q ∈ lw_privs, lw_okq q := by
  show ∀ q ∈ lw_privs_1 ++ (lw_privs_2 ++ (lw_privs_3 ++ (lw_privs_4 ++ (lw_privs_5 ++ (lw_privs_6 ++ (lw_privs_7 ++ (lw_privs_8))))))), lw_okq q
  exact List.forall_mem_append.mpr ⟨lw_r1, List.forall_mem_append.mpr ⟨lw_r2, List.forall_mem_append.mpr ⟨lw_r3, List.forall_mem_append.mpr ⟨lw_r4, List.forall_mem_append.mpr ⟨lw_r5, List.forall_mem_append.mpr ⟨lw_r6, List.forall_mem_append.mpr ⟨lw_r7, lw_r8⟩⟩⟩⟩⟩⟩⟩
/-- the words that every method may lean on: those of the tables that travel -/
def gTbl : List Cond := lw_tbl.filter goodWord
theorem gT_of {w : Cond} {i : Nat} (h : lw_tbl[i]? = some w) (hg : goodWord w = true) : w ∈ gTbl := List.mem_filter.mpr ⟨List.mem_of_getElem? h, hg⟩
theorem gT_good {c : Cond} (hc : c ∈ gTbl) : GoodIn gTbl (c :: gTbl) := fun w hw => by
  rcases List.mem_cons.mp hw with rfl | hw
  · exact ⟨hc, good_of_word (List.mem_filter.mp hc).2⟩
  · exact ⟨hw, good_of_word (List.mem_filter.mp hw).2⟩
